set_option maxHeartbeats 4000000 in
theorem s_X3_chooseForPairs_4_L4 (N : Nat) (hN : 1000 ≤ N) : ∀ (n : Nat) (y1 : Int32) (y2 : Int32) (σ : fd_St), fd_InvC σ → (0 ≤ y2.toInt) → (y2.toInt ≤ 480) → (0 ≤ y1.toInt) → (y1.toInt ≤ 12) → 480 - y2.toInt < (n : Int) → fd_ok (f_X3_chooseForPairs_4_L4 N n y1 y2 σ) (fun v s => fd_InvC s ∧ fd_fr [122] σ s ∧ (0 ≤ v.toInt ∧ v.toInt ≤ 12)) := by
  have lit0 : (0 : Int32).toInt = 0 := by decide
  have lit1 : (1 : Int32).toInt = 1 := by decide
  have lit12 : (12 : Int32).toInt = 12 := by decide
  intro n
  induction n with
  | zero =>
    intro y1 y2 σ i0 h0 h1 h2 h3 hm
    omega
  | succ n ih =>
    intro y1 y2 σ i0 h0 h1 h2 h3 hm
    have f0 : fd_fr [122] σ σ := fd_fr_rf
    unfold f_X3_chooseForPairs_4_L4
    refine fd_ok_bd ?_
    try unfold f_X8_size_5
    refine fd_ok_pb ?_
    have r_1 : (0 : Int) ≤ (σ.1 6).toInt ∧ (σ.1 6).toInt ≤ 480 := i0.1 6
    refine fd_ok_ite (fun c_2 => ?_) (fun c_2 => ?_)
    ·
      have d_3 := Int32.le_iff_toInt_le.mp c_2
      have x_4 : 0 ≤ y1.toInt ∧ y1.toInt ≤ 12 := by omega
      exact fd_ok_some ⟨i0, f0, x_4⟩
    ·
      have d_5 := Int32.lt_iff_toInt_lt.mp (Int32.not_le.mp c_2)
      refine fd_ok_ite (fun c_6 => ?_) (fun c_6 => ?_)
      ·
        have d_7 := Int32.le_iff_toInt_le.mp c_6
        have x_8 : 0 ≤ y1.toInt ∧ y1.toInt ≤ 12 := by omega
        exact fd_ok_some ⟨i0, f0, x_8⟩
      ·
        have d_9 := Int32.lt_iff_toInt_lt.mp (Int32.not_le.mp c_6)
        refine fd_ok_bd ?_
        try unfold f_X8_isStuck_5
        refine fd_ok_bd ?_
        try unfold f_X8_kind_5
        refine fd_ok_gd (vp_in_iff.mpr ⟨by omega, by omega⟩) ?_
        have r_10 : (0 : Int) ≤ (σ.2.1 28 y2.toNatClampNeg).toInt ∧ (σ.2.1 28 y2.toNatClampNeg).toInt ≤ 479 := i0.2.1 28 _
        refine fd_ok_gd (vp_in_iff.mpr ⟨by omega, by omega⟩) ?_
        refine fd_ok_pb ?_
        have r_11 : (0 : Int) ≤ (σ.2.1 23 (σ.2.1 28 y2.toNatClampNeg).toNatClampNeg).toInt ∧ (σ.2.1 23 (σ.2.1 28 y2.toNatClampNeg).toNatClampNeg).toInt ≤ 3 := i0.2.1 23 _
        have r_12 := i0.2.2 (σ.2.1 28 y2.toNatClampNeg).toNatClampNeg
        refine fd_ok_ite (fun c_13 => ?_) (fun c_13 => ?_)
        ·
          have d_14 := Int32.lt_iff_toInt_lt.mp c_13
          refine fd_ok_pb ?_
          refine fd_ok_itp (by decide) ?_
          try unfold f_X3_chooseForPairs_4_J42
          refine fd_ok_lt (fun x14_15 ex14_15 => ?_)
          have t_16 := fd_la ex14_15 (by omega) (by omega)
          refine fd_ok_mono (ih _ _ _ i0 (by omega) (by omega) (by omega) (by omega) (by omega)) ?_
          rintro v s ⟨hi, hf, hx⟩
          have xx : 0 ≤ v.toInt ∧ v.toInt ≤ 12 := by omega
          exact ⟨hi, fd_fr_tr f0 hf, xx⟩
        ·
          have d_17 := Int32.le_iff_toInt_le.mp (Int32.not_lt.mp c_13)
          refine fd_ok_pb ?_
          refine fd_ok_itn (by decide) ?_
          refine fd_ok_gd (vp_in_iff.mpr ⟨by omega, by omega⟩) ?_
          refine fd_ok_lt (fun σ16_18 eσ16_18 => ?_)
          have i_19 : fd_InvC σ16_18 := fd_inv_sA eσ16_18 i0 (by decide) (by decide) ⟨(by omega : (0 : Int) ≤ y2.toInt), (by omega : y2.toInt ≤ 479)⟩
          have f_20 : fd_fr [122] σ σ16_18 := fd_fr_tr f0 (fd_fr_sA eσ16_18 (by decide))
          have t_21 : (σ16_18.1 6).toInt = (σ.1 6).toInt := by subst eσ16_18; rfl
          refine fd_ok_lt (fun x17_22 ex17_22 => ?_)
          have t_23 := fd_la ex17_22 (by omega) (by omega)
          try unfold f_X3_chooseForPairs_4_J42
          refine fd_ok_lt (fun x14_24 ex14_24 => ?_)
          have t_25 := fd_la ex14_24 (by omega) (by omega)
          refine fd_ok_mono (ih _ _ _ i_19 (by omega) (by omega) (by omega) (by omega) (by omega)) ?_
          rintro v s ⟨hi, hf, hx⟩
          have xx : 0 ≤ v.toInt ∧ v.toInt ≤ 12 := by omega
          exact ⟨hi, fd_fr_tr f_20 hf, xx⟩
set_option maxHeartbeats 4000000 in
theorem s_X3_offerPair_4 (N : Nat) (hN : 1000 ≤ N) (p1 : Int32) (p2 : Int32) (σ : fd_St) (i0 : fd_InvC σ) (h0 : 0 ≤ p1.toInt) (h1 : p1.toInt ≤ 479) (h2 : 0 ≤ p2.toInt) (h3 : p2.toInt ≤ 479) : fd_ok (f_X3_offerPair_4 N p1 p2 σ) (fun v s => fd_InvC s ∧ fd_fr [7, 8, 9, 10, 11, 12, 13, 14, 216] σ s ∧ (True)) := by
  have litm1 : (-1 : Int32).toInt = -1 := by decide
  have lit0 : (0 : Int32).toInt = 0 := by decide
  have lit1 : (1 : Int32).toInt = 1 := by decide
  have lit2 : (2 : Int32).toInt = 2 := by decide
  have f0 : fd_fr [7, 8, 9, 10, 11, 12, 13, 14, 216] σ σ := fd_fr_rf
  unfold f_X3_offerPair_4
  refine fd_ok_bd ?_
  try unfold f_X8_number_5
  refine fd_ok_gd (vp_in_iff.mpr ⟨by omega, by omega⟩) ?_
  have r_1 : (0 : Int) ≤ (σ.2.1 28 p1.toNatClampNeg).toInt ∧ (σ.2.1 28 p1.toNatClampNeg).toInt ≤ 479 := i0.2.1 28 _
  refine fd_ok_gd (vp_in_iff.mpr ⟨by omega, by omega⟩) ?_
  refine fd_ok_pb ?_
  refine fd_ok_bd ?_
  try unfold f_X8_number_5
  refine fd_ok_gd (vp_in_iff.mpr ⟨by omega, by omega⟩) ?_
  have r_2 : (0 : Int) ≤ (σ.2.1 28 p2.toNatClampNeg).toInt ∧ (σ.2.1 28 p2.toNatClampNeg).toInt ≤ 479 := i0.2.1 28 _
  refine fd_ok_gd (vp_in_iff.mpr ⟨by omega, by omega⟩) ?_
  refine fd_ok_pb ?_
  have r_3 : (0 : Int) ≤ (σ.2.1 24 (σ.2.1 28 p1.toNatClampNeg).toNatClampNeg).toInt ∧ (σ.2.1 24 (σ.2.1 28 p1.toNatClampNeg).toNatClampNeg).toInt ≤ 199 := i0.2.1 24 _
  have r_4 := i0.2.2 (σ.2.1 28 p1.toNatClampNeg).toNatClampNeg
  have r_5 : (0 : Int) ≤ (σ.2.1 24 (σ.2.1 28 p2.toNatClampNeg).toNatClampNeg).toInt ∧ (σ.2.1 24 (σ.2.1 28 p2.toNatClampNeg).toNatClampNeg).toInt ≤ 199 := i0.2.1 24 _
  have r_6 := i0.2.2 (σ.2.1 28 p2.toNatClampNeg).toNatClampNeg
  refine fd_ok_ite (fun c_7 => ?_) (fun c_7 => ?_)
  ·
    have d_8 := congrArg Int32.toInt c_7
    exact fd_ok_some ⟨i0, f0, trivial⟩
  ·
    refine fd_ok_bd ?_
    try unfold f_X8_kind_5
    refine fd_ok_gd (vp_in_iff.mpr ⟨by omega, by omega⟩) ?_
    refine fd_ok_gd (vp_in_iff.mpr ⟨by omega, by omega⟩) ?_
    refine fd_ok_pb ?_
    refine fd_ok_bd ?_
    try unfold f_X8_kind_5
    refine fd_ok_gd (vp_in_iff.mpr ⟨by omega, by omega⟩) ?_
    refine fd_ok_gd (vp_in_iff.mpr ⟨by omega, by omega⟩) ?_
    refine fd_ok_pb ?_
    refine fd_ok_bd ?_
    try unfold f_X2_holdStuck_1
    refine fd_ok_bd ?_
    try unfold f_X2_stuckRow
    have r_10 : (0 : Int) ≤ (σ.2.1 23 (σ.2.1 28 p1.toNatClampNeg).toNatClampNeg).toInt ∧ (σ.2.1 23 (σ.2.1 28 p1.toNatClampNeg).toNatClampNeg).toInt ≤ 3 := i0.2.1 23 _
    have r_11 := i0.2.2 (σ.2.1 28 p1.toNatClampNeg).toNatClampNeg
    refine fd_ok_ite (fun c_12 => ?_) (fun c_12 => ?_)
    ·
      have d_13 := congrArg Int32.toInt c_12
      refine fd_ok_pb ?_
      refine fd_ok_bd ?_
      try unfold f_X2_stuckRow
      have r_14 : (0 : Int) ≤ (σ.2.1 23 (σ.2.1 28 p2.toNatClampNeg).toNatClampNeg).toInt ∧ (σ.2.1 23 (σ.2.1 28 p2.toNatClampNeg).toNatClampNeg).toInt ≤ 3 := i0.2.1 23 _
      have r_15 := i0.2.2 (σ.2.1 28 p2.toNatClampNeg).toNatClampNeg
      refine fd_ok_ite (fun c_16 => ?_) (fun c_16 => ?_)
      ·
        have d_17 := congrArg Int32.toInt c_16
        refine fd_ok_pb ?_
        refine fd_ok_bd ?_
        refine fd_ok_cl (s_X2_hold_1 N hN _ _ _ _ _ i0 (by omega) (by omega) (by omega) (by omega)) ?_
        rintro v_18 σ_19 ⟨i_20, g_21, x_22⟩
        have f_23 : fd_fr [7, 8, 9, 10, 11, 12, 13, 14, 216] σ σ_19 := fd_fr_tr f0 (fd_fr_mono g_21 (by decide))
        have t_24 : (σ_19.1 7).toInt = (σ.1 7).toInt := congrArg Int32.toInt (g_21.1 7 (by decide))
        refine fd_ok_pb ?_
        refine fd_ok_bd ?_
        refine fd_ok_cl (s_X3_compareWithFails_4 N hN _ i_20) ?_
        rintro v_25 σ_26 ⟨i_27, g_28, x_29⟩
        have f_30 : fd_fr [7, 8, 9, 10, 11, 12, 13, 14, 216] σ σ_26 := fd_fr_tr f_23 (fd_fr_mono g_28 (by decide))
        have t_31 : (σ_26.1 7).toInt = (σ_19.1 7).toInt := congrArg Int32.toInt (g_28.1 7 (by decide))
        refine fd_ok_bd ?_
        try unfold f_X9_explained_8
        refine fd_ok_pb ?_
        refine fd_ok_ite (fun c_32 => ?_) (fun c_32 => ?_)
        ·
          have d_33 := Int32.le_iff_toInt_le.mp c_32
          exact fd_ok_some ⟨i_27, f_30, trivial⟩
        ·
          have d_34 := Int32.lt_iff_toInt_lt.mp (Int32.not_le.mp c_32)
          refine fd_ok_bd ?_
          try unfold f_X0_offer_6_8
          have r_35 : (-1 : Int) ≤ (σ_26.1 7).toInt ∧ (σ_26.1 7).toInt ≤ 479 := i_27.1 7
          refine fd_ok_ite (fun c_36 => ?_) (fun c_36 => ?_)
          ·
            have d_37 := congrArg Int32.toInt c_36
            try unfold f_X0_offer_6_8_J22
            refine fd_ok_lt (fun σ2_38 eσ2_38 => ?_)
            have i_39 : fd_InvC σ2_38 := fd_inv_sI eσ2_38 i_27 ⟨(by omega : (-1 : Int) ≤ p1.toInt), (by omega : p1.toInt ≤ 479)⟩
            have f_40 : fd_fr [7, 8, 9, 10, 11, 12, 13, 14, 216] σ σ2_38 := fd_fr_tr f_30 (fd_fr_sI eσ2_38 (by decide))
            have t_41 : (σ2_38.1 7).toInt = p1.toInt := congrArg Int32.toInt (fd_tI eσ2_38)
            refine fd_ok_lt (fun σ3_42 eσ3_42 => ?_)
            have i_43 : fd_InvC σ3_42 := fd_inv_sI eσ3_42 i_39 ⟨(by omega : (-1 : Int) ≤ p2.toInt), (by omega : p2.toInt ≤ 479)⟩
            have f_44 : fd_fr [7, 8, 9, 10, 11, 12, 13, 14, 216] σ σ3_42 := fd_fr_tr f_40 (fd_fr_sI eσ3_42 (by decide))
            have t_45 : (σ3_42.1 7).toInt = (σ2_38.1 7).toInt := congrArg Int32.toInt (fd_tN eσ3_42 (by decide))
            refine fd_ok_bd ?_
            try unfold f_X9_copy_7_8
            refine fd_ok_lt (fun σ1_46 eσ1_46 => ?_)
            have i_47 : fd_InvC σ1_46 := fd_inv_sI eσ1_46 i_43 (fd_rng _)
            have f_48 : fd_fr [7, 8, 9, 10, 11, 12, 13, 14, 216] σ σ1_46 := fd_fr_tr f_44 (fd_fr_sI eσ1_46 (by decide))
            have t_49 : (σ1_46.1 7).toInt = (σ3_42.1 7).toInt := congrArg Int32.toInt (fd_tN eσ1_46 (by decide))
            refine fd_ok_lt (fun σ2_50 eσ2_50 => ?_)
            have i_51 : fd_InvC σ2_50 := fd_inv_sI eσ2_50 i_47 (fd_rng _)
            have f_52 : fd_fr [7, 8, 9, 10, 11, 12, 13, 14, 216] σ σ2_50 := fd_fr_tr f_48 (fd_fr_sI eσ2_50 (by decide))
            have t_53 : (σ2_50.1 7).toInt = (σ1_46.1 7).toInt := congrArg Int32.toInt (fd_tN eσ2_50 (by decide))
            refine fd_ok_lt (fun σ3_54 eσ3_54 => ?_)
            have i_55 : fd_InvC σ3_54 := fd_inv_sI eσ3_54 i_51 (fd_rng _)
            have f_56 : fd_fr [7, 8, 9, 10, 11, 12, 13, 14, 216] σ σ3_54 := fd_fr_tr f_52 (fd_fr_sI eσ3_54 (by decide))
            have t_57 : (σ3_54.1 7).toInt = (σ2_50.1 7).toInt := congrArg Int32.toInt (fd_tN eσ3_54 (by decide))
            refine fd_ok_pb ?_
            refine fd_ok_pb ?_
            exact fd_ok_some ⟨i_55, f_56, trivial⟩
          ·
            have d_58 : ¬ (σ_26.1 7).toInt = (-1 : Int32).toInt := fun q => c_36 (Int32.toInt_inj.mp q)
            refine fd_ok_bd ?_
            try unfold f_X9_sum_8
            refine fd_ok_pb ?_
            refine fd_ok_bd ?_
            try unfold f_X9_sum_7
            refine fd_ok_pb ?_
            refine fd_ok_ite (fun c_59 => ?_) (fun c_59 => ?_)
            ·
              refine fd_ok_pb ?_
              exact fd_ok_some ⟨i_27, f_30, trivial⟩
            ·
              try unfold f_X0_offer_6_8_J22
              refine fd_ok_lt (fun σ2_62 eσ2_62 => ?_)
              have i_63 : fd_InvC σ2_62 := fd_inv_sI eσ2_62 i_27 ⟨(by omega : (-1 : Int) ≤ p1.toInt), (by omega : p1.toInt ≤ 479)⟩
              have f_64 : fd_fr [7, 8, 9, 10, 11, 12, 13, 14, 216] σ σ2_62 := fd_fr_tr f_30 (fd_fr_sI eσ2_62 (by decide))
              have t_65 : (σ2_62.1 7).toInt = p1.toInt := congrArg Int32.toInt (fd_tI eσ2_62)
              refine fd_ok_lt (fun σ3_66 eσ3_66 => ?_)
              have i_67 : fd_InvC σ3_66 := fd_inv_sI eσ3_66 i_63 ⟨(by omega : (-1 : Int) ≤ p2.toInt), (by omega : p2.toInt ≤ 479)⟩
              have f_68 : fd_fr [7, 8, 9, 10, 11, 12, 13, 14, 216] σ σ3_66 := fd_fr_tr f_64 (fd_fr_sI eσ3_66 (by decide))
              have t_69 : (σ3_66.1 7).toInt = (σ2_62.1 7).toInt := congrArg Int32.toInt (fd_tN eσ3_66 (by decide))
              refine fd_ok_bd ?_
              try unfold f_X9_copy_7_8
              refine fd_ok_lt (fun σ1_70 eσ1_70 => ?_)
              have i_71 : fd_InvC σ1_70 := fd_inv_sI eσ1_70 i_67 (fd_rng _)
              have f_72 : fd_fr [7, 8, 9, 10, 11, 12, 13, 14, 216] σ σ1_70 := fd_fr_tr f_68 (fd_fr_sI eσ1_70 (by decide))
              have t_73 : (σ1_70.1 7).toInt = (σ3_66.1 7).toInt := congrArg Int32.toInt (fd_tN eσ1_70 (by decide))
              refine fd_ok_lt (fun σ2_74 eσ2_74 => ?_)
              have i_75 : fd_InvC σ2_74 := fd_inv_sI eσ2_74 i_71 (fd_rng _)
              have f_76 : fd_fr [7, 8, 9, 10, 11, 12, 13, 14, 216] σ σ2_74 := fd_fr_tr f_72 (fd_fr_sI eσ2_74 (by decide))
              have t_77 : (σ2_74.1 7).toInt = (σ1_70.1 7).toInt := congrArg Int32.toInt (fd_tN eσ2_74 (by decide))
              refine fd_ok_lt (fun σ3_78 eσ3_78 => ?_)
              have i_79 : fd_InvC σ3_78 := fd_inv_sI eσ3_78 i_75 (fd_rng _)
              have f_80 : fd_fr [7, 8, 9, 10, 11, 12, 13, 14, 216] σ σ3_78 := fd_fr_tr f_76 (fd_fr_sI eσ3_78 (by decide))
              have t_81 : (σ3_78.1 7).toInt = (σ2_74.1 7).toInt := congrArg Int32.toInt (fd_tN eσ3_78 (by decide))
              refine fd_ok_pb ?_
              refine fd_ok_pb ?_
              exact fd_ok_some ⟨i_79, f_80, trivial⟩
      ·
        refine fd_ok_pb ?_
        refine fd_ok_bd ?_
        refine fd_ok_cl (s_X2_hold_1 N hN _ _ _ _ _ i0 (by omega) (by omega) (by omega) (by omega)) ?_
        rintro v_83 σ_84 ⟨i_85, g_86, x_87⟩
        have f_88 : fd_fr [7, 8, 9, 10, 11, 12, 13, 14, 216] σ σ_84 := fd_fr_tr f0 (fd_fr_mono g_86 (by decide))
        have t_89 : (σ_84.1 7).toInt = (σ.1 7).toInt := congrArg Int32.toInt (g_86.1 7 (by decide))
        refine fd_ok_pb ?_
        refine fd_ok_bd ?_
        refine fd_ok_cl (s_X3_compareWithFails_4 N hN _ i_85) ?_
        rintro v_90 σ_91 ⟨i_92, g_93, x_94⟩
        have f_95 : fd_fr [7, 8, 9, 10, 11, 12, 13, 14, 216] σ σ_91 := fd_fr_tr f_88 (fd_fr_mono g_93 (by decide))
        have t_96 : (σ_91.1 7).toInt = (σ_84.1 7).toInt := congrArg Int32.toInt (g_93.1 7 (by decide))
        refine fd_ok_bd ?_
        try unfold f_X9_explained_8
        refine fd_ok_pb ?_
        refine fd_ok_ite (fun c_97 => ?_) (fun c_97 => ?_)
        ·
          have d_98 := Int32.le_iff_toInt_le.mp c_97
          exact fd_ok_some ⟨i_92, f_95, trivial⟩
        ·
          have d_99 := Int32.lt_iff_toInt_lt.mp (Int32.not_le.mp c_97)
          refine fd_ok_bd ?_
          try unfold f_X0_offer_6_8
          have r_100 : (-1 : Int) ≤ (σ_91.1 7).toInt ∧ (σ_91.1 7).toInt ≤ 479 := i_92.1 7
          refine fd_ok_ite (fun c_101 => ?_) (fun c_101 => ?_)
          ·
            have d_102 := congrArg Int32.toInt c_101
            try unfold f_X0_offer_6_8_J22
            refine fd_ok_lt (fun σ2_103 eσ2_103 => ?_)
            have i_104 : fd_InvC σ2_103 := fd_inv_sI eσ2_103 i_92 ⟨(by omega : (-1 : Int) ≤ p1.toInt), (by omega : p1.toInt ≤ 479)⟩
            have f_105 : fd_fr [7, 8, 9, 10, 11, 12, 13, 14, 216] σ σ2_103 := fd_fr_tr f_95 (fd_fr_sI eσ2_103 (by decide))
            have t_106 : (σ2_103.1 7).toInt = p1.toInt := congrArg Int32.toInt (fd_tI eσ2_103)
            refine fd_ok_lt (fun σ3_107 eσ3_107 => ?_)
            have i_108 : fd_InvC σ3_107 := fd_inv_sI eσ3_107 i_104 ⟨(by omega : (-1 : Int) ≤ p2.toInt), (by omega : p2.toInt ≤ 479)⟩
            have f_109 : fd_fr [7, 8, 9, 10, 11, 12, 13, 14, 216] σ σ3_107 := fd_fr_tr f_105 (fd_fr_sI eσ3_107 (by decide))
            have t_110 : (σ3_107.1 7).toInt = (σ2_103.1 7).toInt := congrArg Int32.toInt (fd_tN eσ3_107 (by decide))
            refine fd_ok_bd ?_
            try unfold f_X9_copy_7_8
            refine fd_ok_lt (fun σ1_111 eσ1_111 => ?_)
            have i_112 : fd_InvC σ1_111 := fd_inv_sI eσ1_111 i_108 (fd_rng _)
            have f_113 : fd_fr [7, 8, 9, 10, 11, 12, 13, 14, 216] σ σ1_111 := fd_fr_tr f_109 (fd_fr_sI eσ1_111 (by decide))
            have t_114 : (σ1_111.1 7).toInt = (σ3_107.1 7).toInt := congrArg Int32.toInt (fd_tN eσ1_111 (by decide))
            refine fd_ok_lt (fun σ2_115 eσ2_115 => ?_)
            have i_116 : fd_InvC σ2_115 := fd_inv_sI eσ2_115 i_112 (fd_rng _)
            have f_117 : fd_fr [7, 8, 9, 10, 11, 12, 13, 14, 216] σ σ2_115 := fd_fr_tr f_113 (fd_fr_sI eσ2_115 (by decide))
            have t_118 : (σ2_115.1 7).toInt = (σ1_111.1 7).toInt := congrArg Int32.toInt (fd_tN eσ2_115 (by decide))
            refine fd_ok_lt (fun σ3_119 eσ3_119 => ?_)
            have i_120 : fd_InvC σ3_119 := fd_inv_sI eσ3_119 i_116 (fd_rng _)
            have f_121 : fd_fr [7, 8, 9, 10, 11, 12, 13, 14, 216] σ σ3_119 := fd_fr_tr f_117 (fd_fr_sI eσ3_119 (by decide))
            have t_122 : (σ3_119.1 7).toInt = (σ2_115.1 7).toInt := congrArg Int32.toInt (fd_tN eσ3_119 (by decide))
            refine fd_ok_pb ?_
            refine fd_ok_pb ?_
            exact fd_ok_some ⟨i_120, f_121, trivial⟩
          ·
            have d_123 : ¬ (σ_91.1 7).toInt = (-1 : Int32).toInt := fun q => c_101 (Int32.toInt_inj.mp q)
            refine fd_ok_bd ?_
            try unfold f_X9_sum_8
            refine fd_ok_pb ?_
            refine fd_ok_bd ?_
            try unfold f_X9_sum_7
            refine fd_ok_pb ?_
            refine fd_ok_ite (fun c_124 => ?_) (fun c_124 => ?_)
            ·
              refine fd_ok_pb ?_
              exact fd_ok_some ⟨i_92, f_95, trivial⟩
            ·
              try unfold f_X0_offer_6_8_J22
              refine fd_ok_lt (fun σ2_127 eσ2_127 => ?_)
              have i_128 : fd_InvC σ2_127 := fd_inv_sI eσ2_127 i_92 ⟨(by omega : (-1 : Int) ≤ p1.toInt), (by omega : p1.toInt ≤ 479)⟩
              have f_129 : fd_fr [7, 8, 9, 10, 11, 12, 13, 14, 216] σ σ2_127 := fd_fr_tr f_95 (fd_fr_sI eσ2_127 (by decide))
              have t_130 : (σ2_127.1 7).toInt = p1.toInt := congrArg Int32.toInt (fd_tI eσ2_127)
              refine fd_ok_lt (fun σ3_131 eσ3_131 => ?_)
              have i_132 : fd_InvC σ3_131 := fd_inv_sI eσ3_131 i_128 ⟨(by omega : (-1 : Int) ≤ p2.toInt), (by omega : p2.toInt ≤ 479)⟩
              have f_133 : fd_fr [7, 8, 9, 10, 11, 12, 13, 14, 216] σ σ3_131 := fd_fr_tr f_129 (fd_fr_sI eσ3_131 (by decide))
              have t_134 : (σ3_131.1 7).toInt = (σ2_127.1 7).toInt := congrArg Int32.toInt (fd_tN eσ3_131 (by decide))
              refine fd_ok_bd ?_
              try unfold f_X9_copy_7_8
              refine fd_ok_lt (fun σ1_135 eσ1_135 => ?_)
              have i_136 : fd_InvC σ1_135 := fd_inv_sI eσ1_135 i_132 (fd_rng _)
              have f_137 : fd_fr [7, 8, 9, 10, 11, 12, 13, 14, 216] σ σ1_135 := fd_fr_tr f_133 (fd_fr_sI eσ1_135 (by decide))
              have t_138 : (σ1_135.1 7).toInt = (σ3_131.1 7).toInt := congrArg Int32.toInt (fd_tN eσ1_135 (by decide))
              refine fd_ok_lt (fun σ2_139 eσ2_139 => ?_)
              have i_140 : fd_InvC σ2_139 := fd_inv_sI eσ2_139 i_136 (fd_rng _)
              have f_141 : fd_fr [7, 8, 9, 10, 11, 12, 13, 14, 216] σ σ2_139 := fd_fr_tr f_137 (fd_fr_sI eσ2_139 (by decide))
              have t_142 : (σ2_139.1 7).toInt = (σ1_135.1 7).toInt := congrArg Int32.toInt (fd_tN eσ2_139 (by decide))
              refine fd_ok_lt (fun σ3_143 eσ3_143 => ?_)
              have i_144 : fd_InvC σ3_143 := fd_inv_sI eσ3_143 i_140 (fd_rng _)
              have f_145 : fd_fr [7, 8, 9, 10, 11, 12, 13, 14, 216] σ σ3_143 := fd_fr_tr f_141 (fd_fr_sI eσ3_143 (by decide))
              have t_146 : (σ3_143.1 7).toInt = (σ2_139.1 7).toInt := congrArg Int32.toInt (fd_tN eσ3_143 (by decide))
              refine fd_ok_pb ?_
              refine fd_ok_pb ?_
              exact fd_ok_some ⟨i_144, f_145, trivial⟩
    ·
      refine fd_ok_pb ?_
      refine fd_ok_bd ?_
      try unfold f_X2_stuckRow
      have r_148 : (0 : Int) ≤ (σ.2.1 23 (σ.2.1 28 p2.toNatClampNeg).toNatClampNeg).toInt ∧ (σ.2.1 23 (σ.2.1 28 p2.toNatClampNeg).toNatClampNeg).toInt ≤ 3 := i0.2.1 23 _
      have r_149 := i0.2.2 (σ.2.1 28 p2.toNatClampNeg).toNatClampNeg
      refine fd_ok_ite (fun c_150 => ?_) (fun c_150 => ?_)
      ·
        have d_151 := congrArg Int32.toInt c_150
        refine fd_ok_pb ?_
        refine fd_ok_bd ?_
        refine fd_ok_cl (s_X2_hold_1 N hN _ _ _ _ _ i0 (by omega) (by omega) (by omega) (by omega)) ?_
        rintro v_152 σ_153 ⟨i_154, g_155, x_156⟩
        have f_157 : fd_fr [7, 8, 9, 10, 11, 12, 13, 14, 216] σ σ_153 := fd_fr_tr f0 (fd_fr_mono g_155 (by decide))
        have t_158 : (σ_153.1 7).toInt = (σ.1 7).toInt := congrArg Int32.toInt (g_155.1 7 (by decide))
        refine fd_ok_pb ?_
        refine fd_ok_bd ?_
        refine fd_ok_cl (s_X3_compareWithFails_4 N hN _ i_154) ?_
        rintro v_159 σ_160 ⟨i_161, g_162, x_163⟩
        have f_164 : fd_fr [7, 8, 9, 10, 11, 12, 13, 14, 216] σ σ_160 := fd_fr_tr f_157 (fd_fr_mono g_162 (by decide))
        have t_165 : (σ_160.1 7).toInt = (σ_153.1 7).toInt := congrArg Int32.toInt (g_162.1 7 (by decide))
        refine fd_ok_bd ?_
        try unfold f_X9_explained_8
        refine fd_ok_pb ?_
        refine fd_ok_ite (fun c_166 => ?_) (fun c_166 => ?_)
        ·
          have d_167 := Int32.le_iff_toInt_le.mp c_166
          exact fd_ok_some ⟨i_161, f_164, trivial⟩
        ·
          have d_168 := Int32.lt_iff_toInt_lt.mp (Int32.not_le.mp c_166)
          refine fd_ok_bd ?_
          try unfold f_X0_offer_6_8
          have r_169 : (-1 : Int) ≤ (σ_160.1 7).toInt ∧ (σ_160.1 7).toInt ≤ 479 := i_161.1 7
          refine fd_ok_ite (fun c_170 => ?_) (fun c_170 => ?_)
          ·
            have d_171 := congrArg Int32.toInt c_170
            try unfold f_X0_offer_6_8_J22
            refine fd_ok_lt (fun σ2_172 eσ2_172 => ?_)
            have i_173 : fd_InvC σ2_172 := fd_inv_sI eσ2_172 i_161 ⟨(by omega : (-1 : Int) ≤ p1.toInt), (by omega : p1.toInt ≤ 479)⟩
            have f_174 : fd_fr [7, 8, 9, 10, 11, 12, 13, 14, 216] σ σ2_172 := fd_fr_tr f_164 (fd_fr_sI eσ2_172 (by decide))
            have t_175 : (σ2_172.1 7).toInt = p1.toInt := congrArg Int32.toInt (fd_tI eσ2_172)
            refine fd_ok_lt (fun σ3_176 eσ3_176 => ?_)
            have i_177 : fd_InvC σ3_176 := fd_inv_sI eσ3_176 i_173 ⟨(by omega : (-1 : Int) ≤ p2.toInt), (by omega : p2.toInt ≤ 479)⟩
            have f_178 : fd_fr [7, 8, 9, 10, 11, 12, 13, 14, 216] σ σ3_176 := fd_fr_tr f_174 (fd_fr_sI eσ3_176 (by decide))
            have t_179 : (σ3_176.1 7).toInt = (σ2_172.1 7).toInt := congrArg Int32.toInt (fd_tN eσ3_176 (by decide))
            refine fd_ok_bd ?_
            try unfold f_X9_copy_7_8
            refine fd_ok_lt (fun σ1_180 eσ1_180 => ?_)
            have i_181 : fd_InvC σ1_180 := fd_inv_sI eσ1_180 i_177 (fd_rng _)
            have f_182 : fd_fr [7, 8, 9, 10, 11, 12, 13, 14, 216] σ σ1_180 := fd_fr_tr f_178 (fd_fr_sI eσ1_180 (by decide))
            have t_183 : (σ1_180.1 7).toInt = (σ3_176.1 7).toInt := congrArg Int32.toInt (fd_tN eσ1_180 (by decide))
            refine fd_ok_lt (fun σ2_184 eσ2_184 => ?_)
            have i_185 : fd_InvC σ2_184 := fd_inv_sI eσ2_184 i_181 (fd_rng _)
            have f_186 : fd_fr [7, 8, 9, 10, 11, 12, 13, 14, 216] σ σ2_184 := fd_fr_tr f_182 (fd_fr_sI eσ2_184 (by decide))
            have t_187 : (σ2_184.1 7).toInt = (σ1_180.1 7).toInt := congrArg Int32.toInt (fd_tN eσ2_184 (by decide))
            refine fd_ok_lt (fun σ3_188 eσ3_188 => ?_)
            have i_189 : fd_InvC σ3_188 := fd_inv_sI eσ3_188 i_185 (fd_rng _)
            have f_190 : fd_fr [7, 8, 9, 10, 11, 12, 13, 14, 216] σ σ3_188 := fd_fr_tr f_186 (fd_fr_sI eσ3_188 (by decide))
            have t_191 : (σ3_188.1 7).toInt = (σ2_184.1 7).toInt := congrArg Int32.toInt (fd_tN eσ3_188 (by decide))
            refine fd_ok_pb ?_
            refine fd_ok_pb ?_
            exact fd_ok_some ⟨i_189, f_190, trivial⟩
          ·
            have d_192 : ¬ (σ_160.1 7).toInt = (-1 : Int32).toInt := fun q => c_170 (Int32.toInt_inj.mp q)
            refine fd_ok_bd ?_
            try unfold f_X9_sum_8
            refine fd_ok_pb ?_
            refine fd_ok_bd ?_
            try unfold f_X9_sum_7
            refine fd_ok_pb ?_
            refine fd_ok_ite (fun c_193 => ?_) (fun c_193 => ?_)
            ·
              refine fd_ok_pb ?_
              exact fd_ok_some ⟨i_161, f_164, trivial⟩
            ·
              try unfold f_X0_offer_6_8_J22
              refine fd_ok_lt (fun σ2_196 eσ2_196 => ?_)
              have i_197 : fd_InvC σ2_196 := fd_inv_sI eσ2_196 i_161 ⟨(by omega : (-1 : Int) ≤ p1.toInt), (by omega : p1.toInt ≤ 479)⟩
              have f_198 : fd_fr [7, 8, 9, 10, 11, 12, 13, 14, 216] σ σ2_196 := fd_fr_tr f_164 (fd_fr_sI eσ2_196 (by decide))
              have t_199 : (σ2_196.1 7).toInt = p1.toInt := congrArg Int32.toInt (fd_tI eσ2_196)
              refine fd_ok_lt (fun σ3_200 eσ3_200 => ?_)
              have i_201 : fd_InvC σ3_200 := fd_inv_sI eσ3_200 i_197 ⟨(by omega : (-1 : Int) ≤ p2.toInt), (by omega : p2.toInt ≤ 479)⟩
              have f_202 : fd_fr [7, 8, 9, 10, 11, 12, 13, 14, 216] σ σ3_200 := fd_fr_tr f_198 (fd_fr_sI eσ3_200 (by decide))
              have t_203 : (σ3_200.1 7).toInt = (σ2_196.1 7).toInt := congrArg Int32.toInt (fd_tN eσ3_200 (by decide))
              refine fd_ok_bd ?_
              try unfold f_X9_copy_7_8
              refine fd_ok_lt (fun σ1_204 eσ1_204 => ?_)
              have i_205 : fd_InvC σ1_204 := fd_inv_sI eσ1_204 i_201 (fd_rng _)
              have f_206 : fd_fr [7, 8, 9, 10, 11, 12, 13, 14, 216] σ σ1_204 := fd_fr_tr f_202 (fd_fr_sI eσ1_204 (by decide))
              have t_207 : (σ1_204.1 7).toInt = (σ3_200.1 7).toInt := congrArg Int32.toInt (fd_tN eσ1_204 (by decide))
              refine fd_ok_lt (fun σ2_208 eσ2_208 => ?_)
              have i_209 : fd_InvC σ2_208 := fd_inv_sI eσ2_208 i_205 (fd_rng _)
              have f_210 : fd_fr [7, 8, 9, 10, 11, 12, 13, 14, 216] σ σ2_208 := fd_fr_tr f_206 (fd_fr_sI eσ2_208 (by decide))
              have t_211 : (σ2_208.1 7).toInt = (σ1_204.1 7).toInt := congrArg Int32.toInt (fd_tN eσ2_208 (by decide))
              refine fd_ok_lt (fun σ3_212 eσ3_212 => ?_)
              have i_213 : fd_InvC σ3_212 := fd_inv_sI eσ3_212 i_209 (fd_rng _)
              have f_214 : fd_fr [7, 8, 9, 10, 11, 12, 13, 14, 216] σ σ3_212 := fd_fr_tr f_210 (fd_fr_sI eσ3_212 (by decide))
              have t_215 : (σ3_212.1 7).toInt = (σ2_208.1 7).toInt := congrArg Int32.toInt (fd_tN eσ3_212 (by decide))
              refine fd_ok_pb ?_
              refine fd_ok_pb ?_
              exact fd_ok_some ⟨i_213, f_214, trivial⟩
      ·
        refine fd_ok_pb ?_
        refine fd_ok_bd ?_
        refine fd_ok_cl (s_X2_hold_1 N hN _ _ _ _ _ i0 (by omega) (by omega) (by omega) (by omega)) ?_
        rintro v_217 σ_218 ⟨i_219, g_220, x_221⟩
        have f_222 : fd_fr [7, 8, 9, 10, 11, 12, 13, 14, 216] σ σ_218 := fd_fr_tr f0 (fd_fr_mono g_220 (by decide))
        have t_223 : (σ_218.1 7).toInt = (σ.1 7).toInt := congrArg Int32.toInt (g_220.1 7 (by decide))
        refine fd_ok_pb ?_
        refine fd_ok_bd ?_
        refine fd_ok_cl (s_X3_compareWithFails_4 N hN _ i_219) ?_
        rintro v_224 σ_225 ⟨i_226, g_227, x_228⟩
        have f_229 : fd_fr [7, 8, 9, 10, 11, 12, 13, 14, 216] σ σ_225 := fd_fr_tr f_222 (fd_fr_mono g_227 (by decide))
        have t_230 : (σ_225.1 7).toInt = (σ_218.1 7).toInt := congrArg Int32.toInt (g_227.1 7 (by decide))
        refine fd_ok_bd ?_
        try unfold f_X9_explained_8
        refine fd_ok_pb ?_
        refine fd_ok_ite (fun c_231 => ?_) (fun c_231 => ?_)
        ·
          have d_232 := Int32.le_iff_toInt_le.mp c_231
          exact fd_ok_some ⟨i_226, f_229, trivial⟩
        ·
          have d_233 := Int32.lt_iff_toInt_lt.mp (Int32.not_le.mp c_231)
          refine fd_ok_bd ?_
          try unfold f_X0_offer_6_8
          have r_234 : (-1 : Int) ≤ (σ_225.1 7).toInt ∧ (σ_225.1 7).toInt ≤ 479 := i_226.1 7
          refine fd_ok_ite (fun c_235 => ?_) (fun c_235 => ?_)
          ·
            have d_236 := congrArg Int32.toInt c_235
            try unfold f_X0_offer_6_8_J22
            refine fd_ok_lt (fun σ2_237 eσ2_237 => ?_)
            have i_238 : fd_InvC σ2_237 := fd_inv_sI eσ2_237 i_226 ⟨(by omega : (-1 : Int) ≤ p1.toInt), (by omega : p1.toInt ≤ 479)⟩
            have f_239 : fd_fr [7, 8, 9, 10, 11, 12, 13, 14, 216] σ σ2_237 := fd_fr_tr f_229 (fd_fr_sI eσ2_237 (by decide))
            have t_240 : (σ2_237.1 7).toInt = p1.toInt := congrArg Int32.toInt (fd_tI eσ2_237)
            refine fd_ok_lt (fun σ3_241 eσ3_241 => ?_)
            have i_242 : fd_InvC σ3_241 := fd_inv_sI eσ3_241 i_238 ⟨(by omega : (-1 : Int) ≤ p2.toInt), (by omega : p2.toInt ≤ 479)⟩
            have f_243 : fd_fr [7, 8, 9, 10, 11, 12, 13, 14, 216] σ σ3_241 := fd_fr_tr f_239 (fd_fr_sI eσ3_241 (by decide))
            have t_244 : (σ3_241.1 7).toInt = (σ2_237.1 7).toInt := congrArg Int32.toInt (fd_tN eσ3_241 (by decide))
            refine fd_ok_bd ?_
            try unfold f_X9_copy_7_8
            refine fd_ok_lt (fun σ1_245 eσ1_245 => ?_)
            have i_246 : fd_InvC σ1_245 := fd_inv_sI eσ1_245 i_242 (fd_rng _)
            have f_247 : fd_fr [7, 8, 9, 10, 11, 12, 13, 14, 216] σ σ1_245 := fd_fr_tr f_243 (fd_fr_sI eσ1_245 (by decide))
            have t_248 : (σ1_245.1 7).toInt = (σ3_241.1 7).toInt := congrArg Int32.toInt (fd_tN eσ1_245 (by decide))
            refine fd_ok_lt (fun σ2_249 eσ2_249 => ?_)
            have i_250 : fd_InvC σ2_249 := fd_inv_sI eσ2_249 i_246 (fd_rng _)
            have f_251 : fd_fr [7, 8, 9, 10, 11, 12, 13, 14, 216] σ σ2_249 := fd_fr_tr f_247 (fd_fr_sI eσ2_249 (by decide))
            have t_252 : (σ2_249.1 7).toInt = (σ1_245.1 7).toInt := congrArg Int32.toInt (fd_tN eσ2_249 (by decide))
            refine fd_ok_lt (fun σ3_253 eσ3_253 => ?_)
            have i_254 : fd_InvC σ3_253 := fd_inv_sI eσ3_253 i_250 (fd_rng _)
            have f_255 : fd_fr [7, 8, 9, 10, 11, 12, 13, 14, 216] σ σ3_253 := fd_fr_tr f_251 (fd_fr_sI eσ3_253 (by decide))
            have t_256 : (σ3_253.1 7).toInt = (σ2_249.1 7).toInt := congrArg Int32.toInt (fd_tN eσ3_253 (by decide))
            refine fd_ok_pb ?_
            refine fd_ok_pb ?_
            exact fd_ok_some ⟨i_254, f_255, trivial⟩
          ·
            have d_257 : ¬ (σ_225.1 7).toInt = (-1 : Int32).toInt := fun q => c_235 (Int32.toInt_inj.mp q)
            refine fd_ok_bd ?_
            try unfold f_X9_sum_8
            refine fd_ok_pb ?_
            refine fd_ok_bd ?_
            try unfold f_X9_sum_7
            refine fd_ok_pb ?_
            refine fd_ok_ite (fun c_258 => ?_) (fun c_258 => ?_)
            ·
              refine fd_ok_pb ?_
              exact fd_ok_some ⟨i_226, f_229, trivial⟩
            ·
              try unfold f_X0_offer_6_8_J22
              refine fd_ok_lt (fun σ2_261 eσ2_261 => ?_)
              have i_262 : fd_InvC σ2_261 := fd_inv_sI eσ2_261 i_226 ⟨(by omega : (-1 : Int) ≤ p1.toInt), (by omega : p1.toInt ≤ 479)⟩
              have f_263 : fd_fr [7, 8, 9, 10, 11, 12, 13, 14, 216] σ σ2_261 := fd_fr_tr f_229 (fd_fr_sI eσ2_261 (by decide))
              have t_264 : (σ2_261.1 7).toInt = p1.toInt := congrArg Int32.toInt (fd_tI eσ2_261)
              refine fd_ok_lt (fun σ3_265 eσ3_265 => ?_)
              have i_266 : fd_InvC σ3_265 := fd_inv_sI eσ3_265 i_262 ⟨(by omega : (-1 : Int) ≤ p2.toInt), (by omega : p2.toInt ≤ 479)⟩
              have f_267 : fd_fr [7, 8, 9, 10, 11, 12, 13, 14, 216] σ σ3_265 := fd_fr_tr f_263 (fd_fr_sI eσ3_265 (by decide))
              have t_268 : (σ3_265.1 7).toInt = (σ2_261.1 7).toInt := congrArg Int32.toInt (fd_tN eσ3_265 (by decide))
              refine fd_ok_bd ?_
              try unfold f_X9_copy_7_8
              refine fd_ok_lt (fun σ1_269 eσ1_269 => ?_)
              have i_270 : fd_InvC σ1_269 := fd_inv_sI eσ1_269 i_266 (fd_rng _)
              have f_271 : fd_fr [7, 8, 9, 10, 11, 12, 13, 14, 216] σ σ1_269 := fd_fr_tr f_267 (fd_fr_sI eσ1_269 (by decide))
              have t_272 : (σ1_269.1 7).toInt = (σ3_265.1 7).toInt := congrArg Int32.toInt (fd_tN eσ1_269 (by decide))
              refine fd_ok_lt (fun σ2_273 eσ2_273 => ?_)
              have i_274 : fd_InvC σ2_273 := fd_inv_sI eσ2_273 i_270 (fd_rng _)
              have f_275 : fd_fr [7, 8, 9, 10, 11, 12, 13, 14, 216] σ σ2_273 := fd_fr_tr f_271 (fd_fr_sI eσ2_273 (by decide))
              have t_276 : (σ2_273.1 7).toInt = (σ1_269.1 7).toInt := congrArg Int32.toInt (fd_tN eσ2_273 (by decide))
              refine fd_ok_lt (fun σ3_277 eσ3_277 => ?_)
              have i_278 : fd_InvC σ3_277 := fd_inv_sI eσ3_277 i_274 (fd_rng _)
              have f_279 : fd_fr [7, 8, 9, 10, 11, 12, 13, 14, 216] σ σ3_277 := fd_fr_tr f_275 (fd_fr_sI eσ3_277 (by decide))
              have t_280 : (σ3_277.1 7).toInt = (σ2_273.1 7).toInt := congrArg Int32.toInt (fd_tN eσ3_277 (by decide))
              refine fd_ok_pb ?_
              refine fd_ok_pb ?_
              exact fd_ok_some ⟨i_278, f_279, trivial⟩
set_option maxHeartbeats 4000000 in
theorem s_X3_findBestPair_4_L23 (N : Nat) (hN : 1000 ≤ N) (k14 : Int32 → Int32 → fd_St → Option (Unit × fd_St)) (σ0 : fd_St) (Q : Unit → fd_St → Prop) (b : Int) (hk14 : ∀ (z1 : Int32) (z2 : Int32) (τ : fd_St), fd_InvC τ → fd_fr [7, 8, 9, 10, 11, 12, 13, 14, 216] σ0 τ → (b < z2.toInt) → (0 ≤ z1.toInt) → (z1.toInt ≤ 12) → (0 ≤ z2.toInt) → (z2.toInt ≤ 12) → fd_ok (k14 z1 z2 τ) Q) : ∀ (n : Nat) (y1 : Int32) (y2 : Int32) (y3 : Int32) (σ : fd_St), fd_InvC σ → fd_fr [7, 8, 9, 10, 11, 12, 13, 14, 216] σ0 σ → (b ≤ y2.toInt) → (0 ≤ y1.toInt) → (y1.toInt ≤ 12) → (0 ≤ y2.toInt) → (y2.toInt ≤ 11) → (0 ≤ y3.toInt) → (y3.toInt ≤ 12) → 12 - y3.toInt < (n : Int) → fd_ok (f_X3_findBestPair_4_L23 N k14 n y1 y2 y3 σ) Q := by
  have lit0 : (0 : Int32).toInt = 0 := by decide
  have lit1 : (1 : Int32).toInt = 1 := by decide
  intro n
  induction n with
  | zero =>
    intro y1 y2 y3 σ i0 f0 h0 h1 h2 h3 h4 h5 h6 hm
    omega
  | succ n ih =>
    intro y1 y2 y3 σ i0 f0 h0 h1 h2 h3 h4 h5 h6 hm
    unfold f_X3_findBestPair_4_L23
    refine fd_ok_ite (fun c_1 => ?_) (fun c_1 => ?_)
    ·
      have d_2 := Int32.le_iff_toInt_le.mp c_1
      refine fd_ok_lt (fun x14_3 ex14_3 => ?_)
      have t_4 := fd_la ex14_3 (by omega) (by omega)
      exact hk14 _ _ _ i0 f0 (by omega) (by omega) (by omega) (by omega) (by omega)
    ·
      have d_5 := Int32.lt_iff_toInt_lt.mp (Int32.not_le.mp c_1)
      refine fd_ok_gd (vp_in_iff.mpr ⟨by omega, by omega⟩) ?_
      refine fd_ok_gd (vp_in_iff.mpr ⟨by omega, by omega⟩) ?_
      refine fd_ok_bd ?_
      have r_6 : (0 : Int) ≤ (σ.2.1 22 y2.toNatClampNeg).toInt ∧ (σ.2.1 22 y2.toNatClampNeg).toInt ≤ 479 := i0.2.1 22 _
      have r_7 : (0 : Int) ≤ (σ.2.1 22 y3.toNatClampNeg).toInt ∧ (σ.2.1 22 y3.toNatClampNeg).toInt ≤ 479 := i0.2.1 22 _
      refine fd_ok_cl (s_X3_offerPair_4 N hN _ _ _ i0 (by omega) (by omega) (by omega) (by omega)) ?_
      rintro v_8 σ_9 ⟨i_10, g_11, x_12⟩
      have f_13 : fd_fr [7, 8, 9, 10, 11, 12, 13, 14, 216] σ0 σ_9 := fd_fr_tr f0 (fd_fr_mono g_11 (by decide))
      refine fd_ok_lt (fun x22_14 ex22_14 => ?_)
      have t_15 := fd_la ex22_14 (by omega) (by omega)
      exact ih _ _ _ _ i_10 f_13 (by omega) (by omega) (by omega) (by omega) (by omega) (by omega) (by omega) (by omega)
set_option maxHeartbeats 4000000 in
theorem s_X3_findBestPair_4_L14 (N : Nat) (hN : 1000 ≤ N) : ∀ (n : Nat) (y1 : Int32) (y2 : Int32) (σ : fd_St), fd_InvC σ → (0 ≤ y1.toInt) → (y1.toInt ≤ 12) → (0 ≤ y2.toInt) → (y2.toInt ≤ 12) → 12 - y2.toInt < (n : Int) → fd_ok (f_X3_findBestPair_4_L14 N n y1 y2 σ) (fun v s => fd_InvC s ∧ fd_fr [7, 8, 9, 10, 11, 12, 13, 14, 216] σ s ∧ (True)) := by
  have lit0 : (0 : Int32).toInt = 0 := by decide
  have lit1 : (1 : Int32).toInt = 1 := by decide
  intro n
  induction n with
  | zero =>
    intro y1 y2 σ i0 h0 h1 h2 h3 hm
    omega
  | succ n ih =>
    intro y1 y2 σ i0 h0 h1 h2 h3 hm
    have f0 : fd_fr [7, 8, 9, 10, 11, 12, 13, 14, 216] σ σ := fd_fr_rf
    unfold f_X3_findBestPair_4_L14
    refine fd_ok_ite (fun c_1 => ?_) (fun c_1 => ?_)
    ·
      have d_2 := Int32.le_iff_toInt_le.mp c_1
      exact fd_ok_some ⟨i0, f0, trivial⟩
    ·
      have d_3 := Int32.lt_iff_toInt_lt.mp (Int32.not_le.mp c_1)
      refine fd_ok_lt (fun x12_4 ex12_4 => ?_)
      have t_5 := fd_la ex12_4 (by omega) (by omega)
      refine s_X3_findBestPair_4_L23 N hN (f_X3_findBestPair_4_L14 N n) σ _ y2.toInt (fun z1 z2 τ jI jF j0 j1 j2 j3 j4 => ?_) N _ _ _ _ i0 f0 (by omega) (by omega) (by omega) (by omega) (by omega) (by omega) (by omega) (by omega)
      refine fd_ok_mono (ih z1 z2 τ jI (by omega) (by omega) (by omega) (by omega) (by omega)) ?_
      rintro v s ⟨hi, hf, hx⟩
      exact ⟨hi, fd_fr_tr jF hf, trivial⟩
set_option maxHeartbeats 4000000 in
theorem s_X8_withLeastSum_5_L2 (N : Nat) (hN : 1000 ≤ N) : ∀ (n : Nat) (y1 : Int32) (σ : fd_St), fd_InvC σ → (0 ≤ y1.toInt) → (y1.toInt ≤ 480) → 480 - y1.toInt < (n : Int) → fd_ok (f_X8_withLeastSum_5_L2 N n y1 σ) (fun v s => fd_InvC s ∧ fd_fr [] σ s ∧ (0 ≤ v.toInt ∧ v.toInt ≤ 480)) := by
  have lit0 : (0 : Int32).toInt = 0 := by decide
  have lit1 : (1 : Int32).toInt = 1 := by decide
  intro n
  induction n with
  | zero =>
    intro y1 σ i0 h0 h1 hm
    omega
  | succ n ih =>
    intro y1 σ i0 h0 h1 hm
    have f0 : fd_fr [] σ σ := fd_fr_rf
    unfold f_X8_withLeastSum_5_L2
    have r_1 : (0 : Int) ≤ (σ.1 6).toInt ∧ (σ.1 6).toInt ≤ 480 := i0.1 6
    refine fd_ok_ite (fun c_2 => ?_) (fun c_2 => ?_)
    ·
      have d_3 := Int32.le_iff_toInt_le.mp c_2
      have x_4 : 0 ≤ y1.toInt ∧ y1.toInt ≤ 480 := by omega
      exact fd_ok_some ⟨i0, f0, x_4⟩
    ·
      have d_5 := Int32.lt_iff_toInt_lt.mp (Int32.not_le.mp c_2)
      refine fd_ok_bd ?_
      refine fd_ok_cl (s_X8_sum_5 N hN _ _ i0 (by omega) (by omega)) ?_
      rintro v_6 σ_7 ⟨i_8, g_9, x_10⟩
      have f_11 : fd_fr [] σ σ_7 := fd_fr_tr f0 (fd_fr_mono g_9 (by decide))
      have t_12 : (σ_7.1 6).toInt = (σ.1 6).toInt := congrArg Int32.toInt (g_9.1 6 (by decide))
      refine fd_ok_bd ?_
      refine fd_ok_cl (s_X8_sum_5 N hN _ _ i_8 (by omega) (by omega)) ?_
      rintro v_13 σ_14 ⟨i_15, g_16, x_17⟩
      have f_18 : fd_fr [] σ σ_14 := fd_fr_tr f_11 (fd_fr_mono g_16 (by decide))
      have t_19 : (σ_14.1 6).toInt = (σ_7.1 6).toInt := congrArg Int32.toInt (g_16.1 6 (by decide))
      refine fd_ok_ite (fun c_20 => ?_) (fun c_20 => ?_)
      ·
        have d_21 := congrArg Int32.toInt c_20
        refine fd_ok_lt (fun x13_22 ex13_22 => ?_)
        have t_23 := fd_la ex13_22 (by omega) (by omega)
        refine fd_ok_mono (ih _ _ i_15 (by omega) (by omega) (by omega)) ?_
        rintro v s ⟨hi, hf, hx⟩
        have xx : 0 ≤ v.toInt ∧ v.toInt ≤ 480 := by omega
        exact ⟨hi, fd_fr_tr f_18 hf, xx⟩
      ·
        have x_25 : 0 ≤ y1.toInt ∧ y1.toInt ≤ 480 := by omega
        exact fd_ok_some ⟨i_15, f_18, x_25⟩
set_option maxHeartbeats 4000000 in
theorem s0_X6_coveredByEither_11 (N : Nat) (hN : 1000 ≤ N) (p1 : Int32) (p2 : Int32) (p3 : Int32) (σ : fd_St) (i0 : fd_InvC σ) : fd_ok (f_X6_coveredByEither_11 N p1 p2 p3 σ) (fun v s => fd_InvC s ∧ fd_fr [19, 137, 138] σ s ∧ (True)) := by
  have lit0 : (0 : Int32).toInt = 0 := by decide
  have lit1 : (1 : Int32).toInt = 1 := by decide
  have f0 : fd_fr [19, 137, 138] σ σ := fd_fr_rf
  unfold f_X6_coveredByEither_11
  refine fd_ok_bd ?_
  try unfold f_X6_choose_11
  refine fd_ok_lt (fun σ1_1 eσ1_1 => ?_)
  have i_2 : fd_InvC σ1_1 := fd_inv_sI eσ1_1 i0 ⟨(by omega : (0 : Int) ≤ (0 : Int32).toInt), (by omega : (0 : Int32).toInt ≤ 60)⟩
  have f_3 : fd_fr [19, 137, 138] σ σ1_1 := fd_fr_tr f0 (fd_fr_sI eσ1_1 (by decide))
  have t_4 : (σ1_1.1 19).toInt = (0 : Int32).toInt := congrArg Int32.toInt (fd_tI eσ1_1)
  refine fd_ok_cl (s_X6_choose_11_L8 N hN N _ _ _ _ _ i_2 (by omega) (by omega) (by omega) (by omega)) ?_
  rintro v_5 σ_6 ⟨i_7, g_8, x_9⟩
  have f_10 : fd_fr [19, 137, 138] σ σ_6 := fd_fr_tr f_3 (fd_fr_mono g_8 (by decide))
  refine fd_ok_mono (s_X6_coveredByEither_11_L13 N hN N _ _ _ _ i_7 (by omega) (by omega) (by omega)) ?_
  rintro v s ⟨hi, hf, hx⟩
  exact ⟨hi, fd_fr_tr f_10 (fd_fr_mono hf (by decide)), trivial⟩
theorem s_X6_coveredByEither_11 (N : Nat) (hN : 1000 ≤ N) (p1 : Int32) (p2 : Int32) (p3 : Int32) (σ : fd_St) (i0 : fd_InvC σ) : fd_ok (f_X6_coveredByEither_11 N p1 p2 p3 σ) (fun v s => fd_InvC s ∧ fd_fr [19, 137, 138] σ s ∧ (0 ≤ (σ.1 18).toInt → (σ.1 18).toInt ≤ 60 → 0 ≤ p3.toInt → p3.toInt ≤ 100 → fd_Sh (σ.2.1 33) (σ.2.1 34) (σ.2.1 35) (σ.2.1 36) (σ.1 18).toNatClampNeg → (s.1 18 = σ.1 18 ∧ ∀ d, d ≠ 37 → d ≠ 38 → s.2.1 d = σ.2.1 d) ∧ v.toInt = fd_ar (fun i => σ.2.1 32 i = p1 ∨ σ.2.1 32 i = p2) (σ.2.1 33) (σ.2.1 34) (σ.2.1 35) (σ.2.1 36) p3.toInt (σ.1 18).toNatClampNeg)) := fd_ok_x (s0_X6_coveredByEither_11 N hN p1 p2 p3 σ i0 ) (fun v s h => q_X6_coveredByEither_11 h)
set_option maxHeartbeats 4000000 in
theorem s_X10_giveShares_0_L2 (N : Nat) (hN : 1000 ≤ N) : ∀ (n : Nat) (y1 : Int32) (y2 : Int32) (y3 : Int32) (σ : fd_St), fd_InvC σ → (0 ≤ y1.toInt) → (y1.toInt ≤ 10) → (0 ≤ y3.toInt) → (y3.toInt ≤ 10) → 10 - y3.toInt < (n : Int) → fd_ok (f_X10_giveShares_0_L2 N n y1 y2 y3 σ) (fun v s => fd_InvC s ∧ fd_fr [129] σ s ∧ (True)) := by
  have litm1 : (-1 : Int32).toInt = -1 := by decide
  have lit0 : (0 : Int32).toInt = 0 := by decide
  have lit1 : (1 : Int32).toInt = 1 := by decide
  intro n
  induction n with
  | zero =>
    intro y1 y2 y3 σ i0 h0 h1 h2 h3 hm
    omega
  | succ n ih =>
    intro y1 y2 y3 σ i0 h0 h1 h2 h3 hm
    have f0 : fd_fr [129] σ σ := fd_fr_rf
    unfold f_X10_giveShares_0_L2
    refine fd_ok_ite (fun c_1 => ?_) (fun c_1 => ?_)
    ·
      have d_2 := Int32.le_iff_toInt_le.mp c_1
      exact fd_ok_some ⟨i0, f0, trivial⟩
    ·
      have d_3 := Int32.lt_iff_toInt_lt.mp (Int32.not_le.mp c_1)
      refine fd_ok_bd ?_
      try unfold f_X3_firstNet_4
      refine fd_ok_bd ?_
      try unfold f_X8_number_5
      refine fd_ok_gd (vp_in_iff.mpr ⟨by omega, by omega⟩) ?_
      have r_4 : (0 : Int) ≤ (σ.2.1 28 y3.toNatClampNeg).toInt ∧ (σ.2.1 28 y3.toNatClampNeg).toInt ≤ 479 := i0.2.1 28 _
      refine fd_ok_gd (vp_in_iff.mpr ⟨by omega, by omega⟩) ?_
      refine fd_ok_pb ?_
      refine fd_ok_bd ?_
      try unfold f_X8_isStuck_5
      refine fd_ok_bd ?_
      try unfold f_X8_kind_5
      refine fd_ok_gd (vp_in_iff.mpr ⟨by omega, by omega⟩) ?_
      refine fd_ok_gd (vp_in_iff.mpr ⟨by omega, by omega⟩) ?_
      refine fd_ok_pb ?_
      have r_5 : (0 : Int) ≤ (σ.2.1 23 (σ.2.1 28 y3.toNatClampNeg).toNatClampNeg).toInt ∧ (σ.2.1 23 (σ.2.1 28 y3.toNatClampNeg).toNatClampNeg).toInt ≤ 3 := i0.2.1 23 _
      have r_6 := i0.2.2 (σ.2.1 28 y3.toNatClampNeg).toNatClampNeg
      refine fd_ok_ite (fun c_7 => ?_) (fun c_7 => ?_)
      ·
        have d_8 := Int32.lt_iff_toInt_lt.mp c_7
        refine fd_ok_pb ?_
        refine fd_ok_itp (by decide) ?_
        refine fd_ok_bd ?_
        try unfold f_X4_first_3
        have r_9 : (0 : Int) ≤ (σ.2.1 24 (σ.2.1 28 y3.toNatClampNeg).toNatClampNeg).toInt ∧ (σ.2.1 24 (σ.2.1 28 y3.toNatClampNeg).toNatClampNeg).toInt ≤ 199 := i0.2.1 24 _
        have r_10 := i0.2.2 (σ.2.1 28 y3.toNatClampNeg).toNatClampNeg
        refine fd_ok_gd (vp_in_iff.mpr ⟨by omega, by omega⟩) ?_
        refine fd_ok_pb ?_
        refine fd_ok_pb ?_
        refine fd_ok_bd ?_
        try unfold f_X7_give_9
        have r_11 : (0 : Int) ≤ (σ.2.1 20 (σ.2.1 24 (σ.2.1 28 y3.toNatClampNeg).toNatClampNeg).toNatClampNeg).toInt ∧ (σ.2.1 20 (σ.2.1 24 (σ.2.1 28 y3.toNatClampNeg).toNatClampNeg).toNatClampNeg).toInt ≤ 199 := i0.2.1 20 _
        refine fd_ok_gd (vp_in_iff.mpr ⟨by omega, by omega⟩) ?_
        refine fd_ok_gd (vp_in_iff.mpr ⟨by omega, by omega⟩) ?_
        refine fd_ok_lt (fun σ3_12 eσ3_12 => ?_)
        have i_13 : fd_InvC σ3_12 := fd_inv_sA eσ3_12 i0 (by decide) (by decide) (fd_rng _)
        have f_14 : fd_fr [129] σ σ3_12 := fd_fr_tr f0 (fd_fr_sA eσ3_12 (by decide))
        refine fd_ok_pb ?_
        refine fd_ok_bd ?_
        try unfold f_X3_secondNet_4
        refine fd_ok_bd ?_
        try unfold f_X8_isStuck_5
        refine fd_ok_bd ?_
        try unfold f_X8_kind_5
        refine fd_ok_gd (vp_in_iff.mpr ⟨by omega, by omega⟩) ?_
        have r_15 : (0 : Int) ≤ (σ3_12.2.1 28 y3.toNatClampNeg).toInt ∧ (σ3_12.2.1 28 y3.toNatClampNeg).toInt ≤ 479 := i_13.2.1 28 _
        refine fd_ok_gd (vp_in_iff.mpr ⟨by omega, by omega⟩) ?_
        refine fd_ok_pb ?_
        have r_16 : (0 : Int) ≤ (σ3_12.2.1 23 (σ3_12.2.1 28 y3.toNatClampNeg).toNatClampNeg).toInt ∧ (σ3_12.2.1 23 (σ3_12.2.1 28 y3.toNatClampNeg).toNatClampNeg).toInt ≤ 3 := i_13.2.1 23 _
        have r_17 := i_13.2.2 (σ3_12.2.1 28 y3.toNatClampNeg).toNatClampNeg
        refine fd_ok_ite (fun c_18 => ?_) (fun c_18 => ?_)
        ·
          have d_19 := Int32.lt_iff_toInt_lt.mp c_18
          refine fd_ok_pb ?_
          refine fd_ok_itp (by decide) ?_
          refine fd_ok_bd ?_
          try unfold f_X8_number_5
          refine fd_ok_gd (vp_in_iff.mpr ⟨by omega, by omega⟩) ?_
          refine fd_ok_gd (vp_in_iff.mpr ⟨by omega, by omega⟩) ?_
          refine fd_ok_pb ?_
          refine fd_ok_bd ?_
          try unfold f_X4_second_3
          have r_20 : (0 : Int) ≤ (σ3_12.2.1 24 (σ3_12.2.1 28 y3.toNatClampNeg).toNatClampNeg).toInt ∧ (σ3_12.2.1 24 (σ3_12.2.1 28 y3.toNatClampNeg).toNatClampNeg).toInt ≤ 199 := i_13.2.1 24 _
          have r_21 := i_13.2.2 (σ3_12.2.1 28 y3.toNatClampNeg).toNatClampNeg
          refine fd_ok_gd (vp_in_iff.mpr ⟨by omega, by omega⟩) ?_
          refine fd_ok_pb ?_
          refine fd_ok_pb ?_
          have r_22 : (0 : Int) ≤ (σ3_12.2.1 21 (σ3_12.2.1 24 (σ3_12.2.1 28 y3.toNatClampNeg).toNatClampNeg).toNatClampNeg).toInt ∧ (σ3_12.2.1 21 (σ3_12.2.1 24 (σ3_12.2.1 28 y3.toNatClampNeg).toNatClampNeg).toNatClampNeg).toInt ≤ 199 := i_13.2.1 21 _
          refine fd_ok_ite (fun c_23 => ?_) (fun c_23 => ?_)
          ·
            have d_24 := congrArg Int32.toInt c_23
            try unfold f_X10_giveShares_0_J51
            refine fd_ok_lt (fun x18_25 ex18_25 => ?_)
            have t_26 := fd_la ex18_25 (by omega) (by omega)
            refine fd_ok_mono (ih _ _ _ _ i_13 (by omega) (by omega) (by omega) (by omega) (by omega)) ?_
            rintro v s ⟨hi, hf, hx⟩
            exact ⟨hi, fd_fr_tr f_14 hf, trivial⟩
          ·
            have d_27 : ¬ (σ3_12.2.1 21 (σ3_12.2.1 24 (σ3_12.2.1 28 y3.toNatClampNeg).toNatClampNeg).toNatClampNeg).toInt = (-1 : Int32).toInt := fun q => c_23 (Int32.toInt_inj.mp q)
            refine fd_ok_bd ?_
            try unfold f_X3_secondNet_4
            refine fd_ok_bd ?_
            try unfold f_X8_isStuck_5
            refine fd_ok_bd ?_
            try unfold f_X8_kind_5
            refine fd_ok_gd (vp_in_iff.mpr ⟨by omega, by omega⟩) ?_
            refine fd_ok_gd (vp_in_iff.mpr ⟨by omega, by omega⟩) ?_
            refine fd_ok_pb ?_
            refine fd_ok_ite (fun c_28 => ?_) (fun c_28 => ?_)
            ·
              have d_29 := Int32.lt_iff_toInt_lt.mp c_28
              refine fd_ok_pb ?_
              refine fd_ok_itp (by decide) ?_
              refine fd_ok_bd ?_
              try unfold f_X8_number_5
              refine fd_ok_gd (vp_in_iff.mpr ⟨by omega, by omega⟩) ?_
              refine fd_ok_gd (vp_in_iff.mpr ⟨by omega, by omega⟩) ?_
              refine fd_ok_pb ?_
              refine fd_ok_bd ?_
              try unfold f_X4_second_3
              refine fd_ok_gd (vp_in_iff.mpr ⟨by omega, by omega⟩) ?_
              refine fd_ok_pb ?_
              refine fd_ok_pb ?_
              refine fd_ok_bd ?_
              try unfold f_X7_give_9
              refine fd_ok_gd (vp_in_iff.mpr ⟨by omega, by omega⟩) ?_
              refine fd_ok_gd (vp_in_iff.mpr ⟨by omega, by omega⟩) ?_
              refine fd_ok_lt (fun σ3_30 eσ3_30 => ?_)
              have i_31 : fd_InvC σ3_30 := fd_inv_sA eσ3_30 i_13 (by decide) (by decide) (fd_rng _)
              have f_32 : fd_fr [129] σ σ3_30 := fd_fr_tr f_14 (fd_fr_sA eσ3_30 (by decide))
              refine fd_ok_pb ?_
              try unfold f_X10_giveShares_0_J51
              refine fd_ok_lt (fun x18_33 ex18_33 => ?_)
              have t_34 := fd_la ex18_33 (by omega) (by omega)
              refine fd_ok_mono (ih _ _ _ _ i_31 (by omega) (by omega) (by omega) (by omega) (by omega)) ?_
              rintro v s ⟨hi, hf, hx⟩
              exact ⟨hi, fd_fr_tr f_32 hf, trivial⟩
            ·
              have d_35 := Int32.le_iff_toInt_le.mp (Int32.not_lt.mp c_28)
              refine fd_ok_pb ?_
              refine fd_ok_itn (by decide) ?_
              refine fd_ok_pb ?_
              refine fd_ok_bd ?_
              try unfold f_X7_give_9
              refine fd_ok_gd (vp_in_iff.mpr ⟨by omega, by omega⟩) ?_
              refine fd_ok_gd (vp_in_iff.mpr ⟨by omega, by omega⟩) ?_
              refine fd_ok_lt (fun σ3_36 eσ3_36 => ?_)
              have i_37 : fd_InvC σ3_36 := fd_inv_sA eσ3_36 i_13 (by decide) (by decide) (fd_rng _)
              have f_38 : fd_fr [129] σ σ3_36 := fd_fr_tr f_14 (fd_fr_sA eσ3_36 (by decide))
              refine fd_ok_pb ?_
              try unfold f_X10_giveShares_0_J51
              refine fd_ok_lt (fun x18_39 ex18_39 => ?_)
              have t_40 := fd_la ex18_39 (by omega) (by omega)
              refine fd_ok_mono (ih _ _ _ _ i_37 (by omega) (by omega) (by omega) (by omega) (by omega)) ?_
              rintro v s ⟨hi, hf, hx⟩
              exact ⟨hi, fd_fr_tr f_38 hf, trivial⟩
        ·
          have d_41 := Int32.le_iff_toInt_le.mp (Int32.not_lt.mp c_18)
          refine fd_ok_pb ?_
          refine fd_ok_itn (by decide) ?_
          refine fd_ok_pb ?_
          refine fd_ok_itp (by decide) ?_
          try unfold f_X10_giveShares_0_J51
          refine fd_ok_lt (fun x18_42 ex18_42 => ?_)
          have t_43 := fd_la ex18_42 (by omega) (by omega)
          refine fd_ok_mono (ih _ _ _ _ i_13 (by omega) (by omega) (by omega) (by omega) (by omega)) ?_
          rintro v s ⟨hi, hf, hx⟩
          exact ⟨hi, fd_fr_tr f_14 hf, trivial⟩
      ·
        have d_44 := Int32.le_iff_toInt_le.mp (Int32.not_lt.mp c_7)
        refine fd_ok_pb ?_
        refine fd_ok_itn (by decide) ?_
        refine fd_ok_pb ?_
        refine fd_ok_bd ?_
        try unfold f_X7_give_9
        have r_45 : (0 : Int) ≤ (σ.2.1 24 (σ.2.1 28 y3.toNatClampNeg).toNatClampNeg).toInt ∧ (σ.2.1 24 (σ.2.1 28 y3.toNatClampNeg).toNatClampNeg).toInt ≤ 199 := i0.2.1 24 _
        have r_46 := i0.2.2 (σ.2.1 28 y3.toNatClampNeg).toNatClampNeg
        refine fd_ok_gd (vp_in_iff.mpr ⟨by omega, by omega⟩) ?_
        refine fd_ok_gd (vp_in_iff.mpr ⟨by omega, by omega⟩) ?_
        refine fd_ok_lt (fun σ3_47 eσ3_47 => ?_)
        have i_48 : fd_InvC σ3_47 := fd_inv_sA eσ3_47 i0 (by decide) (by decide) (fd_rng _)
        have f_49 : fd_fr [129] σ σ3_47 := fd_fr_tr f0 (fd_fr_sA eσ3_47 (by decide))
        refine fd_ok_pb ?_
        refine fd_ok_bd ?_
        try unfold f_X3_secondNet_4
        refine fd_ok_bd ?_
        try unfold f_X8_isStuck_5
        refine fd_ok_bd ?_
        try unfold f_X8_kind_5
        refine fd_ok_gd (vp_in_iff.mpr ⟨by omega, by omega⟩) ?_
        have r_50 : (0 : Int) ≤ (σ3_47.2.1 28 y3.toNatClampNeg).toInt ∧ (σ3_47.2.1 28 y3.toNatClampNeg).toInt ≤ 479 := i_48.2.1 28 _
        refine fd_ok_gd (vp_in_iff.mpr ⟨by omega, by omega⟩) ?_
        refine fd_ok_pb ?_
        have r_51 : (0 : Int) ≤ (σ3_47.2.1 23 (σ3_47.2.1 28 y3.toNatClampNeg).toNatClampNeg).toInt ∧ (σ3_47.2.1 23 (σ3_47.2.1 28 y3.toNatClampNeg).toNatClampNeg).toInt ≤ 3 := i_48.2.1 23 _
        have r_52 := i_48.2.2 (σ3_47.2.1 28 y3.toNatClampNeg).toNatClampNeg
        refine fd_ok_ite (fun c_53 => ?_) (fun c_53 => ?_)
        ·
          have d_54 := Int32.lt_iff_toInt_lt.mp c_53
          refine fd_ok_pb ?_
          refine fd_ok_itp (by decide) ?_
          refine fd_ok_bd ?_
          try unfold f_X8_number_5
          refine fd_ok_gd (vp_in_iff.mpr ⟨by omega, by omega⟩) ?_
          refine fd_ok_gd (vp_in_iff.mpr ⟨by omega, by omega⟩) ?_
          refine fd_ok_pb ?_
          refine fd_ok_bd ?_
          try unfold f_X4_second_3
          have r_55 : (0 : Int) ≤ (σ3_47.2.1 24 (σ3_47.2.1 28 y3.toNatClampNeg).toNatClampNeg).toInt ∧ (σ3_47.2.1 24 (σ3_47.2.1 28 y3.toNatClampNeg).toNatClampNeg).toInt ≤ 199 := i_48.2.1 24 _
          have r_56 := i_48.2.2 (σ3_47.2.1 28 y3.toNatClampNeg).toNatClampNeg
          refine fd_ok_gd (vp_in_iff.mpr ⟨by omega, by omega⟩) ?_
          refine fd_ok_pb ?_
          refine fd_ok_pb ?_
          have r_57 : (0 : Int) ≤ (σ3_47.2.1 21 (σ3_47.2.1 24 (σ3_47.2.1 28 y3.toNatClampNeg).toNatClampNeg).toNatClampNeg).toInt ∧ (σ3_47.2.1 21 (σ3_47.2.1 24 (σ3_47.2.1 28 y3.toNatClampNeg).toNatClampNeg).toNatClampNeg).toInt ≤ 199 := i_48.2.1 21 _
          refine fd_ok_ite (fun c_58 => ?_) (fun c_58 => ?_)
          ·
            have d_59 := congrArg Int32.toInt c_58
            try unfold f_X10_giveShares_0_J51
            refine fd_ok_lt (fun x18_60 ex18_60 => ?_)
            have t_61 := fd_la ex18_60 (by omega) (by omega)
            refine fd_ok_mono (ih _ _ _ _ i_48 (by omega) (by omega) (by omega) (by omega) (by omega)) ?_
            rintro v s ⟨hi, hf, hx⟩
            exact ⟨hi, fd_fr_tr f_49 hf, trivial⟩
          ·
            have d_62 : ¬ (σ3_47.2.1 21 (σ3_47.2.1 24 (σ3_47.2.1 28 y3.toNatClampNeg).toNatClampNeg).toNatClampNeg).toInt = (-1 : Int32).toInt := fun q => c_58 (Int32.toInt_inj.mp q)
            refine fd_ok_bd ?_
            try unfold f_X3_secondNet_4
            refine fd_ok_bd ?_
            try unfold f_X8_isStuck_5
            refine fd_ok_bd ?_
            try unfold f_X8_kind_5
            refine fd_ok_gd (vp_in_iff.mpr ⟨by omega, by omega⟩) ?_
            refine fd_ok_gd (vp_in_iff.mpr ⟨by omega, by omega⟩) ?_
            refine fd_ok_pb ?_
            refine fd_ok_ite (fun c_63 => ?_) (fun c_63 => ?_)
            ·
              have d_64 := Int32.lt_iff_toInt_lt.mp c_63
              refine fd_ok_pb ?_
              refine fd_ok_itp (by decide) ?_
              refine fd_ok_bd ?_
              try unfold f_X8_number_5
              refine fd_ok_gd (vp_in_iff.mpr ⟨by omega, by omega⟩) ?_
              refine fd_ok_gd (vp_in_iff.mpr ⟨by omega, by omega⟩) ?_
              refine fd_ok_pb ?_
              refine fd_ok_bd ?_
              try unfold f_X4_second_3
              refine fd_ok_gd (vp_in_iff.mpr ⟨by omega, by omega⟩) ?_
              refine fd_ok_pb ?_
              refine fd_ok_pb ?_
              refine fd_ok_bd ?_
              try unfold f_X7_give_9
              refine fd_ok_gd (vp_in_iff.mpr ⟨by omega, by omega⟩) ?_
              refine fd_ok_gd (vp_in_iff.mpr ⟨by omega, by omega⟩) ?_
              refine fd_ok_lt (fun σ3_65 eσ3_65 => ?_)
              have i_66 : fd_InvC σ3_65 := fd_inv_sA eσ3_65 i_48 (by decide) (by decide) (fd_rng _)
              have f_67 : fd_fr [129] σ σ3_65 := fd_fr_tr f_49 (fd_fr_sA eσ3_65 (by decide))
              refine fd_ok_pb ?_
              try unfold f_X10_giveShares_0_J51
              refine fd_ok_lt (fun x18_68 ex18_68 => ?_)
              have t_69 := fd_la ex18_68 (by omega) (by omega)
              refine fd_ok_mono (ih _ _ _ _ i_66 (by omega) (by omega) (by omega) (by omega) (by omega)) ?_
              rintro v s ⟨hi, hf, hx⟩
              exact ⟨hi, fd_fr_tr f_67 hf, trivial⟩
            ·
              have d_70 := Int32.le_iff_toInt_le.mp (Int32.not_lt.mp c_63)
              refine fd_ok_pb ?_
              refine fd_ok_itn (by decide) ?_
              refine fd_ok_pb ?_
              refine fd_ok_bd ?_
              try unfold f_X7_give_9
              refine fd_ok_gd (vp_in_iff.mpr ⟨by omega, by omega⟩) ?_
              refine fd_ok_gd (vp_in_iff.mpr ⟨by omega, by omega⟩) ?_
              refine fd_ok_lt (fun σ3_71 eσ3_71 => ?_)
              have i_72 : fd_InvC σ3_71 := fd_inv_sA eσ3_71 i_48 (by decide) (by decide) (fd_rng _)
              have f_73 : fd_fr [129] σ σ3_71 := fd_fr_tr f_49 (fd_fr_sA eσ3_71 (by decide))
              refine fd_ok_pb ?_
              try unfold f_X10_giveShares_0_J51
              refine fd_ok_lt (fun x18_74 ex18_74 => ?_)
              have t_75 := fd_la ex18_74 (by omega) (by omega)
              refine fd_ok_mono (ih _ _ _ _ i_72 (by omega) (by omega) (by omega) (by omega) (by omega)) ?_
              rintro v s ⟨hi, hf, hx⟩
              exact ⟨hi, fd_fr_tr f_73 hf, trivial⟩
        ·
          have d_76 := Int32.le_iff_toInt_le.mp (Int32.not_lt.mp c_53)
          refine fd_ok_pb ?_
          refine fd_ok_itn (by decide) ?_
          refine fd_ok_pb ?_
          refine fd_ok_itp (by decide) ?_
          try unfold f_X10_giveShares_0_J51
          refine fd_ok_lt (fun x18_77 ex18_77 => ?_)
          have t_78 := fd_la ex18_77 (by omega) (by omega)
          refine fd_ok_mono (ih _ _ _ _ i_48 (by omega) (by omega) (by omega) (by omega) (by omega)) ?_
          rintro v s ⟨hi, hf, hx⟩
          exact ⟨hi, fd_fr_tr f_49 hf, trivial⟩
