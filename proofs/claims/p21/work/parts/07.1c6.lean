set_option maxHeartbeats 4000000 in
theorem s_L_near_0_39 (N : Nat) (hN : 1000 ≤ N) (p1 : Int32) (p2 : Int32) (σ : fd_St) (i0 : fd_InvC σ) : fd_ok (f_L_near_0_39 N p1 p2 σ) (fun v s => fd_InvC s ∧ fd_fr [0, 5, 117, 120, 121, 239] σ s ∧ (True)) := by
  have lit0 : (0 : Int32).toInt = 0 := by decide
  have lit1 : (1 : Int32).toInt = 1 := by decide
  have lit40 : (40 : Int32).toInt = 40 := by decide
  have f0 : fd_fr [0, 5, 117, 120, 121, 239] σ σ := fd_fr_rf
  unfold f_L_near_0_39
  refine fd_ok_bx ?_
  try unfold f_X10_near_0
  refine fd_ok_bx ?_
  try unfold f_X10_needNet_0
  refine fd_ok_bd ?_
  try unfold f_X2_has_1
  refine fd_ok_ite (fun c_1 => ?_) (fun c_1 => ?_)
  ·
    have d_2 := Int32.lt_iff_toInt_lt.mp c_1
    refine fd_ok_pb ?_
    refine fd_ok_itp (by decide) ?_
    refine fd_ok_pr ?_
    refine fd_ok_pr ?_
    refine fd_ok_itp (by decide) ?_
    refine fd_ok_lt (fun σ11_3 eσ11_3 => ?_)
    have i_4 : fd_InvC σ11_3 := by subst eσ11_3; exact i0
    have f_5 : fd_fr [0, 5, 117, 120, 121, 239] σ σ11_3 := fd_fr_mix eσ11_3 f0
    have t_6 : (σ11_3.1 1).toInt = (σ.1 1).toInt := by subst eσ11_3; rfl
    have t_7 : (σ11_3.1 5).toInt = (σ.1 5).toInt := by subst eσ11_3; rfl
    exact fd_ok_some ⟨i_4, f_5, trivial⟩
  ·
    have d_8 := Int32.le_iff_toInt_le.mp (Int32.not_lt.mp c_1)
    have r_9 : (0 : Int) ≤ (σ.1 1).toInt ∧ (σ.1 1).toInt ≤ 200 := i0.1 1
    refine fd_ok_ite (fun c_10 => ?_) (fun c_10 => ?_)
    ·
      have d_11 := Int32.le_iff_toInt_le.mp c_10
      refine fd_ok_pb ?_
      refine fd_ok_itp (by decide) ?_
      refine fd_ok_pr ?_
      refine fd_ok_pr ?_
      refine fd_ok_itp (by decide) ?_
      refine fd_ok_lt (fun σ11_12 eσ11_12 => ?_)
      have i_13 : fd_InvC σ11_12 := by subst eσ11_12; exact i0
      have f_14 : fd_fr [0, 5, 117, 120, 121, 239] σ σ11_12 := fd_fr_mix eσ11_12 f0
      have t_15 : (σ11_12.1 1).toInt = (σ.1 1).toInt := by subst eσ11_12; rfl
      have t_16 : (σ11_12.1 5).toInt = (σ.1 5).toInt := by subst eσ11_12; rfl
      exact fd_ok_some ⟨i_13, f_14, trivial⟩
    ·
      have d_17 := Int32.lt_iff_toInt_lt.mp (Int32.not_le.mp c_10)
      refine fd_ok_pb ?_
      refine fd_ok_itn (by decide) ?_
      refine fd_ok_pl ?_
      refine fd_ok_bx ?_
      try unfold f_X10_needNet_0
      refine fd_ok_bd ?_
      try unfold f_X2_has_1
      refine fd_ok_ite (fun c_18 => ?_) (fun c_18 => ?_)
      ·
        have d_19 := Int32.lt_iff_toInt_lt.mp c_18
        refine fd_ok_pb ?_
        refine fd_ok_itp (by decide) ?_
        refine fd_ok_pr ?_
        refine fd_ok_pr ?_
        refine fd_ok_itp (by decide) ?_
        refine fd_ok_lt (fun σ11_20 eσ11_20 => ?_)
        have i_21 : fd_InvC σ11_20 := by subst eσ11_20; exact i0
        have f_22 : fd_fr [0, 5, 117, 120, 121, 239] σ σ11_20 := fd_fr_mix eσ11_20 f0
        have t_23 : (σ11_20.1 1).toInt = (σ.1 1).toInt := by subst eσ11_20; rfl
        have t_24 : (σ11_20.1 5).toInt = (σ.1 5).toInt := by subst eσ11_20; rfl
        exact fd_ok_some ⟨i_21, f_22, trivial⟩
      ·
        have d_25 := Int32.le_iff_toInt_le.mp (Int32.not_lt.mp c_18)
        refine fd_ok_ite (fun c_26 => ?_) (fun c_26 => ?_)
        ·
          have d_27 := Int32.le_iff_toInt_le.mp c_26
          refine fd_ok_pb ?_
          refine fd_ok_itp (by decide) ?_
          refine fd_ok_pr ?_
          refine fd_ok_pr ?_
          refine fd_ok_itp (by decide) ?_
          refine fd_ok_lt (fun σ11_28 eσ11_28 => ?_)
          have i_29 : fd_InvC σ11_28 := by subst eσ11_28; exact i0
          have f_30 : fd_fr [0, 5, 117, 120, 121, 239] σ σ11_28 := fd_fr_mix eσ11_28 f0
          have t_31 : (σ11_28.1 1).toInt = (σ.1 1).toInt := by subst eσ11_28; rfl
          have t_32 : (σ11_28.1 5).toInt = (σ.1 5).toInt := by subst eσ11_28; rfl
          exact fd_ok_some ⟨i_29, f_30, trivial⟩
        ·
          have d_33 := Int32.lt_iff_toInt_lt.mp (Int32.not_le.mp c_26)
          refine fd_ok_pb ?_
          refine fd_ok_itn (by decide) ?_
          refine fd_ok_pl ?_
          refine fd_ok_bd ?_
          try unfold f_X4_size_3
          refine fd_ok_pb ?_
          have r_34 : (0 : Int) ≤ (σ.1 5).toInt ∧ (σ.1 5).toInt ≤ 40 := i0.1 5
          refine fd_ok_ite (fun c_35 => ?_) (fun c_35 => ?_)
          ·
            have d_36 := congrArg Int32.toInt c_35
            refine fd_ok_pr ?_
            refine fd_ok_itn (by decide) ?_
            refine fd_ok_itp (by decide) ?_
            refine fd_ok_lt (fun σ13_37 eσ13_37 => ?_)
            have i_38 : fd_InvC σ13_37 := by subst eσ13_37; exact i0
            have f_39 : fd_fr [0, 5, 117, 120, 121, 239] σ σ13_37 := fd_fr_mix eσ13_37 f0
            have t_40 : (σ13_37.1 1).toInt = (σ.1 1).toInt := by subst eσ13_37; rfl
            have t_41 : (σ13_37.1 5).toInt = (σ.1 5).toInt := by subst eσ13_37; rfl
            exact fd_ok_some ⟨i_38, f_39, trivial⟩
          ·
            have d_42 : ¬ (σ.1 5).toInt = (40 : Int32).toInt := fun q => c_35 (Int32.toInt_inj.mp q)
            refine fd_ok_bd ?_
            try unfold f_X2_oneReachesTheOther_1
            refine fd_ok_lt (fun x1_43 ex1_43 => ?_)
            have t_44 := fd_mm ex1_43
            refine fd_ok_lt (fun x2_45 ex2_45 => ?_)
            have t_46 := fd_mm ex2_45
            refine fd_ok_gd (vp_in_iff.mpr ⟨by omega, by omega⟩) ?_
            refine fd_ok_lt (fun σ4_47 eσ4_47 => ?_)
            have u_50 : (vp_nar .boolean (1 : Int32)).toInt = 1 := by decide
            have i_48 : fd_InvC σ4_47 := fd_inv_sA eσ4_47 i0 (by decide) (by decide) ⟨(by omega : (0 : Int) ≤ (vp_nar .boolean (1 : Int32)).toInt), (by omega : (vp_nar .boolean (1 : Int32)).toInt ≤ 1)⟩
            have f_49 : fd_fr [0, 5, 117, 120, 121, 239] σ σ4_47 := fd_fr_tr f0 (fd_fr_sA eσ4_47 (by decide))
            have t_51 : (σ4_47.1 1).toInt = (σ.1 1).toInt := by subst eσ4_47; rfl
            have t_52 : (σ4_47.1 5).toInt = (σ.1 5).toInt := by subst eσ4_47; rfl
            refine fd_ok_lt (fun x5_53 ex5_53 => ?_)
            have t_54 := fd_la ex5_53 (by omega) (by omega)
            refine fd_ok_cl (s_X2_oneReachesTheOther_1_L25 N hN N _ _ _ _ i_48 (by omega) (by omega) (by omega) (by omega) (by omega)) ?_
            rintro v_55 σ_56 ⟨i_57, g_58, x_59⟩
            have f_60 : fd_fr [0, 5, 117, 120, 121, 239] σ σ_56 := fd_fr_tr f_49 (fd_fr_mono g_58 (by decide))
            have t_61 : (σ_56.1 1).toInt = (σ4_47.1 1).toInt := congrArg Int32.toInt (g_58.1 1 (by decide))
            have t_62 : (σ_56.1 5).toInt = (σ4_47.1 5).toInt := congrArg Int32.toInt (g_58.1 5 (by decide))
            refine fd_ok_ite (fun c_63 => ?_) (fun c_63 => ?_)
            ·
              have d_64 := congrArg Int32.toInt c_63
              refine fd_ok_lt (fun σ25_65 eσ25_65 => ?_)
              have i_66 : fd_InvC σ25_65 := fd_inv_sI eσ25_65 i_57 ⟨(by omega : (0 : Int) ≤ (0 : Int32).toInt), (by omega : (0 : Int32).toInt ≤ 1)⟩
              have f_67 : fd_fr [0, 5, 117, 120, 121, 239] σ σ25_65 := fd_fr_tr f_60 (fd_fr_sI eσ25_65 (by decide))
              have t_68 : (σ25_65.1 1).toInt = (σ_56.1 1).toInt := congrArg Int32.toInt (fd_tN eσ25_65 (by decide))
              have t_69 : (σ25_65.1 5).toInt = (σ_56.1 5).toInt := congrArg Int32.toInt (fd_tN eσ25_65 (by decide))
              refine fd_ok_bd ?_
              try unfold f_X4_findOrAdd_3
              refine fd_ok_cl (s_X4_findOrAdd_3_L2 N hN N _ _ _ _ i_66 (by omega) (by omega) (by omega) (by omega) (by omega) (by omega) (by omega) (by omega)) ?_
              rintro v_70 σ_71 ⟨i_72, g_73, x_74⟩
              have f_75 : fd_fr [0, 5, 117, 120, 121, 239] σ σ_71 := fd_fr_tr f_67 (fd_fr_mono g_73 (by decide))
              have t_76 : (σ_71.1 1).toInt = (σ25_65.1 1).toInt := congrArg Int32.toInt (g_73.1 1 (by decide))
              refine fd_ok_pl ?_
              refine fd_ok_lt (fun σ6_77 eσ6_77 => ?_)
              have i_78 : fd_InvC σ6_77 := by subst eσ6_77; exact i_72
              have f_79 : fd_fr [0, 5, 117, 120, 121, 239] σ σ6_77 := fd_fr_mix eσ6_77 f_75
              have t_80 : (σ6_77.1 1).toInt = (σ_71.1 1).toInt := by subst eσ6_77; rfl
              have t_81 : (σ6_77.1 5).toInt = (σ_71.1 5).toInt := by subst eσ6_77; rfl
              refine fd_ok_gd (vp_in_iff.mpr ⟨by omega, by omega⟩) ?_
              refine fd_ok_lt (fun σ9_82 eσ9_82 => ?_)
              have i_83 : fd_InvC σ9_82 := fd_inv_sL eσ9_82 i_78
              have f_84 : fd_fr [0, 5, 117, 120, 121, 239] σ σ9_82 := fd_fr_tr f_79 (fd_fr_sL eσ9_82 (by decide))
              have t_85 : (σ9_82.1 1).toInt = (σ6_77.1 1).toInt := by subst eσ9_82; rfl
              have t_86 : (σ9_82.1 5).toInt = (σ6_77.1 5).toInt := by subst eσ9_82; rfl
              exact fd_ok_some ⟨i_83, f_84, trivial⟩
            ·
              have d_87 : ¬ v_55.toInt = (0 : Int32).toInt := fun q => c_63 (Int32.toInt_inj.mp q)
              refine fd_ok_pr ?_
              refine fd_ok_itn (by decide) ?_
              refine fd_ok_itn (by decide) ?_
              refine fd_ok_itp (by decide) ?_
              refine fd_ok_lt (fun σ15_88 eσ15_88 => ?_)
              have i_89 : fd_InvC σ15_88 := by subst eσ15_88; exact i_57
              have f_90 : fd_fr [0, 5, 117, 120, 121, 239] σ σ15_88 := fd_fr_mix eσ15_88 f_60
              have t_91 : (σ15_88.1 1).toInt = (σ_56.1 1).toInt := by subst eσ15_88; rfl
              have t_92 : (σ15_88.1 5).toInt = (σ_56.1 5).toInt := by subst eσ15_88; rfl
              exact fd_ok_some ⟨i_89, f_90, trivial⟩
set_option maxHeartbeats 4000000 in
theorem s_L_shows_0_39 (N : Nat) (hN : 1000 ≤ N) (p1 : Int32) (p2 : Int32) (p3 : Int32) (σ : fd_St) (i0 : fd_InvC σ) : fd_ok (f_L_shows_0_39 N p1 p2 p3 σ) (fun v s => fd_InvC s ∧ fd_fr [216, 239] σ s ∧ (True)) := by
  have lit0 : (0 : Int32).toInt = 0 := by decide
  have lit1 : (1 : Int32).toInt = 1 := by decide
  have lit3 : (3 : Int32).toInt = 3 := by decide
  have f0 : fd_fr [216, 239] σ σ := fd_fr_rf
  unfold f_L_shows_0_39
  refine fd_ok_bx ?_
  try unfold f_X10_shows_0
  refine fd_ok_bd ?_
  try unfold f_X3_hasFault_4
  refine fd_ok_ite (fun c_1 => ?_) (fun c_1 => ?_)
  ·
    have d_2 := Int32.lt_iff_toInt_lt.mp c_1
    refine fd_ok_pb ?_
    refine fd_ok_itp (by decide) ?_
    refine fd_ok_pr ?_
    refine fd_ok_itp (by decide) ?_
    refine fd_ok_lt (fun σ11_3 eσ11_3 => ?_)
    have i_4 : fd_InvC σ11_3 := by subst eσ11_3; exact i0
    have f_5 : fd_fr [216, 239] σ σ11_3 := fd_fr_mix eσ11_3 f0
    have t_6 : (σ11_3.1 1).toInt = (σ.1 1).toInt := by subst eσ11_3; rfl
    have t_7 : (σ11_3.1 4).toInt = (σ.1 4).toInt := by subst eσ11_3; rfl
    have t_8 : (σ11_3.1 5).toInt = (σ.1 5).toInt := by subst eσ11_3; rfl
    have t_9 : (σ11_3.1 18).toInt = (σ.1 18).toInt := by subst eσ11_3; rfl
    exact fd_ok_some ⟨i_4, f_5, trivial⟩
  ·
    have d_10 := Int32.le_iff_toInt_le.mp (Int32.not_lt.mp c_1)
    refine fd_ok_ite (fun c_11 => ?_) (fun c_11 => ?_)
    ·
      have d_12 := Int32.lt_iff_toInt_lt.mp c_11
      refine fd_ok_pb ?_
      refine fd_ok_itp (by decide) ?_
      refine fd_ok_pr ?_
      refine fd_ok_itp (by decide) ?_
      refine fd_ok_lt (fun σ11_13 eσ11_13 => ?_)
      have i_14 : fd_InvC σ11_13 := by subst eσ11_13; exact i0
      have f_15 : fd_fr [216, 239] σ σ11_13 := fd_fr_mix eσ11_13 f0
      have t_16 : (σ11_13.1 1).toInt = (σ.1 1).toInt := by subst eσ11_13; rfl
      have t_17 : (σ11_13.1 4).toInt = (σ.1 4).toInt := by subst eσ11_13; rfl
      have t_18 : (σ11_13.1 5).toInt = (σ.1 5).toInt := by subst eσ11_13; rfl
      have t_19 : (σ11_13.1 18).toInt = (σ.1 18).toInt := by subst eσ11_13; rfl
      exact fd_ok_some ⟨i_14, f_15, trivial⟩
    ·
      have d_20 := Int32.le_iff_toInt_le.mp (Int32.not_lt.mp c_11)
      refine fd_ok_ite (fun c_21 => ?_) (fun c_21 => ?_)
      ·
        have d_22 := Int32.lt_iff_toInt_lt.mp c_21
        refine fd_ok_pb ?_
        refine fd_ok_itp (by decide) ?_
        refine fd_ok_pr ?_
        refine fd_ok_itp (by decide) ?_
        refine fd_ok_lt (fun σ11_23 eσ11_23 => ?_)
        have i_24 : fd_InvC σ11_23 := by subst eσ11_23; exact i0
        have f_25 : fd_fr [216, 239] σ σ11_23 := fd_fr_mix eσ11_23 f0
        have t_26 : (σ11_23.1 1).toInt = (σ.1 1).toInt := by subst eσ11_23; rfl
        have t_27 : (σ11_23.1 4).toInt = (σ.1 4).toInt := by subst eσ11_23; rfl
        have t_28 : (σ11_23.1 5).toInt = (σ.1 5).toInt := by subst eσ11_23; rfl
        have t_29 : (σ11_23.1 18).toInt = (σ.1 18).toInt := by subst eσ11_23; rfl
        exact fd_ok_some ⟨i_24, f_25, trivial⟩
      ·
        have d_30 := Int32.le_iff_toInt_le.mp (Int32.not_lt.mp c_21)
        refine fd_ok_bd ?_
        try unfold f_X3_faultsOf_4
        refine fd_ok_ite (fun c_31 => ?_) (fun c_31 => ?_)
        ·
          have d_32 := Int32.lt_iff_toInt_lt.mp c_31
          refine fd_ok_bd ?_
          try unfold f_X4_size_3
          refine fd_ok_pb ?_
          refine fd_ok_pb ?_
          have r_33 : (0 : Int) ≤ (σ.1 5).toInt ∧ (σ.1 5).toInt ≤ 40 := i0.1 5
          refine fd_ok_ite (fun c_34 => ?_) (fun c_34 => ?_)
          ·
            have d_35 := Int32.le_iff_toInt_le.mp c_34
            refine fd_ok_pb ?_
            refine fd_ok_itp (by decide) ?_
            refine fd_ok_pr ?_
            refine fd_ok_itp (by decide) ?_
            refine fd_ok_lt (fun σ11_36 eσ11_36 => ?_)
            have i_37 : fd_InvC σ11_36 := by subst eσ11_36; exact i0
            have f_38 : fd_fr [216, 239] σ σ11_36 := fd_fr_mix eσ11_36 f0
            have t_39 : (σ11_36.1 1).toInt = (σ.1 1).toInt := by subst eσ11_36; rfl
            have t_40 : (σ11_36.1 4).toInt = (σ.1 4).toInt := by subst eσ11_36; rfl
            have t_41 : (σ11_36.1 5).toInt = (σ.1 5).toInt := by subst eσ11_36; rfl
            have t_42 : (σ11_36.1 18).toInt = (σ.1 18).toInt := by subst eσ11_36; rfl
            exact fd_ok_some ⟨i_37, f_38, trivial⟩
          ·
            have d_43 := Int32.lt_iff_toInt_lt.mp (Int32.not_le.mp c_34)
            refine fd_ok_pb ?_
            refine fd_ok_itn (by decide) ?_
            refine fd_ok_bx ?_
            try unfold f_X10_needOutput_0
            refine fd_ok_ite (fun c_44 => ?_) (fun c_44 => ?_)
            ·
              have d_45 := Int32.lt_iff_toInt_lt.mp c_44
              try unfold f_X10_needOutput_0_J15
              refine fd_ok_pr ?_
              refine fd_ok_pr ?_
              refine fd_ok_itp (by decide) ?_
              refine fd_ok_lt (fun σ11_46 eσ11_46 => ?_)
              have i_47 : fd_InvC σ11_46 := by subst eσ11_46; exact i0
              have f_48 : fd_fr [216, 239] σ σ11_46 := fd_fr_mix eσ11_46 f0
              have t_49 : (σ11_46.1 1).toInt = (σ.1 1).toInt := by subst eσ11_46; rfl
              have t_50 : (σ11_46.1 4).toInt = (σ.1 4).toInt := by subst eσ11_46; rfl
              have t_51 : (σ11_46.1 5).toInt = (σ.1 5).toInt := by subst eσ11_46; rfl
              have t_52 : (σ11_46.1 18).toInt = (σ.1 18).toInt := by subst eσ11_46; rfl
              exact fd_ok_some ⟨i_47, f_48, trivial⟩
            ·
              have d_53 := Int32.le_iff_toInt_le.mp (Int32.not_lt.mp c_44)
              refine fd_ok_bd ?_
              try unfold f_X5_size_2
              refine fd_ok_pb ?_
              have r_54 : (0 : Int) ≤ (σ.1 4).toInt ∧ (σ.1 4).toInt ≤ 32 := i0.1 4
              refine fd_ok_ite (fun c_55 => ?_) (fun c_55 => ?_)
              ·
                have d_56 := Int32.lt_iff_toInt_lt.mp c_55
                refine fd_ok_pl ?_
                refine fd_ok_bd ?_
                try unfold f_X3_shownBy_4
                refine fd_ok_bd ?_
                refine fd_ok_cl (s_X3_tryFault_4 N hN _ _ _ i0 (by omega) (by omega) (by omega)) ?_
                rintro v_57 σ_58 ⟨i_59, g_60, x_61⟩
                have f_62 : fd_fr [216, 239] σ σ_58 := fd_fr_tr f0 (fd_fr_mono g_60 (by decide))
                have t_63 : (σ_58.1 1).toInt = (σ.1 1).toInt := congrArg Int32.toInt (g_60.1 1 (by decide))
                have t_64 : (σ_58.1 4).toInt = (σ.1 4).toInt := congrArg Int32.toInt (g_60.1 4 (by decide))
                have t_65 : (σ_58.1 5).toInt = (σ.1 5).toInt := congrArg Int32.toInt (g_60.1 5 (by decide))
                have t_66 : (σ_58.1 18).toInt = (σ.1 18).toInt := congrArg Int32.toInt (g_60.1 18 (by decide))
                refine fd_ok_bd ?_
                try unfold f_X5_net_2
                refine fd_ok_gd (vp_in_iff.mpr ⟨by omega, by omega⟩) ?_
                refine fd_ok_pb ?_
                refine fd_ok_bd ?_
                try unfold f_X2_changed_1
                have r_67 : (0 : Int) ≤ (σ_58.2.1 18 p3.toNatClampNeg).toInt ∧ (σ_58.2.1 18 p3.toNatClampNeg).toInt ≤ 199 := i_59.2.1 18 _
                refine fd_ok_gd (vp_in_iff.mpr ⟨by omega, by omega⟩) ?_
                refine fd_ok_gd (vp_in_iff.mpr ⟨by omega, by omega⟩) ?_
                refine fd_ok_bd ?_
                refine fd_ok_cl (s_X2_counted_1 N hN _ i_59) ?_
                rintro v_68 σ_69 ⟨i_70, g_71, x_72⟩
                have f_73 : fd_fr [216, 239] σ σ_69 := fd_fr_tr f_62 (fd_fr_mono g_71 (by decide))
                have t_74 : (σ_69.1 1).toInt = (σ_58.1 1).toInt := congrArg Int32.toInt (g_71.1 1 (by decide))
                have t_75 : (σ_69.1 4).toInt = (σ_58.1 4).toInt := congrArg Int32.toInt (g_71.1 4 (by decide))
                have t_76 : (σ_69.1 5).toInt = (σ_58.1 5).toInt := congrArg Int32.toInt (g_71.1 5 (by decide))
                have t_77 : (σ_69.1 18).toInt = (σ_58.1 18).toInt := congrArg Int32.toInt (g_71.1 18 (by decide))
                refine fd_ok_pb ?_
                refine fd_ok_pb ?_
                refine fd_ok_pl ?_
                refine fd_ok_lt (fun σ6_78 eσ6_78 => ?_)
                have i_79 : fd_InvC σ6_78 := by subst eσ6_78; exact i_70
                have f_80 : fd_fr [216, 239] σ σ6_78 := fd_fr_mix eσ6_78 f_73
                have t_81 : (σ6_78.1 1).toInt = (σ_69.1 1).toInt := by subst eσ6_78; rfl
                have t_82 : (σ6_78.1 4).toInt = (σ_69.1 4).toInt := by subst eσ6_78; rfl
                have t_83 : (σ6_78.1 5).toInt = (σ_69.1 5).toInt := by subst eσ6_78; rfl
                have t_84 : (σ6_78.1 18).toInt = (σ_69.1 18).toInt := by subst eσ6_78; rfl
                refine fd_ok_gd (vp_in_iff.mpr ⟨by omega, by omega⟩) ?_
                refine fd_ok_lt (fun σ9_85 eσ9_85 => ?_)
                have i_86 : fd_InvC σ9_85 := fd_inv_sL eσ9_85 i_79
                have f_87 : fd_fr [216, 239] σ σ9_85 := fd_fr_tr f_80 (fd_fr_sL eσ9_85 (by decide))
                have t_88 : (σ9_85.1 1).toInt = (σ6_78.1 1).toInt := by subst eσ9_85; rfl
                have t_89 : (σ9_85.1 4).toInt = (σ6_78.1 4).toInt := by subst eσ9_85; rfl
                have t_90 : (σ9_85.1 5).toInt = (σ6_78.1 5).toInt := by subst eσ9_85; rfl
                have t_91 : (σ9_85.1 18).toInt = (σ6_78.1 18).toInt := by subst eσ9_85; rfl
                exact fd_ok_some ⟨i_86, f_87, trivial⟩
              ·
                have d_92 := Int32.le_iff_toInt_le.mp (Int32.not_lt.mp c_55)
                try unfold f_X10_needOutput_0_J15
                refine fd_ok_pr ?_
                refine fd_ok_pr ?_
                refine fd_ok_itp (by decide) ?_
                refine fd_ok_lt (fun σ11_93 eσ11_93 => ?_)
                have i_94 : fd_InvC σ11_93 := by subst eσ11_93; exact i0
                have f_95 : fd_fr [216, 239] σ σ11_93 := fd_fr_mix eσ11_93 f0
                have t_96 : (σ11_93.1 1).toInt = (σ.1 1).toInt := by subst eσ11_93; rfl
                have t_97 : (σ11_93.1 4).toInt = (σ.1 4).toInt := by subst eσ11_93; rfl
                have t_98 : (σ11_93.1 5).toInt = (σ.1 5).toInt := by subst eσ11_93; rfl
                have t_99 : (σ11_93.1 18).toInt = (σ.1 18).toInt := by subst eσ11_93; rfl
                exact fd_ok_some ⟨i_94, f_95, trivial⟩
        ·
          have d_100 := Int32.le_iff_toInt_le.mp (Int32.not_lt.mp c_31)
          refine fd_ok_bd ?_
          try unfold f_X2_nets_1
          refine fd_ok_pb ?_
          refine fd_ok_pb ?_
          have r_101 : (0 : Int) ≤ (σ.1 1).toInt ∧ (σ.1 1).toInt ≤ 200 := i0.1 1
          refine fd_ok_ite (fun c_102 => ?_) (fun c_102 => ?_)
          ·
            have d_103 := Int32.le_iff_toInt_le.mp c_102
            refine fd_ok_pb ?_
            refine fd_ok_itp (by decide) ?_
            refine fd_ok_pr ?_
            refine fd_ok_itp (by decide) ?_
            refine fd_ok_lt (fun σ11_104 eσ11_104 => ?_)
            have i_105 : fd_InvC σ11_104 := by subst eσ11_104; exact i0
            have f_106 : fd_fr [216, 239] σ σ11_104 := fd_fr_mix eσ11_104 f0
            have t_107 : (σ11_104.1 1).toInt = (σ.1 1).toInt := by subst eσ11_104; rfl
            have t_108 : (σ11_104.1 4).toInt = (σ.1 4).toInt := by subst eσ11_104; rfl
            have t_109 : (σ11_104.1 5).toInt = (σ.1 5).toInt := by subst eσ11_104; rfl
            have t_110 : (σ11_104.1 18).toInt = (σ.1 18).toInt := by subst eσ11_104; rfl
            exact fd_ok_some ⟨i_105, f_106, trivial⟩
          ·
            have d_111 := Int32.lt_iff_toInt_lt.mp (Int32.not_le.mp c_102)
            refine fd_ok_pb ?_
            refine fd_ok_itn (by decide) ?_
            refine fd_ok_bx ?_
            try unfold f_X10_needOutput_0
            refine fd_ok_ite (fun c_112 => ?_) (fun c_112 => ?_)
            ·
              have d_113 := Int32.lt_iff_toInt_lt.mp c_112
              try unfold f_X10_needOutput_0_J15
              refine fd_ok_pr ?_
              refine fd_ok_pr ?_
              refine fd_ok_itp (by decide) ?_
              refine fd_ok_lt (fun σ11_114 eσ11_114 => ?_)
              have i_115 : fd_InvC σ11_114 := by subst eσ11_114; exact i0
              have f_116 : fd_fr [216, 239] σ σ11_114 := fd_fr_mix eσ11_114 f0
              have t_117 : (σ11_114.1 1).toInt = (σ.1 1).toInt := by subst eσ11_114; rfl
              have t_118 : (σ11_114.1 4).toInt = (σ.1 4).toInt := by subst eσ11_114; rfl
              have t_119 : (σ11_114.1 5).toInt = (σ.1 5).toInt := by subst eσ11_114; rfl
              have t_120 : (σ11_114.1 18).toInt = (σ.1 18).toInt := by subst eσ11_114; rfl
              exact fd_ok_some ⟨i_115, f_116, trivial⟩
            ·
              have d_121 := Int32.le_iff_toInt_le.mp (Int32.not_lt.mp c_112)
              refine fd_ok_bd ?_
              try unfold f_X5_size_2
              refine fd_ok_pb ?_
              have r_122 : (0 : Int) ≤ (σ.1 4).toInt ∧ (σ.1 4).toInt ≤ 32 := i0.1 4
              refine fd_ok_ite (fun c_123 => ?_) (fun c_123 => ?_)
              ·
                have d_124 := Int32.lt_iff_toInt_lt.mp c_123
                refine fd_ok_pl ?_
                refine fd_ok_bd ?_
                try unfold f_X3_shownBy_4
                refine fd_ok_bd ?_
                refine fd_ok_cl (s_X3_tryFault_4 N hN _ _ _ i0 (by omega) (by omega) (by omega)) ?_
                rintro v_125 σ_126 ⟨i_127, g_128, x_129⟩
                have f_130 : fd_fr [216, 239] σ σ_126 := fd_fr_tr f0 (fd_fr_mono g_128 (by decide))
                have t_131 : (σ_126.1 1).toInt = (σ.1 1).toInt := congrArg Int32.toInt (g_128.1 1 (by decide))
                have t_132 : (σ_126.1 4).toInt = (σ.1 4).toInt := congrArg Int32.toInt (g_128.1 4 (by decide))
                have t_133 : (σ_126.1 5).toInt = (σ.1 5).toInt := congrArg Int32.toInt (g_128.1 5 (by decide))
                have t_134 : (σ_126.1 18).toInt = (σ.1 18).toInt := congrArg Int32.toInt (g_128.1 18 (by decide))
                refine fd_ok_bd ?_
                try unfold f_X5_net_2
                refine fd_ok_gd (vp_in_iff.mpr ⟨by omega, by omega⟩) ?_
                refine fd_ok_pb ?_
                refine fd_ok_bd ?_
                try unfold f_X2_changed_1
                have r_135 : (0 : Int) ≤ (σ_126.2.1 18 p3.toNatClampNeg).toInt ∧ (σ_126.2.1 18 p3.toNatClampNeg).toInt ≤ 199 := i_127.2.1 18 _
                refine fd_ok_gd (vp_in_iff.mpr ⟨by omega, by omega⟩) ?_
                refine fd_ok_gd (vp_in_iff.mpr ⟨by omega, by omega⟩) ?_
                refine fd_ok_bd ?_
                refine fd_ok_cl (s_X2_counted_1 N hN _ i_127) ?_
                rintro v_136 σ_137 ⟨i_138, g_139, x_140⟩
                have f_141 : fd_fr [216, 239] σ σ_137 := fd_fr_tr f_130 (fd_fr_mono g_139 (by decide))
                have t_142 : (σ_137.1 1).toInt = (σ_126.1 1).toInt := congrArg Int32.toInt (g_139.1 1 (by decide))
                have t_143 : (σ_137.1 4).toInt = (σ_126.1 4).toInt := congrArg Int32.toInt (g_139.1 4 (by decide))
                have t_144 : (σ_137.1 5).toInt = (σ_126.1 5).toInt := congrArg Int32.toInt (g_139.1 5 (by decide))
                have t_145 : (σ_137.1 18).toInt = (σ_126.1 18).toInt := congrArg Int32.toInt (g_139.1 18 (by decide))
                refine fd_ok_pb ?_
                refine fd_ok_pb ?_
                refine fd_ok_pl ?_
                refine fd_ok_lt (fun σ6_146 eσ6_146 => ?_)
                have i_147 : fd_InvC σ6_146 := by subst eσ6_146; exact i_138
                have f_148 : fd_fr [216, 239] σ σ6_146 := fd_fr_mix eσ6_146 f_141
                have t_149 : (σ6_146.1 1).toInt = (σ_137.1 1).toInt := by subst eσ6_146; rfl
                have t_150 : (σ6_146.1 4).toInt = (σ_137.1 4).toInt := by subst eσ6_146; rfl
                have t_151 : (σ6_146.1 5).toInt = (σ_137.1 5).toInt := by subst eσ6_146; rfl
                have t_152 : (σ6_146.1 18).toInt = (σ_137.1 18).toInt := by subst eσ6_146; rfl
                refine fd_ok_gd (vp_in_iff.mpr ⟨by omega, by omega⟩) ?_
                refine fd_ok_lt (fun σ9_153 eσ9_153 => ?_)
                have i_154 : fd_InvC σ9_153 := fd_inv_sL eσ9_153 i_147
                have f_155 : fd_fr [216, 239] σ σ9_153 := fd_fr_tr f_148 (fd_fr_sL eσ9_153 (by decide))
                have t_156 : (σ9_153.1 1).toInt = (σ6_146.1 1).toInt := by subst eσ9_153; rfl
                have t_157 : (σ9_153.1 4).toInt = (σ6_146.1 4).toInt := by subst eσ9_153; rfl
                have t_158 : (σ9_153.1 5).toInt = (σ6_146.1 5).toInt := by subst eσ9_153; rfl
                have t_159 : (σ9_153.1 18).toInt = (σ6_146.1 18).toInt := by subst eσ9_153; rfl
                exact fd_ok_some ⟨i_154, f_155, trivial⟩
              ·
                have d_160 := Int32.le_iff_toInt_le.mp (Int32.not_lt.mp c_123)
                try unfold f_X10_needOutput_0_J15
                refine fd_ok_pr ?_
                refine fd_ok_pr ?_
                refine fd_ok_itp (by decide) ?_
                refine fd_ok_lt (fun σ11_161 eσ11_161 => ?_)
                have i_162 : fd_InvC σ11_161 := by subst eσ11_161; exact i0
                have f_163 : fd_fr [216, 239] σ σ11_161 := fd_fr_mix eσ11_161 f0
                have t_164 : (σ11_161.1 1).toInt = (σ.1 1).toInt := by subst eσ11_161; rfl
                have t_165 : (σ11_161.1 4).toInt = (σ.1 4).toInt := by subst eσ11_161; rfl
                have t_166 : (σ11_161.1 5).toInt = (σ.1 5).toInt := by subst eσ11_161; rfl
                have t_167 : (σ11_161.1 18).toInt = (σ.1 18).toInt := by subst eσ11_161; rfl
                exact fd_ok_some ⟨i_162, f_163, trivial⟩
set_option maxHeartbeats 4000000 in
theorem s_L_suspect_0_39 (N : Nat) (hN : 1000 ≤ N) (p1 : Int32) (p2 : Int32) (σ : fd_St) (i0 : fd_InvC σ) : fd_ok (f_L_suspect_0_39 N p1 p2 σ) (fun v s => fd_InvC s ∧ fd_fr [239] σ s ∧ (True)) := by
  have lit0 : (0 : Int32).toInt = 0 := by decide
  have lit1 : (1 : Int32).toInt = 1 := by decide
  have lit2 : (2 : Int32).toInt = 2 := by decide
  have lit3 : (3 : Int32).toInt = 3 := by decide
  have lit4 : (4 : Int32).toInt = 4 := by decide
  have lit5 : (5 : Int32).toInt = 5 := by decide
  have lit6 : (6 : Int32).toInt = 6 := by decide
  have f0 : fd_fr [239] σ σ := fd_fr_rf
  unfold f_L_suspect_0_39
  refine fd_ok_bx ?_
  try unfold f_X10_suspect_0
  refine fd_ok_ite (fun c_1 => ?_) (fun c_1 => ?_)
  ·
    have d_2 := Int32.lt_iff_toInt_lt.mp c_1
    try unfold f_X10_suspect_0_J10
    refine fd_ok_pr ?_
    refine fd_ok_itp (by decide) ?_
    refine fd_ok_lt (fun σ11_3 eσ11_3 => ?_)
    have i_4 : fd_InvC σ11_3 := by subst eσ11_3; exact i0
    have f_5 : fd_fr [239] σ σ11_3 := fd_fr_mix eσ11_3 f0
    have t_6 : (σ11_3.1 0).toInt = (σ.1 0).toInt := by subst eσ11_3; rfl
    have t_7 : (σ11_3.1 6).toInt = (σ.1 6).toInt := by subst eσ11_3; rfl
    exact fd_ok_some ⟨i_4, f_5, trivial⟩
  ·
    have d_8 := Int32.le_iff_toInt_le.mp (Int32.not_lt.mp c_1)
    refine fd_ok_ite (fun c_9 => ?_) (fun c_9 => ?_)
    ·
      have d_10 := Int32.le_iff_toInt_le.mp c_9
      refine fd_ok_bx ?_
      try unfold f_X10_needTold_0
      have r_11 : (0 : Int) ≤ (σ.1 0).toInt ∧ (σ.1 0).toInt ≤ 1 := i0.1 0
      refine fd_ok_ite (fun c_12 => ?_) (fun c_12 => ?_)
      ·
        have d_13 := congrArg Int32.toInt c_12
        refine fd_ok_pr ?_
        refine fd_ok_pr ?_
        refine fd_ok_itn (by decide) ?_
        refine fd_ok_itp (by decide) ?_
        refine fd_ok_lt (fun σ13_14 eσ13_14 => ?_)
        have i_15 : fd_InvC σ13_14 := by subst eσ13_14; exact i0
        have f_16 : fd_fr [239] σ σ13_14 := fd_fr_mix eσ13_14 f0
        have t_17 : (σ13_14.1 0).toInt = (σ.1 0).toInt := by subst eσ13_14; rfl
        have t_18 : (σ13_14.1 6).toInt = (σ.1 6).toInt := by subst eσ13_14; rfl
        exact fd_ok_some ⟨i_15, f_16, trivial⟩
      ·
        have d_19 : ¬ (σ.1 0).toInt = (0 : Int32).toInt := fun q => c_12 (Int32.toInt_inj.mp q)
        refine fd_ok_pl ?_
        refine fd_ok_ite (fun c_20 => ?_) (fun c_20 => ?_)
        ·
          have d_21 := Int32.lt_iff_toInt_lt.mp c_20
          try unfold f_X10_suspect_0_J42
          refine fd_ok_pr ?_
          refine fd_ok_itp (by decide) ?_
          refine fd_ok_lt (fun σ11_22 eσ11_22 => ?_)
          have i_23 : fd_InvC σ11_22 := by subst eσ11_22; exact i0
          have f_24 : fd_fr [239] σ σ11_22 := fd_fr_mix eσ11_22 f0
          have t_25 : (σ11_22.1 0).toInt = (σ.1 0).toInt := by subst eσ11_22; rfl
          have t_26 : (σ11_22.1 6).toInt = (σ.1 6).toInt := by subst eσ11_22; rfl
          exact fd_ok_some ⟨i_23, f_24, trivial⟩
        ·
          have d_27 := Int32.le_iff_toInt_le.mp (Int32.not_lt.mp c_20)
          refine fd_ok_bd ?_
          try unfold f_X3_suspects_4
          refine fd_ok_pb ?_
          refine fd_ok_bd ?_
          try unfold f_X8_size_5
          refine fd_ok_pb ?_
          have r_28 : (0 : Int) ≤ (σ.1 6).toInt ∧ (σ.1 6).toInt ≤ 480 := i0.1 6
          refine fd_ok_ite (fun c_29 => ?_) (fun c_29 => ?_)
          ·
            have d_30 := Int32.lt_iff_toInt_lt.mp c_29
            refine fd_ok_bd ?_
            try unfold f_X10_ofSuspect_0
            refine fd_ok_bd ?_
            try unfold f_X3_suspects_4
            refine fd_ok_pb ?_
            refine fd_ok_ite (fun c_31 => ?_) (fun c_31 => ?_)
            ·
              have d_32 := congrArg Int32.toInt c_31
              refine fd_ok_bd ?_
              try unfold f_X8_kind_5
              refine fd_ok_gd (vp_in_iff.mpr ⟨by omega, by omega⟩) ?_
              have r_33 : (0 : Int) ≤ (σ.2.1 28 p1.toNatClampNeg).toInt ∧ (σ.2.1 28 p1.toNatClampNeg).toInt ≤ 479 := i0.2.1 28 _
              refine fd_ok_gd (vp_in_iff.mpr ⟨by omega, by omega⟩) ?_
              refine fd_ok_pb ?_
              refine fd_ok_pb ?_
              refine fd_ok_pl ?_
              refine fd_ok_lt (fun σ6_34 eσ6_34 => ?_)
              have i_35 : fd_InvC σ6_34 := by subst eσ6_34; exact i0
              have f_36 : fd_fr [239] σ σ6_34 := fd_fr_mix eσ6_34 f0
              have t_37 : (σ6_34.1 0).toInt = (σ.1 0).toInt := by subst eσ6_34; rfl
              have t_38 : (σ6_34.1 6).toInt = (σ.1 6).toInt := by subst eσ6_34; rfl
              refine fd_ok_gd (vp_in_iff.mpr ⟨by omega, by omega⟩) ?_
              refine fd_ok_lt (fun σ9_39 eσ9_39 => ?_)
              have i_40 : fd_InvC σ9_39 := fd_inv_sL eσ9_39 i_35
              have f_41 : fd_fr [239] σ σ9_39 := fd_fr_tr f_36 (fd_fr_sL eσ9_39 (by decide))
              have t_42 : (σ9_39.1 0).toInt = (σ6_34.1 0).toInt := by subst eσ9_39; rfl
              have t_43 : (σ9_39.1 6).toInt = (σ6_34.1 6).toInt := by subst eσ9_39; rfl
              exact fd_ok_some ⟨i_40, f_41, trivial⟩
            ·
              have d_44 : ¬ p2.toInt = (0 : Int32).toInt := fun q => c_31 (Int32.toInt_inj.mp q)
              refine fd_ok_ite (fun c_45 => ?_) (fun c_45 => ?_)
              ·
                have d_46 := congrArg Int32.toInt c_45
                refine fd_ok_bd ?_
                try unfold f_X3_firstNet_4
                refine fd_ok_bd ?_
                try unfold f_X8_number_5
                refine fd_ok_gd (vp_in_iff.mpr ⟨by omega, by omega⟩) ?_
                have r_47 : (0 : Int) ≤ (σ.2.1 28 p1.toNatClampNeg).toInt ∧ (σ.2.1 28 p1.toNatClampNeg).toInt ≤ 479 := i0.2.1 28 _
                refine fd_ok_gd (vp_in_iff.mpr ⟨by omega, by omega⟩) ?_
                refine fd_ok_pb ?_
                refine fd_ok_bd ?_
                try unfold f_X8_isStuck_5
                refine fd_ok_bd ?_
                try unfold f_X8_kind_5
                refine fd_ok_gd (vp_in_iff.mpr ⟨by omega, by omega⟩) ?_
                refine fd_ok_gd (vp_in_iff.mpr ⟨by omega, by omega⟩) ?_
                refine fd_ok_pb ?_
                have r_48 : (0 : Int) ≤ (σ.2.1 23 (σ.2.1 28 p1.toNatClampNeg).toNatClampNeg).toInt ∧ (σ.2.1 23 (σ.2.1 28 p1.toNatClampNeg).toNatClampNeg).toInt ≤ 3 := i0.2.1 23 _
                have r_49 := i0.2.2 (σ.2.1 28 p1.toNatClampNeg).toNatClampNeg
                refine fd_ok_ite (fun c_50 => ?_) (fun c_50 => ?_)
                ·
                  have d_51 := Int32.lt_iff_toInt_lt.mp c_50
                  refine fd_ok_pb ?_
                  refine fd_ok_itp (by decide) ?_
                  refine fd_ok_bd ?_
                  try unfold f_X4_first_3
                  have r_52 : (0 : Int) ≤ (σ.2.1 24 (σ.2.1 28 p1.toNatClampNeg).toNatClampNeg).toInt ∧ (σ.2.1 24 (σ.2.1 28 p1.toNatClampNeg).toNatClampNeg).toInt ≤ 199 := i0.2.1 24 _
                  have r_53 := i0.2.2 (σ.2.1 28 p1.toNatClampNeg).toNatClampNeg
                  refine fd_ok_gd (vp_in_iff.mpr ⟨by omega, by omega⟩) ?_
                  refine fd_ok_pb ?_
                  refine fd_ok_pb ?_
                  refine fd_ok_pb ?_
                  refine fd_ok_pl ?_
                  refine fd_ok_lt (fun σ6_54 eσ6_54 => ?_)
                  have i_55 : fd_InvC σ6_54 := by subst eσ6_54; exact i0
                  have f_56 : fd_fr [239] σ σ6_54 := fd_fr_mix eσ6_54 f0
                  have t_57 : (σ6_54.1 0).toInt = (σ.1 0).toInt := by subst eσ6_54; rfl
                  have t_58 : (σ6_54.1 6).toInt = (σ.1 6).toInt := by subst eσ6_54; rfl
                  refine fd_ok_gd (vp_in_iff.mpr ⟨by omega, by omega⟩) ?_
                  refine fd_ok_lt (fun σ9_59 eσ9_59 => ?_)
                  have i_60 : fd_InvC σ9_59 := fd_inv_sL eσ9_59 i_55
                  have f_61 : fd_fr [239] σ σ9_59 := fd_fr_tr f_56 (fd_fr_sL eσ9_59 (by decide))
                  have t_62 : (σ9_59.1 0).toInt = (σ6_54.1 0).toInt := by subst eσ9_59; rfl
                  have t_63 : (σ9_59.1 6).toInt = (σ6_54.1 6).toInt := by subst eσ9_59; rfl
                  exact fd_ok_some ⟨i_60, f_61, trivial⟩
                ·
                  have d_64 := Int32.le_iff_toInt_le.mp (Int32.not_lt.mp c_50)
                  refine fd_ok_pb ?_
                  refine fd_ok_itn (by decide) ?_
                  refine fd_ok_pb ?_
                  refine fd_ok_pb ?_
                  refine fd_ok_pl ?_
                  refine fd_ok_lt (fun σ6_65 eσ6_65 => ?_)
                  have i_66 : fd_InvC σ6_65 := by subst eσ6_65; exact i0
                  have f_67 : fd_fr [239] σ σ6_65 := fd_fr_mix eσ6_65 f0
                  have t_68 : (σ6_65.1 0).toInt = (σ.1 0).toInt := by subst eσ6_65; rfl
                  have t_69 : (σ6_65.1 6).toInt = (σ.1 6).toInt := by subst eσ6_65; rfl
                  refine fd_ok_gd (vp_in_iff.mpr ⟨by omega, by omega⟩) ?_
                  refine fd_ok_lt (fun σ9_70 eσ9_70 => ?_)
                  have i_71 : fd_InvC σ9_70 := fd_inv_sL eσ9_70 i_66
                  have f_72 : fd_fr [239] σ σ9_70 := fd_fr_tr f_67 (fd_fr_sL eσ9_70 (by decide))
                  have t_73 : (σ9_70.1 0).toInt = (σ6_65.1 0).toInt := by subst eσ9_70; rfl
                  have t_74 : (σ9_70.1 6).toInt = (σ6_65.1 6).toInt := by subst eσ9_70; rfl
                  exact fd_ok_some ⟨i_71, f_72, trivial⟩
              ·
                refine fd_ok_ite (fun c_76 => ?_) (fun c_76 => ?_)
                ·
                  have d_77 := congrArg Int32.toInt c_76
                  refine fd_ok_bd ?_
                  try unfold f_X3_secondNet_4
                  refine fd_ok_bd ?_
                  try unfold f_X8_isStuck_5
                  refine fd_ok_bd ?_
                  try unfold f_X8_kind_5
                  refine fd_ok_gd (vp_in_iff.mpr ⟨by omega, by omega⟩) ?_
                  have r_78 : (0 : Int) ≤ (σ.2.1 28 p1.toNatClampNeg).toInt ∧ (σ.2.1 28 p1.toNatClampNeg).toInt ≤ 479 := i0.2.1 28 _
                  refine fd_ok_gd (vp_in_iff.mpr ⟨by omega, by omega⟩) ?_
                  refine fd_ok_pb ?_
                  have r_79 : (0 : Int) ≤ (σ.2.1 23 (σ.2.1 28 p1.toNatClampNeg).toNatClampNeg).toInt ∧ (σ.2.1 23 (σ.2.1 28 p1.toNatClampNeg).toNatClampNeg).toInt ≤ 3 := i0.2.1 23 _
                  have r_80 := i0.2.2 (σ.2.1 28 p1.toNatClampNeg).toNatClampNeg
                  refine fd_ok_ite (fun c_81 => ?_) (fun c_81 => ?_)
                  ·
                    have d_82 := Int32.lt_iff_toInt_lt.mp c_81
                    refine fd_ok_pb ?_
                    refine fd_ok_itp (by decide) ?_
                    refine fd_ok_bd ?_
                    try unfold f_X8_number_5
                    refine fd_ok_gd (vp_in_iff.mpr ⟨by omega, by omega⟩) ?_
                    refine fd_ok_gd (vp_in_iff.mpr ⟨by omega, by omega⟩) ?_
                    refine fd_ok_pb ?_
                    refine fd_ok_bd ?_
                    try unfold f_X4_second_3
                    have r_83 : (0 : Int) ≤ (σ.2.1 24 (σ.2.1 28 p1.toNatClampNeg).toNatClampNeg).toInt ∧ (σ.2.1 24 (σ.2.1 28 p1.toNatClampNeg).toNatClampNeg).toInt ≤ 199 := i0.2.1 24 _
                    have r_84 := i0.2.2 (σ.2.1 28 p1.toNatClampNeg).toNatClampNeg
                    refine fd_ok_gd (vp_in_iff.mpr ⟨by omega, by omega⟩) ?_
                    refine fd_ok_pb ?_
                    refine fd_ok_pb ?_
                    refine fd_ok_pb ?_
                    refine fd_ok_pl ?_
                    refine fd_ok_lt (fun σ6_85 eσ6_85 => ?_)
                    have i_86 : fd_InvC σ6_85 := by subst eσ6_85; exact i0
                    have f_87 : fd_fr [239] σ σ6_85 := fd_fr_mix eσ6_85 f0
                    have t_88 : (σ6_85.1 0).toInt = (σ.1 0).toInt := by subst eσ6_85; rfl
                    have t_89 : (σ6_85.1 6).toInt = (σ.1 6).toInt := by subst eσ6_85; rfl
                    refine fd_ok_gd (vp_in_iff.mpr ⟨by omega, by omega⟩) ?_
                    refine fd_ok_lt (fun σ9_90 eσ9_90 => ?_)
                    have i_91 : fd_InvC σ9_90 := fd_inv_sL eσ9_90 i_86
                    have f_92 : fd_fr [239] σ σ9_90 := fd_fr_tr f_87 (fd_fr_sL eσ9_90 (by decide))
                    have t_93 : (σ9_90.1 0).toInt = (σ6_85.1 0).toInt := by subst eσ9_90; rfl
                    have t_94 : (σ9_90.1 6).toInt = (σ6_85.1 6).toInt := by subst eσ9_90; rfl
                    exact fd_ok_some ⟨i_91, f_92, trivial⟩
                  ·
                    have d_95 := Int32.le_iff_toInt_le.mp (Int32.not_lt.mp c_81)
                    refine fd_ok_pb ?_
                    refine fd_ok_itn (by decide) ?_
                    refine fd_ok_pb ?_
                    refine fd_ok_pb ?_
                    refine fd_ok_pl ?_
                    refine fd_ok_lt (fun σ6_96 eσ6_96 => ?_)
                    have i_97 : fd_InvC σ6_96 := by subst eσ6_96; exact i0
                    have f_98 : fd_fr [239] σ σ6_96 := fd_fr_mix eσ6_96 f0
                    have t_99 : (σ6_96.1 0).toInt = (σ.1 0).toInt := by subst eσ6_96; rfl
                    have t_100 : (σ6_96.1 6).toInt = (σ.1 6).toInt := by subst eσ6_96; rfl
                    refine fd_ok_gd (vp_in_iff.mpr ⟨by omega, by omega⟩) ?_
                    refine fd_ok_lt (fun σ9_101 eσ9_101 => ?_)
                    have i_102 : fd_InvC σ9_101 := fd_inv_sL eσ9_101 i_97
                    have f_103 : fd_fr [239] σ σ9_101 := fd_fr_tr f_98 (fd_fr_sL eσ9_101 (by decide))
                    have t_104 : (σ9_101.1 0).toInt = (σ6_96.1 0).toInt := by subst eσ9_101; rfl
                    have t_105 : (σ9_101.1 6).toInt = (σ6_96.1 6).toInt := by subst eσ9_101; rfl
                    exact fd_ok_some ⟨i_102, f_103, trivial⟩
                ·
                  refine fd_ok_ite (fun c_107 => ?_) (fun c_107 => ?_)
                  ·
                    have d_108 := congrArg Int32.toInt c_107
                    refine fd_ok_bd ?_
                    refine fd_ok_cl (s_X8_sum_5 N hN _ _ i0 (by omega) (by omega)) ?_
                    rintro v_109 σ_110 ⟨i_111, g_112, x_113⟩
                    have f_114 : fd_fr [239] σ σ_110 := fd_fr_tr f0 (fd_fr_mono g_112 (by decide))
                    have t_115 : (σ_110.1 0).toInt = (σ.1 0).toInt := congrArg Int32.toInt (g_112.1 0 (by decide))
                    have t_116 : (σ_110.1 6).toInt = (σ.1 6).toInt := congrArg Int32.toInt (g_112.1 6 (by decide))
                    refine fd_ok_pb ?_
                    refine fd_ok_pl ?_
                    refine fd_ok_lt (fun σ6_117 eσ6_117 => ?_)
                    have i_118 : fd_InvC σ6_117 := by subst eσ6_117; exact i_111
                    have f_119 : fd_fr [239] σ σ6_117 := fd_fr_mix eσ6_117 f_114
                    have t_120 : (σ6_117.1 0).toInt = (σ_110.1 0).toInt := by subst eσ6_117; rfl
                    have t_121 : (σ6_117.1 6).toInt = (σ_110.1 6).toInt := by subst eσ6_117; rfl
                    refine fd_ok_gd (vp_in_iff.mpr ⟨by omega, by omega⟩) ?_
                    refine fd_ok_lt (fun σ9_122 eσ9_122 => ?_)
                    have i_123 : fd_InvC σ9_122 := fd_inv_sL eσ9_122 i_118
                    have f_124 : fd_fr [239] σ σ9_122 := fd_fr_tr f_119 (fd_fr_sL eσ9_122 (by decide))
                    have t_125 : (σ9_122.1 0).toInt = (σ6_117.1 0).toInt := by subst eσ9_122; rfl
                    have t_126 : (σ9_122.1 6).toInt = (σ6_117.1 6).toInt := by subst eσ9_122; rfl
                    exact fd_ok_some ⟨i_123, f_124, trivial⟩
                  ·
                    refine fd_ok_ite (fun c_128 => ?_) (fun c_128 => ?_)
                    ·
                      have d_129 := congrArg Int32.toInt c_128
                      refine fd_ok_bd ?_
                      try unfold f_X8_explained_5
                      refine fd_ok_gd (vp_in_iff.mpr ⟨by omega, by omega⟩) ?_
                      have r_130 : (0 : Int) ≤ (σ.2.1 28 p1.toNatClampNeg).toInt ∧ (σ.2.1 28 p1.toNatClampNeg).toInt ≤ 479 := i0.2.1 28 _
                      refine fd_ok_gd (vp_in_iff.mpr ⟨by omega, by omega⟩) ?_
                      refine fd_ok_pb ?_
                      refine fd_ok_pb ?_
                      refine fd_ok_pl ?_
                      refine fd_ok_lt (fun σ6_131 eσ6_131 => ?_)
                      have i_132 : fd_InvC σ6_131 := by subst eσ6_131; exact i0
                      have f_133 : fd_fr [239] σ σ6_131 := fd_fr_mix eσ6_131 f0
                      have t_134 : (σ6_131.1 0).toInt = (σ.1 0).toInt := by subst eσ6_131; rfl
                      have t_135 : (σ6_131.1 6).toInt = (σ.1 6).toInt := by subst eσ6_131; rfl
                      refine fd_ok_gd (vp_in_iff.mpr ⟨by omega, by omega⟩) ?_
                      refine fd_ok_lt (fun σ9_136 eσ9_136 => ?_)
                      have i_137 : fd_InvC σ9_136 := fd_inv_sL eσ9_136 i_132
                      have f_138 : fd_fr [239] σ σ9_136 := fd_fr_tr f_133 (fd_fr_sL eσ9_136 (by decide))
                      have t_139 : (σ9_136.1 0).toInt = (σ6_131.1 0).toInt := by subst eσ9_136; rfl
                      have t_140 : (σ9_136.1 6).toInt = (σ6_131.1 6).toInt := by subst eσ9_136; rfl
                      exact fd_ok_some ⟨i_137, f_138, trivial⟩
                    ·
                      refine fd_ok_ite (fun c_142 => ?_) (fun c_142 => ?_)
                      ·
                        have d_143 := congrArg Int32.toInt c_142
                        refine fd_ok_bd ?_
                        try unfold f_X8_missed_5
                        refine fd_ok_gd (vp_in_iff.mpr ⟨by omega, by omega⟩) ?_
                        have r_144 : (0 : Int) ≤ (σ.2.1 28 p1.toNatClampNeg).toInt ∧ (σ.2.1 28 p1.toNatClampNeg).toInt ≤ 479 := i0.2.1 28 _
                        refine fd_ok_gd (vp_in_iff.mpr ⟨by omega, by omega⟩) ?_
                        refine fd_ok_pb ?_
                        refine fd_ok_pb ?_
                        refine fd_ok_pl ?_
                        refine fd_ok_lt (fun σ6_145 eσ6_145 => ?_)
                        have i_146 : fd_InvC σ6_145 := by subst eσ6_145; exact i0
                        have f_147 : fd_fr [239] σ σ6_145 := fd_fr_mix eσ6_145 f0
                        have t_148 : (σ6_145.1 0).toInt = (σ.1 0).toInt := by subst eσ6_145; rfl
                        have t_149 : (σ6_145.1 6).toInt = (σ.1 6).toInt := by subst eσ6_145; rfl
                        refine fd_ok_gd (vp_in_iff.mpr ⟨by omega, by omega⟩) ?_
                        refine fd_ok_lt (fun σ9_150 eσ9_150 => ?_)
                        have i_151 : fd_InvC σ9_150 := fd_inv_sL eσ9_150 i_146
                        have f_152 : fd_fr [239] σ σ9_150 := fd_fr_tr f_147 (fd_fr_sL eσ9_150 (by decide))
                        have t_153 : (σ9_150.1 0).toInt = (σ6_145.1 0).toInt := by subst eσ9_150; rfl
                        have t_154 : (σ9_150.1 6).toInt = (σ6_145.1 6).toInt := by subst eσ9_150; rfl
                        exact fd_ok_some ⟨i_151, f_152, trivial⟩
                      ·
                        refine fd_ok_bd ?_
                        try unfold f_X8_wrong_5
                        refine fd_ok_gd (vp_in_iff.mpr ⟨by omega, by omega⟩) ?_
                        have r_156 : (0 : Int) ≤ (σ.2.1 28 p1.toNatClampNeg).toInt ∧ (σ.2.1 28 p1.toNatClampNeg).toInt ≤ 479 := i0.2.1 28 _
                        refine fd_ok_gd (vp_in_iff.mpr ⟨by omega, by omega⟩) ?_
                        refine fd_ok_pb ?_
                        refine fd_ok_pb ?_
                        refine fd_ok_pl ?_
                        refine fd_ok_lt (fun σ6_157 eσ6_157 => ?_)
                        have i_158 : fd_InvC σ6_157 := by subst eσ6_157; exact i0
                        have f_159 : fd_fr [239] σ σ6_157 := fd_fr_mix eσ6_157 f0
                        have t_160 : (σ6_157.1 0).toInt = (σ.1 0).toInt := by subst eσ6_157; rfl
                        have t_161 : (σ6_157.1 6).toInt = (σ.1 6).toInt := by subst eσ6_157; rfl
                        refine fd_ok_gd (vp_in_iff.mpr ⟨by omega, by omega⟩) ?_
                        refine fd_ok_lt (fun σ9_162 eσ9_162 => ?_)
                        have i_163 : fd_InvC σ9_162 := fd_inv_sL eσ9_162 i_158
                        have f_164 : fd_fr [239] σ σ9_162 := fd_fr_tr f_159 (fd_fr_sL eσ9_162 (by decide))
                        have t_165 : (σ9_162.1 0).toInt = (σ6_157.1 0).toInt := by subst eσ9_162; rfl
                        have t_166 : (σ9_162.1 6).toInt = (σ6_157.1 6).toInt := by subst eσ9_162; rfl
                        exact fd_ok_some ⟨i_163, f_164, trivial⟩
          ·
            have d_167 := Int32.le_iff_toInt_le.mp (Int32.not_lt.mp c_29)
            try unfold f_X10_suspect_0_J42
            refine fd_ok_pr ?_
            refine fd_ok_itp (by decide) ?_
            refine fd_ok_lt (fun σ11_168 eσ11_168 => ?_)
            have i_169 : fd_InvC σ11_168 := by subst eσ11_168; exact i0
            have f_170 : fd_fr [239] σ σ11_168 := fd_fr_mix eσ11_168 f0
            have t_171 : (σ11_168.1 0).toInt = (σ.1 0).toInt := by subst eσ11_168; rfl
            have t_172 : (σ11_168.1 6).toInt = (σ.1 6).toInt := by subst eσ11_168; rfl
            exact fd_ok_some ⟨i_169, f_170, trivial⟩
    ·
      have d_173 := Int32.lt_iff_toInt_lt.mp (Int32.not_le.mp c_9)
      try unfold f_X10_suspect_0_J10
      refine fd_ok_pr ?_
      refine fd_ok_itp (by decide) ?_
      refine fd_ok_lt (fun σ11_174 eσ11_174 => ?_)
      have i_175 : fd_InvC σ11_174 := by subst eσ11_174; exact i0
      have f_176 : fd_fr [239] σ σ11_174 := fd_fr_mix eσ11_174 f0
      have t_177 : (σ11_174.1 0).toInt = (σ.1 0).toInt := by subst eσ11_174; rfl
      have t_178 : (σ11_174.1 6).toInt = (σ.1 6).toInt := by subst eσ11_174; rfl
      exact fd_ok_some ⟨i_175, f_176, trivial⟩
set_option maxHeartbeats 4000000 in
theorem s_L_pair_0_39 (N : Nat) (hN : 1000 ≤ N) (p1 : Int32) (σ : fd_St) (i0 : fd_InvC σ) : fd_ok (f_L_pair_0_39 N p1 σ) (fun v s => fd_InvC s ∧ fd_fr [239] σ s ∧ (True)) := by
  have lit0 : (0 : Int32).toInt = 0 := by decide
  have lit1 : (1 : Int32).toInt = 1 := by decide
  have lit2 : (2 : Int32).toInt = 2 := by decide
  have lit3 : (3 : Int32).toInt = 3 := by decide
  have lit4 : (4 : Int32).toInt = 4 := by decide
  have lit5 : (5 : Int32).toInt = 5 := by decide
  have f0 : fd_fr [239] σ σ := fd_fr_rf
  unfold f_L_pair_0_39
  refine fd_ok_bx ?_
  try unfold f_X10_pair_0
  refine fd_ok_ite (fun c_1 => ?_) (fun c_1 => ?_)
  ·
    have d_2 := Int32.lt_iff_toInt_lt.mp c_1
    try unfold f_X10_pair_0_J9
    refine fd_ok_pr ?_
    refine fd_ok_itp (by decide) ?_
    refine fd_ok_lt (fun σ11_3 eσ11_3 => ?_)
    have i_4 : fd_InvC σ11_3 := by subst eσ11_3; exact i0
    have f_5 : fd_fr [239] σ σ11_3 := fd_fr_mix eσ11_3 f0
    have t_6 : (σ11_3.1 0).toInt = (σ.1 0).toInt := by subst eσ11_3; rfl
    have t_7 : (σ11_3.1 7).toInt = (σ.1 7).toInt := by subst eσ11_3; rfl
    have t_8 : (σ11_3.1 8).toInt = (σ.1 8).toInt := by subst eσ11_3; rfl
    exact fd_ok_some ⟨i_4, f_5, trivial⟩
  ·
    have d_9 := Int32.le_iff_toInt_le.mp (Int32.not_lt.mp c_1)
    refine fd_ok_ite (fun c_10 => ?_) (fun c_10 => ?_)
    ·
      have d_11 := Int32.le_iff_toInt_le.mp c_10
      refine fd_ok_bx ?_
      try unfold f_X10_needTold_0
      have r_12 : (0 : Int) ≤ (σ.1 0).toInt ∧ (σ.1 0).toInt ≤ 1 := i0.1 0
      refine fd_ok_ite (fun c_13 => ?_) (fun c_13 => ?_)
      ·
        have d_14 := congrArg Int32.toInt c_13
        refine fd_ok_pr ?_
        refine fd_ok_pr ?_
        refine fd_ok_itn (by decide) ?_
        refine fd_ok_itp (by decide) ?_
        refine fd_ok_lt (fun σ13_15 eσ13_15 => ?_)
        have i_16 : fd_InvC σ13_15 := by subst eσ13_15; exact i0
        have f_17 : fd_fr [239] σ σ13_15 := fd_fr_mix eσ13_15 f0
        have t_18 : (σ13_15.1 0).toInt = (σ.1 0).toInt := by subst eσ13_15; rfl
        have t_19 : (σ13_15.1 7).toInt = (σ.1 7).toInt := by subst eσ13_15; rfl
        have t_20 : (σ13_15.1 8).toInt = (σ.1 8).toInt := by subst eσ13_15; rfl
        exact fd_ok_some ⟨i_16, f_17, trivial⟩
      ·
        have d_21 : ¬ (σ.1 0).toInt = (0 : Int32).toInt := fun q => c_13 (Int32.toInt_inj.mp q)
        refine fd_ok_pl ?_
        refine fd_ok_bd ?_
        try unfold f_X10_ofBestPair_0
        refine fd_ok_bd ?_
        try unfold f_X3_bestPair_4
        refine fd_ok_pb ?_
        refine fd_ok_ite (fun c_22 => ?_) (fun c_22 => ?_)
        ·
          have d_23 := congrArg Int32.toInt c_22
          refine fd_ok_bd ?_
          try unfold f_X0_first_6
          refine fd_ok_pb ?_
          refine fd_ok_pb ?_
          refine fd_ok_pl ?_
          refine fd_ok_lt (fun σ6_24 eσ6_24 => ?_)
          have i_25 : fd_InvC σ6_24 := by subst eσ6_24; exact i0
          have f_26 : fd_fr [239] σ σ6_24 := fd_fr_mix eσ6_24 f0
          have t_27 : (σ6_24.1 0).toInt = (σ.1 0).toInt := by subst eσ6_24; rfl
          have t_28 : (σ6_24.1 7).toInt = (σ.1 7).toInt := by subst eσ6_24; rfl
          have t_29 : (σ6_24.1 8).toInt = (σ.1 8).toInt := by subst eσ6_24; rfl
          refine fd_ok_gd (vp_in_iff.mpr ⟨by omega, by omega⟩) ?_
          refine fd_ok_lt (fun σ9_30 eσ9_30 => ?_)
          have i_31 : fd_InvC σ9_30 := fd_inv_sL eσ9_30 i_25
          have f_32 : fd_fr [239] σ σ9_30 := fd_fr_tr f_26 (fd_fr_sL eσ9_30 (by decide))
          have t_33 : (σ9_30.1 0).toInt = (σ6_24.1 0).toInt := by subst eσ9_30; rfl
          have t_34 : (σ9_30.1 7).toInt = (σ6_24.1 7).toInt := by subst eσ9_30; rfl
          have t_35 : (σ9_30.1 8).toInt = (σ6_24.1 8).toInt := by subst eσ9_30; rfl
          exact fd_ok_some ⟨i_31, f_32, trivial⟩
        ·
          have d_36 : ¬ p1.toInt = (0 : Int32).toInt := fun q => c_22 (Int32.toInt_inj.mp q)
          refine fd_ok_ite (fun c_37 => ?_) (fun c_37 => ?_)
          ·
            have d_38 := congrArg Int32.toInt c_37
            refine fd_ok_bd ?_
            try unfold f_X0_second_6
            refine fd_ok_pb ?_
            refine fd_ok_pb ?_
            refine fd_ok_pl ?_
            refine fd_ok_lt (fun σ6_39 eσ6_39 => ?_)
            have i_40 : fd_InvC σ6_39 := by subst eσ6_39; exact i0
            have f_41 : fd_fr [239] σ σ6_39 := fd_fr_mix eσ6_39 f0
            have t_42 : (σ6_39.1 0).toInt = (σ.1 0).toInt := by subst eσ6_39; rfl
            have t_43 : (σ6_39.1 7).toInt = (σ.1 7).toInt := by subst eσ6_39; rfl
            have t_44 : (σ6_39.1 8).toInt = (σ.1 8).toInt := by subst eσ6_39; rfl
            refine fd_ok_gd (vp_in_iff.mpr ⟨by omega, by omega⟩) ?_
            refine fd_ok_lt (fun σ9_45 eσ9_45 => ?_)
            have i_46 : fd_InvC σ9_45 := fd_inv_sL eσ9_45 i_40
            have f_47 : fd_fr [239] σ σ9_45 := fd_fr_tr f_41 (fd_fr_sL eσ9_45 (by decide))
            have t_48 : (σ9_45.1 0).toInt = (σ6_39.1 0).toInt := by subst eσ9_45; rfl
            have t_49 : (σ9_45.1 7).toInt = (σ6_39.1 7).toInt := by subst eσ9_45; rfl
            have t_50 : (σ9_45.1 8).toInt = (σ6_39.1 8).toInt := by subst eσ9_45; rfl
            exact fd_ok_some ⟨i_46, f_47, trivial⟩
          ·
            refine fd_ok_ite (fun c_52 => ?_) (fun c_52 => ?_)
            ·
              have d_53 := congrArg Int32.toInt c_52
              refine fd_ok_bd ?_
              try unfold f_X0_tally_6
              refine fd_ok_pb ?_
              refine fd_ok_bd ?_
              try unfold f_X9_sum_7
              refine fd_ok_pb ?_
              refine fd_ok_pb ?_
              refine fd_ok_pl ?_
              refine fd_ok_lt (fun σ6_54 eσ6_54 => ?_)
              have i_55 : fd_InvC σ6_54 := by subst eσ6_54; exact i0
              have f_56 : fd_fr [239] σ σ6_54 := fd_fr_mix eσ6_54 f0
              have t_57 : (σ6_54.1 0).toInt = (σ.1 0).toInt := by subst eσ6_54; rfl
              have t_58 : (σ6_54.1 7).toInt = (σ.1 7).toInt := by subst eσ6_54; rfl
              have t_59 : (σ6_54.1 8).toInt = (σ.1 8).toInt := by subst eσ6_54; rfl
              refine fd_ok_gd (vp_in_iff.mpr ⟨by omega, by omega⟩) ?_
              refine fd_ok_lt (fun σ9_60 eσ9_60 => ?_)
              have i_61 : fd_InvC σ9_60 := fd_inv_sL eσ9_60 i_55
              have f_62 : fd_fr [239] σ σ9_60 := fd_fr_tr f_56 (fd_fr_sL eσ9_60 (by decide))
              have t_63 : (σ9_60.1 0).toInt = (σ6_54.1 0).toInt := by subst eσ9_60; rfl
              have t_64 : (σ9_60.1 7).toInt = (σ6_54.1 7).toInt := by subst eσ9_60; rfl
              have t_65 : (σ9_60.1 8).toInt = (σ6_54.1 8).toInt := by subst eσ9_60; rfl
              exact fd_ok_some ⟨i_61, f_62, trivial⟩
            ·
              refine fd_ok_ite (fun c_67 => ?_) (fun c_67 => ?_)
              ·
                have d_68 := congrArg Int32.toInt c_67
                refine fd_ok_bd ?_
                try unfold f_X0_tally_6
                refine fd_ok_pb ?_
                refine fd_ok_bd ?_
                try unfold f_X9_explained_7
                refine fd_ok_pb ?_
                refine fd_ok_pb ?_
                refine fd_ok_pl ?_
                refine fd_ok_lt (fun σ6_69 eσ6_69 => ?_)
                have i_70 : fd_InvC σ6_69 := by subst eσ6_69; exact i0
                have f_71 : fd_fr [239] σ σ6_69 := fd_fr_mix eσ6_69 f0
                have t_72 : (σ6_69.1 0).toInt = (σ.1 0).toInt := by subst eσ6_69; rfl
                have t_73 : (σ6_69.1 7).toInt = (σ.1 7).toInt := by subst eσ6_69; rfl
                have t_74 : (σ6_69.1 8).toInt = (σ.1 8).toInt := by subst eσ6_69; rfl
                refine fd_ok_gd (vp_in_iff.mpr ⟨by omega, by omega⟩) ?_
                refine fd_ok_lt (fun σ9_75 eσ9_75 => ?_)
                have i_76 : fd_InvC σ9_75 := fd_inv_sL eσ9_75 i_70
                have f_77 : fd_fr [239] σ σ9_75 := fd_fr_tr f_71 (fd_fr_sL eσ9_75 (by decide))
                have t_78 : (σ9_75.1 0).toInt = (σ6_69.1 0).toInt := by subst eσ9_75; rfl
                have t_79 : (σ9_75.1 7).toInt = (σ6_69.1 7).toInt := by subst eσ9_75; rfl
                have t_80 : (σ9_75.1 8).toInt = (σ6_69.1 8).toInt := by subst eσ9_75; rfl
                exact fd_ok_some ⟨i_76, f_77, trivial⟩
              ·
                refine fd_ok_ite (fun c_82 => ?_) (fun c_82 => ?_)
                ·
                  have d_83 := congrArg Int32.toInt c_82
                  refine fd_ok_bd ?_
                  try unfold f_X0_tally_6
                  refine fd_ok_pb ?_
                  refine fd_ok_bd ?_
                  try unfold f_X9_missed_7
                  refine fd_ok_pb ?_
                  refine fd_ok_pb ?_
                  refine fd_ok_pl ?_
                  refine fd_ok_lt (fun σ6_84 eσ6_84 => ?_)
                  have i_85 : fd_InvC σ6_84 := by subst eσ6_84; exact i0
                  have f_86 : fd_fr [239] σ σ6_84 := fd_fr_mix eσ6_84 f0
                  have t_87 : (σ6_84.1 0).toInt = (σ.1 0).toInt := by subst eσ6_84; rfl
                  have t_88 : (σ6_84.1 7).toInt = (σ.1 7).toInt := by subst eσ6_84; rfl
                  have t_89 : (σ6_84.1 8).toInt = (σ.1 8).toInt := by subst eσ6_84; rfl
                  refine fd_ok_gd (vp_in_iff.mpr ⟨by omega, by omega⟩) ?_
                  refine fd_ok_lt (fun σ9_90 eσ9_90 => ?_)
                  have i_91 : fd_InvC σ9_90 := fd_inv_sL eσ9_90 i_85
                  have f_92 : fd_fr [239] σ σ9_90 := fd_fr_tr f_86 (fd_fr_sL eσ9_90 (by decide))
                  have t_93 : (σ9_90.1 0).toInt = (σ6_84.1 0).toInt := by subst eσ9_90; rfl
                  have t_94 : (σ9_90.1 7).toInt = (σ6_84.1 7).toInt := by subst eσ9_90; rfl
                  have t_95 : (σ9_90.1 8).toInt = (σ6_84.1 8).toInt := by subst eσ9_90; rfl
                  exact fd_ok_some ⟨i_91, f_92, trivial⟩
                ·
                  refine fd_ok_bd ?_
                  try unfold f_X0_tally_6
                  refine fd_ok_pb ?_
                  refine fd_ok_bd ?_
                  try unfold f_X9_wrong_7
                  refine fd_ok_pb ?_
                  refine fd_ok_pb ?_
                  refine fd_ok_pl ?_
                  refine fd_ok_lt (fun σ6_97 eσ6_97 => ?_)
                  have i_98 : fd_InvC σ6_97 := by subst eσ6_97; exact i0
                  have f_99 : fd_fr [239] σ σ6_97 := fd_fr_mix eσ6_97 f0
                  have t_100 : (σ6_97.1 0).toInt = (σ.1 0).toInt := by subst eσ6_97; rfl
                  have t_101 : (σ6_97.1 7).toInt = (σ.1 7).toInt := by subst eσ6_97; rfl
                  have t_102 : (σ6_97.1 8).toInt = (σ.1 8).toInt := by subst eσ6_97; rfl
                  refine fd_ok_gd (vp_in_iff.mpr ⟨by omega, by omega⟩) ?_
                  refine fd_ok_lt (fun σ9_103 eσ9_103 => ?_)
                  have i_104 : fd_InvC σ9_103 := fd_inv_sL eσ9_103 i_98
                  have f_105 : fd_fr [239] σ σ9_103 := fd_fr_tr f_99 (fd_fr_sL eσ9_103 (by decide))
                  have t_106 : (σ9_103.1 0).toInt = (σ6_97.1 0).toInt := by subst eσ9_103; rfl
                  have t_107 : (σ9_103.1 7).toInt = (σ6_97.1 7).toInt := by subst eσ9_103; rfl
                  have t_108 : (σ9_103.1 8).toInt = (σ6_97.1 8).toInt := by subst eσ9_103; rfl
                  exact fd_ok_some ⟨i_104, f_105, trivial⟩
    ·
      have d_109 := Int32.lt_iff_toInt_lt.mp (Int32.not_le.mp c_10)
      try unfold f_X10_pair_0_J9
      refine fd_ok_pr ?_
      refine fd_ok_itp (by decide) ?_
      refine fd_ok_lt (fun σ11_110 eσ11_110 => ?_)
      have i_111 : fd_InvC σ11_110 := by subst eσ11_110; exact i0
      have f_112 : fd_fr [239] σ σ11_110 := fd_fr_mix eσ11_110 f0
      have t_113 : (σ11_110.1 0).toInt = (σ.1 0).toInt := by subst eσ11_110; rfl
      have t_114 : (σ11_110.1 7).toInt = (σ.1 7).toInt := by subst eσ11_110; rfl
      have t_115 : (σ11_110.1 8).toInt = (σ.1 8).toInt := by subst eσ11_110; rfl
      exact fd_ok_some ⟨i_111, f_112, trivial⟩
set_option maxHeartbeats 4000000 in
theorem s_L_join_0_39 (N : Nat) (hN : 1000 ≤ N) (σ : fd_St) (i0 : fd_InvC σ) : fd_ok (f_L_join_0_39 N σ) (fun v s => fd_InvC s ∧ fd_fr [15, 129, 239] σ s ∧ (True)) := by
  have lit0 : (0 : Int32).toInt = 0 := by decide
  have lit1 : (1 : Int32).toInt = 1 := by decide
  have lit10 : (10 : Int32).toInt = 10 := by decide
  have lit2520 : (2520 : Int32).toInt = 2520 := by decide
  have f0 : fd_fr [15, 129, 239] σ σ := fd_fr_rf
  unfold f_L_join_0_39
  refine fd_ok_bx ?_
  try unfold f_X10_join_0
  refine fd_ok_bx ?_
  try unfold f_X10_needTold_0
  have r_1 : (0 : Int) ≤ (σ.1 0).toInt ∧ (σ.1 0).toInt ≤ 1 := i0.1 0
  refine fd_ok_ite (fun c_2 => ?_) (fun c_2 => ?_)
  ·
    have d_3 := congrArg Int32.toInt c_2
    refine fd_ok_pr ?_
    refine fd_ok_pr ?_
    refine fd_ok_itp (by decide) ?_
    refine fd_ok_lt (fun σ11_4 eσ11_4 => ?_)
    have i_5 : fd_InvC σ11_4 := by subst eσ11_4; exact i0
    have f_6 : fd_fr [15, 129, 239] σ σ11_4 := fd_fr_mix eσ11_4 f0
    have t_7 : (σ11_4.1 0).toInt = (σ.1 0).toInt := by subst eσ11_4; rfl
    exact fd_ok_some ⟨i_5, f_6, trivial⟩
  ·
    have d_8 : ¬ (σ.1 0).toInt = (0 : Int32).toInt := fun q => c_2 (Int32.toInt_inj.mp q)
    refine fd_ok_pl ?_
    refine fd_ok_bd ?_
    try unfold f_X3_suspects_4
    refine fd_ok_pb ?_
    refine fd_ok_bd ?_
    try unfold f_X8_withLeastSum_5
    refine fd_ok_cl (s_X8_withLeastSum_5_L2 N hN N _ _ i0 (by omega) (by omega) (by omega)) ?_
    rintro v_9 σ_10 ⟨i_11, g_12, x_13⟩
    have f_14 : fd_fr [15, 129, 239] σ σ_10 := fd_fr_tr f0 (fd_fr_mono g_12 (by decide))
    have t_15 : (σ_10.1 0).toInt = (σ.1 0).toInt := congrArg Int32.toInt (g_12.1 0 (by decide))
    refine fd_ok_bd ?_
    try unfold f_X7_countChip_9
    refine fd_ok_lt (fun σ1_16 eσ1_16 => ?_)
    have i_17 : fd_InvC σ1_16 := fd_inv_sI eσ1_16 i_11 (fd_rng _)
    have f_18 : fd_fr [15, 129, 239] σ σ1_16 := fd_fr_tr f_14 (fd_fr_sI eσ1_16 (by decide))
    have t_19 : (σ1_16.1 0).toInt = (σ_10.1 0).toInt := congrArg Int32.toInt (fd_tN eσ1_16 (by decide))
    refine fd_ok_pb ?_
    refine fd_ok_ite (fun c_20 => ?_) (fun c_20 => ?_)
    ·
      have d_21 := Int32.le_iff_toInt_le.mp c_20
      refine fd_ok_pl ?_
      refine fd_ok_lt (fun σ6_22 eσ6_22 => ?_)
      have i_23 : fd_InvC σ6_22 := by subst eσ6_22; exact i_17
      have f_24 : fd_fr [15, 129, 239] σ σ6_22 := fd_fr_mix eσ6_22 f_18
      have t_25 : (σ6_22.1 0).toInt = (σ1_16.1 0).toInt := by subst eσ6_22; rfl
      refine fd_ok_gd (vp_in_iff.mpr ⟨by omega, by omega⟩) ?_
      refine fd_ok_lt (fun σ9_26 eσ9_26 => ?_)
      have i_27 : fd_InvC σ9_26 := fd_inv_sL eσ9_26 i_23
      have f_28 : fd_fr [15, 129, 239] σ σ9_26 := fd_fr_tr f_24 (fd_fr_sL eσ9_26 (by decide))
      have t_29 : (σ9_26.1 0).toInt = (σ6_22.1 0).toInt := by subst eσ9_26; rfl
      exact fd_ok_some ⟨i_27, f_28, trivial⟩
    ·
      have d_30 := Int32.lt_iff_toInt_lt.mp (Int32.not_le.mp c_20)
      refine fd_ok_ite (fun c_31 => ?_) (fun c_31 => ?_)
      ·
        have d_32 := Int32.lt_iff_toInt_lt.mp c_31
        refine fd_ok_pl ?_
        refine fd_ok_lt (fun σ6_33 eσ6_33 => ?_)
        have i_34 : fd_InvC σ6_33 := by subst eσ6_33; exact i_17
        have f_35 : fd_fr [15, 129, 239] σ σ6_33 := fd_fr_mix eσ6_33 f_18
        have t_36 : (σ6_33.1 0).toInt = (σ1_16.1 0).toInt := by subst eσ6_33; rfl
        refine fd_ok_gd (vp_in_iff.mpr ⟨by omega, by omega⟩) ?_
        refine fd_ok_lt (fun σ9_37 eσ9_37 => ?_)
        have i_38 : fd_InvC σ9_37 := fd_inv_sL eσ9_37 i_34
        have f_39 : fd_fr [15, 129, 239] σ σ9_37 := fd_fr_tr f_35 (fd_fr_sL eσ9_37 (by decide))
        have t_40 : (σ9_37.1 0).toInt = (σ6_33.1 0).toInt := by subst eσ9_37; rfl
        exact fd_ok_some ⟨i_38, f_39, trivial⟩
      ·
        have d_41 := Int32.le_iff_toInt_le.mp (Int32.not_lt.mp c_31)
        refine fd_ok_gd (fun q => by have := congrArg Int32.toInt q; omega) ?_
        refine fd_ok_bd ?_
        try unfold f_X10_giveShares_0
        refine fd_ok_cl (s_X10_giveShares_0_L2 N hN N _ _ _ _ i_17 (by omega) (by omega) (by omega) (by omega) (by omega)) ?_
        rintro v_42 σ_43 ⟨i_44, g_45, x_46⟩
        have f_47 : fd_fr [15, 129, 239] σ σ_43 := fd_fr_tr f_18 (fd_fr_mono g_45 (by decide))
        have t_48 : (σ_43.1 0).toInt = (σ1_16.1 0).toInt := congrArg Int32.toInt (g_45.1 0 (by decide))
        refine fd_ok_pl ?_
        refine fd_ok_lt (fun σ6_49 eσ6_49 => ?_)
        have i_50 : fd_InvC σ6_49 := by subst eσ6_49; exact i_44
        have f_51 : fd_fr [15, 129, 239] σ σ6_49 := fd_fr_mix eσ6_49 f_47
        have t_52 : (σ6_49.1 0).toInt = (σ_43.1 0).toInt := by subst eσ6_49; rfl
        refine fd_ok_gd (vp_in_iff.mpr ⟨by omega, by omega⟩) ?_
        refine fd_ok_lt (fun σ9_53 eσ9_53 => ?_)
        have i_54 : fd_InvC σ9_53 := fd_inv_sL eσ9_53 i_50
        have f_55 : fd_fr [15, 129, 239] σ σ9_53 := fd_fr_tr f_51 (fd_fr_sL eσ9_53 (by decide))
        have t_56 : (σ9_53.1 0).toInt = (σ6_49.1 0).toInt := by subst eσ9_53; rfl
        exact fd_ok_some ⟨i_54, f_55, trivial⟩
set_option maxHeartbeats 4000000 in
theorem s_L_share_0_39 (N : Nat) (hN : 1000 ≤ N) (p1 : Int32) (σ : fd_St) (i0 : fd_InvC σ) : fd_ok (f_L_share_0_39 N p1 σ) (fun v s => fd_InvC s ∧ fd_fr [239] σ s ∧ (True)) := by
  have lit0 : (0 : Int32).toInt = 0 := by decide
  have lit1 : (1 : Int32).toInt = 1 := by decide
  have f0 : fd_fr [239] σ σ := fd_fr_rf
  unfold f_L_share_0_39
  refine fd_ok_bx ?_
  try unfold f_X10_share_0
  refine fd_ok_bx ?_
  try unfold f_X10_needNet_0
  refine fd_ok_bd ?_
  try unfold f_X2_has_1
  refine fd_ok_ite (fun c_1 => ?_) (fun c_1 => ?_)
  ·
    have d_2 := Int32.lt_iff_toInt_lt.mp c_1
    refine fd_ok_pb ?_
    refine fd_ok_itp (by decide) ?_
    refine fd_ok_pr ?_
    refine fd_ok_pr ?_
    refine fd_ok_itp (by decide) ?_
    refine fd_ok_lt (fun σ11_3 eσ11_3 => ?_)
    have i_4 : fd_InvC σ11_3 := by subst eσ11_3; exact i0
    have f_5 : fd_fr [239] σ σ11_3 := fd_fr_mix eσ11_3 f0
    have t_6 : (σ11_3.1 1).toInt = (σ.1 1).toInt := by subst eσ11_3; rfl
    exact fd_ok_some ⟨i_4, f_5, trivial⟩
  ·
    have d_7 := Int32.le_iff_toInt_le.mp (Int32.not_lt.mp c_1)
    have r_8 : (0 : Int) ≤ (σ.1 1).toInt ∧ (σ.1 1).toInt ≤ 200 := i0.1 1
    refine fd_ok_ite (fun c_9 => ?_) (fun c_9 => ?_)
    ·
      have d_10 := Int32.le_iff_toInt_le.mp c_9
      refine fd_ok_pb ?_
      refine fd_ok_itp (by decide) ?_
      refine fd_ok_pr ?_
      refine fd_ok_pr ?_
      refine fd_ok_itp (by decide) ?_
      refine fd_ok_lt (fun σ11_11 eσ11_11 => ?_)
      have i_12 : fd_InvC σ11_11 := by subst eσ11_11; exact i0
      have f_13 : fd_fr [239] σ σ11_11 := fd_fr_mix eσ11_11 f0
      have t_14 : (σ11_11.1 1).toInt = (σ.1 1).toInt := by subst eσ11_11; rfl
      exact fd_ok_some ⟨i_12, f_13, trivial⟩
    ·
      have d_15 := Int32.lt_iff_toInt_lt.mp (Int32.not_le.mp c_9)
      refine fd_ok_pb ?_
      refine fd_ok_itn (by decide) ?_
      refine fd_ok_pl ?_
      refine fd_ok_bd ?_
      try unfold f_X7_of_9
      refine fd_ok_gd (vp_in_iff.mpr ⟨by omega, by omega⟩) ?_
      refine fd_ok_pb ?_
      refine fd_ok_pl ?_
      refine fd_ok_lt (fun σ6_16 eσ6_16 => ?_)
      have i_17 : fd_InvC σ6_16 := by subst eσ6_16; exact i0
      have f_18 : fd_fr [239] σ σ6_16 := fd_fr_mix eσ6_16 f0
      have t_19 : (σ6_16.1 1).toInt = (σ.1 1).toInt := by subst eσ6_16; rfl
      refine fd_ok_gd (vp_in_iff.mpr ⟨by omega, by omega⟩) ?_
      refine fd_ok_lt (fun σ9_20 eσ9_20 => ?_)
      have i_21 : fd_InvC σ9_20 := fd_inv_sL eσ9_20 i_17
      have f_22 : fd_fr [239] σ σ9_20 := fd_fr_tr f_18 (fd_fr_sL eσ9_20 (by decide))
      have t_23 : (σ9_20.1 1).toInt = (σ6_16.1 1).toInt := by subst eσ9_20; rfl
      exact fd_ok_some ⟨i_21, f_22, trivial⟩
set_option maxHeartbeats 4000000 in
theorem s_L_chain_0 (N : Nat) (hN : 1000 ≤ N) (p1 : Int32) (σ : fd_St) (i0 : fd_InvC σ) : fd_ok (f_L_chain_0 N p1 σ) (fun v s => fd_InvC s ∧ fd_fr [16, 17] σ s ∧ (((p1.toInt < 1 ∨ 64 < p1.toInt) ∧ v.toInt = 1 ∧ (s.1 16).toInt = (σ.1 16).toInt ∧ (s.1 17).toInt = (σ.1 17).toInt) ∨ (¬ (p1.toInt < 1 ∨ 64 < p1.toInt) ∧ v.toInt = 0 ∧ (s.1 16).toInt = p1.toInt ∧ (s.1 17).toInt = 0))) := by
  have lit0 : (0 : Int32).toInt = 0 := by decide
  have lit1 : (1 : Int32).toInt = 1 := by decide
  have lit64 : (64 : Int32).toInt = 64 := by decide
  have f0 : fd_fr [16, 17] σ σ := fd_fr_rf
  unfold f_L_chain_0
  refine fd_ok_bx ?_
  try unfold f_X10_chain_0
  refine fd_ok_ite (fun c_1 => ?_) (fun c_1 => ?_)
  ·
    have d_2 := Int32.lt_iff_toInt_lt.mp c_1
    try unfold f_X10_chain_0_J11
    refine fd_ok_pr ?_
    refine fd_ok_itp (by decide) ?_
    refine fd_ok_lt (fun σ9_3 eσ9_3 => ?_)
    have i_4 : fd_InvC σ9_3 := by subst eσ9_3; exact i0
    have f_5 : fd_fr [16, 17] σ σ9_3 := fd_fr_mix eσ9_3 f0
    have t_6 : (σ9_3.1 16).toInt = (σ.1 16).toInt := by subst eσ9_3; rfl
    have t_7 : (σ9_3.1 17).toInt = (σ.1 17).toInt := by subst eσ9_3; rfl
    have x_8 : ((p1.toInt < 1 ∨ 64 < p1.toInt) ∧ (1 : Int32).toInt = 1 ∧ (σ9_3.1 16).toInt = (σ.1 16).toInt ∧ (σ9_3.1 17).toInt = (σ.1 17).toInt) ∨ (¬ (p1.toInt < 1 ∨ 64 < p1.toInt) ∧ (1 : Int32).toInt = 0 ∧ (σ9_3.1 16).toInt = p1.toInt ∧ (σ9_3.1 17).toInt = 0) := by omega
    exact fd_ok_some ⟨i_4, f_5, x_8⟩
  ·
    have d_9 := Int32.le_iff_toInt_le.mp (Int32.not_lt.mp c_1)
    refine fd_ok_ite (fun c_10 => ?_) (fun c_10 => ?_)
    ·
      have d_11 := Int32.le_iff_toInt_le.mp c_10
      refine fd_ok_bd ?_
      try unfold f_X1_begin_10
      refine fd_ok_lt (fun σ1_12 eσ1_12 => ?_)
      have i_13 : fd_InvC σ1_12 := fd_inv_sI eσ1_12 i0 ⟨(by omega : (0 : Int) ≤ p1.toInt), (by omega : p1.toInt ≤ 64)⟩
      have f_14 : fd_fr [16, 17] σ σ1_12 := fd_fr_tr f0 (fd_fr_sI eσ1_12 (by decide))
      have t_15 : (σ1_12.1 16).toInt = p1.toInt := congrArg Int32.toInt (fd_tI eσ1_12)
      have t_16 : (σ1_12.1 17).toInt = (σ.1 17).toInt := congrArg Int32.toInt (fd_tN eσ1_12 (by decide))
      refine fd_ok_lt (fun σ2_17 eσ2_17 => ?_)
      have i_18 : fd_InvC σ2_17 := fd_inv_sI eσ2_17 i_13 ⟨(by omega : (0 : Int) ≤ (0 : Int32).toInt), (by omega : (0 : Int32).toInt ≤ 30)⟩
      have f_19 : fd_fr [16, 17] σ σ2_17 := fd_fr_tr f_14 (fd_fr_sI eσ2_17 (by decide))
      have t_20 : (σ2_17.1 16).toInt = (σ1_12.1 16).toInt := congrArg Int32.toInt (fd_tN eσ2_17 (by decide))
      have t_21 : (σ2_17.1 17).toInt = (0 : Int32).toInt := congrArg Int32.toInt (fd_tI eσ2_17)
      refine fd_ok_pb ?_
      refine fd_ok_pl ?_
      refine fd_ok_lt (fun σ6_22 eσ6_22 => ?_)
      have i_23 : fd_InvC σ6_22 := by subst eσ6_22; exact i_18
      have f_24 : fd_fr [16, 17] σ σ6_22 := fd_fr_mix eσ6_22 f_19
      have t_25 : (σ6_22.1 16).toInt = (σ2_17.1 16).toInt := by subst eσ6_22; rfl
      have t_26 : (σ6_22.1 17).toInt = (σ2_17.1 17).toInt := by subst eσ6_22; rfl
      have x_27 : ((p1.toInt < 1 ∨ 64 < p1.toInt) ∧ (0 : Int32).toInt = 1 ∧ (σ6_22.1 16).toInt = (σ.1 16).toInt ∧ (σ6_22.1 17).toInt = (σ.1 17).toInt) ∨ (¬ (p1.toInt < 1 ∨ 64 < p1.toInt) ∧ (0 : Int32).toInt = 0 ∧ (σ6_22.1 16).toInt = p1.toInt ∧ (σ6_22.1 17).toInt = 0) := by omega
      exact fd_ok_some ⟨i_23, f_24, x_27⟩
    ·
      have d_28 := Int32.lt_iff_toInt_lt.mp (Int32.not_le.mp c_10)
      try unfold f_X10_chain_0_J11
      refine fd_ok_pr ?_
      refine fd_ok_itp (by decide) ?_
      refine fd_ok_lt (fun σ9_29 eσ9_29 => ?_)
      have i_30 : fd_InvC σ9_29 := by subst eσ9_29; exact i0
      have f_31 : fd_fr [16, 17] σ σ9_29 := fd_fr_mix eσ9_29 f0
      have t_32 : (σ9_29.1 16).toInt = (σ.1 16).toInt := by subst eσ9_29; rfl
      have t_33 : (σ9_29.1 17).toInt = (σ.1 17).toInt := by subst eσ9_29; rfl
      have x_34 : ((p1.toInt < 1 ∨ 64 < p1.toInt) ∧ (1 : Int32).toInt = 1 ∧ (σ9_29.1 16).toInt = (σ.1 16).toInt ∧ (σ9_29.1 17).toInt = (σ.1 17).toInt) ∨ (¬ (p1.toInt < 1 ∨ 64 < p1.toInt) ∧ (1 : Int32).toInt = 0 ∧ (σ9_29.1 16).toInt = p1.toInt ∧ (σ9_29.1 17).toInt = 0) := by omega
      exact fd_ok_some ⟨i_30, f_31, x_34⟩
