set_option maxHeartbeats 4000000 in
theorem s_X11_run_0 (N : Nat) (hN : 1000 ≤ N) (σ : fd_St) (i0 : fd_InvM σ) : fd_ok (f_X11_run_0 N σ) (fun v s => fd_InvM s ∧ fd_fr [0, 6, 7, 8, 9, 10, 112, 113, 114, 115, 116, 117, 118, 209, 210] σ s ∧ (True)) := by
  have lit0 : (0 : Int32).toInt = 0 := by decide
  have lit1 : (1 : Int32).toInt = 1 := by decide
  have f0 : fd_fr [0, 6, 7, 8, 9, 10, 112, 113, 114, 115, 116, 117, 118, 209, 210] σ σ := fd_fr_rf
  unfold f_X11_run_0
  refine fd_ok_lt (fun σ1_1 eσ1_1 => ?_)
  have i_2 : fd_InvM σ1_1 := fd_inv_sI eσ1_1 i0 (fd_rng _)
  have f_3 : fd_fr [0, 6, 7, 8, 9, 10, 112, 113, 114, 115, 116, 117, 118, 209, 210] σ σ1_1 := fd_fr_tr f0 (fd_fr_sI eσ1_1 (by decide))
  have t_4 : (σ1_1.1 7).toInt = (σ.1 7).toInt := congrArg Int32.toInt (fd_tN eσ1_1 (by decide))
  refine fd_ok_bd ?_
  try unfold f_X11_workPlain_0
  refine fd_ok_cl (s_X11_workPlain_0_L2 N hN N _ _ i_2 (by omega) (by omega) (by omega)) ?_
  rintro v_5 σ_6 ⟨i_7, g_8, x_9⟩
  have f_10 : fd_fr [0, 6, 7, 8, 9, 10, 112, 113, 114, 115, 116, 117, 118, 209, 210] σ σ_6 := fd_fr_tr f_3 (fd_fr_mono g_8 (by decide))
  have t_11 : (σ_6.1 7).toInt = (σ1_1.1 7).toInt := congrArg Int32.toInt (g_8.1 7 (by decide))
  refine fd_ok_lt (fun σ7_12 eσ7_12 => ?_)
  have i_13 : fd_InvM σ7_12 := fd_inv_sI eσ7_12 i_7 ⟨(by omega : (0 : Int) ≤ (0 : Int32).toInt), (by omega : (0 : Int32).toInt ≤ 480)⟩
  have f_14 : fd_fr [0, 6, 7, 8, 9, 10, 112, 113, 114, 115, 116, 117, 118, 209, 210] σ σ7_12 := fd_fr_tr f_10 (fd_fr_sI eσ7_12 (by decide))
  have t_15 : (σ7_12.1 7).toInt = (0 : Int32).toInt := congrArg Int32.toInt (fd_tI eσ7_12)
  refine fd_ok_mono (s_X11_run_0_L16 N hN N _ _ i_13 (by omega) (by omega) (by omega) (by omega)) ?_
  rintro v s ⟨hi, hf, hx⟩
  exact ⟨hi, fd_fr_tr f_14 (fd_fr_mono hf (by decide)), trivial⟩
set_option maxHeartbeats 4000000 in
theorem s_X11_suspect_0 (N : Nat) (hN : 1000 ≤ N) (p1 : Int32) (p2 : Int32) (σ : fd_St) (i0 : fd_InvM σ) : fd_ok (f_X11_suspect_0 N p1 p2 σ) (fun v s => fd_InvM s ∧ fd_fr [0] σ s ∧ (True)) := by
  have lit0 : (0 : Int32).toInt = 0 := by decide
  have lit1 : (1 : Int32).toInt = 1 := by decide
  have lit2 : (2 : Int32).toInt = 2 := by decide
  have lit3 : (3 : Int32).toInt = 3 := by decide
  have lit4 : (4 : Int32).toInt = 4 := by decide
  have lit5 : (5 : Int32).toInt = 5 := by decide
  have lit7 : (7 : Int32).toInt = 7 := by decide
  have f0 : fd_fr [0] σ σ := fd_fr_rf
  unfold f_X11_suspect_0
  refine fd_ok_bd ?_
  try unfold f_X11_isIn
  refine fd_ok_ite (fun c_1 => ?_) (fun c_1 => ?_)
  ·
    have d_2 := Int32.lt_iff_toInt_lt.mp c_1
    refine fd_ok_pb ?_
    refine fd_ok_itp (by decide) ?_
    try unfold f_X11_suspect_0_J41
    refine fd_ok_lt (fun σ14_3 eσ14_3 => ?_)
    have i_4 : fd_InvM σ14_3 := fd_inv_sI eσ14_3 i0 (fd_rng _)
    have f_5 : fd_fr [0] σ σ14_3 := fd_fr_tr f0 (fd_fr_sI eσ14_3 (by decide))
    have t_6 : (σ14_3.1 0).toInt = (1 : Int32).toInt := congrArg Int32.toInt (fd_tI eσ14_3)
    have t_7 : (σ14_3.1 6).toInt = (σ.1 6).toInt := congrArg Int32.toInt (fd_tN eσ14_3 (by decide))
    have t_8 : (σ14_3.1 7).toInt = (σ.1 7).toInt := congrArg Int32.toInt (fd_tN eσ14_3 (by decide))
    have t_9 : (σ14_3.1 12).toInt = (σ.1 12).toInt := congrArg Int32.toInt (fd_tN eσ14_3 (by decide))
    have t_10 : (σ14_3.1 13).toInt = (σ.1 13).toInt := congrArg Int32.toInt (fd_tN eσ14_3 (by decide))
    have t_11 : (σ14_3.1 14).toInt = (σ.1 14).toInt := congrArg Int32.toInt (fd_tN eσ14_3 (by decide))
    have r_12 := fd_rng (σ14_3.1 0)
    refine fd_ok_itn (Int32.not_le.mpr (Int32.lt_iff_toInt_lt.mpr (by omega))) ?_
    exact fd_ok_some ⟨i_4, f_5, trivial⟩
  ·
    have d_13 := Int32.le_iff_toInt_le.mp (Int32.not_lt.mp c_1)
    refine fd_ok_ite (fun c_14 => ?_) (fun c_14 => ?_)
    ·
      have d_15 := Int32.le_iff_toInt_le.mp c_14
      refine fd_ok_pb ?_
      refine fd_ok_itp (by decide) ?_
      try unfold f_X11_suspect_0_J41
      refine fd_ok_lt (fun σ14_16 eσ14_16 => ?_)
      have i_17 : fd_InvM σ14_16 := fd_inv_sI eσ14_16 i0 (fd_rng _)
      have f_18 : fd_fr [0] σ σ14_16 := fd_fr_tr f0 (fd_fr_sI eσ14_16 (by decide))
      have t_19 : (σ14_16.1 0).toInt = (1 : Int32).toInt := congrArg Int32.toInt (fd_tI eσ14_16)
      have t_20 : (σ14_16.1 6).toInt = (σ.1 6).toInt := congrArg Int32.toInt (fd_tN eσ14_16 (by decide))
      have t_21 : (σ14_16.1 7).toInt = (σ.1 7).toInt := congrArg Int32.toInt (fd_tN eσ14_16 (by decide))
      have t_22 : (σ14_16.1 12).toInt = (σ.1 12).toInt := congrArg Int32.toInt (fd_tN eσ14_16 (by decide))
      have t_23 : (σ14_16.1 13).toInt = (σ.1 13).toInt := congrArg Int32.toInt (fd_tN eσ14_16 (by decide))
      have t_24 : (σ14_16.1 14).toInt = (σ.1 14).toInt := congrArg Int32.toInt (fd_tN eσ14_16 (by decide))
      have r_25 := fd_rng (σ14_16.1 0)
      refine fd_ok_itn (Int32.not_le.mpr (Int32.lt_iff_toInt_lt.mpr (by omega))) ?_
      exact fd_ok_some ⟨i_17, f_18, trivial⟩
    ·
      have d_26 := Int32.lt_iff_toInt_lt.mp (Int32.not_le.mp c_14)
      refine fd_ok_pb ?_
      refine fd_ok_itn (by decide) ?_
      have r_27 : (0 : Int) ≤ (σ.1 6).toInt ∧ (σ.1 6).toInt ≤ 1 := i0.1 6
      refine fd_ok_ite (fun c_28 => ?_) (fun c_28 => ?_)
      ·
        have d_29 := congrArg Int32.toInt c_28
        try unfold f_X11_suspect_0_J41
        refine fd_ok_lt (fun σ14_30 eσ14_30 => ?_)
        have i_31 : fd_InvM σ14_30 := fd_inv_sI eσ14_30 i0 (fd_rng _)
        have f_32 : fd_fr [0] σ σ14_30 := fd_fr_tr f0 (fd_fr_sI eσ14_30 (by decide))
        have t_33 : (σ14_30.1 0).toInt = (2 : Int32).toInt := congrArg Int32.toInt (fd_tI eσ14_30)
        have t_34 : (σ14_30.1 6).toInt = (σ.1 6).toInt := congrArg Int32.toInt (fd_tN eσ14_30 (by decide))
        have t_35 : (σ14_30.1 7).toInt = (σ.1 7).toInt := congrArg Int32.toInt (fd_tN eσ14_30 (by decide))
        have t_36 : (σ14_30.1 12).toInt = (σ.1 12).toInt := congrArg Int32.toInt (fd_tN eσ14_30 (by decide))
        have t_37 : (σ14_30.1 13).toInt = (σ.1 13).toInt := congrArg Int32.toInt (fd_tN eσ14_30 (by decide))
        have t_38 : (σ14_30.1 14).toInt = (σ.1 14).toInt := congrArg Int32.toInt (fd_tN eσ14_30 (by decide))
        have r_39 := fd_rng (σ14_30.1 0)
        refine fd_ok_itn (Int32.not_le.mpr (Int32.lt_iff_toInt_lt.mpr (by omega))) ?_
        exact fd_ok_some ⟨i_31, f_32, trivial⟩
      ·
        have d_40 : ¬ (σ.1 6).toInt = (0 : Int32).toInt := fun q => c_28 (Int32.toInt_inj.mp q)
        refine fd_ok_bd ?_
        try unfold f_X11_isIn
        refine fd_ok_ite (fun c_41 => ?_) (fun c_41 => ?_)
        ·
          have d_42 := Int32.lt_iff_toInt_lt.mp c_41
          refine fd_ok_pb ?_
          refine fd_ok_itp (by decide) ?_
          try unfold f_X11_suspect_0_J41
          refine fd_ok_lt (fun σ14_43 eσ14_43 => ?_)
          have i_44 : fd_InvM σ14_43 := fd_inv_sI eσ14_43 i0 (fd_rng _)
          have f_45 : fd_fr [0] σ σ14_43 := fd_fr_tr f0 (fd_fr_sI eσ14_43 (by decide))
          have t_46 : (σ14_43.1 0).toInt = (1 : Int32).toInt := congrArg Int32.toInt (fd_tI eσ14_43)
          have t_47 : (σ14_43.1 6).toInt = (σ.1 6).toInt := congrArg Int32.toInt (fd_tN eσ14_43 (by decide))
          have t_48 : (σ14_43.1 7).toInt = (σ.1 7).toInt := congrArg Int32.toInt (fd_tN eσ14_43 (by decide))
          have t_49 : (σ14_43.1 12).toInt = (σ.1 12).toInt := congrArg Int32.toInt (fd_tN eσ14_43 (by decide))
          have t_50 : (σ14_43.1 13).toInt = (σ.1 13).toInt := congrArg Int32.toInt (fd_tN eσ14_43 (by decide))
          have t_51 : (σ14_43.1 14).toInt = (σ.1 14).toInt := congrArg Int32.toInt (fd_tN eσ14_43 (by decide))
          have r_52 := fd_rng (σ14_43.1 0)
          refine fd_ok_itn (Int32.not_le.mpr (Int32.lt_iff_toInt_lt.mpr (by omega))) ?_
          exact fd_ok_some ⟨i_44, f_45, trivial⟩
        ·
          have d_53 := Int32.le_iff_toInt_le.mp (Int32.not_lt.mp c_41)
          have r_54 : (0 : Int) ≤ (σ.1 7).toInt ∧ (σ.1 7).toInt ≤ 480 := i0.1 7
          refine fd_ok_ite (fun c_55 => ?_) (fun c_55 => ?_)
          ·
            have d_56 := Int32.le_iff_toInt_le.mp c_55
            refine fd_ok_pb ?_
            refine fd_ok_itp (by decide) ?_
            try unfold f_X11_suspect_0_J41
            refine fd_ok_lt (fun σ14_57 eσ14_57 => ?_)
            have i_58 : fd_InvM σ14_57 := fd_inv_sI eσ14_57 i0 (fd_rng _)
            have f_59 : fd_fr [0] σ σ14_57 := fd_fr_tr f0 (fd_fr_sI eσ14_57 (by decide))
            have t_60 : (σ14_57.1 0).toInt = (1 : Int32).toInt := congrArg Int32.toInt (fd_tI eσ14_57)
            have t_61 : (σ14_57.1 6).toInt = (σ.1 6).toInt := congrArg Int32.toInt (fd_tN eσ14_57 (by decide))
            have t_62 : (σ14_57.1 7).toInt = (σ.1 7).toInt := congrArg Int32.toInt (fd_tN eσ14_57 (by decide))
            have t_63 : (σ14_57.1 12).toInt = (σ.1 12).toInt := congrArg Int32.toInt (fd_tN eσ14_57 (by decide))
            have t_64 : (σ14_57.1 13).toInt = (σ.1 13).toInt := congrArg Int32.toInt (fd_tN eσ14_57 (by decide))
            have t_65 : (σ14_57.1 14).toInt = (σ.1 14).toInt := congrArg Int32.toInt (fd_tN eσ14_57 (by decide))
            have r_66 := fd_rng (σ14_57.1 0)
            refine fd_ok_itn (Int32.not_le.mpr (Int32.lt_iff_toInt_lt.mpr (by omega))) ?_
            exact fd_ok_some ⟨i_58, f_59, trivial⟩
          ·
            have d_67 := Int32.lt_iff_toInt_lt.mp (Int32.not_le.mp c_55)
            refine fd_ok_pb ?_
            refine fd_ok_itn (by decide) ?_
            try unfold f_X11_suspect_0_J41
            refine fd_ok_lt (fun σ14_68 eσ14_68 => ?_)
            have i_69 : fd_InvM σ14_68 := fd_inv_sI eσ14_68 i0 (fd_rng _)
            have f_70 : fd_fr [0] σ σ14_68 := fd_fr_tr f0 (fd_fr_sI eσ14_68 (by decide))
            have t_71 : (σ14_68.1 0).toInt = (0 : Int32).toInt := congrArg Int32.toInt (fd_tI eσ14_68)
            have t_72 : (σ14_68.1 6).toInt = (σ.1 6).toInt := congrArg Int32.toInt (fd_tN eσ14_68 (by decide))
            have t_73 : (σ14_68.1 7).toInt = (σ.1 7).toInt := congrArg Int32.toInt (fd_tN eσ14_68 (by decide))
            have t_74 : (σ14_68.1 12).toInt = (σ.1 12).toInt := congrArg Int32.toInt (fd_tN eσ14_68 (by decide))
            have t_75 : (σ14_68.1 13).toInt = (σ.1 13).toInt := congrArg Int32.toInt (fd_tN eσ14_68 (by decide))
            have t_76 : (σ14_68.1 14).toInt = (σ.1 14).toInt := congrArg Int32.toInt (fd_tN eσ14_68 (by decide))
            have r_77 := fd_rng (σ14_68.1 0)
            refine fd_ok_itp (Int32.le_iff_toInt_le.mpr (by omega)) ?_
            refine fd_ok_gd (vp_in_iff.mpr ⟨by omega, by omega⟩) ?_
            have r_78 : (0 : Int) ≤ (σ14_68.2.1 12 p1.toNatClampNeg).toInt ∧ (σ14_68.2.1 12 p1.toNatClampNeg).toInt ≤ 3 := i_69.2.1 12 _
            have r_79 := i_69.2.2 p1.toNatClampNeg
            refine fd_ok_ite (fun c_80 => ?_) (fun c_80 => ?_)
            ·
              have d_81 := Int32.le_iff_toInt_le.mp c_80
              try unfold f_X11_suspect_0_J68
              refine fd_ok_ite (fun c_82 => ?_) (fun c_82 => ?_)
              ·
                have d_83 := congrArg Int32.toInt c_82
                refine fd_ok_gd (vp_in_iff.mpr ⟨by omega, by omega⟩) ?_
                exact fd_ok_some ⟨i_69, f_70, trivial⟩
              ·
                have d_84 : ¬ p2.toInt = (0 : Int32).toInt := fun q => c_82 (Int32.toInt_inj.mp q)
                refine fd_ok_ite (fun c_85 => ?_) (fun c_85 => ?_)
                ·
                  have d_86 := congrArg Int32.toInt c_85
                  refine fd_ok_itp (by decide) ?_
                  refine fd_ok_gd (vp_in_iff.mpr ⟨by omega, by omega⟩) ?_
                  have r_87 : (0 : Int) ≤ (σ14_68.2.1 13 p1.toNatClampNeg).toInt ∧ (σ14_68.2.1 13 p1.toNatClampNeg).toInt ≤ 199 := i_69.2.1 13 _
                  have r_88 := i_69.2.2 p1.toNatClampNeg
                  refine fd_ok_gd (vp_in_iff.mpr ⟨by omega, by omega⟩) ?_
                  exact fd_ok_some ⟨i_69, f_70, trivial⟩
                ·
                  refine fd_ok_ite (fun c_90 => ?_) (fun c_90 => ?_)
                  ·
                    have d_91 := congrArg Int32.toInt c_90
                    refine fd_ok_itp (by decide) ?_
                    refine fd_ok_gd (vp_in_iff.mpr ⟨by omega, by omega⟩) ?_
                    have r_92 : (0 : Int) ≤ (σ14_68.2.1 13 p1.toNatClampNeg).toInt ∧ (σ14_68.2.1 13 p1.toNatClampNeg).toInt ≤ 199 := i_69.2.1 13 _
                    have r_93 := i_69.2.2 p1.toNatClampNeg
                    refine fd_ok_gd (vp_in_iff.mpr ⟨by omega, by omega⟩) ?_
                    exact fd_ok_some ⟨i_69, f_70, trivial⟩
                  ·
                    refine fd_ok_ite (fun c_95 => ?_) (fun c_95 => ?_)
                    ·
                      have d_96 := congrArg Int32.toInt c_95
                      refine fd_ok_gd (vp_in_iff.mpr ⟨by omega, by omega⟩) ?_
                      exact fd_ok_some ⟨i_69, f_70, trivial⟩
                    ·
                      refine fd_ok_ite (fun c_98 => ?_) (fun c_98 => ?_)
                      ·
                        have d_99 := congrArg Int32.toInt c_98
                        refine fd_ok_gd (vp_in_iff.mpr ⟨by omega, by omega⟩) ?_
                        exact fd_ok_some ⟨i_69, f_70, trivial⟩
                      ·
                        refine fd_ok_ite (fun c_101 => ?_) (fun c_101 => ?_)
                        ·
                          have d_102 := congrArg Int32.toInt c_101
                          refine fd_ok_gd (vp_in_iff.mpr ⟨by omega, by omega⟩) ?_
                          exact fd_ok_some ⟨i_69, f_70, trivial⟩
                        ·
                          refine fd_ok_gd (vp_in_iff.mpr ⟨by omega, by omega⟩) ?_
                          exact fd_ok_some ⟨i_69, f_70, trivial⟩
            ·
              have d_104 := Int32.lt_iff_toInt_lt.mp (Int32.not_le.mp c_80)
              try unfold f_X11_suspect_0_J68
              refine fd_ok_ite (fun c_105 => ?_) (fun c_105 => ?_)
              ·
                have d_106 := congrArg Int32.toInt c_105
                refine fd_ok_gd (vp_in_iff.mpr ⟨by omega, by omega⟩) ?_
                exact fd_ok_some ⟨i_69, f_70, trivial⟩
              ·
                have d_107 : ¬ p2.toInt = (0 : Int32).toInt := fun q => c_105 (Int32.toInt_inj.mp q)
                refine fd_ok_ite (fun c_108 => ?_) (fun c_108 => ?_)
                ·
                  have d_109 := congrArg Int32.toInt c_108
                  refine fd_ok_itn (by decide) ?_
                  refine fd_ok_gd (vp_in_iff.mpr ⟨by omega, by omega⟩) ?_
                  exact fd_ok_some ⟨i_69, f_70, trivial⟩
                ·
                  refine fd_ok_ite (fun c_111 => ?_) (fun c_111 => ?_)
                  ·
                    have d_112 := congrArg Int32.toInt c_111
                    refine fd_ok_itn (by decide) ?_
                    exact fd_ok_some ⟨i_69, f_70, trivial⟩
                  ·
                    refine fd_ok_ite (fun c_114 => ?_) (fun c_114 => ?_)
                    ·
                      have d_115 := congrArg Int32.toInt c_114
                      refine fd_ok_gd (vp_in_iff.mpr ⟨by omega, by omega⟩) ?_
                      exact fd_ok_some ⟨i_69, f_70, trivial⟩
                    ·
                      refine fd_ok_ite (fun c_117 => ?_) (fun c_117 => ?_)
                      ·
                        have d_118 := congrArg Int32.toInt c_117
                        refine fd_ok_gd (vp_in_iff.mpr ⟨by omega, by omega⟩) ?_
                        exact fd_ok_some ⟨i_69, f_70, trivial⟩
                      ·
                        refine fd_ok_ite (fun c_120 => ?_) (fun c_120 => ?_)
                        ·
                          have d_121 := congrArg Int32.toInt c_120
                          refine fd_ok_gd (vp_in_iff.mpr ⟨by omega, by omega⟩) ?_
                          exact fd_ok_some ⟨i_69, f_70, trivial⟩
                        ·
                          refine fd_ok_gd (vp_in_iff.mpr ⟨by omega, by omega⟩) ?_
                          exact fd_ok_some ⟨i_69, f_70, trivial⟩
set_option maxHeartbeats 4000000 in
theorem s_X11_pair_0 (N : Nat) (hN : 1000 ≤ N) (p1 : Int32) (σ : fd_St) (i0 : fd_InvM σ) : fd_ok (f_X11_pair_0 N p1 σ) (fun v s => fd_InvM s ∧ fd_fr [0] σ s ∧ (True)) := by
  have lit0 : (0 : Int32).toInt = 0 := by decide
  have lit1 : (1 : Int32).toInt = 1 := by decide
  have lit2 : (2 : Int32).toInt = 2 := by decide
  have lit6 : (6 : Int32).toInt = 6 := by decide
  have f0 : fd_fr [0] σ σ := fd_fr_rf
  unfold f_X11_pair_0
  refine fd_ok_bd ?_
  try unfold f_X11_isIn
  refine fd_ok_ite (fun c_1 => ?_) (fun c_1 => ?_)
  ·
    have d_2 := Int32.lt_iff_toInt_lt.mp c_1
    refine fd_ok_pb ?_
    refine fd_ok_itp (by decide) ?_
    try unfold f_X11_pair_0_J26
    refine fd_ok_lt (fun σ8_3 eσ8_3 => ?_)
    have i_4 : fd_InvM σ8_3 := fd_inv_sI eσ8_3 i0 (fd_rng _)
    have f_5 : fd_fr [0] σ σ8_3 := fd_fr_tr f0 (fd_fr_sI eσ8_3 (by decide))
    have t_6 : (σ8_3.1 0).toInt = (1 : Int32).toInt := congrArg Int32.toInt (fd_tI eσ8_3)
    have t_7 : (σ8_3.1 6).toInt = (σ.1 6).toInt := congrArg Int32.toInt (fd_tN eσ8_3 (by decide))
    have r_8 := fd_rng (σ8_3.1 0)
    refine fd_ok_itn (Int32.not_le.mpr (Int32.lt_iff_toInt_lt.mpr (by omega))) ?_
    exact fd_ok_some ⟨i_4, f_5, trivial⟩
  ·
    have d_9 := Int32.le_iff_toInt_le.mp (Int32.not_lt.mp c_1)
    refine fd_ok_ite (fun c_10 => ?_) (fun c_10 => ?_)
    ·
      have d_11 := Int32.le_iff_toInt_le.mp c_10
      refine fd_ok_pb ?_
      refine fd_ok_itp (by decide) ?_
      try unfold f_X11_pair_0_J26
      refine fd_ok_lt (fun σ8_12 eσ8_12 => ?_)
      have i_13 : fd_InvM σ8_12 := fd_inv_sI eσ8_12 i0 (fd_rng _)
      have f_14 : fd_fr [0] σ σ8_12 := fd_fr_tr f0 (fd_fr_sI eσ8_12 (by decide))
      have t_15 : (σ8_12.1 0).toInt = (1 : Int32).toInt := congrArg Int32.toInt (fd_tI eσ8_12)
      have t_16 : (σ8_12.1 6).toInt = (σ.1 6).toInt := congrArg Int32.toInt (fd_tN eσ8_12 (by decide))
      have r_17 := fd_rng (σ8_12.1 0)
      refine fd_ok_itn (Int32.not_le.mpr (Int32.lt_iff_toInt_lt.mpr (by omega))) ?_
      exact fd_ok_some ⟨i_13, f_14, trivial⟩
    ·
      have d_18 := Int32.lt_iff_toInt_lt.mp (Int32.not_le.mp c_10)
      refine fd_ok_pb ?_
      refine fd_ok_itn (by decide) ?_
      have r_19 : (0 : Int) ≤ (σ.1 6).toInt ∧ (σ.1 6).toInt ≤ 1 := i0.1 6
      refine fd_ok_ite (fun c_20 => ?_) (fun c_20 => ?_)
      ·
        have d_21 := congrArg Int32.toInt c_20
        try unfold f_X11_pair_0_J26
        refine fd_ok_lt (fun σ8_22 eσ8_22 => ?_)
        have i_23 : fd_InvM σ8_22 := fd_inv_sI eσ8_22 i0 (fd_rng _)
        have f_24 : fd_fr [0] σ σ8_22 := fd_fr_tr f0 (fd_fr_sI eσ8_22 (by decide))
        have t_25 : (σ8_22.1 0).toInt = (2 : Int32).toInt := congrArg Int32.toInt (fd_tI eσ8_22)
        have t_26 : (σ8_22.1 6).toInt = (σ.1 6).toInt := congrArg Int32.toInt (fd_tN eσ8_22 (by decide))
        have r_27 := fd_rng (σ8_22.1 0)
        refine fd_ok_itn (Int32.not_le.mpr (Int32.lt_iff_toInt_lt.mpr (by omega))) ?_
        exact fd_ok_some ⟨i_23, f_24, trivial⟩
      ·
        have d_28 : ¬ (σ.1 6).toInt = (0 : Int32).toInt := fun q => c_20 (Int32.toInt_inj.mp q)
        try unfold f_X11_pair_0_J26
        refine fd_ok_lt (fun σ8_29 eσ8_29 => ?_)
        have i_30 : fd_InvM σ8_29 := fd_inv_sI eσ8_29 i0 (fd_rng _)
        have f_31 : fd_fr [0] σ σ8_29 := fd_fr_tr f0 (fd_fr_sI eσ8_29 (by decide))
        have t_32 : (σ8_29.1 0).toInt = (0 : Int32).toInt := congrArg Int32.toInt (fd_tI eσ8_29)
        have t_33 : (σ8_29.1 6).toInt = (σ.1 6).toInt := congrArg Int32.toInt (fd_tN eσ8_29 (by decide))
        have r_34 := fd_rng (σ8_29.1 0)
        refine fd_ok_itp (Int32.le_iff_toInt_le.mpr (by omega)) ?_
        refine fd_ok_gd (vp_in_iff.mpr ⟨by omega, by omega⟩) ?_
        exact fd_ok_some ⟨i_30, f_31, trivial⟩
set_option maxHeartbeats 4000000 in
theorem s_X11_join_0 (N : Nat) (hN : 1000 ≤ N) (σ : fd_St) (i0 : fd_InvM σ) : fd_ok (f_X11_join_0 N σ) (fun v s => fd_InvM s ∧ fd_fr [0, 11, 119] σ s ∧ (True)) := by
  have lit0 : (0 : Int32).toInt = 0 := by decide
  have lit1 : (1 : Int32).toInt = 1 := by decide
  have f0 : fd_fr [0, 11, 119] σ σ := fd_fr_rf
  unfold f_X11_join_0
  have r_1 : (0 : Int) ≤ (σ.1 6).toInt ∧ (σ.1 6).toInt ≤ 1 := i0.1 6
  refine fd_ok_ite (fun c_2 => ?_) (fun c_2 => ?_)
  ·
    have d_3 := congrArg Int32.toInt c_2
    try unfold f_X11_join_0_J13
    refine fd_ok_lt (fun σ2_4 eσ2_4 => ?_)
    have i_5 : fd_InvM σ2_4 := fd_inv_sI eσ2_4 i0 (fd_rng _)
    have f_6 : fd_fr [0, 11, 119] σ σ2_4 := fd_fr_tr f0 (fd_fr_sI eσ2_4 (by decide))
    have t_7 : (σ2_4.1 0).toInt = (1 : Int32).toInt := congrArg Int32.toInt (fd_tI eσ2_4)
    have t_8 : (σ2_4.1 6).toInt = (σ.1 6).toInt := congrArg Int32.toInt (fd_tN eσ2_4 (by decide))
    have r_9 := fd_rng (σ2_4.1 0)
    refine fd_ok_itn (Int32.not_le.mpr (Int32.lt_iff_toInt_lt.mpr (by omega))) ?_
    exact fd_ok_some ⟨i_5, f_6, trivial⟩
  ·
    have d_10 : ¬ (σ.1 6).toInt = (0 : Int32).toInt := fun q => c_2 (Int32.toInt_inj.mp q)
    try unfold f_X11_join_0_J13
    refine fd_ok_lt (fun σ2_11 eσ2_11 => ?_)
    have i_12 : fd_InvM σ2_11 := fd_inv_sI eσ2_11 i0 (fd_rng _)
    have f_13 : fd_fr [0, 11, 119] σ σ2_11 := fd_fr_tr f0 (fd_fr_sI eσ2_11 (by decide))
    have t_14 : (σ2_11.1 0).toInt = (0 : Int32).toInt := congrArg Int32.toInt (fd_tI eσ2_11)
    have t_15 : (σ2_11.1 6).toInt = (σ.1 6).toInt := congrArg Int32.toInt (fd_tN eσ2_11 (by decide))
    have r_16 := fd_rng (σ2_11.1 0)
    refine fd_ok_itp (Int32.le_iff_toInt_le.mpr (by omega)) ?_
    refine fd_ok_mono (s_X11_join_0_L27 N hN N _ _ i_12 (by omega) (by omega) (by omega)) ?_
    rintro v s ⟨hi, hf, hx⟩
    exact ⟨hi, fd_fr_tr f_13 (fd_fr_mono hf (by decide)), trivial⟩
set_option maxHeartbeats 4000000 in
theorem s_X11_share_0 (N : Nat) (hN : 1000 ≤ N) (p1 : Int32) (σ : fd_St) (i0 : fd_InvM σ) : fd_ok (f_X11_share_0 N p1 σ) (fun v s => fd_InvM s ∧ fd_fr [0] σ s ∧ (True)) := by
  have lit0 : (0 : Int32).toInt = 0 := by decide
  have lit1 : (1 : Int32).toInt = 1 := by decide
  have f0 : fd_fr [0] σ σ := fd_fr_rf
  unfold f_X11_share_0
  refine fd_ok_bd ?_
  try unfold f_X11_isIn
  refine fd_ok_ite (fun c_1 => ?_) (fun c_1 => ?_)
  ·
    have d_2 := Int32.lt_iff_toInt_lt.mp c_1
    refine fd_ok_pb ?_
    refine fd_ok_itp (by decide) ?_
    try unfold f_X11_share_0_J17
    refine fd_ok_lt (fun σ7_3 eσ7_3 => ?_)
    have i_4 : fd_InvM σ7_3 := fd_inv_sI eσ7_3 i0 (fd_rng _)
    have f_5 : fd_fr [0] σ σ7_3 := fd_fr_tr f0 (fd_fr_sI eσ7_3 (by decide))
    have t_6 : (σ7_3.1 0).toInt = (1 : Int32).toInt := congrArg Int32.toInt (fd_tI eσ7_3)
    have t_7 : (σ7_3.1 1).toInt = (σ.1 1).toInt := congrArg Int32.toInt (fd_tN eσ7_3 (by decide))
    have r_8 := fd_rng (σ7_3.1 0)
    refine fd_ok_itn (Int32.not_le.mpr (Int32.lt_iff_toInt_lt.mpr (by omega))) ?_
    exact fd_ok_some ⟨i_4, f_5, trivial⟩
  ·
    have d_9 := Int32.le_iff_toInt_le.mp (Int32.not_lt.mp c_1)
    have r_10 : (0 : Int) ≤ (σ.1 1).toInt ∧ (σ.1 1).toInt ≤ 200 := i0.1 1
    refine fd_ok_ite (fun c_11 => ?_) (fun c_11 => ?_)
    ·
      have d_12 := Int32.le_iff_toInt_le.mp c_11
      refine fd_ok_pb ?_
      refine fd_ok_itp (by decide) ?_
      try unfold f_X11_share_0_J17
      refine fd_ok_lt (fun σ7_13 eσ7_13 => ?_)
      have i_14 : fd_InvM σ7_13 := fd_inv_sI eσ7_13 i0 (fd_rng _)
      have f_15 : fd_fr [0] σ σ7_13 := fd_fr_tr f0 (fd_fr_sI eσ7_13 (by decide))
      have t_16 : (σ7_13.1 0).toInt = (1 : Int32).toInt := congrArg Int32.toInt (fd_tI eσ7_13)
      have t_17 : (σ7_13.1 1).toInt = (σ.1 1).toInt := congrArg Int32.toInt (fd_tN eσ7_13 (by decide))
      have r_18 := fd_rng (σ7_13.1 0)
      refine fd_ok_itn (Int32.not_le.mpr (Int32.lt_iff_toInt_lt.mpr (by omega))) ?_
      exact fd_ok_some ⟨i_14, f_15, trivial⟩
    ·
      have d_19 := Int32.lt_iff_toInt_lt.mp (Int32.not_le.mp c_11)
      refine fd_ok_pb ?_
      refine fd_ok_itn (by decide) ?_
      try unfold f_X11_share_0_J17
      refine fd_ok_lt (fun σ7_20 eσ7_20 => ?_)
      have i_21 : fd_InvM σ7_20 := fd_inv_sI eσ7_20 i0 (fd_rng _)
      have f_22 : fd_fr [0] σ σ7_20 := fd_fr_tr f0 (fd_fr_sI eσ7_20 (by decide))
      have t_23 : (σ7_20.1 0).toInt = (0 : Int32).toInt := congrArg Int32.toInt (fd_tI eσ7_20)
      have t_24 : (σ7_20.1 1).toInt = (σ.1 1).toInt := congrArg Int32.toInt (fd_tN eσ7_20 (by decide))
      have r_25 := fd_rng (σ7_20.1 0)
      refine fd_ok_itp (Int32.le_iff_toInt_le.mpr (by omega)) ?_
      refine fd_ok_gd (vp_in_iff.mpr ⟨by omega, by omega⟩) ?_
      exact fd_ok_some ⟨i_21, f_22, trivial⟩
set_option maxHeartbeats 4000000 in
theorem s_X11_chain_0 (N : Nat) (hN : 1000 ≤ N) (p1 : Int32) (σ : fd_St) (i0 : fd_InvM σ) : fd_ok (f_X11_chain_0 N p1 σ) (fun v s => fd_InvM s ∧ fd_fr [0, 12, 13] σ s ∧ (((p1.toInt < 1 ∨ 64 < p1.toInt) ∧ (s.1 0).toInt = 1 ∧ (s.1 12).toInt = (σ.1 12).toInt ∧ (s.1 13).toInt = (σ.1 13).toInt) ∨ (¬ (p1.toInt < 1 ∨ 64 < p1.toInt) ∧ (s.1 0).toInt = 0 ∧ (s.1 12).toInt = p1.toInt ∧ (s.1 13).toInt = 0))) := by
  have lit0 : (0 : Int32).toInt = 0 := by decide
  have lit1 : (1 : Int32).toInt = 1 := by decide
  have lit64 : (64 : Int32).toInt = 64 := by decide
  have f0 : fd_fr [0, 12, 13] σ σ := fd_fr_rf
  unfold f_X11_chain_0
  refine fd_ok_ite (fun c_1 => ?_) (fun c_1 => ?_)
  ·
    have d_2 := Int32.lt_iff_toInt_lt.mp c_1
    try unfold f_X11_chain_0_J16
    try unfold f_X11_chain_0_J17
    refine fd_ok_lt (fun σ2_3 eσ2_3 => ?_)
    have i_4 : fd_InvM σ2_3 := fd_inv_sI eσ2_3 i0 (fd_rng _)
    have f_5 : fd_fr [0, 12, 13] σ σ2_3 := fd_fr_tr f0 (fd_fr_sI eσ2_3 (by decide))
    have t_6 : (σ2_3.1 0).toInt = (1 : Int32).toInt := congrArg Int32.toInt (fd_tI eσ2_3)
    have t_7 : (σ2_3.1 12).toInt = (σ.1 12).toInt := congrArg Int32.toInt (fd_tN eσ2_3 (by decide))
    have t_8 : (σ2_3.1 13).toInt = (σ.1 13).toInt := congrArg Int32.toInt (fd_tN eσ2_3 (by decide))
    have r_9 := fd_rng (σ2_3.1 0)
    refine fd_ok_itn (fun q => by have := congrArg Int32.toInt q; omega) ?_
    have x_10 : ((p1.toInt < 1 ∨ 64 < p1.toInt) ∧ (σ2_3.1 0).toInt = 1 ∧ (σ2_3.1 12).toInt = (σ.1 12).toInt ∧ (σ2_3.1 13).toInt = (σ.1 13).toInt) ∨ (¬ (p1.toInt < 1 ∨ 64 < p1.toInt) ∧ (σ2_3.1 0).toInt = 0 ∧ (σ2_3.1 12).toInt = p1.toInt ∧ (σ2_3.1 13).toInt = 0) := by omega
    exact fd_ok_some ⟨i_4, f_5, x_10⟩
  ·
    have d_11 := Int32.le_iff_toInt_le.mp (Int32.not_lt.mp c_1)
    refine fd_ok_ite (fun c_12 => ?_) (fun c_12 => ?_)
    ·
      have d_13 := Int32.lt_iff_toInt_lt.mp c_12
      try unfold f_X11_chain_0_J16
      try unfold f_X11_chain_0_J17
      refine fd_ok_lt (fun σ2_14 eσ2_14 => ?_)
      have i_15 : fd_InvM σ2_14 := fd_inv_sI eσ2_14 i0 (fd_rng _)
      have f_16 : fd_fr [0, 12, 13] σ σ2_14 := fd_fr_tr f0 (fd_fr_sI eσ2_14 (by decide))
      have t_17 : (σ2_14.1 0).toInt = (1 : Int32).toInt := congrArg Int32.toInt (fd_tI eσ2_14)
      have t_18 : (σ2_14.1 12).toInt = (σ.1 12).toInt := congrArg Int32.toInt (fd_tN eσ2_14 (by decide))
      have t_19 : (σ2_14.1 13).toInt = (σ.1 13).toInt := congrArg Int32.toInt (fd_tN eσ2_14 (by decide))
      have r_20 := fd_rng (σ2_14.1 0)
      refine fd_ok_itn (fun q => by have := congrArg Int32.toInt q; omega) ?_
      have x_21 : ((p1.toInt < 1 ∨ 64 < p1.toInt) ∧ (σ2_14.1 0).toInt = 1 ∧ (σ2_14.1 12).toInt = (σ.1 12).toInt ∧ (σ2_14.1 13).toInt = (σ.1 13).toInt) ∨ (¬ (p1.toInt < 1 ∨ 64 < p1.toInt) ∧ (σ2_14.1 0).toInt = 0 ∧ (σ2_14.1 12).toInt = p1.toInt ∧ (σ2_14.1 13).toInt = 0) := by omega
      exact fd_ok_some ⟨i_15, f_16, x_21⟩
    ·
      have d_22 := Int32.le_iff_toInt_le.mp (Int32.not_lt.mp c_12)
      try unfold f_X11_chain_0_J17
      refine fd_ok_lt (fun σ2_23 eσ2_23 => ?_)
      have i_24 : fd_InvM σ2_23 := fd_inv_sI eσ2_23 i0 (fd_rng _)
      have f_25 : fd_fr [0, 12, 13] σ σ2_23 := fd_fr_tr f0 (fd_fr_sI eσ2_23 (by decide))
      have t_26 : (σ2_23.1 0).toInt = (0 : Int32).toInt := congrArg Int32.toInt (fd_tI eσ2_23)
      have t_27 : (σ2_23.1 12).toInt = (σ.1 12).toInt := congrArg Int32.toInt (fd_tN eσ2_23 (by decide))
      have t_28 : (σ2_23.1 13).toInt = (σ.1 13).toInt := congrArg Int32.toInt (fd_tN eσ2_23 (by decide))
      have r_29 := fd_rng (σ2_23.1 0)
      refine fd_ok_itp (Int32.toInt_inj.mp (by omega)) ?_
      refine fd_ok_lt (fun σ4_30 eσ4_30 => ?_)
      have i_31 : fd_InvM σ4_30 := fd_inv_sI eσ4_30 i_24 ⟨(by omega : (0 : Int) ≤ p1.toInt), (by omega : p1.toInt ≤ 64)⟩
      have f_32 : fd_fr [0, 12, 13] σ σ4_30 := fd_fr_tr f_25 (fd_fr_sI eσ4_30 (by decide))
      have t_33 : (σ4_30.1 0).toInt = (σ2_23.1 0).toInt := congrArg Int32.toInt (fd_tN eσ4_30 (by decide))
      have t_34 : (σ4_30.1 12).toInt = p1.toInt := congrArg Int32.toInt (fd_tI eσ4_30)
      have t_35 : (σ4_30.1 13).toInt = (σ2_23.1 13).toInt := congrArg Int32.toInt (fd_tN eσ4_30 (by decide))
      refine fd_ok_lt (fun σ5_36 eσ5_36 => ?_)
      have i_37 : fd_InvM σ5_36 := fd_inv_sI eσ5_36 i_31 ⟨(by omega : (0 : Int) ≤ (0 : Int32).toInt), (by omega : (0 : Int32).toInt ≤ 30)⟩
      have f_38 : fd_fr [0, 12, 13] σ σ5_36 := fd_fr_tr f_32 (fd_fr_sI eσ5_36 (by decide))
      have t_39 : (σ5_36.1 0).toInt = (σ4_30.1 0).toInt := congrArg Int32.toInt (fd_tN eσ5_36 (by decide))
      have t_40 : (σ5_36.1 12).toInt = (σ4_30.1 12).toInt := congrArg Int32.toInt (fd_tN eσ5_36 (by decide))
      have t_41 : (σ5_36.1 13).toInt = (0 : Int32).toInt := congrArg Int32.toInt (fd_tI eσ5_36)
      have x_42 : ((p1.toInt < 1 ∨ 64 < p1.toInt) ∧ (σ5_36.1 0).toInt = 1 ∧ (σ5_36.1 12).toInt = (σ.1 12).toInt ∧ (σ5_36.1 13).toInt = (σ.1 13).toInt) ∨ (¬ (p1.toInt < 1 ∨ 64 < p1.toInt) ∧ (σ5_36.1 0).toInt = 0 ∧ (σ5_36.1 12).toInt = p1.toInt ∧ (σ5_36.1 13).toInt = 0) := by omega
      exact fd_ok_some ⟨i_37, f_38, x_42⟩
set_option maxHeartbeats 4000000 in
theorem s_X11_caught_0 (N : Nat) (hN : 1000 ≤ N) (p1 : Int64) (p3 : Int64) (σ : fd_St) (i0 : fd_InvM σ) : fd_ok (f_X11_caught_0 N p1 p3 σ) (fun v s => fd_InvM s ∧ fd_fr [0, 13, 220, 221] σ s ∧ ((((σ.1 12).toInt = 0 ∨ (σ.1 13).toInt = 30) ∧ (s.1 0).toInt = 1 ∧ (s.1 13).toInt = (σ.1 13).toInt) ∨ (¬ ((σ.1 12).toInt = 0 ∨ (σ.1 13).toInt = 30) ∧ (s.1 0).toInt = 0 ∧ (s.1 13).toInt = (σ.1 13).toInt + 1 ∧ v.toInt = (σ.1 13).toInt + 1)) ∧ fd_H (((¬ (s.1 0).toInt = 0 → s.2.2 20 = σ.2.2 20) ∧ ((s.1 0).toInt = 0 → ∃ j : Int32, j.toInt = (σ.1 13).toInt ∧ s.2.2 20 = vp_updL (σ.2.2 20) j.toNatClampNeg p1))) ∧ fd_H (((¬ (s.1 0).toInt = 0 → s.2.2 21 = σ.2.2 21) ∧ ((s.1 0).toInt = 0 → ∃ j : Int32, j.toInt = (σ.1 13).toInt ∧ s.2.2 21 = vp_updL (σ.2.2 21) j.toNatClampNeg p3)))) := by
  have lit0 : (0 : Int32).toInt = 0 := by decide
  have lit1 : (1 : Int32).toInt = 1 := by decide
  have lit30 : (30 : Int32).toInt = 30 := by decide
  have f0 : fd_fr [0, 13, 220, 221] σ σ := fd_fr_rf
  unfold f_X11_caught_0
  have r_1 : (0 : Int) ≤ (σ.1 12).toInt ∧ (σ.1 12).toInt ≤ 64 := i0.1 12
  refine fd_ok_ite (fun c_2 => ?_) (fun c_2 => ?_)
  ·
    have d_3 := Int32.le_iff_toInt_le.mp c_2
    try unfold f_X11_caught_0_J21
    try unfold f_X11_caught_0_J22
    refine fd_ok_lt (fun σ2_4 eσ2_4 => ?_)
    have i_5 : fd_InvM σ2_4 := fd_inv_sI eσ2_4 i0 (fd_rng _)
    have f_6 : fd_fr [0, 13, 220, 221] σ σ2_4 := fd_fr_tr f0 (fd_fr_sI eσ2_4 (by decide))
    have t_7 : (σ2_4.1 0).toInt = (1 : Int32).toInt := congrArg Int32.toInt (fd_tI eσ2_4)
    have t_8 : (σ2_4.1 12).toInt = (σ.1 12).toInt := congrArg Int32.toInt (fd_tN eσ2_4 (by decide))
    have t_9 : (σ2_4.1 13).toInt = (σ.1 13).toInt := congrArg Int32.toInt (fd_tN eσ2_4 (by decide))
    have y_10 := fd_yIL (d := 20) eσ2_4 (rfl : σ.2.2 20 = _)
    have y_11 := fd_yIL (d := 21) eσ2_4 (rfl : σ.2.2 21 = _)
    have r_12 := fd_rng (σ2_4.1 0)
    refine fd_ok_itn (Int32.not_le.mpr (Int32.lt_iff_toInt_lt.mpr (by omega))) ?_
    have x_13 : (((σ.1 12).toInt = 0 ∨ (σ.1 13).toInt = 30) ∧ (σ2_4.1 0).toInt = 1 ∧ (σ2_4.1 13).toInt = (σ.1 13).toInt) ∨ (¬ ((σ.1 12).toInt = 0 ∨ (σ.1 13).toInt = 30) ∧ (σ2_4.1 0).toInt = 0 ∧ (σ2_4.1 13).toInt = (σ.1 13).toInt + 1 ∧ (0 : Int32).toInt = (σ.1 13).toInt + 1) := by omega
    have w_14 : fd_H (((¬ (σ2_4.1 0).toInt = 0 → σ2_4.2.2 20 = σ.2.2 20) ∧ ((σ2_4.1 0).toInt = 0 → ∃ j : Int32, j.toInt = (σ.1 13).toInt ∧ σ2_4.2.2 20 = vp_updL (σ.2.2 20) j.toNatClampNeg p1))) := fd_hd (⟨fun _ => y_10, fun h => absurd h (by omega)⟩)
    have w_15 : fd_H (((¬ (σ2_4.1 0).toInt = 0 → σ2_4.2.2 21 = σ.2.2 21) ∧ ((σ2_4.1 0).toInt = 0 → ∃ j : Int32, j.toInt = (σ.1 13).toInt ∧ σ2_4.2.2 21 = vp_updL (σ.2.2 21) j.toNatClampNeg p3))) := fd_hd (⟨fun _ => y_11, fun h => absurd h (by omega)⟩)
    exact fd_ok_some ⟨i_5, f_6, x_13, w_14, w_15⟩
  ·
    have d_16 := Int32.lt_iff_toInt_lt.mp (Int32.not_le.mp c_2)
    have r_17 : (0 : Int) ≤ (σ.1 13).toInt ∧ (σ.1 13).toInt ≤ 30 := i0.1 13
    refine fd_ok_ite (fun c_18 => ?_) (fun c_18 => ?_)
    ·
      have d_19 := Int32.le_iff_toInt_le.mp c_18
      try unfold f_X11_caught_0_J21
      try unfold f_X11_caught_0_J22
      refine fd_ok_lt (fun σ2_20 eσ2_20 => ?_)
      have i_21 : fd_InvM σ2_20 := fd_inv_sI eσ2_20 i0 (fd_rng _)
      have f_22 : fd_fr [0, 13, 220, 221] σ σ2_20 := fd_fr_tr f0 (fd_fr_sI eσ2_20 (by decide))
      have t_23 : (σ2_20.1 0).toInt = (1 : Int32).toInt := congrArg Int32.toInt (fd_tI eσ2_20)
      have t_24 : (σ2_20.1 12).toInt = (σ.1 12).toInt := congrArg Int32.toInt (fd_tN eσ2_20 (by decide))
      have t_25 : (σ2_20.1 13).toInt = (σ.1 13).toInt := congrArg Int32.toInt (fd_tN eσ2_20 (by decide))
      have y_26 := fd_yIL (d := 20) eσ2_20 (rfl : σ.2.2 20 = _)
      have y_27 := fd_yIL (d := 21) eσ2_20 (rfl : σ.2.2 21 = _)
      have r_28 := fd_rng (σ2_20.1 0)
      refine fd_ok_itn (Int32.not_le.mpr (Int32.lt_iff_toInt_lt.mpr (by omega))) ?_
      have x_29 : (((σ.1 12).toInt = 0 ∨ (σ.1 13).toInt = 30) ∧ (σ2_20.1 0).toInt = 1 ∧ (σ2_20.1 13).toInt = (σ.1 13).toInt) ∨ (¬ ((σ.1 12).toInt = 0 ∨ (σ.1 13).toInt = 30) ∧ (σ2_20.1 0).toInt = 0 ∧ (σ2_20.1 13).toInt = (σ.1 13).toInt + 1 ∧ (0 : Int32).toInt = (σ.1 13).toInt + 1) := by omega
      have w_30 : fd_H (((¬ (σ2_20.1 0).toInt = 0 → σ2_20.2.2 20 = σ.2.2 20) ∧ ((σ2_20.1 0).toInt = 0 → ∃ j : Int32, j.toInt = (σ.1 13).toInt ∧ σ2_20.2.2 20 = vp_updL (σ.2.2 20) j.toNatClampNeg p1))) := fd_hd (⟨fun _ => y_26, fun h => absurd h (by omega)⟩)
      have w_31 : fd_H (((¬ (σ2_20.1 0).toInt = 0 → σ2_20.2.2 21 = σ.2.2 21) ∧ ((σ2_20.1 0).toInt = 0 → ∃ j : Int32, j.toInt = (σ.1 13).toInt ∧ σ2_20.2.2 21 = vp_updL (σ.2.2 21) j.toNatClampNeg p3))) := fd_hd (⟨fun _ => y_27, fun h => absurd h (by omega)⟩)
      exact fd_ok_some ⟨i_21, f_22, x_29, w_30, w_31⟩
    ·
      have d_32 := Int32.lt_iff_toInt_lt.mp (Int32.not_le.mp c_18)
      try unfold f_X11_caught_0_J22
      refine fd_ok_lt (fun σ2_33 eσ2_33 => ?_)
      have i_34 : fd_InvM σ2_33 := fd_inv_sI eσ2_33 i0 (fd_rng _)
      have f_35 : fd_fr [0, 13, 220, 221] σ σ2_33 := fd_fr_tr f0 (fd_fr_sI eσ2_33 (by decide))
      have t_36 : (σ2_33.1 0).toInt = (0 : Int32).toInt := congrArg Int32.toInt (fd_tI eσ2_33)
      have t_37 : (σ2_33.1 12).toInt = (σ.1 12).toInt := congrArg Int32.toInt (fd_tN eσ2_33 (by decide))
      have t_38 : (σ2_33.1 13).toInt = (σ.1 13).toInt := congrArg Int32.toInt (fd_tN eσ2_33 (by decide))
      have y_39 := fd_yIL (d := 20) eσ2_33 (rfl : σ.2.2 20 = _)
      have y_40 := fd_yIL (d := 21) eσ2_33 (rfl : σ.2.2 21 = _)
      have r_41 := fd_rng (σ2_33.1 0)
      refine fd_ok_itp (Int32.le_iff_toInt_le.mpr (by omega)) ?_
      have r_42 : (0 : Int) ≤ (σ2_33.1 13).toInt ∧ (σ2_33.1 13).toInt ≤ 30 := i_34.1 13
      refine fd_ok_gd (vp_in_iff.mpr ⟨by omega, by omega⟩) ?_
      refine fd_ok_lt (fun σ5_43 eσ5_43 => ?_)
      have i_44 : fd_InvM σ5_43 := fd_inv_sL eσ5_43 i_34
      have f_45 : fd_fr [0, 13, 220, 221] σ σ5_43 := fd_fr_tr f_35 (fd_fr_sL eσ5_43 (by decide))
      have t_46 : (σ5_43.1 0).toInt = (σ2_33.1 0).toInt := by subst eσ5_43; rfl
      have t_47 : (σ5_43.1 12).toInt = (σ2_33.1 12).toInt := by subst eσ5_43; rfl
      have t_48 : (σ5_43.1 13).toInt = (σ2_33.1 13).toInt := by subst eσ5_43; rfl
      have y_49 := fd_yL eσ5_43 y_39
      have y_50 := fd_yLn (d := 21) eσ5_43 (by decide) y_40
      have r_51 : (0 : Int) ≤ (σ5_43.1 13).toInt ∧ (σ5_43.1 13).toInt ≤ 30 := i_44.1 13
      refine fd_ok_gd (vp_in_iff.mpr ⟨by omega, by omega⟩) ?_
      refine fd_ok_lt (fun σ7_52 eσ7_52 => ?_)
      have i_53 : fd_InvM σ7_52 := fd_inv_sL eσ7_52 i_44
      have f_54 : fd_fr [0, 13, 220, 221] σ σ7_52 := fd_fr_tr f_45 (fd_fr_sL eσ7_52 (by decide))
      have t_55 : (σ7_52.1 0).toInt = (σ5_43.1 0).toInt := by subst eσ7_52; rfl
      have t_56 : (σ7_52.1 12).toInt = (σ5_43.1 12).toInt := by subst eσ7_52; rfl
      have t_57 : (σ7_52.1 13).toInt = (σ5_43.1 13).toInt := by subst eσ7_52; rfl
      have y_58 := fd_yLn (d := 20) eσ7_52 (by decide) y_49
      have y_59 := fd_yL eσ7_52 y_50
      refine fd_ok_lt (fun σ8_60 eσ8_60 => ?_)
      have r_63 : (0 : Int) ≤ (σ7_52.1 13).toInt ∧ (σ7_52.1 13).toInt ≤ 30 := i_53.1 13
      have u_64 := Jvm.Kit.i32_add (x := (σ7_52.1 13)) (y := (1 : Int32)) (by omega) (by omega)
      have i_61 : fd_InvM σ8_60 := fd_inv_sI eσ8_60 i_53 ⟨(by omega : (0 : Int) ≤ ((σ7_52.1 13) + (1 : Int32)).toInt), (by omega : ((σ7_52.1 13) + (1 : Int32)).toInt ≤ 30)⟩
      have f_62 : fd_fr [0, 13, 220, 221] σ σ8_60 := fd_fr_tr f_54 (fd_fr_sI eσ8_60 (by decide))
      have t_65 : (σ8_60.1 0).toInt = (σ7_52.1 0).toInt := congrArg Int32.toInt (fd_tN eσ8_60 (by decide))
      have t_66 : (σ8_60.1 12).toInt = (σ7_52.1 12).toInt := congrArg Int32.toInt (fd_tN eσ8_60 (by decide))
      have t_67 : (σ8_60.1 13).toInt = ((σ7_52.1 13) + (1 : Int32)).toInt := congrArg Int32.toInt (fd_tI eσ8_60)
      have y_68 := fd_yIL (d := 20) eσ8_60 y_58
      have y_69 := fd_yIL (d := 21) eσ8_60 y_59
      have r_70 : (0 : Int) ≤ (σ8_60.1 13).toInt ∧ (σ8_60.1 13).toInt ≤ 30 := i_61.1 13
      have x_71 : (((σ.1 12).toInt = 0 ∨ (σ.1 13).toInt = 30) ∧ (σ8_60.1 0).toInt = 1 ∧ (σ8_60.1 13).toInt = (σ.1 13).toInt) ∨ (¬ ((σ.1 12).toInt = 0 ∨ (σ.1 13).toInt = 30) ∧ (σ8_60.1 0).toInt = 0 ∧ (σ8_60.1 13).toInt = (σ.1 13).toInt + 1 ∧ (σ8_60.1 13).toInt = (σ.1 13).toInt + 1) := by omega
      have w_72 : fd_H (((¬ (σ8_60.1 0).toInt = 0 → σ8_60.2.2 20 = σ.2.2 20) ∧ ((σ8_60.1 0).toInt = 0 → ∃ j : Int32, j.toInt = (σ.1 13).toInt ∧ σ8_60.2.2 20 = vp_updL (σ.2.2 20) j.toNatClampNeg p1))) := fd_hd (⟨fun h => absurd (by omega) h, fun _ => ⟨_, by omega, y_68⟩⟩)
      have w_73 : fd_H (((¬ (σ8_60.1 0).toInt = 0 → σ8_60.2.2 21 = σ.2.2 21) ∧ ((σ8_60.1 0).toInt = 0 → ∃ j : Int32, j.toInt = (σ.1 13).toInt ∧ σ8_60.2.2 21 = vp_updL (σ.2.2 21) j.toNatClampNeg p3))) := fd_hd (⟨fun h => absurd (by omega) h, fun _ => ⟨_, by omega, y_69⟩⟩)
      exact fd_ok_some ⟨i_61, f_62, x_71, w_72, w_73⟩
