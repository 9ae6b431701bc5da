set_option maxHeartbeats 4000000 in
theorem s_X11_judge_0 (N : Nat) (hN : 1000 ≤ N) (σ : fd_St) (i0 : fd_InvM σ) : fd_ok (f_X11_judge_0 N σ) (fun v s => fd_InvM s ∧ fd_fr [8, 9, 10] σ s ∧ (True)) := by
  have lit0 : (0 : Int32).toInt = 0 := by decide
  have lit1 : (1 : Int32).toInt = 1 := by decide
  have f0 : fd_fr [8, 9, 10] σ σ := fd_fr_rf
  unfold f_X11_judge_0
  refine fd_ok_lt (fun σ1_1 eσ1_1 => ?_)
  have i_2 : fd_InvM σ1_1 := fd_inv_sI eσ1_1 i0 (fd_rng _)
  have f_3 : fd_fr [8, 9, 10] σ σ1_1 := fd_fr_tr f0 (fd_fr_sI eσ1_1 (by decide))
  refine fd_ok_lt (fun σ2_4 eσ2_4 => ?_)
  have i_5 : fd_InvM σ2_4 := fd_inv_sI eσ2_4 i_2 (fd_rng _)
  have f_6 : fd_fr [8, 9, 10] σ σ2_4 := fd_fr_tr f_3 (fd_fr_sI eσ2_4 (by decide))
  refine fd_ok_lt (fun σ3_7 eσ3_7 => ?_)
  have i_8 : fd_InvM σ3_7 := fd_inv_sI eσ3_7 i_5 (fd_rng _)
  have f_9 : fd_fr [8, 9, 10] σ σ3_7 := fd_fr_tr f_6 (fd_fr_sI eσ3_7 (by decide))
  refine fd_ok_mono (s_X11_judge_0_L17 N hN N _ _ i_8 (by omega) (by omega) (by omega)) ?_
  rintro v s ⟨hi, hf, hx⟩
  exact ⟨hi, fd_fr_tr f_9 (fd_fr_mono hf (by decide)), trivial⟩
set_option maxHeartbeats 4000000 in
theorem s_X11_tryPair_0 (N : Nat) (hN : 1000 ≤ N) (p1 : Int32) (p2 : Int32) (σ : fd_St) (i0 : fd_InvM σ) (h0 : 0 ≤ p1.toInt) (h1 : p1.toInt ≤ 479) (h2 : 0 ≤ p2.toInt) (h3 : p2.toInt ≤ 479) : fd_ok (f_X11_tryPair_0 N p1 p2 σ) (fun v s => fd_InvM s ∧ fd_fr [8, 9, 10, 118, 210] σ s ∧ (True)) := by
  have litm1 : (-1 : Int32).toInt = -1 := by decide
  have lit0 : (0 : Int32).toInt = 0 := by decide
  have lit1 : (1 : Int32).toInt = 1 := by decide
  have lit2 : (2 : Int32).toInt = 2 := by decide
  have lit3 : (3 : Int32).toInt = 3 := by decide
  have lit4 : (4 : Int32).toInt = 4 := by decide
  have lit5 : (5 : Int32).toInt = 5 := by decide
  have f0 : fd_fr [8, 9, 10, 118, 210] σ σ := fd_fr_rf
  unfold f_X11_tryPair_0
  refine fd_ok_gd (vp_in_iff.mpr ⟨by omega, by omega⟩) ?_
  refine fd_ok_gd (vp_in_iff.mpr ⟨by omega, by omega⟩) ?_
  have r_1 : (0 : Int) ≤ (σ.2.1 12 p1.toNatClampNeg).toInt ∧ (σ.2.1 12 p1.toNatClampNeg).toInt ≤ 3 := i0.2.1 12 _
  have r_2 := i0.2.2 p1.toNatClampNeg
  refine fd_ok_ite (fun c_3 => ?_) (fun c_3 => ?_)
  ·
    have d_4 := congrArg Int32.toInt c_3
    try unfold f_X11_tryPair_0_J24
    refine fd_ok_gd (vp_in_iff.mpr ⟨by omega, by omega⟩) ?_
    refine fd_ok_gd (vp_in_iff.mpr ⟨by omega, by omega⟩) ?_
    have r_5 : (0 : Int) ≤ (σ.2.1 12 p2.toNatClampNeg).toInt ∧ (σ.2.1 12 p2.toNatClampNeg).toInt ≤ 3 := i0.2.1 12 _
    have r_6 := i0.2.2 p2.toNatClampNeg
    refine fd_ok_ite (fun c_7 => ?_) (fun c_7 => ?_)
    ·
      have d_8 := congrArg Int32.toInt c_7
      try unfold f_X11_tryPair_0_J47
      refine fd_ok_bd ?_
      try unfold f_X11_work_0
      have r_9 : (0 : Int) ≤ (σ.2.1 13 p1.toNatClampNeg).toInt ∧ (σ.2.1 13 p1.toNatClampNeg).toInt ≤ 199 := i0.2.1 13 _
      have r_10 := i0.2.2 p1.toNatClampNeg
      have r_11 : (0 : Int) ≤ (σ.2.1 13 p2.toNatClampNeg).toInt ∧ (σ.2.1 13 p2.toNatClampNeg).toInt ≤ 199 := i0.2.1 13 _
      have r_12 := i0.2.2 p2.toNatClampNeg
      refine fd_ok_cl (s_X11_work_0_L3 N hN N _ _ _ _ _ _ i0 (by omega) (by omega) (by omega)) ?_
      rintro v_13 σ_14 ⟨i_15, g_16, x_17⟩
      have f_18 : fd_fr [8, 9, 10, 118, 210] σ σ_14 := fd_fr_tr f0 (fd_fr_mono g_16 (by decide))
      have t_19 : (σ_14.1 12).toInt = (σ.1 12).toInt := congrArg Int32.toInt (g_16.1 12 (by decide))
      have t_20 : (σ_14.1 13).toInt = (σ.1 13).toInt := congrArg Int32.toInt (g_16.1 13 (by decide))
      refine fd_ok_bd ?_
      refine fd_ok_cl (s_X11_judge_0 N hN _ i_15) ?_
      rintro v_21 σ_22 ⟨i_23, g_24, x_25⟩
      have f_26 : fd_fr [8, 9, 10, 118, 210] σ σ_22 := fd_fr_tr f_18 (fd_fr_mono g_24 (by decide))
      have t_27 : (σ_22.1 12).toInt = (σ_14.1 12).toInt := congrArg Int32.toInt (g_24.1 12 (by decide))
      have t_28 : (σ_22.1 13).toInt = (σ_14.1 13).toInt := congrArg Int32.toInt (g_24.1 13 (by decide))
      refine fd_ok_lt (fun x17_29 ex17_29 => ?_)
      have t_30 : x17_29.toInt = (((2 : Int32) * (σ_22.1 9)) + (σ_22.1 10)).toInt := congrArg Int32.toInt ex17_29
      refine fd_ok_ite (fun c_31 => ?_) (fun c_31 => ?_)
      ·
        have d_32 := congrArg Int32.toInt c_31
        exact fd_ok_some ⟨i_23, f_26, trivial⟩
      ·
        refine fd_ok_gd (vp_in_iff.mpr ⟨by omega, by omega⟩) ?_
        refine fd_ok_ite (fun c_34 => ?_) (fun c_34 => ?_)
        ·
          have d_35 := congrArg Int32.toInt c_34
          try unfold f_X11_tryPair_0_J94
          refine fd_ok_gd (vp_in_iff.mpr ⟨by omega, by omega⟩) ?_
          refine fd_ok_lt (fun σ22_36 eσ22_36 => ?_)
          have i_37 : fd_InvM σ22_36 := fd_inv_sA eσ22_36 i_23 (by decide) (by decide) (fd_rng _)
          have f_38 : fd_fr [8, 9, 10, 118, 210] σ σ22_36 := fd_fr_tr f_26 (fd_fr_sA eσ22_36 (by decide))
          have t_39 : (σ22_36.1 12).toInt = (σ_22.1 12).toInt := by subst eσ22_36; rfl
          have t_40 : (σ22_36.1 13).toInt = (σ_22.1 13).toInt := by subst eσ22_36; rfl
          refine fd_ok_gd (vp_in_iff.mpr ⟨by omega, by omega⟩) ?_
          refine fd_ok_lt (fun σ24_41 eσ24_41 => ?_)
          have i_42 : fd_InvM σ24_41 := fd_inv_sA eσ24_41 i_37 (by decide) (by decide) (fd_rng _)
          have f_43 : fd_fr [8, 9, 10, 118, 210] σ σ24_41 := fd_fr_tr f_38 (fd_fr_sA eσ24_41 (by decide))
          have t_44 : (σ24_41.1 12).toInt = (σ22_36.1 12).toInt := by subst eσ24_41; rfl
          have t_45 : (σ24_41.1 13).toInt = (σ22_36.1 13).toInt := by subst eσ24_41; rfl
          refine fd_ok_gd (vp_in_iff.mpr ⟨by omega, by omega⟩) ?_
          refine fd_ok_lt (fun σ26_46 eσ26_46 => ?_)
          have i_47 : fd_InvM σ26_46 := fd_inv_sA eσ26_46 i_42 (by decide) (by decide) (fd_rng _)
          have f_48 : fd_fr [8, 9, 10, 118, 210] σ σ26_46 := fd_fr_tr f_43 (fd_fr_sA eσ26_46 (by decide))
          have t_49 : (σ26_46.1 12).toInt = (σ24_41.1 12).toInt := by subst eσ26_46; rfl
          have t_50 : (σ26_46.1 13).toInt = (σ24_41.1 13).toInt := by subst eσ26_46; rfl
          refine fd_ok_gd (vp_in_iff.mpr ⟨by omega, by omega⟩) ?_
          refine fd_ok_lt (fun σ28_51 eσ28_51 => ?_)
          have i_52 : fd_InvM σ28_51 := fd_inv_sA eσ28_51 i_47 (by decide) (by decide) (fd_rng _)
          have f_53 : fd_fr [8, 9, 10, 118, 210] σ σ28_51 := fd_fr_tr f_48 (fd_fr_sA eσ28_51 (by decide))
          have t_54 : (σ28_51.1 12).toInt = (σ26_46.1 12).toInt := by subst eσ28_51; rfl
          have t_55 : (σ28_51.1 13).toInt = (σ26_46.1 13).toInt := by subst eσ28_51; rfl
          refine fd_ok_gd (vp_in_iff.mpr ⟨by omega, by omega⟩) ?_
          refine fd_ok_lt (fun σ30_56 eσ30_56 => ?_)
          have i_57 : fd_InvM σ30_56 := fd_inv_sA eσ30_56 i_52 (by decide) (by decide) (fd_rng _)
          have f_58 : fd_fr [8, 9, 10, 118, 210] σ σ30_56 := fd_fr_tr f_53 (fd_fr_sA eσ30_56 (by decide))
          have t_59 : (σ30_56.1 12).toInt = (σ28_51.1 12).toInt := by subst eσ30_56; rfl
          have t_60 : (σ30_56.1 13).toInt = (σ28_51.1 13).toInt := by subst eσ30_56; rfl
          refine fd_ok_gd (vp_in_iff.mpr ⟨by omega, by omega⟩) ?_
          refine fd_ok_lt (fun σ32_61 eσ32_61 => ?_)
          have i_62 : fd_InvM σ32_61 := fd_inv_sA eσ32_61 i_57 (by decide) (by decide) (fd_rng _)
          have f_63 : fd_fr [8, 9, 10, 118, 210] σ σ32_61 := fd_fr_tr f_58 (fd_fr_sA eσ32_61 (by decide))
          have t_64 : (σ32_61.1 12).toInt = (σ30_56.1 12).toInt := by subst eσ32_61; rfl
          have t_65 : (σ32_61.1 13).toInt = (σ30_56.1 13).toInt := by subst eσ32_61; rfl
          exact fd_ok_some ⟨i_62, f_63, trivial⟩
        ·
          refine fd_ok_gd (vp_in_iff.mpr ⟨by omega, by omega⟩) ?_
          refine fd_ok_ite (fun c_67 => ?_) (fun c_67 => ?_)
          ·
            have d_68 := Int32.lt_iff_toInt_lt.mp c_67
            try unfold f_X11_tryPair_0_J94
            refine fd_ok_gd (vp_in_iff.mpr ⟨by omega, by omega⟩) ?_
            refine fd_ok_lt (fun σ22_69 eσ22_69 => ?_)
            have i_70 : fd_InvM σ22_69 := fd_inv_sA eσ22_69 i_23 (by decide) (by decide) (fd_rng _)
            have f_71 : fd_fr [8, 9, 10, 118, 210] σ σ22_69 := fd_fr_tr f_26 (fd_fr_sA eσ22_69 (by decide))
            have t_72 : (σ22_69.1 12).toInt = (σ_22.1 12).toInt := by subst eσ22_69; rfl
            have t_73 : (σ22_69.1 13).toInt = (σ_22.1 13).toInt := by subst eσ22_69; rfl
            refine fd_ok_gd (vp_in_iff.mpr ⟨by omega, by omega⟩) ?_
            refine fd_ok_lt (fun σ24_74 eσ24_74 => ?_)
            have i_75 : fd_InvM σ24_74 := fd_inv_sA eσ24_74 i_70 (by decide) (by decide) (fd_rng _)
            have f_76 : fd_fr [8, 9, 10, 118, 210] σ σ24_74 := fd_fr_tr f_71 (fd_fr_sA eσ24_74 (by decide))
            have t_77 : (σ24_74.1 12).toInt = (σ22_69.1 12).toInt := by subst eσ24_74; rfl
            have t_78 : (σ24_74.1 13).toInt = (σ22_69.1 13).toInt := by subst eσ24_74; rfl
            refine fd_ok_gd (vp_in_iff.mpr ⟨by omega, by omega⟩) ?_
            refine fd_ok_lt (fun σ26_79 eσ26_79 => ?_)
            have i_80 : fd_InvM σ26_79 := fd_inv_sA eσ26_79 i_75 (by decide) (by decide) (fd_rng _)
            have f_81 : fd_fr [8, 9, 10, 118, 210] σ σ26_79 := fd_fr_tr f_76 (fd_fr_sA eσ26_79 (by decide))
            have t_82 : (σ26_79.1 12).toInt = (σ24_74.1 12).toInt := by subst eσ26_79; rfl
            have t_83 : (σ26_79.1 13).toInt = (σ24_74.1 13).toInt := by subst eσ26_79; rfl
            refine fd_ok_gd (vp_in_iff.mpr ⟨by omega, by omega⟩) ?_
            refine fd_ok_lt (fun σ28_84 eσ28_84 => ?_)
            have i_85 : fd_InvM σ28_84 := fd_inv_sA eσ28_84 i_80 (by decide) (by decide) (fd_rng _)
            have f_86 : fd_fr [8, 9, 10, 118, 210] σ σ28_84 := fd_fr_tr f_81 (fd_fr_sA eσ28_84 (by decide))
            have t_87 : (σ28_84.1 12).toInt = (σ26_79.1 12).toInt := by subst eσ28_84; rfl
            have t_88 : (σ28_84.1 13).toInt = (σ26_79.1 13).toInt := by subst eσ28_84; rfl
            refine fd_ok_gd (vp_in_iff.mpr ⟨by omega, by omega⟩) ?_
            refine fd_ok_lt (fun σ30_89 eσ30_89 => ?_)
            have i_90 : fd_InvM σ30_89 := fd_inv_sA eσ30_89 i_85 (by decide) (by decide) (fd_rng _)
            have f_91 : fd_fr [8, 9, 10, 118, 210] σ σ30_89 := fd_fr_tr f_86 (fd_fr_sA eσ30_89 (by decide))
            have t_92 : (σ30_89.1 12).toInt = (σ28_84.1 12).toInt := by subst eσ30_89; rfl
            have t_93 : (σ30_89.1 13).toInt = (σ28_84.1 13).toInt := by subst eσ30_89; rfl
            refine fd_ok_gd (vp_in_iff.mpr ⟨by omega, by omega⟩) ?_
            refine fd_ok_lt (fun σ32_94 eσ32_94 => ?_)
            have i_95 : fd_InvM σ32_94 := fd_inv_sA eσ32_94 i_90 (by decide) (by decide) (fd_rng _)
            have f_96 : fd_fr [8, 9, 10, 118, 210] σ σ32_94 := fd_fr_tr f_91 (fd_fr_sA eσ32_94 (by decide))
            have t_97 : (σ32_94.1 12).toInt = (σ30_89.1 12).toInt := by subst eσ32_94; rfl
            have t_98 : (σ32_94.1 13).toInt = (σ30_89.1 13).toInt := by subst eσ32_94; rfl
            exact fd_ok_some ⟨i_95, f_96, trivial⟩
          ·
            have d_99 := Int32.le_iff_toInt_le.mp (Int32.not_lt.mp c_67)
            exact fd_ok_some ⟨i_23, f_26, trivial⟩
    ·
      try unfold f_X11_tryPair_0_J47
      refine fd_ok_bd ?_
      try unfold f_X11_work_0
      have r_101 : (0 : Int) ≤ (σ.2.1 13 p1.toNatClampNeg).toInt ∧ (σ.2.1 13 p1.toNatClampNeg).toInt ≤ 199 := i0.2.1 13 _
      have r_102 := i0.2.2 p1.toNatClampNeg
      have r_103 : (0 : Int) ≤ (σ.2.1 13 p2.toNatClampNeg).toInt ∧ (σ.2.1 13 p2.toNatClampNeg).toInt ≤ 199 := i0.2.1 13 _
      have r_104 := i0.2.2 p2.toNatClampNeg
      refine fd_ok_cl (s_X11_work_0_L3 N hN N _ _ _ _ _ _ i0 (by omega) (by omega) (by omega)) ?_
      rintro v_105 σ_106 ⟨i_107, g_108, x_109⟩
      have f_110 : fd_fr [8, 9, 10, 118, 210] σ σ_106 := fd_fr_tr f0 (fd_fr_mono g_108 (by decide))
      have t_111 : (σ_106.1 12).toInt = (σ.1 12).toInt := congrArg Int32.toInt (g_108.1 12 (by decide))
      have t_112 : (σ_106.1 13).toInt = (σ.1 13).toInt := congrArg Int32.toInt (g_108.1 13 (by decide))
      refine fd_ok_bd ?_
      refine fd_ok_cl (s_X11_judge_0 N hN _ i_107) ?_
      rintro v_113 σ_114 ⟨i_115, g_116, x_117⟩
      have f_118 : fd_fr [8, 9, 10, 118, 210] σ σ_114 := fd_fr_tr f_110 (fd_fr_mono g_116 (by decide))
      have t_119 : (σ_114.1 12).toInt = (σ_106.1 12).toInt := congrArg Int32.toInt (g_116.1 12 (by decide))
      have t_120 : (σ_114.1 13).toInt = (σ_106.1 13).toInt := congrArg Int32.toInt (g_116.1 13 (by decide))
      refine fd_ok_lt (fun x17_121 ex17_121 => ?_)
      have t_122 : x17_121.toInt = (((2 : Int32) * (σ_114.1 9)) + (σ_114.1 10)).toInt := congrArg Int32.toInt ex17_121
      refine fd_ok_ite (fun c_123 => ?_) (fun c_123 => ?_)
      ·
        have d_124 := congrArg Int32.toInt c_123
        exact fd_ok_some ⟨i_115, f_118, trivial⟩
      ·
        refine fd_ok_gd (vp_in_iff.mpr ⟨by omega, by omega⟩) ?_
        refine fd_ok_ite (fun c_126 => ?_) (fun c_126 => ?_)
        ·
          have d_127 := congrArg Int32.toInt c_126
          try unfold f_X11_tryPair_0_J94
          refine fd_ok_gd (vp_in_iff.mpr ⟨by omega, by omega⟩) ?_
          refine fd_ok_lt (fun σ22_128 eσ22_128 => ?_)
          have i_129 : fd_InvM σ22_128 := fd_inv_sA eσ22_128 i_115 (by decide) (by decide) (fd_rng _)
          have f_130 : fd_fr [8, 9, 10, 118, 210] σ σ22_128 := fd_fr_tr f_118 (fd_fr_sA eσ22_128 (by decide))
          have t_131 : (σ22_128.1 12).toInt = (σ_114.1 12).toInt := by subst eσ22_128; rfl
          have t_132 : (σ22_128.1 13).toInt = (σ_114.1 13).toInt := by subst eσ22_128; rfl
          refine fd_ok_gd (vp_in_iff.mpr ⟨by omega, by omega⟩) ?_
          refine fd_ok_lt (fun σ24_133 eσ24_133 => ?_)
          have i_134 : fd_InvM σ24_133 := fd_inv_sA eσ24_133 i_129 (by decide) (by decide) (fd_rng _)
          have f_135 : fd_fr [8, 9, 10, 118, 210] σ σ24_133 := fd_fr_tr f_130 (fd_fr_sA eσ24_133 (by decide))
          have t_136 : (σ24_133.1 12).toInt = (σ22_128.1 12).toInt := by subst eσ24_133; rfl
          have t_137 : (σ24_133.1 13).toInt = (σ22_128.1 13).toInt := by subst eσ24_133; rfl
          refine fd_ok_gd (vp_in_iff.mpr ⟨by omega, by omega⟩) ?_
          refine fd_ok_lt (fun σ26_138 eσ26_138 => ?_)
          have i_139 : fd_InvM σ26_138 := fd_inv_sA eσ26_138 i_134 (by decide) (by decide) (fd_rng _)
          have f_140 : fd_fr [8, 9, 10, 118, 210] σ σ26_138 := fd_fr_tr f_135 (fd_fr_sA eσ26_138 (by decide))
          have t_141 : (σ26_138.1 12).toInt = (σ24_133.1 12).toInt := by subst eσ26_138; rfl
          have t_142 : (σ26_138.1 13).toInt = (σ24_133.1 13).toInt := by subst eσ26_138; rfl
          refine fd_ok_gd (vp_in_iff.mpr ⟨by omega, by omega⟩) ?_
          refine fd_ok_lt (fun σ28_143 eσ28_143 => ?_)
          have i_144 : fd_InvM σ28_143 := fd_inv_sA eσ28_143 i_139 (by decide) (by decide) (fd_rng _)
          have f_145 : fd_fr [8, 9, 10, 118, 210] σ σ28_143 := fd_fr_tr f_140 (fd_fr_sA eσ28_143 (by decide))
          have t_146 : (σ28_143.1 12).toInt = (σ26_138.1 12).toInt := by subst eσ28_143; rfl
          have t_147 : (σ28_143.1 13).toInt = (σ26_138.1 13).toInt := by subst eσ28_143; rfl
          refine fd_ok_gd (vp_in_iff.mpr ⟨by omega, by omega⟩) ?_
          refine fd_ok_lt (fun σ30_148 eσ30_148 => ?_)
          have i_149 : fd_InvM σ30_148 := fd_inv_sA eσ30_148 i_144 (by decide) (by decide) (fd_rng _)
          have f_150 : fd_fr [8, 9, 10, 118, 210] σ σ30_148 := fd_fr_tr f_145 (fd_fr_sA eσ30_148 (by decide))
          have t_151 : (σ30_148.1 12).toInt = (σ28_143.1 12).toInt := by subst eσ30_148; rfl
          have t_152 : (σ30_148.1 13).toInt = (σ28_143.1 13).toInt := by subst eσ30_148; rfl
          refine fd_ok_gd (vp_in_iff.mpr ⟨by omega, by omega⟩) ?_
          refine fd_ok_lt (fun σ32_153 eσ32_153 => ?_)
          have i_154 : fd_InvM σ32_153 := fd_inv_sA eσ32_153 i_149 (by decide) (by decide) (fd_rng _)
          have f_155 : fd_fr [8, 9, 10, 118, 210] σ σ32_153 := fd_fr_tr f_150 (fd_fr_sA eσ32_153 (by decide))
          have t_156 : (σ32_153.1 12).toInt = (σ30_148.1 12).toInt := by subst eσ32_153; rfl
          have t_157 : (σ32_153.1 13).toInt = (σ30_148.1 13).toInt := by subst eσ32_153; rfl
          exact fd_ok_some ⟨i_154, f_155, trivial⟩
        ·
          refine fd_ok_gd (vp_in_iff.mpr ⟨by omega, by omega⟩) ?_
          refine fd_ok_ite (fun c_159 => ?_) (fun c_159 => ?_)
          ·
            have d_160 := Int32.lt_iff_toInt_lt.mp c_159
            try unfold f_X11_tryPair_0_J94
            refine fd_ok_gd (vp_in_iff.mpr ⟨by omega, by omega⟩) ?_
            refine fd_ok_lt (fun σ22_161 eσ22_161 => ?_)
            have i_162 : fd_InvM σ22_161 := fd_inv_sA eσ22_161 i_115 (by decide) (by decide) (fd_rng _)
            have f_163 : fd_fr [8, 9, 10, 118, 210] σ σ22_161 := fd_fr_tr f_118 (fd_fr_sA eσ22_161 (by decide))
            have t_164 : (σ22_161.1 12).toInt = (σ_114.1 12).toInt := by subst eσ22_161; rfl
            have t_165 : (σ22_161.1 13).toInt = (σ_114.1 13).toInt := by subst eσ22_161; rfl
            refine fd_ok_gd (vp_in_iff.mpr ⟨by omega, by omega⟩) ?_
            refine fd_ok_lt (fun σ24_166 eσ24_166 => ?_)
            have i_167 : fd_InvM σ24_166 := fd_inv_sA eσ24_166 i_162 (by decide) (by decide) (fd_rng _)
            have f_168 : fd_fr [8, 9, 10, 118, 210] σ σ24_166 := fd_fr_tr f_163 (fd_fr_sA eσ24_166 (by decide))
            have t_169 : (σ24_166.1 12).toInt = (σ22_161.1 12).toInt := by subst eσ24_166; rfl
            have t_170 : (σ24_166.1 13).toInt = (σ22_161.1 13).toInt := by subst eσ24_166; rfl
            refine fd_ok_gd (vp_in_iff.mpr ⟨by omega, by omega⟩) ?_
            refine fd_ok_lt (fun σ26_171 eσ26_171 => ?_)
            have i_172 : fd_InvM σ26_171 := fd_inv_sA eσ26_171 i_167 (by decide) (by decide) (fd_rng _)
            have f_173 : fd_fr [8, 9, 10, 118, 210] σ σ26_171 := fd_fr_tr f_168 (fd_fr_sA eσ26_171 (by decide))
            have t_174 : (σ26_171.1 12).toInt = (σ24_166.1 12).toInt := by subst eσ26_171; rfl
            have t_175 : (σ26_171.1 13).toInt = (σ24_166.1 13).toInt := by subst eσ26_171; rfl
            refine fd_ok_gd (vp_in_iff.mpr ⟨by omega, by omega⟩) ?_
            refine fd_ok_lt (fun σ28_176 eσ28_176 => ?_)
            have i_177 : fd_InvM σ28_176 := fd_inv_sA eσ28_176 i_172 (by decide) (by decide) (fd_rng _)
            have f_178 : fd_fr [8, 9, 10, 118, 210] σ σ28_176 := fd_fr_tr f_173 (fd_fr_sA eσ28_176 (by decide))
            have t_179 : (σ28_176.1 12).toInt = (σ26_171.1 12).toInt := by subst eσ28_176; rfl
            have t_180 : (σ28_176.1 13).toInt = (σ26_171.1 13).toInt := by subst eσ28_176; rfl
            refine fd_ok_gd (vp_in_iff.mpr ⟨by omega, by omega⟩) ?_
            refine fd_ok_lt (fun σ30_181 eσ30_181 => ?_)
            have i_182 : fd_InvM σ30_181 := fd_inv_sA eσ30_181 i_177 (by decide) (by decide) (fd_rng _)
            have f_183 : fd_fr [8, 9, 10, 118, 210] σ σ30_181 := fd_fr_tr f_178 (fd_fr_sA eσ30_181 (by decide))
            have t_184 : (σ30_181.1 12).toInt = (σ28_176.1 12).toInt := by subst eσ30_181; rfl
            have t_185 : (σ30_181.1 13).toInt = (σ28_176.1 13).toInt := by subst eσ30_181; rfl
            refine fd_ok_gd (vp_in_iff.mpr ⟨by omega, by omega⟩) ?_
            refine fd_ok_lt (fun σ32_186 eσ32_186 => ?_)
            have i_187 : fd_InvM σ32_186 := fd_inv_sA eσ32_186 i_182 (by decide) (by decide) (fd_rng _)
            have f_188 : fd_fr [8, 9, 10, 118, 210] σ σ32_186 := fd_fr_tr f_183 (fd_fr_sA eσ32_186 (by decide))
            have t_189 : (σ32_186.1 12).toInt = (σ30_181.1 12).toInt := by subst eσ32_186; rfl
            have t_190 : (σ32_186.1 13).toInt = (σ30_181.1 13).toInt := by subst eσ32_186; rfl
            exact fd_ok_some ⟨i_187, f_188, trivial⟩
          ·
            have d_191 := Int32.le_iff_toInt_le.mp (Int32.not_lt.mp c_159)
            exact fd_ok_some ⟨i_115, f_118, trivial⟩
  ·
    try unfold f_X11_tryPair_0_J24
    refine fd_ok_gd (vp_in_iff.mpr ⟨by omega, by omega⟩) ?_
    refine fd_ok_gd (vp_in_iff.mpr ⟨by omega, by omega⟩) ?_
    have r_193 : (0 : Int) ≤ (σ.2.1 12 p2.toNatClampNeg).toInt ∧ (σ.2.1 12 p2.toNatClampNeg).toInt ≤ 3 := i0.2.1 12 _
    have r_194 := i0.2.2 p2.toNatClampNeg
    refine fd_ok_ite (fun c_195 => ?_) (fun c_195 => ?_)
    ·
      have d_196 := congrArg Int32.toInt c_195
      try unfold f_X11_tryPair_0_J47
      refine fd_ok_bd ?_
      try unfold f_X11_work_0
      have r_197 : (0 : Int) ≤ (σ.2.1 13 p1.toNatClampNeg).toInt ∧ (σ.2.1 13 p1.toNatClampNeg).toInt ≤ 199 := i0.2.1 13 _
      have r_198 := i0.2.2 p1.toNatClampNeg
      have r_199 : (0 : Int) ≤ (σ.2.1 13 p2.toNatClampNeg).toInt ∧ (σ.2.1 13 p2.toNatClampNeg).toInt ≤ 199 := i0.2.1 13 _
      have r_200 := i0.2.2 p2.toNatClampNeg
      refine fd_ok_cl (s_X11_work_0_L3 N hN N _ _ _ _ _ _ i0 (by omega) (by omega) (by omega)) ?_
      rintro v_201 σ_202 ⟨i_203, g_204, x_205⟩
      have f_206 : fd_fr [8, 9, 10, 118, 210] σ σ_202 := fd_fr_tr f0 (fd_fr_mono g_204 (by decide))
      have t_207 : (σ_202.1 12).toInt = (σ.1 12).toInt := congrArg Int32.toInt (g_204.1 12 (by decide))
      have t_208 : (σ_202.1 13).toInt = (σ.1 13).toInt := congrArg Int32.toInt (g_204.1 13 (by decide))
      refine fd_ok_bd ?_
      refine fd_ok_cl (s_X11_judge_0 N hN _ i_203) ?_
      rintro v_209 σ_210 ⟨i_211, g_212, x_213⟩
      have f_214 : fd_fr [8, 9, 10, 118, 210] σ σ_210 := fd_fr_tr f_206 (fd_fr_mono g_212 (by decide))
      have t_215 : (σ_210.1 12).toInt = (σ_202.1 12).toInt := congrArg Int32.toInt (g_212.1 12 (by decide))
      have t_216 : (σ_210.1 13).toInt = (σ_202.1 13).toInt := congrArg Int32.toInt (g_212.1 13 (by decide))
      refine fd_ok_lt (fun x17_217 ex17_217 => ?_)
      have t_218 : x17_217.toInt = (((2 : Int32) * (σ_210.1 9)) + (σ_210.1 10)).toInt := congrArg Int32.toInt ex17_217
      refine fd_ok_ite (fun c_219 => ?_) (fun c_219 => ?_)
      ·
        have d_220 := congrArg Int32.toInt c_219
        exact fd_ok_some ⟨i_211, f_214, trivial⟩
      ·
        refine fd_ok_gd (vp_in_iff.mpr ⟨by omega, by omega⟩) ?_
        refine fd_ok_ite (fun c_222 => ?_) (fun c_222 => ?_)
        ·
          have d_223 := congrArg Int32.toInt c_222
          try unfold f_X11_tryPair_0_J94
          refine fd_ok_gd (vp_in_iff.mpr ⟨by omega, by omega⟩) ?_
          refine fd_ok_lt (fun σ22_224 eσ22_224 => ?_)
          have i_225 : fd_InvM σ22_224 := fd_inv_sA eσ22_224 i_211 (by decide) (by decide) (fd_rng _)
          have f_226 : fd_fr [8, 9, 10, 118, 210] σ σ22_224 := fd_fr_tr f_214 (fd_fr_sA eσ22_224 (by decide))
          have t_227 : (σ22_224.1 12).toInt = (σ_210.1 12).toInt := by subst eσ22_224; rfl
          have t_228 : (σ22_224.1 13).toInt = (σ_210.1 13).toInt := by subst eσ22_224; rfl
          refine fd_ok_gd (vp_in_iff.mpr ⟨by omega, by omega⟩) ?_
          refine fd_ok_lt (fun σ24_229 eσ24_229 => ?_)
          have i_230 : fd_InvM σ24_229 := fd_inv_sA eσ24_229 i_225 (by decide) (by decide) (fd_rng _)
          have f_231 : fd_fr [8, 9, 10, 118, 210] σ σ24_229 := fd_fr_tr f_226 (fd_fr_sA eσ24_229 (by decide))
          have t_232 : (σ24_229.1 12).toInt = (σ22_224.1 12).toInt := by subst eσ24_229; rfl
          have t_233 : (σ24_229.1 13).toInt = (σ22_224.1 13).toInt := by subst eσ24_229; rfl
          refine fd_ok_gd (vp_in_iff.mpr ⟨by omega, by omega⟩) ?_
          refine fd_ok_lt (fun σ26_234 eσ26_234 => ?_)
          have i_235 : fd_InvM σ26_234 := fd_inv_sA eσ26_234 i_230 (by decide) (by decide) (fd_rng _)
          have f_236 : fd_fr [8, 9, 10, 118, 210] σ σ26_234 := fd_fr_tr f_231 (fd_fr_sA eσ26_234 (by decide))
          have t_237 : (σ26_234.1 12).toInt = (σ24_229.1 12).toInt := by subst eσ26_234; rfl
          have t_238 : (σ26_234.1 13).toInt = (σ24_229.1 13).toInt := by subst eσ26_234; rfl
          refine fd_ok_gd (vp_in_iff.mpr ⟨by omega, by omega⟩) ?_
          refine fd_ok_lt (fun σ28_239 eσ28_239 => ?_)
          have i_240 : fd_InvM σ28_239 := fd_inv_sA eσ28_239 i_235 (by decide) (by decide) (fd_rng _)
          have f_241 : fd_fr [8, 9, 10, 118, 210] σ σ28_239 := fd_fr_tr f_236 (fd_fr_sA eσ28_239 (by decide))
          have t_242 : (σ28_239.1 12).toInt = (σ26_234.1 12).toInt := by subst eσ28_239; rfl
          have t_243 : (σ28_239.1 13).toInt = (σ26_234.1 13).toInt := by subst eσ28_239; rfl
          refine fd_ok_gd (vp_in_iff.mpr ⟨by omega, by omega⟩) ?_
          refine fd_ok_lt (fun σ30_244 eσ30_244 => ?_)
          have i_245 : fd_InvM σ30_244 := fd_inv_sA eσ30_244 i_240 (by decide) (by decide) (fd_rng _)
          have f_246 : fd_fr [8, 9, 10, 118, 210] σ σ30_244 := fd_fr_tr f_241 (fd_fr_sA eσ30_244 (by decide))
          have t_247 : (σ30_244.1 12).toInt = (σ28_239.1 12).toInt := by subst eσ30_244; rfl
          have t_248 : (σ30_244.1 13).toInt = (σ28_239.1 13).toInt := by subst eσ30_244; rfl
          refine fd_ok_gd (vp_in_iff.mpr ⟨by omega, by omega⟩) ?_
          refine fd_ok_lt (fun σ32_249 eσ32_249 => ?_)
          have i_250 : fd_InvM σ32_249 := fd_inv_sA eσ32_249 i_245 (by decide) (by decide) (fd_rng _)
          have f_251 : fd_fr [8, 9, 10, 118, 210] σ σ32_249 := fd_fr_tr f_246 (fd_fr_sA eσ32_249 (by decide))
          have t_252 : (σ32_249.1 12).toInt = (σ30_244.1 12).toInt := by subst eσ32_249; rfl
          have t_253 : (σ32_249.1 13).toInt = (σ30_244.1 13).toInt := by subst eσ32_249; rfl
          exact fd_ok_some ⟨i_250, f_251, trivial⟩
        ·
          refine fd_ok_gd (vp_in_iff.mpr ⟨by omega, by omega⟩) ?_
          refine fd_ok_ite (fun c_255 => ?_) (fun c_255 => ?_)
          ·
            have d_256 := Int32.lt_iff_toInt_lt.mp c_255
            try unfold f_X11_tryPair_0_J94
            refine fd_ok_gd (vp_in_iff.mpr ⟨by omega, by omega⟩) ?_
            refine fd_ok_lt (fun σ22_257 eσ22_257 => ?_)
            have i_258 : fd_InvM σ22_257 := fd_inv_sA eσ22_257 i_211 (by decide) (by decide) (fd_rng _)
            have f_259 : fd_fr [8, 9, 10, 118, 210] σ σ22_257 := fd_fr_tr f_214 (fd_fr_sA eσ22_257 (by decide))
            have t_260 : (σ22_257.1 12).toInt = (σ_210.1 12).toInt := by subst eσ22_257; rfl
            have t_261 : (σ22_257.1 13).toInt = (σ_210.1 13).toInt := by subst eσ22_257; rfl
            refine fd_ok_gd (vp_in_iff.mpr ⟨by omega, by omega⟩) ?_
            refine fd_ok_lt (fun σ24_262 eσ24_262 => ?_)
            have i_263 : fd_InvM σ24_262 := fd_inv_sA eσ24_262 i_258 (by decide) (by decide) (fd_rng _)
            have f_264 : fd_fr [8, 9, 10, 118, 210] σ σ24_262 := fd_fr_tr f_259 (fd_fr_sA eσ24_262 (by decide))
            have t_265 : (σ24_262.1 12).toInt = (σ22_257.1 12).toInt := by subst eσ24_262; rfl
            have t_266 : (σ24_262.1 13).toInt = (σ22_257.1 13).toInt := by subst eσ24_262; rfl
            refine fd_ok_gd (vp_in_iff.mpr ⟨by omega, by omega⟩) ?_
            refine fd_ok_lt (fun σ26_267 eσ26_267 => ?_)
            have i_268 : fd_InvM σ26_267 := fd_inv_sA eσ26_267 i_263 (by decide) (by decide) (fd_rng _)
            have f_269 : fd_fr [8, 9, 10, 118, 210] σ σ26_267 := fd_fr_tr f_264 (fd_fr_sA eσ26_267 (by decide))
            have t_270 : (σ26_267.1 12).toInt = (σ24_262.1 12).toInt := by subst eσ26_267; rfl
            have t_271 : (σ26_267.1 13).toInt = (σ24_262.1 13).toInt := by subst eσ26_267; rfl
            refine fd_ok_gd (vp_in_iff.mpr ⟨by omega, by omega⟩) ?_
            refine fd_ok_lt (fun σ28_272 eσ28_272 => ?_)
            have i_273 : fd_InvM σ28_272 := fd_inv_sA eσ28_272 i_268 (by decide) (by decide) (fd_rng _)
            have f_274 : fd_fr [8, 9, 10, 118, 210] σ σ28_272 := fd_fr_tr f_269 (fd_fr_sA eσ28_272 (by decide))
            have t_275 : (σ28_272.1 12).toInt = (σ26_267.1 12).toInt := by subst eσ28_272; rfl
            have t_276 : (σ28_272.1 13).toInt = (σ26_267.1 13).toInt := by subst eσ28_272; rfl
            refine fd_ok_gd (vp_in_iff.mpr ⟨by omega, by omega⟩) ?_
            refine fd_ok_lt (fun σ30_277 eσ30_277 => ?_)
            have i_278 : fd_InvM σ30_277 := fd_inv_sA eσ30_277 i_273 (by decide) (by decide) (fd_rng _)
            have f_279 : fd_fr [8, 9, 10, 118, 210] σ σ30_277 := fd_fr_tr f_274 (fd_fr_sA eσ30_277 (by decide))
            have t_280 : (σ30_277.1 12).toInt = (σ28_272.1 12).toInt := by subst eσ30_277; rfl
            have t_281 : (σ30_277.1 13).toInt = (σ28_272.1 13).toInt := by subst eσ30_277; rfl
            refine fd_ok_gd (vp_in_iff.mpr ⟨by omega, by omega⟩) ?_
            refine fd_ok_lt (fun σ32_282 eσ32_282 => ?_)
            have i_283 : fd_InvM σ32_282 := fd_inv_sA eσ32_282 i_278 (by decide) (by decide) (fd_rng _)
            have f_284 : fd_fr [8, 9, 10, 118, 210] σ σ32_282 := fd_fr_tr f_279 (fd_fr_sA eσ32_282 (by decide))
            have t_285 : (σ32_282.1 12).toInt = (σ30_277.1 12).toInt := by subst eσ32_282; rfl
            have t_286 : (σ32_282.1 13).toInt = (σ30_277.1 13).toInt := by subst eσ32_282; rfl
            exact fd_ok_some ⟨i_283, f_284, trivial⟩
          ·
            have d_287 := Int32.le_iff_toInt_le.mp (Int32.not_lt.mp c_255)
            exact fd_ok_some ⟨i_211, f_214, trivial⟩
    ·
      try unfold f_X11_tryPair_0_J47
      refine fd_ok_bd ?_
      try unfold f_X11_work_0
      have r_289 : (0 : Int) ≤ (σ.2.1 13 p1.toNatClampNeg).toInt ∧ (σ.2.1 13 p1.toNatClampNeg).toInt ≤ 199 := i0.2.1 13 _
      have r_290 := i0.2.2 p1.toNatClampNeg
      have r_291 : (0 : Int) ≤ (σ.2.1 13 p2.toNatClampNeg).toInt ∧ (σ.2.1 13 p2.toNatClampNeg).toInt ≤ 199 := i0.2.1 13 _
      have r_292 := i0.2.2 p2.toNatClampNeg
      refine fd_ok_cl (s_X11_work_0_L3 N hN N _ _ _ _ _ _ i0 (by omega) (by omega) (by omega)) ?_
      rintro v_293 σ_294 ⟨i_295, g_296, x_297⟩
      have f_298 : fd_fr [8, 9, 10, 118, 210] σ σ_294 := fd_fr_tr f0 (fd_fr_mono g_296 (by decide))
      have t_299 : (σ_294.1 12).toInt = (σ.1 12).toInt := congrArg Int32.toInt (g_296.1 12 (by decide))
      have t_300 : (σ_294.1 13).toInt = (σ.1 13).toInt := congrArg Int32.toInt (g_296.1 13 (by decide))
      refine fd_ok_bd ?_
      refine fd_ok_cl (s_X11_judge_0 N hN _ i_295) ?_
      rintro v_301 σ_302 ⟨i_303, g_304, x_305⟩
      have f_306 : fd_fr [8, 9, 10, 118, 210] σ σ_302 := fd_fr_tr f_298 (fd_fr_mono g_304 (by decide))
      have t_307 : (σ_302.1 12).toInt = (σ_294.1 12).toInt := congrArg Int32.toInt (g_304.1 12 (by decide))
      have t_308 : (σ_302.1 13).toInt = (σ_294.1 13).toInt := congrArg Int32.toInt (g_304.1 13 (by decide))
      refine fd_ok_lt (fun x17_309 ex17_309 => ?_)
      have t_310 : x17_309.toInt = (((2 : Int32) * (σ_302.1 9)) + (σ_302.1 10)).toInt := congrArg Int32.toInt ex17_309
      refine fd_ok_ite (fun c_311 => ?_) (fun c_311 => ?_)
      ·
        have d_312 := congrArg Int32.toInt c_311
        exact fd_ok_some ⟨i_303, f_306, trivial⟩
      ·
        refine fd_ok_gd (vp_in_iff.mpr ⟨by omega, by omega⟩) ?_
        refine fd_ok_ite (fun c_314 => ?_) (fun c_314 => ?_)
        ·
          have d_315 := congrArg Int32.toInt c_314
          try unfold f_X11_tryPair_0_J94
          refine fd_ok_gd (vp_in_iff.mpr ⟨by omega, by omega⟩) ?_
          refine fd_ok_lt (fun σ22_316 eσ22_316 => ?_)
          have i_317 : fd_InvM σ22_316 := fd_inv_sA eσ22_316 i_303 (by decide) (by decide) (fd_rng _)
          have f_318 : fd_fr [8, 9, 10, 118, 210] σ σ22_316 := fd_fr_tr f_306 (fd_fr_sA eσ22_316 (by decide))
          have t_319 : (σ22_316.1 12).toInt = (σ_302.1 12).toInt := by subst eσ22_316; rfl
          have t_320 : (σ22_316.1 13).toInt = (σ_302.1 13).toInt := by subst eσ22_316; rfl
          refine fd_ok_gd (vp_in_iff.mpr ⟨by omega, by omega⟩) ?_
          refine fd_ok_lt (fun σ24_321 eσ24_321 => ?_)
          have i_322 : fd_InvM σ24_321 := fd_inv_sA eσ24_321 i_317 (by decide) (by decide) (fd_rng _)
          have f_323 : fd_fr [8, 9, 10, 118, 210] σ σ24_321 := fd_fr_tr f_318 (fd_fr_sA eσ24_321 (by decide))
          have t_324 : (σ24_321.1 12).toInt = (σ22_316.1 12).toInt := by subst eσ24_321; rfl
          have t_325 : (σ24_321.1 13).toInt = (σ22_316.1 13).toInt := by subst eσ24_321; rfl
          refine fd_ok_gd (vp_in_iff.mpr ⟨by omega, by omega⟩) ?_
          refine fd_ok_lt (fun σ26_326 eσ26_326 => ?_)
          have i_327 : fd_InvM σ26_326 := fd_inv_sA eσ26_326 i_322 (by decide) (by decide) (fd_rng _)
          have f_328 : fd_fr [8, 9, 10, 118, 210] σ σ26_326 := fd_fr_tr f_323 (fd_fr_sA eσ26_326 (by decide))
          have t_329 : (σ26_326.1 12).toInt = (σ24_321.1 12).toInt := by subst eσ26_326; rfl
          have t_330 : (σ26_326.1 13).toInt = (σ24_321.1 13).toInt := by subst eσ26_326; rfl
          refine fd_ok_gd (vp_in_iff.mpr ⟨by omega, by omega⟩) ?_
          refine fd_ok_lt (fun σ28_331 eσ28_331 => ?_)
          have i_332 : fd_InvM σ28_331 := fd_inv_sA eσ28_331 i_327 (by decide) (by decide) (fd_rng _)
          have f_333 : fd_fr [8, 9, 10, 118, 210] σ σ28_331 := fd_fr_tr f_328 (fd_fr_sA eσ28_331 (by decide))
          have t_334 : (σ28_331.1 12).toInt = (σ26_326.1 12).toInt := by subst eσ28_331; rfl
          have t_335 : (σ28_331.1 13).toInt = (σ26_326.1 13).toInt := by subst eσ28_331; rfl
          refine fd_ok_gd (vp_in_iff.mpr ⟨by omega, by omega⟩) ?_
          refine fd_ok_lt (fun σ30_336 eσ30_336 => ?_)
          have i_337 : fd_InvM σ30_336 := fd_inv_sA eσ30_336 i_332 (by decide) (by decide) (fd_rng _)
          have f_338 : fd_fr [8, 9, 10, 118, 210] σ σ30_336 := fd_fr_tr f_333 (fd_fr_sA eσ30_336 (by decide))
          have t_339 : (σ30_336.1 12).toInt = (σ28_331.1 12).toInt := by subst eσ30_336; rfl
          have t_340 : (σ30_336.1 13).toInt = (σ28_331.1 13).toInt := by subst eσ30_336; rfl
          refine fd_ok_gd (vp_in_iff.mpr ⟨by omega, by omega⟩) ?_
          refine fd_ok_lt (fun σ32_341 eσ32_341 => ?_)
          have i_342 : fd_InvM σ32_341 := fd_inv_sA eσ32_341 i_337 (by decide) (by decide) (fd_rng _)
          have f_343 : fd_fr [8, 9, 10, 118, 210] σ σ32_341 := fd_fr_tr f_338 (fd_fr_sA eσ32_341 (by decide))
          have t_344 : (σ32_341.1 12).toInt = (σ30_336.1 12).toInt := by subst eσ32_341; rfl
          have t_345 : (σ32_341.1 13).toInt = (σ30_336.1 13).toInt := by subst eσ32_341; rfl
          exact fd_ok_some ⟨i_342, f_343, trivial⟩
        ·
          refine fd_ok_gd (vp_in_iff.mpr ⟨by omega, by omega⟩) ?_
          refine fd_ok_ite (fun c_347 => ?_) (fun c_347 => ?_)
          ·
            have d_348 := Int32.lt_iff_toInt_lt.mp c_347
            try unfold f_X11_tryPair_0_J94
            refine fd_ok_gd (vp_in_iff.mpr ⟨by omega, by omega⟩) ?_
            refine fd_ok_lt (fun σ22_349 eσ22_349 => ?_)
            have i_350 : fd_InvM σ22_349 := fd_inv_sA eσ22_349 i_303 (by decide) (by decide) (fd_rng _)
            have f_351 : fd_fr [8, 9, 10, 118, 210] σ σ22_349 := fd_fr_tr f_306 (fd_fr_sA eσ22_349 (by decide))
            have t_352 : (σ22_349.1 12).toInt = (σ_302.1 12).toInt := by subst eσ22_349; rfl
            have t_353 : (σ22_349.1 13).toInt = (σ_302.1 13).toInt := by subst eσ22_349; rfl
            refine fd_ok_gd (vp_in_iff.mpr ⟨by omega, by omega⟩) ?_
            refine fd_ok_lt (fun σ24_354 eσ24_354 => ?_)
            have i_355 : fd_InvM σ24_354 := fd_inv_sA eσ24_354 i_350 (by decide) (by decide) (fd_rng _)
            have f_356 : fd_fr [8, 9, 10, 118, 210] σ σ24_354 := fd_fr_tr f_351 (fd_fr_sA eσ24_354 (by decide))
            have t_357 : (σ24_354.1 12).toInt = (σ22_349.1 12).toInt := by subst eσ24_354; rfl
            have t_358 : (σ24_354.1 13).toInt = (σ22_349.1 13).toInt := by subst eσ24_354; rfl
            refine fd_ok_gd (vp_in_iff.mpr ⟨by omega, by omega⟩) ?_
            refine fd_ok_lt (fun σ26_359 eσ26_359 => ?_)
            have i_360 : fd_InvM σ26_359 := fd_inv_sA eσ26_359 i_355 (by decide) (by decide) (fd_rng _)
            have f_361 : fd_fr [8, 9, 10, 118, 210] σ σ26_359 := fd_fr_tr f_356 (fd_fr_sA eσ26_359 (by decide))
            have t_362 : (σ26_359.1 12).toInt = (σ24_354.1 12).toInt := by subst eσ26_359; rfl
            have t_363 : (σ26_359.1 13).toInt = (σ24_354.1 13).toInt := by subst eσ26_359; rfl
            refine fd_ok_gd (vp_in_iff.mpr ⟨by omega, by omega⟩) ?_
            refine fd_ok_lt (fun σ28_364 eσ28_364 => ?_)
            have i_365 : fd_InvM σ28_364 := fd_inv_sA eσ28_364 i_360 (by decide) (by decide) (fd_rng _)
            have f_366 : fd_fr [8, 9, 10, 118, 210] σ σ28_364 := fd_fr_tr f_361 (fd_fr_sA eσ28_364 (by decide))
            have t_367 : (σ28_364.1 12).toInt = (σ26_359.1 12).toInt := by subst eσ28_364; rfl
            have t_368 : (σ28_364.1 13).toInt = (σ26_359.1 13).toInt := by subst eσ28_364; rfl
            refine fd_ok_gd (vp_in_iff.mpr ⟨by omega, by omega⟩) ?_
            refine fd_ok_lt (fun σ30_369 eσ30_369 => ?_)
            have i_370 : fd_InvM σ30_369 := fd_inv_sA eσ30_369 i_365 (by decide) (by decide) (fd_rng _)
            have f_371 : fd_fr [8, 9, 10, 118, 210] σ σ30_369 := fd_fr_tr f_366 (fd_fr_sA eσ30_369 (by decide))
            have t_372 : (σ30_369.1 12).toInt = (σ28_364.1 12).toInt := by subst eσ30_369; rfl
            have t_373 : (σ30_369.1 13).toInt = (σ28_364.1 13).toInt := by subst eσ30_369; rfl
            refine fd_ok_gd (vp_in_iff.mpr ⟨by omega, by omega⟩) ?_
            refine fd_ok_lt (fun σ32_374 eσ32_374 => ?_)
            have i_375 : fd_InvM σ32_374 := fd_inv_sA eσ32_374 i_370 (by decide) (by decide) (fd_rng _)
            have f_376 : fd_fr [8, 9, 10, 118, 210] σ σ32_374 := fd_fr_tr f_371 (fd_fr_sA eσ32_374 (by decide))
            have t_377 : (σ32_374.1 12).toInt = (σ30_369.1 12).toInt := by subst eσ32_374; rfl
            have t_378 : (σ32_374.1 13).toInt = (σ30_369.1 13).toInt := by subst eσ32_374; rfl
            exact fd_ok_some ⟨i_375, f_376, trivial⟩
          ·
            have d_379 := Int32.le_iff_toInt_le.mp (Int32.not_lt.mp c_347)
            exact fd_ok_some ⟨i_303, f_306, trivial⟩
set_option maxHeartbeats 4000000 in
theorem s_X11_enter_0_L36 (N : Nat) (hN : 1000 ≤ N) : ∀ (n : Nat) (y1 : Int32) (y2 : Int32) (y3 : Int32) (y4 : Int32) (σ : fd_St), fd_InvM σ → (0 ≤ y4.toInt) → (y4.toInt ≤ 479) → (0 ≤ y1.toInt) → (y1.toInt ≤ 3) → (0 ≤ y2.toInt) → (y2.toInt ≤ 199) → (1 < y1.toInt → y2.toInt < 40) → ((σ.1 7).toInt ≤ 479) → y4.toInt < (n : Int) → fd_ok (f_X11_enter_0_L36 N n y1 y2 y3 y4 σ) (fun v s => fd_InvM s ∧ fd_fr [7, 112, 113, 114, 115, 116, 117] σ s ∧ ((s.1 7).toInt = (σ.1 7).toInt + 1)) := by
  have litm1 : (-1 : Int32).toInt = -1 := by decide
  have lit0 : (0 : Int32).toInt = 0 := by decide
  have lit1 : (1 : Int32).toInt = 1 := by decide
  intro n
  induction n with
  | zero =>
    intro y1 y2 y3 y4 σ i0 h0 h1 h2 h3 h4 h5 h6 h7 hm
    omega
  | succ n ih =>
    intro y1 y2 y3 y4 σ i0 h0 h1 h2 h3 h4 h5 h6 h7 hm
    have f0 : fd_fr [7, 112, 113, 114, 115, 116, 117] σ σ := fd_fr_rf
    unfold f_X11_enter_0_L36
    refine fd_ok_ite (fun c_1 => ?_) (fun c_1 => ?_)
    ·
      have d_2 := Int32.le_iff_toInt_le.mp c_1
      try unfold f_X11_enter_0_J70
      refine fd_ok_gd (vp_in_iff.mpr ⟨by omega, by omega⟩) ?_
      refine fd_ok_lt (fun σ16_3 eσ16_3 => ?_)
      have f_5 : fd_fr [7, 112, 113, 114, 115, 116, 117] σ σ16_3 := fd_fr_tr f0 (fd_fr_sA eσ16_3 (by decide))
      have t_6 : (σ16_3.1 7).toInt = (σ.1 7).toInt := by subst eσ16_3; rfl
      have t_7 : (σ16_3.1 12).toInt = (σ.1 12).toInt := by subst eσ16_3; rfl
      have t_8 : (σ16_3.1 13).toInt = (σ.1 13).toInt := by subst eσ16_3; rfl
      have t_9 : (σ16_3.1 14).toInt = (σ.1 14).toInt := by subst eσ16_3; rfl
      have i_10 : (∀ k, fd_loM k ≤ (σ16_3.1 k).toInt ∧ (σ16_3.1 k).toInt ≤ fd_hiM k) ∧ (∀ c i, fd_laM c ≤ (σ16_3.2.1 c i).toInt ∧ (σ16_3.2.1 c i).toInt ≤ fd_haM c) ∧ True := by rw [eσ16_3]; exact ⟨i0.1, fd_inv_u i0.2.1 ⟨(by omega : (0 : Int) ≤ y1.toInt), (by omega : y1.toInt ≤ 3)⟩, trivial⟩
      refine fd_ok_gd (vp_in_iff.mpr ⟨by omega, by omega⟩) ?_
      refine fd_ok_lt (fun σ18_11 eσ18_11 => ?_)
      have i_12 : fd_InvM σ18_11 := fd_inv_s2 eσ16_3 eσ18_11 i0 (by subst eσ16_3; rfl) (by decide) ⟨(by omega : (0 : Int) ≤ y1.toInt), (by omega : y1.toInt ≤ 3)⟩ ⟨(by omega : (0 : Int) ≤ y2.toInt), (by omega : y2.toInt ≤ 199)⟩ (by omega)
      have f_13 : fd_fr [7, 112, 113, 114, 115, 116, 117] σ σ18_11 := fd_fr_tr f_5 (fd_fr_sA eσ18_11 (by decide))
      have t_14 : (σ18_11.1 7).toInt = (σ16_3.1 7).toInt := by subst eσ18_11; rfl
      have t_15 : (σ18_11.1 12).toInt = (σ16_3.1 12).toInt := by subst eσ18_11; rfl
      have t_16 : (σ18_11.1 13).toInt = (σ16_3.1 13).toInt := by subst eσ18_11; rfl
      have t_17 : (σ18_11.1 14).toInt = (σ16_3.1 14).toInt := by subst eσ18_11; rfl
      refine fd_ok_gd (vp_in_iff.mpr ⟨by omega, by omega⟩) ?_
      refine fd_ok_lt (fun σ20_18 eσ20_18 => ?_)
      have i_19 : fd_InvM σ20_18 := fd_inv_sA eσ20_18 i_12 (by decide) (by decide) (fd_rng _)
      have f_20 : fd_fr [7, 112, 113, 114, 115, 116, 117] σ σ20_18 := fd_fr_tr f_13 (fd_fr_sA eσ20_18 (by decide))
      have t_21 : (σ20_18.1 7).toInt = (σ18_11.1 7).toInt := by subst eσ20_18; rfl
      have t_22 : (σ20_18.1 12).toInt = (σ18_11.1 12).toInt := by subst eσ20_18; rfl
      have t_23 : (σ20_18.1 13).toInt = (σ18_11.1 13).toInt := by subst eσ20_18; rfl
      have t_24 : (σ20_18.1 14).toInt = (σ18_11.1 14).toInt := by subst eσ20_18; rfl
      refine fd_ok_gd (vp_in_iff.mpr ⟨by omega, by omega⟩) ?_
      refine fd_ok_lt (fun σ22_25 eσ22_25 => ?_)
      have i_26 : fd_InvM σ22_25 := fd_inv_sA eσ22_25 i_19 (by decide) (by decide) (fd_rng _)
      have f_27 : fd_fr [7, 112, 113, 114, 115, 116, 117] σ σ22_25 := fd_fr_tr f_20 (fd_fr_sA eσ22_25 (by decide))
      have t_28 : (σ22_25.1 7).toInt = (σ20_18.1 7).toInt := by subst eσ22_25; rfl
      have t_29 : (σ22_25.1 12).toInt = (σ20_18.1 12).toInt := by subst eσ22_25; rfl
      have t_30 : (σ22_25.1 13).toInt = (σ20_18.1 13).toInt := by subst eσ22_25; rfl
      have t_31 : (σ22_25.1 14).toInt = (σ20_18.1 14).toInt := by subst eσ22_25; rfl
      refine fd_ok_gd (vp_in_iff.mpr ⟨by omega, by omega⟩) ?_
      refine fd_ok_lt (fun σ24_32 eσ24_32 => ?_)
      have i_33 : fd_InvM σ24_32 := fd_inv_sA eσ24_32 i_26 (by decide) (by decide) (fd_rng _)
      have f_34 : fd_fr [7, 112, 113, 114, 115, 116, 117] σ σ24_32 := fd_fr_tr f_27 (fd_fr_sA eσ24_32 (by decide))
      have t_35 : (σ24_32.1 7).toInt = (σ22_25.1 7).toInt := by subst eσ24_32; rfl
      have t_36 : (σ24_32.1 12).toInt = (σ22_25.1 12).toInt := by subst eσ24_32; rfl
      have t_37 : (σ24_32.1 13).toInt = (σ22_25.1 13).toInt := by subst eσ24_32; rfl
      have t_38 : (σ24_32.1 14).toInt = (σ22_25.1 14).toInt := by subst eσ24_32; rfl
      refine fd_ok_gd (vp_in_iff.mpr ⟨by omega, by omega⟩) ?_
      refine fd_ok_lt (fun σ26_39 eσ26_39 => ?_)
      have i_40 : fd_InvM σ26_39 := fd_inv_sA eσ26_39 i_33 (by decide) (by decide) (fd_rng _)
      have f_41 : fd_fr [7, 112, 113, 114, 115, 116, 117] σ σ26_39 := fd_fr_tr f_34 (fd_fr_sA eσ26_39 (by decide))
      have t_42 : (σ26_39.1 7).toInt = (σ24_32.1 7).toInt := by subst eσ26_39; rfl
      have t_43 : (σ26_39.1 12).toInt = (σ24_32.1 12).toInt := by subst eσ26_39; rfl
      have t_44 : (σ26_39.1 13).toInt = (σ24_32.1 13).toInt := by subst eσ26_39; rfl
      have t_45 : (σ26_39.1 14).toInt = (σ24_32.1 14).toInt := by subst eσ26_39; rfl
      refine fd_ok_lt (fun σ27_46 eσ27_46 => ?_)
      have r_49 : (0 : Int) ≤ (σ26_39.1 7).toInt ∧ (σ26_39.1 7).toInt ≤ 480 := i_40.1 7
      have u_50 := Jvm.Kit.i32_add (x := (σ26_39.1 7)) (y := (1 : Int32)) (by omega) (by omega)
      have i_47 : fd_InvM σ27_46 := fd_inv_sI eσ27_46 i_40 ⟨(by omega : (0 : Int) ≤ ((σ26_39.1 7) + (1 : Int32)).toInt), (by omega : ((σ26_39.1 7) + (1 : Int32)).toInt ≤ 480)⟩
      have f_48 : fd_fr [7, 112, 113, 114, 115, 116, 117] σ σ27_46 := fd_fr_tr f_41 (fd_fr_sI eσ27_46 (by decide))
      have t_51 : (σ27_46.1 7).toInt = ((σ26_39.1 7) + (1 : Int32)).toInt := congrArg Int32.toInt (fd_tI eσ27_46)
      have t_52 : (σ27_46.1 12).toInt = (σ26_39.1 12).toInt := congrArg Int32.toInt (fd_tN eσ27_46 (by decide))
      have t_53 : (σ27_46.1 13).toInt = (σ26_39.1 13).toInt := congrArg Int32.toInt (fd_tN eσ27_46 (by decide))
      have t_54 : (σ27_46.1 14).toInt = (σ26_39.1 14).toInt := congrArg Int32.toInt (fd_tN eσ27_46 (by decide))
      have x_55 : (σ27_46.1 7).toInt = (σ.1 7).toInt + 1 := by omega
      exact fd_ok_some ⟨i_47, f_48, x_55⟩
    ·
      have d_56 := Int32.lt_iff_toInt_lt.mp (Int32.not_le.mp c_1)
      have u_57 := Jvm.Kit.i32_sub (x := y4) (y := (1 : Int32)) (by omega) (by omega)
      refine fd_ok_gd (vp_in_iff.mpr ⟨by omega, by omega⟩) ?_
      refine fd_ok_ite (fun c_58 => ?_) (fun c_58 => ?_)
      ·
        have d_59 := Int32.le_iff_toInt_le.mp c_58
        try unfold f_X11_enter_0_J70
        refine fd_ok_gd (vp_in_iff.mpr ⟨by omega, by omega⟩) ?_
        refine fd_ok_lt (fun σ16_60 eσ16_60 => ?_)
        have f_62 : fd_fr [7, 112, 113, 114, 115, 116, 117] σ σ16_60 := fd_fr_tr f0 (fd_fr_sA eσ16_60 (by decide))
        have t_63 : (σ16_60.1 7).toInt = (σ.1 7).toInt := by subst eσ16_60; rfl
        have t_64 : (σ16_60.1 12).toInt = (σ.1 12).toInt := by subst eσ16_60; rfl
        have t_65 : (σ16_60.1 13).toInt = (σ.1 13).toInt := by subst eσ16_60; rfl
        have t_66 : (σ16_60.1 14).toInt = (σ.1 14).toInt := by subst eσ16_60; rfl
        have i_67 : (∀ k, fd_loM k ≤ (σ16_60.1 k).toInt ∧ (σ16_60.1 k).toInt ≤ fd_hiM k) ∧ (∀ c i, fd_laM c ≤ (σ16_60.2.1 c i).toInt ∧ (σ16_60.2.1 c i).toInt ≤ fd_haM c) ∧ True := by rw [eσ16_60]; exact ⟨i0.1, fd_inv_u i0.2.1 ⟨(by omega : (0 : Int) ≤ y1.toInt), (by omega : y1.toInt ≤ 3)⟩, trivial⟩
        refine fd_ok_gd (vp_in_iff.mpr ⟨by omega, by omega⟩) ?_
        refine fd_ok_lt (fun σ18_68 eσ18_68 => ?_)
        have i_69 : fd_InvM σ18_68 := fd_inv_s2 eσ16_60 eσ18_68 i0 (by subst eσ16_60; rfl) (by decide) ⟨(by omega : (0 : Int) ≤ y1.toInt), (by omega : y1.toInt ≤ 3)⟩ ⟨(by omega : (0 : Int) ≤ y2.toInt), (by omega : y2.toInt ≤ 199)⟩ (by omega)
        have f_70 : fd_fr [7, 112, 113, 114, 115, 116, 117] σ σ18_68 := fd_fr_tr f_62 (fd_fr_sA eσ18_68 (by decide))
        have t_71 : (σ18_68.1 7).toInt = (σ16_60.1 7).toInt := by subst eσ18_68; rfl
        have t_72 : (σ18_68.1 12).toInt = (σ16_60.1 12).toInt := by subst eσ18_68; rfl
        have t_73 : (σ18_68.1 13).toInt = (σ16_60.1 13).toInt := by subst eσ18_68; rfl
        have t_74 : (σ18_68.1 14).toInt = (σ16_60.1 14).toInt := by subst eσ18_68; rfl
        refine fd_ok_gd (vp_in_iff.mpr ⟨by omega, by omega⟩) ?_
        refine fd_ok_lt (fun σ20_75 eσ20_75 => ?_)
        have i_76 : fd_InvM σ20_75 := fd_inv_sA eσ20_75 i_69 (by decide) (by decide) (fd_rng _)
        have f_77 : fd_fr [7, 112, 113, 114, 115, 116, 117] σ σ20_75 := fd_fr_tr f_70 (fd_fr_sA eσ20_75 (by decide))
        have t_78 : (σ20_75.1 7).toInt = (σ18_68.1 7).toInt := by subst eσ20_75; rfl
        have t_79 : (σ20_75.1 12).toInt = (σ18_68.1 12).toInt := by subst eσ20_75; rfl
        have t_80 : (σ20_75.1 13).toInt = (σ18_68.1 13).toInt := by subst eσ20_75; rfl
        have t_81 : (σ20_75.1 14).toInt = (σ18_68.1 14).toInt := by subst eσ20_75; rfl
        refine fd_ok_gd (vp_in_iff.mpr ⟨by omega, by omega⟩) ?_
        refine fd_ok_lt (fun σ22_82 eσ22_82 => ?_)
        have i_83 : fd_InvM σ22_82 := fd_inv_sA eσ22_82 i_76 (by decide) (by decide) (fd_rng _)
        have f_84 : fd_fr [7, 112, 113, 114, 115, 116, 117] σ σ22_82 := fd_fr_tr f_77 (fd_fr_sA eσ22_82 (by decide))
        have t_85 : (σ22_82.1 7).toInt = (σ20_75.1 7).toInt := by subst eσ22_82; rfl
        have t_86 : (σ22_82.1 12).toInt = (σ20_75.1 12).toInt := by subst eσ22_82; rfl
        have t_87 : (σ22_82.1 13).toInt = (σ20_75.1 13).toInt := by subst eσ22_82; rfl
        have t_88 : (σ22_82.1 14).toInt = (σ20_75.1 14).toInt := by subst eσ22_82; rfl
        refine fd_ok_gd (vp_in_iff.mpr ⟨by omega, by omega⟩) ?_
        refine fd_ok_lt (fun σ24_89 eσ24_89 => ?_)
        have i_90 : fd_InvM σ24_89 := fd_inv_sA eσ24_89 i_83 (by decide) (by decide) (fd_rng _)
        have f_91 : fd_fr [7, 112, 113, 114, 115, 116, 117] σ σ24_89 := fd_fr_tr f_84 (fd_fr_sA eσ24_89 (by decide))
        have t_92 : (σ24_89.1 7).toInt = (σ22_82.1 7).toInt := by subst eσ24_89; rfl
        have t_93 : (σ24_89.1 12).toInt = (σ22_82.1 12).toInt := by subst eσ24_89; rfl
        have t_94 : (σ24_89.1 13).toInt = (σ22_82.1 13).toInt := by subst eσ24_89; rfl
        have t_95 : (σ24_89.1 14).toInt = (σ22_82.1 14).toInt := by subst eσ24_89; rfl
        refine fd_ok_gd (vp_in_iff.mpr ⟨by omega, by omega⟩) ?_
        refine fd_ok_lt (fun σ26_96 eσ26_96 => ?_)
        have i_97 : fd_InvM σ26_96 := fd_inv_sA eσ26_96 i_90 (by decide) (by decide) (fd_rng _)
        have f_98 : fd_fr [7, 112, 113, 114, 115, 116, 117] σ σ26_96 := fd_fr_tr f_91 (fd_fr_sA eσ26_96 (by decide))
        have t_99 : (σ26_96.1 7).toInt = (σ24_89.1 7).toInt := by subst eσ26_96; rfl
        have t_100 : (σ26_96.1 12).toInt = (σ24_89.1 12).toInt := by subst eσ26_96; rfl
        have t_101 : (σ26_96.1 13).toInt = (σ24_89.1 13).toInt := by subst eσ26_96; rfl
        have t_102 : (σ26_96.1 14).toInt = (σ24_89.1 14).toInt := by subst eσ26_96; rfl
        refine fd_ok_lt (fun σ27_103 eσ27_103 => ?_)
        have r_106 : (0 : Int) ≤ (σ26_96.1 7).toInt ∧ (σ26_96.1 7).toInt ≤ 480 := i_97.1 7
        have u_107 := Jvm.Kit.i32_add (x := (σ26_96.1 7)) (y := (1 : Int32)) (by omega) (by omega)
        have i_104 : fd_InvM σ27_103 := fd_inv_sI eσ27_103 i_97 ⟨(by omega : (0 : Int) ≤ ((σ26_96.1 7) + (1 : Int32)).toInt), (by omega : ((σ26_96.1 7) + (1 : Int32)).toInt ≤ 480)⟩
        have f_105 : fd_fr [7, 112, 113, 114, 115, 116, 117] σ σ27_103 := fd_fr_tr f_98 (fd_fr_sI eσ27_103 (by decide))
        have t_108 : (σ27_103.1 7).toInt = ((σ26_96.1 7) + (1 : Int32)).toInt := congrArg Int32.toInt (fd_tI eσ27_103)
        have t_109 : (σ27_103.1 12).toInt = (σ26_96.1 12).toInt := congrArg Int32.toInt (fd_tN eσ27_103 (by decide))
        have t_110 : (σ27_103.1 13).toInt = (σ26_96.1 13).toInt := congrArg Int32.toInt (fd_tN eσ27_103 (by decide))
        have t_111 : (σ27_103.1 14).toInt = (σ26_96.1 14).toInt := congrArg Int32.toInt (fd_tN eσ27_103 (by decide))
        have x_112 : (σ27_103.1 7).toInt = (σ.1 7).toInt + 1 := by omega
        exact fd_ok_some ⟨i_104, f_105, x_112⟩
      ·
        have d_113 := Int32.lt_iff_toInt_lt.mp (Int32.not_le.mp c_58)
        refine fd_ok_bd ?_
        try unfold f_X11_move_0
        refine fd_ok_gd (vp_in_iff.mpr ⟨by omega, by omega⟩) ?_
        refine fd_ok_gd (vp_in_iff.mpr ⟨by omega, by omega⟩) ?_
        refine fd_ok_lt (fun σ3_114 eσ3_114 => ?_)
        have r_117 : (0 : Int) ≤ (σ.2.1 12 (y4 - (1 : Int32)).toNatClampNeg).toInt ∧ (σ.2.1 12 (y4 - (1 : Int32)).toNatClampNeg).toInt ≤ 3 := i0.2.1 12 _
        have r_118 := i0.2.2 (y4 - (1 : Int32)).toNatClampNeg
        have f_116 : fd_fr [7, 112, 113, 114, 115, 116, 117] σ σ3_114 := fd_fr_tr f0 (fd_fr_sA eσ3_114 (by decide))
        have t_119 : (σ3_114.1 7).toInt = (σ.1 7).toInt := by subst eσ3_114; rfl
        have t_120 : (σ3_114.1 12).toInt = (σ.1 12).toInt := by subst eσ3_114; rfl
        have t_121 : (σ3_114.1 13).toInt = (σ.1 13).toInt := by subst eσ3_114; rfl
        have t_122 : (σ3_114.1 14).toInt = (σ.1 14).toInt := by subst eσ3_114; rfl
        have i_123 : (∀ k, fd_loM k ≤ (σ3_114.1 k).toInt ∧ (σ3_114.1 k).toInt ≤ fd_hiM k) ∧ (∀ c i, fd_laM c ≤ (σ3_114.2.1 c i).toInt ∧ (σ3_114.2.1 c i).toInt ≤ fd_haM c) ∧ True := by rw [eσ3_114]; exact ⟨i0.1, fd_inv_u i0.2.1 ⟨(by omega : (0 : Int) ≤ (σ.2.1 12 (y4 - (1 : Int32)).toNatClampNeg).toInt), (by omega : (σ.2.1 12 (y4 - (1 : Int32)).toNatClampNeg).toInt ≤ 3)⟩, trivial⟩
        refine fd_ok_gd (vp_in_iff.mpr ⟨by omega, by omega⟩) ?_
        refine fd_ok_gd (vp_in_iff.mpr ⟨by omega, by omega⟩) ?_
        refine fd_ok_lt (fun σ6_124 eσ6_124 => ?_)
        have r_127 : (0 : Int) ≤ (σ3_114.2.1 13 (y4 - (1 : Int32)).toNatClampNeg).toInt ∧ (σ3_114.2.1 13 (y4 - (1 : Int32)).toNatClampNeg).toInt ≤ 199 := i_123.2.1 13 _
        have i_125 : fd_InvM σ6_124 := fd_inv_s2 eσ3_114 eσ6_124 i0 (by subst eσ3_114; rfl) (by decide) ⟨(by omega : (0 : Int) ≤ (σ.2.1 12 (y4 - (1 : Int32)).toNatClampNeg).toInt), (by omega : (σ.2.1 12 (y4 - (1 : Int32)).toNatClampNeg).toInt ≤ 3)⟩ ⟨(by omega : (0 : Int) ≤ (σ3_114.2.1 13 (y4 - (1 : Int32)).toNatClampNeg).toInt), (by omega : (σ3_114.2.1 13 (y4 - (1 : Int32)).toNatClampNeg).toInt ≤ 199)⟩ (by rw [eσ3_114, fd_sA_ne (by decide)]; exact i0.2.2 _)
        have f_126 : fd_fr [7, 112, 113, 114, 115, 116, 117] σ σ6_124 := fd_fr_tr f_116 (fd_fr_sA eσ6_124 (by decide))
        have t_128 : (σ6_124.1 7).toInt = (σ3_114.1 7).toInt := by subst eσ6_124; rfl
        have t_129 : (σ6_124.1 12).toInt = (σ3_114.1 12).toInt := by subst eσ6_124; rfl
        have t_130 : (σ6_124.1 13).toInt = (σ3_114.1 13).toInt := by subst eσ6_124; rfl
        have t_131 : (σ6_124.1 14).toInt = (σ3_114.1 14).toInt := by subst eσ6_124; rfl
        refine fd_ok_gd (vp_in_iff.mpr ⟨by omega, by omega⟩) ?_
        refine fd_ok_gd (vp_in_iff.mpr ⟨by omega, by omega⟩) ?_
        refine fd_ok_lt (fun σ9_132 eσ9_132 => ?_)
        have i_133 : fd_InvM σ9_132 := fd_inv_sA eσ9_132 i_125 (by decide) (by decide) (fd_rng _)
        have f_134 : fd_fr [7, 112, 113, 114, 115, 116, 117] σ σ9_132 := fd_fr_tr f_126 (fd_fr_sA eσ9_132 (by decide))
        have t_135 : (σ9_132.1 7).toInt = (σ6_124.1 7).toInt := by subst eσ9_132; rfl
        have t_136 : (σ9_132.1 12).toInt = (σ6_124.1 12).toInt := by subst eσ9_132; rfl
        have t_137 : (σ9_132.1 13).toInt = (σ6_124.1 13).toInt := by subst eσ9_132; rfl
        have t_138 : (σ9_132.1 14).toInt = (σ6_124.1 14).toInt := by subst eσ9_132; rfl
        refine fd_ok_gd (vp_in_iff.mpr ⟨by omega, by omega⟩) ?_
        refine fd_ok_gd (vp_in_iff.mpr ⟨by omega, by omega⟩) ?_
        refine fd_ok_lt (fun σ12_139 eσ12_139 => ?_)
        have i_140 : fd_InvM σ12_139 := fd_inv_sA eσ12_139 i_133 (by decide) (by decide) (fd_rng _)
        have f_141 : fd_fr [7, 112, 113, 114, 115, 116, 117] σ σ12_139 := fd_fr_tr f_134 (fd_fr_sA eσ12_139 (by decide))
        have t_142 : (σ12_139.1 7).toInt = (σ9_132.1 7).toInt := by subst eσ12_139; rfl
        have t_143 : (σ12_139.1 12).toInt = (σ9_132.1 12).toInt := by subst eσ12_139; rfl
        have t_144 : (σ12_139.1 13).toInt = (σ9_132.1 13).toInt := by subst eσ12_139; rfl
        have t_145 : (σ12_139.1 14).toInt = (σ9_132.1 14).toInt := by subst eσ12_139; rfl
        refine fd_ok_gd (vp_in_iff.mpr ⟨by omega, by omega⟩) ?_
        refine fd_ok_gd (vp_in_iff.mpr ⟨by omega, by omega⟩) ?_
        refine fd_ok_lt (fun σ15_146 eσ15_146 => ?_)
        have i_147 : fd_InvM σ15_146 := fd_inv_sA eσ15_146 i_140 (by decide) (by decide) (fd_rng _)
        have f_148 : fd_fr [7, 112, 113, 114, 115, 116, 117] σ σ15_146 := fd_fr_tr f_141 (fd_fr_sA eσ15_146 (by decide))
        have t_149 : (σ15_146.1 7).toInt = (σ12_139.1 7).toInt := by subst eσ15_146; rfl
        have t_150 : (σ15_146.1 12).toInt = (σ12_139.1 12).toInt := by subst eσ15_146; rfl
        have t_151 : (σ15_146.1 13).toInt = (σ12_139.1 13).toInt := by subst eσ15_146; rfl
        have t_152 : (σ15_146.1 14).toInt = (σ12_139.1 14).toInt := by subst eσ15_146; rfl
        refine fd_ok_gd (vp_in_iff.mpr ⟨by omega, by omega⟩) ?_
        refine fd_ok_gd (vp_in_iff.mpr ⟨by omega, by omega⟩) ?_
        refine fd_ok_lt (fun σ18_153 eσ18_153 => ?_)
        have i_154 : fd_InvM σ18_153 := fd_inv_sA eσ18_153 i_147 (by decide) (by decide) (fd_rng _)
        have f_155 : fd_fr [7, 112, 113, 114, 115, 116, 117] σ σ18_153 := fd_fr_tr f_148 (fd_fr_sA eσ18_153 (by decide))
        have t_156 : (σ18_153.1 7).toInt = (σ15_146.1 7).toInt := by subst eσ18_153; rfl
        have t_157 : (σ18_153.1 12).toInt = (σ15_146.1 12).toInt := by subst eσ18_153; rfl
        have t_158 : (σ18_153.1 13).toInt = (σ15_146.1 13).toInt := by subst eσ18_153; rfl
        have t_159 : (σ18_153.1 14).toInt = (σ15_146.1 14).toInt := by subst eσ18_153; rfl
        refine fd_ok_pb ?_
        refine fd_ok_lt (fun x35_160 ex35_160 => ?_)
        have t_161 := fd_la ex35_160 (by omega) (by omega)
        refine fd_ok_mono (ih _ _ _ _ _ i_154 (by omega) (by omega) (by omega) (by omega) (by omega) (by omega) (by omega) (by omega) (by omega)) ?_
        rintro v s ⟨hi, hf, hx⟩
        have xx : (s.1 7).toInt = (σ.1 7).toInt + 1 := by omega
        exact ⟨hi, fd_fr_tr f_155 hf, xx⟩
set_option maxHeartbeats 4000000 in
theorem s_X11_enter_0 (N : Nat) (hN : 1000 ≤ N) (p1 : Int32) (p2 : Int32) (σ : fd_St) (i0 : fd_InvM σ) (h0 : 0 ≤ p1.toInt) (h1 : p1.toInt ≤ 3) (h2 : 0 ≤ p2.toInt) (h3 : p2.toInt ≤ 199) (h4 : 1 < p1.toInt → p2.toInt < 40) (h5 : (σ.1 7).toInt ≤ 479) : fd_ok (f_X11_enter_0 N p1 p2 σ) (fun v s => fd_InvM s ∧ fd_fr [7, 8, 9, 10, 112, 113, 114, 115, 116, 117, 210] σ s ∧ ((s.1 7).toInt ≤ (σ.1 7).toInt + 1)) := by
  have lit0 : (0 : Int32).toInt = 0 := by decide
  have lit1 : (1 : Int32).toInt = 1 := by decide
  have lit2 : (2 : Int32).toInt = 2 := by decide
  have f0 : fd_fr [7, 8, 9, 10, 112, 113, 114, 115, 116, 117, 210] σ σ := fd_fr_rf
  unfold f_X11_enter_0
  refine fd_ok_bd ?_
  refine fd_ok_cl (s_X11_workFault_0 N hN _ _ _ i0 (by omega)) ?_
  rintro v_1 σ_2 ⟨i_3, g_4, x_5⟩
  have f_6 : fd_fr [7, 8, 9, 10, 112, 113, 114, 115, 116, 117, 210] σ σ_2 := fd_fr_tr f0 (fd_fr_mono g_4 (by decide))
  have t_7 : (σ_2.1 7).toInt = (σ.1 7).toInt := congrArg Int32.toInt (g_4.1 7 (by decide))
  refine fd_ok_bd ?_
  refine fd_ok_cl (s_X11_judge_0 N hN _ i_3) ?_
  rintro v_8 σ_9 ⟨i_10, g_11, x_12⟩
  have f_13 : fd_fr [7, 8, 9, 10, 112, 113, 114, 115, 116, 117, 210] σ σ_9 := fd_fr_tr f_6 (fd_fr_mono g_11 (by decide))
  have t_14 : (σ_9.1 7).toInt = (σ_2.1 7).toInt := congrArg Int32.toInt (g_11.1 7 (by decide))
  refine fd_ok_ite (fun c_15 => ?_) (fun c_15 => ?_)
  ·
    have d_16 := congrArg Int32.toInt c_15
    have x_17 : (σ_9.1 7).toInt ≤ (σ.1 7).toInt + 1 := by omega
    exact fd_ok_some ⟨i_10, f_13, x_17⟩
  ·
    refine fd_ok_lt (fun x12_19 ex12_19 => ?_)
    have t_20 : x12_19.toInt = (((2 : Int32) * (σ_9.1 9)) + (σ_9.1 10)).toInt := congrArg Int32.toInt ex12_19
    have r_22 : (0 : Int) ≤ (σ_9.1 7).toInt ∧ (σ_9.1 7).toInt ≤ 480 := i_10.1 7
    refine fd_ok_lt (fun x13_21 ex13_21 => ?_)
    have t_23 : x13_21.toInt = (σ_9.1 7).toInt := congrArg Int32.toInt ex13_21
    refine fd_ok_mono (s_X11_enter_0_L36 N hN N _ _ _ _ _ i_10 (by omega) (by omega) (by omega) (by omega) (by omega) (by omega) (by omega) (by omega) (by omega)) ?_
    rintro v s ⟨hi, hf, hx⟩
    have xx : (s.1 7).toInt ≤ (σ.1 7).toInt + 1 := by omega
    exact ⟨hi, fd_fr_tr f_13 (fd_fr_mono hf (by decide)), xx⟩
set_option maxHeartbeats 4000000 in
theorem s_X11_run_0_L150 (N : Nat) (hN : 1000 ≤ N) (k140 : Int32 → Int32 → fd_St → Option (Int32 × fd_St)) (σ0 : fd_St) (Q : Int32 → fd_St → Prop) (b : Int) (hk140 : ∀ (z1 : Int32) (z3 : Int32) (τ : fd_St), fd_InvM τ → fd_fr [6, 8, 9, 10, 118, 210] σ0 τ → (b < z3.toInt) → (0 ≤ z1.toInt) → (z1.toInt ≤ 480) → (0 ≤ z3.toInt) → (z3.toInt ≤ 480) → fd_ok (k140 z1 z3 τ) Q) : ∀ (n : Nat) (y1 : Int32) (y3 : Int32) (y4 : Int32) (σ : fd_St), fd_InvM σ → fd_fr [6, 8, 9, 10, 118, 210] σ0 σ → (b ≤ y3.toInt) → (0 ≤ y1.toInt) → (y1.toInt ≤ 480) → (0 ≤ y3.toInt) → (y3.toInt ≤ 479) → (0 ≤ y4.toInt) → (y4.toInt ≤ 480) → 480 - y4.toInt < (n : Int) → fd_ok (f_X11_run_0_L150 N k140 n y1 y3 y4 σ) Q := by
  have lit0 : (0 : Int32).toInt = 0 := by decide
  have lit1 : (1 : Int32).toInt = 1 := by decide
  have lit2 : (2 : Int32).toInt = 2 := by decide
  intro n
  induction n with
  | zero =>
    intro y1 y3 y4 σ i0 f0 h0 h1 h2 h3 h4 h5 h6 hm
    omega
  | succ n ih =>
    intro y1 y3 y4 σ i0 f0 h0 h1 h2 h3 h4 h5 h6 hm
    unfold f_X11_run_0_L150
    refine fd_ok_ite (fun c_1 => ?_) (fun c_1 => ?_)
    ·
      have d_2 := Int32.le_iff_toInt_le.mp c_1
      refine fd_ok_lt (fun x19_3 ex19_3 => ?_)
      have t_4 := fd_la ex19_3 (by omega) (by omega)
      exact hk140 _ _ _ i0 f0 (by omega) (by omega) (by omega) (by omega) (by omega)
    ·
      have d_5 := Int32.lt_iff_toInt_lt.mp (Int32.not_le.mp c_1)
      refine fd_ok_gd (vp_in_iff.mpr ⟨by omega, by omega⟩) ?_
      have r_6 : (0 : Int) ≤ (σ.2.1 12 y3.toNatClampNeg).toInt ∧ (σ.2.1 12 y3.toNatClampNeg).toInt ≤ 3 := i0.2.1 12 _
      have r_7 := i0.2.2 y3.toNatClampNeg
      refine fd_ok_ite (fun c_8 => ?_) (fun c_8 => ?_)
      ·
        have d_9 := Int32.le_iff_toInt_le.mp c_8
        try unfold f_X11_run_0_J200
        refine fd_ok_lt (fun x22_10 ex22_10 => ?_)
        have t_11 := fd_la ex22_10 (by omega) (by omega)
        exact ih _ _ _ _ i0 f0 (by omega) (by omega) (by omega) (by omega) (by omega) (by omega) (by omega) (by omega)
      ·
        have d_12 := Int32.lt_iff_toInt_lt.mp (Int32.not_le.mp c_8)
        refine fd_ok_gd (vp_in_iff.mpr ⟨by omega, by omega⟩) ?_
        have r_13 : (0 : Int) ≤ (σ.2.1 12 y4.toNatClampNeg).toInt ∧ (σ.2.1 12 y4.toNatClampNeg).toInt ≤ 3 := i0.2.1 12 _
        have r_14 := i0.2.2 y4.toNatClampNeg
        refine fd_ok_ite (fun c_15 => ?_) (fun c_15 => ?_)
        ·
          have d_16 := Int32.le_iff_toInt_le.mp c_15
          try unfold f_X11_run_0_J200
          refine fd_ok_lt (fun x22_17 ex22_17 => ?_)
          have t_18 := fd_la ex22_17 (by omega) (by omega)
          exact ih _ _ _ _ i0 f0 (by omega) (by omega) (by omega) (by omega) (by omega) (by omega) (by omega) (by omega)
        ·
          have d_19 := Int32.lt_iff_toInt_lt.mp (Int32.not_le.mp c_15)
          refine fd_ok_gd (vp_in_iff.mpr ⟨by omega, by omega⟩) ?_
          refine fd_ok_gd (vp_in_iff.mpr ⟨by omega, by omega⟩) ?_
          have r_20 : (0 : Int) ≤ (σ.2.1 13 y3.toNatClampNeg).toInt ∧ (σ.2.1 13 y3.toNatClampNeg).toInt ≤ 199 := i0.2.1 13 _
          have r_21 := i0.2.2 y3.toNatClampNeg
          have r_22 : (0 : Int) ≤ (σ.2.1 13 y4.toNatClampNeg).toInt ∧ (σ.2.1 13 y4.toNatClampNeg).toInt ≤ 199 := i0.2.1 13 _
          have r_23 := i0.2.2 y4.toNatClampNeg
          refine fd_ok_ite (fun c_24 => ?_) (fun c_24 => ?_)
          ·
            have d_25 := congrArg Int32.toInt c_24
            try unfold f_X11_run_0_J200
            refine fd_ok_lt (fun x22_26 ex22_26 => ?_)
            have t_27 := fd_la ex22_26 (by omega) (by omega)
            exact ih _ _ _ _ i0 f0 (by omega) (by omega) (by omega) (by omega) (by omega) (by omega) (by omega) (by omega)
          ·
            refine fd_ok_bd ?_
            refine fd_ok_cl (s_X11_tryPair_0 N hN _ _ _ i0 (by omega) (by omega) (by omega) (by omega)) ?_
            rintro v_29 σ_30 ⟨i_31, g_32, x_33⟩
            have f_34 : fd_fr [6, 8, 9, 10, 118, 210] σ0 σ_30 := fd_fr_tr f0 (fd_fr_mono g_32 (by decide))
            have t_35 : (σ_30.1 12).toInt = (σ.1 12).toInt := congrArg Int32.toInt (g_32.1 12 (by decide))
            have t_36 : (σ_30.1 13).toInt = (σ.1 13).toInt := congrArg Int32.toInt (g_32.1 13 (by decide))
            try unfold f_X11_run_0_J200
            refine fd_ok_lt (fun x22_37 ex22_37 => ?_)
            have t_38 := fd_la ex22_37 (by omega) (by omega)
            exact ih _ _ _ _ i_31 f_34 (by omega) (by omega) (by omega) (by omega) (by omega) (by omega) (by omega) (by omega)
set_option maxHeartbeats 4000000 in
theorem s_X11_run_0_L140 (N : Nat) (hN : 1000 ≤ N) : ∀ (n : Nat) (y1 : Int32) (y3 : Int32) (σ : fd_St), fd_InvM σ → (0 ≤ y1.toInt) → (y1.toInt ≤ 480) → (0 ≤ y3.toInt) → (y3.toInt ≤ 480) → 480 - y3.toInt < (n : Int) → fd_ok (f_X11_run_0_L140 N n y1 y3 σ) (fun v s => fd_InvM s ∧ fd_fr [6, 8, 9, 10, 118, 210] σ s ∧ (True)) := by
  have lit0 : (0 : Int32).toInt = 0 := by decide
  have lit1 : (1 : Int32).toInt = 1 := by decide
  intro n
  induction n with
  | zero =>
    intro y1 y3 σ i0 h0 h1 h2 h3 hm
    omega
  | succ n ih =>
    intro y1 y3 σ i0 h0 h1 h2 h3 hm
    have f0 : fd_fr [6, 8, 9, 10, 118, 210] σ σ := fd_fr_rf
    unfold f_X11_run_0_L140
    refine fd_ok_ite (fun c_1 => ?_) (fun c_1 => ?_)
    ·
      have d_2 := Int32.le_iff_toInt_le.mp c_1
      refine fd_ok_lt (fun σ16_3 eσ16_3 => ?_)
      have i_4 : fd_InvM σ16_3 := fd_inv_sI eσ16_3 i0 ⟨(by omega : (0 : Int) ≤ (1 : Int32).toInt), (by omega : (1 : Int32).toInt ≤ 1)⟩
      have f_5 : fd_fr [6, 8, 9, 10, 118, 210] σ σ16_3 := fd_fr_tr f0 (fd_fr_sI eσ16_3 (by decide))
      have t_6 : (σ16_3.1 7).toInt = (σ.1 7).toInt := congrArg Int32.toInt (fd_tN eσ16_3 (by decide))
      exact fd_ok_some ⟨i_4, f_5, trivial⟩
    ·
      have d_7 := Int32.lt_iff_toInt_lt.mp (Int32.not_le.mp c_1)
      refine fd_ok_lt (fun x17_8 ex17_8 => ?_)
      have t_9 := fd_la ex17_8 (by omega) (by omega)
      refine s_X11_run_0_L150 N hN (f_X11_run_0_L140 N n) σ _ y3.toInt (fun z1 z3 τ jI jF j0 j1 j2 j3 j4 => ?_) N _ _ _ _ i0 f0 (by omega) (by omega) (by omega) (by omega) (by omega) (by omega) (by omega) (by omega)
      refine fd_ok_mono (ih z1 z3 τ jI (by omega) (by omega) (by omega) (by omega) (by omega)) ?_
      rintro v s ⟨hi, hf, hx⟩
      exact ⟨hi, fd_fr_tr jF hf, trivial⟩
set_option maxHeartbeats 4000000 in
theorem s_X11_run_0_L100 (N : Nat) (hN : 1000 ≤ N) : ∀ (n : Nat) (y1 : Int32) (y2 : Int32) (σ : fd_St), fd_InvM σ → (0 ≤ y1.toInt) → (y1.toInt ≤ 480) → 480 - y1.toInt < (n : Int) → fd_ok (f_X11_run_0_L100 N n y1 y2 σ) (fun v s => fd_InvM s ∧ fd_fr [6, 8, 9, 10, 118, 210] σ s ∧ (True)) := by
  have lit0 : (0 : Int32).toInt = 0 := by decide
  have lit1 : (1 : Int32).toInt = 1 := by decide
  have lit2 : (2 : Int32).toInt = 2 := by decide
  have lit12 : (12 : Int32).toInt = 12 := by decide
  intro n
  induction n with
  | zero =>
    intro y1 y2 σ i0 h0 h1 hm
    omega
  | succ n ih =>
    intro y1 y2 σ i0 h0 h1 hm
    have f0 : fd_fr [6, 8, 9, 10, 118, 210] σ σ := fd_fr_rf
    unfold f_X11_run_0_L100
    have r_1 : (0 : Int) ≤ (σ.1 7).toInt ∧ (σ.1 7).toInt ≤ 480 := i0.1 7
    refine fd_ok_ite (fun c_2 => ?_) (fun c_2 => ?_)
    ·
      have d_3 := Int32.le_iff_toInt_le.mp c_2
      try unfold f_X11_run_0_J138
      refine fd_ok_mono (s_X11_run_0_L140 N hN N _ _ _ i0 (by omega) (by omega) (by omega) (by omega) (by omega)) ?_
      rintro v s ⟨hi, hf, hx⟩
      exact ⟨hi, fd_fr_tr f0 (fd_fr_mono hf (by decide)), trivial⟩
    ·
      have d_4 := Int32.lt_iff_toInt_lt.mp (Int32.not_le.mp c_2)
      refine fd_ok_ite (fun c_5 => ?_) (fun c_5 => ?_)
      ·
        have d_6 := Int32.le_iff_toInt_le.mp c_5
        try unfold f_X11_run_0_J138
        refine fd_ok_mono (s_X11_run_0_L140 N hN N _ _ _ i0 (by omega) (by omega) (by omega) (by omega) (by omega)) ?_
        rintro v s ⟨hi, hf, hx⟩
        exact ⟨hi, fd_fr_tr f0 (fd_fr_mono hf (by decide)), trivial⟩
      ·
        have d_7 := Int32.lt_iff_toInt_lt.mp (Int32.not_le.mp c_5)
        refine fd_ok_gd (vp_in_iff.mpr ⟨by omega, by omega⟩) ?_
        have r_8 : (0 : Int) ≤ (σ.2.1 12 y1.toNatClampNeg).toInt ∧ (σ.2.1 12 y1.toNatClampNeg).toInt ≤ 3 := i0.2.1 12 _
        have r_9 := i0.2.2 y1.toNatClampNeg
        refine fd_ok_ite (fun c_10 => ?_) (fun c_10 => ?_)
        ·
          have d_11 := Int32.le_iff_toInt_le.mp c_10
          try unfold f_X11_run_0_J131
          refine fd_ok_lt (fun x36_12 ex36_12 => ?_)
          have t_13 := fd_la ex36_12 (by omega) (by omega)
          refine fd_ok_mono (ih _ _ _ i0 (by omega) (by omega) (by omega)) ?_
          rintro v s ⟨hi, hf, hx⟩
          exact ⟨hi, fd_fr_tr f0 hf, trivial⟩
        ·
          have d_14 := Int32.lt_iff_toInt_lt.mp (Int32.not_le.mp c_10)
          try unfold f_X11_run_0_J131
          refine fd_ok_lt (fun x36_15 ex36_15 => ?_)
          have t_16 := fd_la ex36_15 (by omega) (by omega)
          refine fd_ok_mono (ih _ _ _ i0 (by omega) (by omega) (by omega)) ?_
          rintro v s ⟨hi, hf, hx⟩
          exact ⟨hi, fd_fr_tr f0 hf, trivial⟩
