set_option maxHeartbeats 4000000 in
theorem s0_X11_workPlain_0_L2 (N : Nat) (hN : 1000 ≤ N) : ∀ (n : Nat) (y1 : Int32) (σ : fd_St), fd_InvM σ → (0 ≤ y1.toInt) → (y1.toInt ≤ 200) → 200 - y1.toInt < (n : Int) → fd_ok (f_X11_workPlain_0_L2 N n y1 σ) (fun v s => fd_InvM s ∧ fd_fr [209] σ s ∧ (True)) := by
  have litm1 : (-1 : Int32).toInt = -1 := by decide
  have lit0 : (0 : Int32).toInt = 0 := by decide
  have lit1 : (1 : Int32).toInt = 1 := by decide
  have lit2 : (2 : Int32).toInt = 2 := by decide
  have lit3 : (3 : Int32).toInt = 3 := by decide
  have lit4 : (4 : Int32).toInt = 4 := by decide
  have lit5 : (5 : Int32).toInt = 5 := by decide
  have lit64 : (64 : Int32).toInt = 64 := by decide
  intro n
  induction n with
  | zero =>
    intro y1 σ i0 h0 h1 hm
    omega
  | succ n ih =>
    intro y1 σ i0 h0 h1 hm
    have f0 : fd_fr [209] σ σ := fd_fr_rf
    unfold f_X11_workPlain_0_L2
    have r_1 : (0 : Int) ≤ (σ.1 1).toInt ∧ (σ.1 1).toInt ≤ 200 := i0.1 1
    refine fd_ok_ite (fun c_2 => ?_) (fun c_2 => ?_)
    ·
      have d_3 := Int32.le_iff_toInt_le.mp c_2
      exact fd_ok_some ⟨i0, f0, trivial⟩
    ·
      have d_4 := Int32.lt_iff_toInt_lt.mp (Int32.not_le.mp c_2)
      refine fd_ok_bd ?_
      try unfold f_X11_own_0_9
      refine fd_ok_gd (vp_in_iff.mpr ⟨by omega, by omega⟩) ?_
      refine fd_ok_ite (fun c_5 => ?_) (fun c_5 => ?_)
      ·
        have d_6 := congrArg Int32.toInt c_5
        refine fd_ok_gd (vp_in_iff.mpr ⟨by omega, by omega⟩) ?_
        try unfold f_X11_own_0_9_J44
        refine fd_ok_bd ?_
        try unfold f_X11_mask_0
        have r_7 : (0 : Int) ≤ (σ.1 4).toInt ∧ (σ.1 4).toInt ≤ 64 := i0.1 4
        refine fd_ok_ite (fun c_8 => ?_) (fun c_8 => ?_)
        ·
          have d_9 := congrArg Int32.toInt c_8
          refine fd_ok_pb ?_
          refine fd_ok_pb ?_
          refine fd_ok_gd (vp_in_iff.mpr ⟨by omega, by omega⟩) ?_
          refine fd_ok_lt (fun σ8_10 eσ8_10 => ?_)
          have i_11 : fd_InvM σ8_10 := fd_inv_sL eσ8_10 i0
          have f_12 : fd_fr [209] σ σ8_10 := fd_fr_tr f0 (fd_fr_sL eσ8_10 (by decide))
          have t_13 : (σ8_10.1 1).toInt = (σ.1 1).toInt := by subst eσ8_10; rfl
          have t_14 : (σ8_10.1 2).toInt = (σ.1 2).toInt := by subst eσ8_10; rfl
          have t_15 : (σ8_10.1 3).toInt = (σ.1 3).toInt := by subst eσ8_10; rfl
          have t_16 : (σ8_10.1 4).toInt = (σ.1 4).toInt := by subst eσ8_10; rfl
          refine fd_ok_lt (fun x9_17 ex9_17 => ?_)
          have t_18 := fd_la ex9_17 (by omega) (by omega)
          refine fd_ok_mono (ih _ _ i_11 (by omega) (by omega) (by omega)) ?_
          rintro v s ⟨hi, hf, hx⟩
          exact ⟨hi, fd_fr_tr f_12 hf, trivial⟩
        ·
          have d_19 : ¬ (σ.1 4).toInt = (64 : Int32).toInt := fun q => c_8 (Int32.toInt_inj.mp q)
          refine fd_ok_pb ?_
          refine fd_ok_pb ?_
          refine fd_ok_gd (vp_in_iff.mpr ⟨by omega, by omega⟩) ?_
          refine fd_ok_lt (fun σ8_20 eσ8_20 => ?_)
          have i_21 : fd_InvM σ8_20 := fd_inv_sL eσ8_20 i0
          have f_22 : fd_fr [209] σ σ8_20 := fd_fr_tr f0 (fd_fr_sL eσ8_20 (by decide))
          have t_23 : (σ8_20.1 1).toInt = (σ.1 1).toInt := by subst eσ8_20; rfl
          have t_24 : (σ8_20.1 2).toInt = (σ.1 2).toInt := by subst eσ8_20; rfl
          have t_25 : (σ8_20.1 3).toInt = (σ.1 3).toInt := by subst eσ8_20; rfl
          have t_26 : (σ8_20.1 4).toInt = (σ.1 4).toInt := by subst eσ8_20; rfl
          refine fd_ok_lt (fun x9_27 ex9_27 => ?_)
          have t_28 := fd_la ex9_27 (by omega) (by omega)
          refine fd_ok_mono (ih _ _ i_21 (by omega) (by omega) (by omega)) ?_
          rintro v s ⟨hi, hf, hx⟩
          exact ⟨hi, fd_fr_tr f_22 hf, trivial⟩
      ·
        refine fd_ok_gd (vp_in_iff.mpr ⟨by omega, by omega⟩) ?_
        refine fd_ok_gd (vp_in_iff.mpr ⟨by omega, by omega⟩) ?_
        have r_30 : (0 : Int) ≤ (σ.2.1 2 y1.toNatClampNeg).toInt ∧ (σ.2.1 2 y1.toNatClampNeg).toInt ≤ 199 := i0.2.1 2 _
        refine fd_ok_gd (vp_in_iff.mpr ⟨by omega, by omega⟩) ?_
        refine fd_ok_gd (vp_in_iff.mpr ⟨by omega, by omega⟩) ?_
        have r_31 : (0 : Int) ≤ (σ.2.1 3 y1.toNatClampNeg).toInt ∧ (σ.2.1 3 y1.toNatClampNeg).toInt ≤ 199 := i0.2.1 3 _
        refine fd_ok_gd (vp_in_iff.mpr ⟨by omega, by omega⟩) ?_
        refine fd_ok_bd ?_
        try unfold f_X11_tell
        refine fd_ok_ite (fun c_32 => ?_) (fun c_32 => ?_)
        ·
          have d_33 := congrArg Int32.toInt c_32
          refine fd_ok_pb ?_
          try unfold f_X11_own_0_9_J44
          refine fd_ok_bd ?_
          try unfold f_X11_mask_0
          have r_34 : (0 : Int) ≤ (σ.1 4).toInt ∧ (σ.1 4).toInt ≤ 64 := i0.1 4
          refine fd_ok_ite (fun c_35 => ?_) (fun c_35 => ?_)
          ·
            have d_36 := congrArg Int32.toInt c_35
            refine fd_ok_pb ?_
            refine fd_ok_pb ?_
            refine fd_ok_gd (vp_in_iff.mpr ⟨by omega, by omega⟩) ?_
            refine fd_ok_lt (fun σ8_37 eσ8_37 => ?_)
            have i_38 : fd_InvM σ8_37 := fd_inv_sL eσ8_37 i0
            have f_39 : fd_fr [209] σ σ8_37 := fd_fr_tr f0 (fd_fr_sL eσ8_37 (by decide))
            have t_40 : (σ8_37.1 1).toInt = (σ.1 1).toInt := by subst eσ8_37; rfl
            have t_41 : (σ8_37.1 2).toInt = (σ.1 2).toInt := by subst eσ8_37; rfl
            have t_42 : (σ8_37.1 3).toInt = (σ.1 3).toInt := by subst eσ8_37; rfl
            have t_43 : (σ8_37.1 4).toInt = (σ.1 4).toInt := by subst eσ8_37; rfl
            refine fd_ok_lt (fun x9_44 ex9_44 => ?_)
            have t_45 := fd_la ex9_44 (by omega) (by omega)
            refine fd_ok_mono (ih _ _ i_38 (by omega) (by omega) (by omega)) ?_
            rintro v s ⟨hi, hf, hx⟩
            exact ⟨hi, fd_fr_tr f_39 hf, trivial⟩
          ·
            have d_46 : ¬ (σ.1 4).toInt = (64 : Int32).toInt := fun q => c_35 (Int32.toInt_inj.mp q)
            refine fd_ok_pb ?_
            refine fd_ok_pb ?_
            refine fd_ok_gd (vp_in_iff.mpr ⟨by omega, by omega⟩) ?_
            refine fd_ok_lt (fun σ8_47 eσ8_47 => ?_)
            have i_48 : fd_InvM σ8_47 := fd_inv_sL eσ8_47 i0
            have f_49 : fd_fr [209] σ σ8_47 := fd_fr_tr f0 (fd_fr_sL eσ8_47 (by decide))
            have t_50 : (σ8_47.1 1).toInt = (σ.1 1).toInt := by subst eσ8_47; rfl
            have t_51 : (σ8_47.1 2).toInt = (σ.1 2).toInt := by subst eσ8_47; rfl
            have t_52 : (σ8_47.1 3).toInt = (σ.1 3).toInt := by subst eσ8_47; rfl
            have t_53 : (σ8_47.1 4).toInt = (σ.1 4).toInt := by subst eσ8_47; rfl
            refine fd_ok_lt (fun x9_54 ex9_54 => ?_)
            have t_55 := fd_la ex9_54 (by omega) (by omega)
            refine fd_ok_mono (ih _ _ i_48 (by omega) (by omega) (by omega)) ?_
            rintro v s ⟨hi, hf, hx⟩
            exact ⟨hi, fd_fr_tr f_49 hf, trivial⟩
        ·
          refine fd_ok_ite (fun c_57 => ?_) (fun c_57 => ?_)
          ·
            have d_58 := congrArg Int32.toInt c_57
            refine fd_ok_pb ?_
            try unfold f_X11_own_0_9_J44
            refine fd_ok_bd ?_
            try unfold f_X11_mask_0
            have r_59 : (0 : Int) ≤ (σ.1 4).toInt ∧ (σ.1 4).toInt ≤ 64 := i0.1 4
            refine fd_ok_ite (fun c_60 => ?_) (fun c_60 => ?_)
            ·
              have d_61 := congrArg Int32.toInt c_60
              refine fd_ok_pb ?_
              refine fd_ok_pb ?_
              refine fd_ok_gd (vp_in_iff.mpr ⟨by omega, by omega⟩) ?_
              refine fd_ok_lt (fun σ8_62 eσ8_62 => ?_)
              have i_63 : fd_InvM σ8_62 := fd_inv_sL eσ8_62 i0
              have f_64 : fd_fr [209] σ σ8_62 := fd_fr_tr f0 (fd_fr_sL eσ8_62 (by decide))
              have t_65 : (σ8_62.1 1).toInt = (σ.1 1).toInt := by subst eσ8_62; rfl
              have t_66 : (σ8_62.1 2).toInt = (σ.1 2).toInt := by subst eσ8_62; rfl
              have t_67 : (σ8_62.1 3).toInt = (σ.1 3).toInt := by subst eσ8_62; rfl
              have t_68 : (σ8_62.1 4).toInt = (σ.1 4).toInt := by subst eσ8_62; rfl
              refine fd_ok_lt (fun x9_69 ex9_69 => ?_)
              have t_70 := fd_la ex9_69 (by omega) (by omega)
              refine fd_ok_mono (ih _ _ i_63 (by omega) (by omega) (by omega)) ?_
              rintro v s ⟨hi, hf, hx⟩
              exact ⟨hi, fd_fr_tr f_64 hf, trivial⟩
            ·
              have d_71 : ¬ (σ.1 4).toInt = (64 : Int32).toInt := fun q => c_60 (Int32.toInt_inj.mp q)
              refine fd_ok_pb ?_
              refine fd_ok_pb ?_
              refine fd_ok_gd (vp_in_iff.mpr ⟨by omega, by omega⟩) ?_
              refine fd_ok_lt (fun σ8_72 eσ8_72 => ?_)
              have i_73 : fd_InvM σ8_72 := fd_inv_sL eσ8_72 i0
              have f_74 : fd_fr [209] σ σ8_72 := fd_fr_tr f0 (fd_fr_sL eσ8_72 (by decide))
              have t_75 : (σ8_72.1 1).toInt = (σ.1 1).toInt := by subst eσ8_72; rfl
              have t_76 : (σ8_72.1 2).toInt = (σ.1 2).toInt := by subst eσ8_72; rfl
              have t_77 : (σ8_72.1 3).toInt = (σ.1 3).toInt := by subst eσ8_72; rfl
              have t_78 : (σ8_72.1 4).toInt = (σ.1 4).toInt := by subst eσ8_72; rfl
              refine fd_ok_lt (fun x9_79 ex9_79 => ?_)
              have t_80 := fd_la ex9_79 (by omega) (by omega)
              refine fd_ok_mono (ih _ _ i_73 (by omega) (by omega) (by omega)) ?_
              rintro v s ⟨hi, hf, hx⟩
              exact ⟨hi, fd_fr_tr f_74 hf, trivial⟩
          ·
            refine fd_ok_ite (fun c_82 => ?_) (fun c_82 => ?_)
            ·
              have d_83 := congrArg Int32.toInt c_82
              refine fd_ok_pb ?_
              try unfold f_X11_own_0_9_J44
              refine fd_ok_bd ?_
              try unfold f_X11_mask_0
              have r_84 : (0 : Int) ≤ (σ.1 4).toInt ∧ (σ.1 4).toInt ≤ 64 := i0.1 4
              refine fd_ok_ite (fun c_85 => ?_) (fun c_85 => ?_)
              ·
                have d_86 := congrArg Int32.toInt c_85
                refine fd_ok_pb ?_
                refine fd_ok_pb ?_
                refine fd_ok_gd (vp_in_iff.mpr ⟨by omega, by omega⟩) ?_
                refine fd_ok_lt (fun σ8_87 eσ8_87 => ?_)
                have i_88 : fd_InvM σ8_87 := fd_inv_sL eσ8_87 i0
                have f_89 : fd_fr [209] σ σ8_87 := fd_fr_tr f0 (fd_fr_sL eσ8_87 (by decide))
                have t_90 : (σ8_87.1 1).toInt = (σ.1 1).toInt := by subst eσ8_87; rfl
                have t_91 : (σ8_87.1 2).toInt = (σ.1 2).toInt := by subst eσ8_87; rfl
                have t_92 : (σ8_87.1 3).toInt = (σ.1 3).toInt := by subst eσ8_87; rfl
                have t_93 : (σ8_87.1 4).toInt = (σ.1 4).toInt := by subst eσ8_87; rfl
                refine fd_ok_lt (fun x9_94 ex9_94 => ?_)
                have t_95 := fd_la ex9_94 (by omega) (by omega)
                refine fd_ok_mono (ih _ _ i_88 (by omega) (by omega) (by omega)) ?_
                rintro v s ⟨hi, hf, hx⟩
                exact ⟨hi, fd_fr_tr f_89 hf, trivial⟩
              ·
                have d_96 : ¬ (σ.1 4).toInt = (64 : Int32).toInt := fun q => c_85 (Int32.toInt_inj.mp q)
                refine fd_ok_pb ?_
                refine fd_ok_pb ?_
                refine fd_ok_gd (vp_in_iff.mpr ⟨by omega, by omega⟩) ?_
                refine fd_ok_lt (fun σ8_97 eσ8_97 => ?_)
                have i_98 : fd_InvM σ8_97 := fd_inv_sL eσ8_97 i0
                have f_99 : fd_fr [209] σ σ8_97 := fd_fr_tr f0 (fd_fr_sL eσ8_97 (by decide))
                have t_100 : (σ8_97.1 1).toInt = (σ.1 1).toInt := by subst eσ8_97; rfl
                have t_101 : (σ8_97.1 2).toInt = (σ.1 2).toInt := by subst eσ8_97; rfl
                have t_102 : (σ8_97.1 3).toInt = (σ.1 3).toInt := by subst eσ8_97; rfl
                have t_103 : (σ8_97.1 4).toInt = (σ.1 4).toInt := by subst eσ8_97; rfl
                refine fd_ok_lt (fun x9_104 ex9_104 => ?_)
                have t_105 := fd_la ex9_104 (by omega) (by omega)
                refine fd_ok_mono (ih _ _ i_98 (by omega) (by omega) (by omega)) ?_
                rintro v s ⟨hi, hf, hx⟩
                exact ⟨hi, fd_fr_tr f_99 hf, trivial⟩
            ·
              refine fd_ok_ite (fun c_107 => ?_) (fun c_107 => ?_)
              ·
                have d_108 := congrArg Int32.toInt c_107
                refine fd_ok_pb ?_
                try unfold f_X11_own_0_9_J44
                refine fd_ok_bd ?_
                try unfold f_X11_mask_0
                have r_109 : (0 : Int) ≤ (σ.1 4).toInt ∧ (σ.1 4).toInt ≤ 64 := i0.1 4
                refine fd_ok_ite (fun c_110 => ?_) (fun c_110 => ?_)
                ·
                  have d_111 := congrArg Int32.toInt c_110
                  refine fd_ok_pb ?_
                  refine fd_ok_pb ?_
                  refine fd_ok_gd (vp_in_iff.mpr ⟨by omega, by omega⟩) ?_
                  refine fd_ok_lt (fun σ8_112 eσ8_112 => ?_)
                  have i_113 : fd_InvM σ8_112 := fd_inv_sL eσ8_112 i0
                  have f_114 : fd_fr [209] σ σ8_112 := fd_fr_tr f0 (fd_fr_sL eσ8_112 (by decide))
                  have t_115 : (σ8_112.1 1).toInt = (σ.1 1).toInt := by subst eσ8_112; rfl
                  have t_116 : (σ8_112.1 2).toInt = (σ.1 2).toInt := by subst eσ8_112; rfl
                  have t_117 : (σ8_112.1 3).toInt = (σ.1 3).toInt := by subst eσ8_112; rfl
                  have t_118 : (σ8_112.1 4).toInt = (σ.1 4).toInt := by subst eσ8_112; rfl
                  refine fd_ok_lt (fun x9_119 ex9_119 => ?_)
                  have t_120 := fd_la ex9_119 (by omega) (by omega)
                  refine fd_ok_mono (ih _ _ i_113 (by omega) (by omega) (by omega)) ?_
                  rintro v s ⟨hi, hf, hx⟩
                  exact ⟨hi, fd_fr_tr f_114 hf, trivial⟩
                ·
                  have d_121 : ¬ (σ.1 4).toInt = (64 : Int32).toInt := fun q => c_110 (Int32.toInt_inj.mp q)
                  refine fd_ok_pb ?_
                  refine fd_ok_pb ?_
                  refine fd_ok_gd (vp_in_iff.mpr ⟨by omega, by omega⟩) ?_
                  refine fd_ok_lt (fun σ8_122 eσ8_122 => ?_)
                  have i_123 : fd_InvM σ8_122 := fd_inv_sL eσ8_122 i0
                  have f_124 : fd_fr [209] σ σ8_122 := fd_fr_tr f0 (fd_fr_sL eσ8_122 (by decide))
                  have t_125 : (σ8_122.1 1).toInt = (σ.1 1).toInt := by subst eσ8_122; rfl
                  have t_126 : (σ8_122.1 2).toInt = (σ.1 2).toInt := by subst eσ8_122; rfl
                  have t_127 : (σ8_122.1 3).toInt = (σ.1 3).toInt := by subst eσ8_122; rfl
                  have t_128 : (σ8_122.1 4).toInt = (σ.1 4).toInt := by subst eσ8_122; rfl
                  refine fd_ok_lt (fun x9_129 ex9_129 => ?_)
                  have t_130 := fd_la ex9_129 (by omega) (by omega)
                  refine fd_ok_mono (ih _ _ i_123 (by omega) (by omega) (by omega)) ?_
                  rintro v s ⟨hi, hf, hx⟩
                  exact ⟨hi, fd_fr_tr f_124 hf, trivial⟩
              ·
                refine fd_ok_ite (fun c_132 => ?_) (fun c_132 => ?_)
                ·
                  have d_133 := congrArg Int32.toInt c_132
                  refine fd_ok_pb ?_
                  try unfold f_X11_own_0_9_J44
                  refine fd_ok_bd ?_
                  try unfold f_X11_mask_0
                  have r_134 : (0 : Int) ≤ (σ.1 4).toInt ∧ (σ.1 4).toInt ≤ 64 := i0.1 4
                  refine fd_ok_ite (fun c_135 => ?_) (fun c_135 => ?_)
                  ·
                    have d_136 := congrArg Int32.toInt c_135
                    refine fd_ok_pb ?_
                    refine fd_ok_pb ?_
                    refine fd_ok_gd (vp_in_iff.mpr ⟨by omega, by omega⟩) ?_
                    refine fd_ok_lt (fun σ8_137 eσ8_137 => ?_)
                    have i_138 : fd_InvM σ8_137 := fd_inv_sL eσ8_137 i0
                    have f_139 : fd_fr [209] σ σ8_137 := fd_fr_tr f0 (fd_fr_sL eσ8_137 (by decide))
                    have t_140 : (σ8_137.1 1).toInt = (σ.1 1).toInt := by subst eσ8_137; rfl
                    have t_141 : (σ8_137.1 2).toInt = (σ.1 2).toInt := by subst eσ8_137; rfl
                    have t_142 : (σ8_137.1 3).toInt = (σ.1 3).toInt := by subst eσ8_137; rfl
                    have t_143 : (σ8_137.1 4).toInt = (σ.1 4).toInt := by subst eσ8_137; rfl
                    refine fd_ok_lt (fun x9_144 ex9_144 => ?_)
                    have t_145 := fd_la ex9_144 (by omega) (by omega)
                    refine fd_ok_mono (ih _ _ i_138 (by omega) (by omega) (by omega)) ?_
                    rintro v s ⟨hi, hf, hx⟩
                    exact ⟨hi, fd_fr_tr f_139 hf, trivial⟩
                  ·
                    have d_146 : ¬ (σ.1 4).toInt = (64 : Int32).toInt := fun q => c_135 (Int32.toInt_inj.mp q)
                    refine fd_ok_pb ?_
                    refine fd_ok_pb ?_
                    refine fd_ok_gd (vp_in_iff.mpr ⟨by omega, by omega⟩) ?_
                    refine fd_ok_lt (fun σ8_147 eσ8_147 => ?_)
                    have i_148 : fd_InvM σ8_147 := fd_inv_sL eσ8_147 i0
                    have f_149 : fd_fr [209] σ σ8_147 := fd_fr_tr f0 (fd_fr_sL eσ8_147 (by decide))
                    have t_150 : (σ8_147.1 1).toInt = (σ.1 1).toInt := by subst eσ8_147; rfl
                    have t_151 : (σ8_147.1 2).toInt = (σ.1 2).toInt := by subst eσ8_147; rfl
                    have t_152 : (σ8_147.1 3).toInt = (σ.1 3).toInt := by subst eσ8_147; rfl
                    have t_153 : (σ8_147.1 4).toInt = (σ.1 4).toInt := by subst eσ8_147; rfl
                    refine fd_ok_lt (fun x9_154 ex9_154 => ?_)
                    have t_155 := fd_la ex9_154 (by omega) (by omega)
                    refine fd_ok_mono (ih _ _ i_148 (by omega) (by omega) (by omega)) ?_
                    rintro v s ⟨hi, hf, hx⟩
                    exact ⟨hi, fd_fr_tr f_149 hf, trivial⟩
                ·
                  refine fd_ok_ite (fun c_157 => ?_) (fun c_157 => ?_)
                  ·
                    have d_158 := congrArg Int32.toInt c_157
                    refine fd_ok_pb ?_
                    try unfold f_X11_own_0_9_J44
                    refine fd_ok_bd ?_
                    try unfold f_X11_mask_0
                    have r_159 : (0 : Int) ≤ (σ.1 4).toInt ∧ (σ.1 4).toInt ≤ 64 := i0.1 4
                    refine fd_ok_ite (fun c_160 => ?_) (fun c_160 => ?_)
                    ·
                      have d_161 := congrArg Int32.toInt c_160
                      refine fd_ok_pb ?_
                      refine fd_ok_pb ?_
                      refine fd_ok_gd (vp_in_iff.mpr ⟨by omega, by omega⟩) ?_
                      refine fd_ok_lt (fun σ8_162 eσ8_162 => ?_)
                      have i_163 : fd_InvM σ8_162 := fd_inv_sL eσ8_162 i0
                      have f_164 : fd_fr [209] σ σ8_162 := fd_fr_tr f0 (fd_fr_sL eσ8_162 (by decide))
                      have t_165 : (σ8_162.1 1).toInt = (σ.1 1).toInt := by subst eσ8_162; rfl
                      have t_166 : (σ8_162.1 2).toInt = (σ.1 2).toInt := by subst eσ8_162; rfl
                      have t_167 : (σ8_162.1 3).toInt = (σ.1 3).toInt := by subst eσ8_162; rfl
                      have t_168 : (σ8_162.1 4).toInt = (σ.1 4).toInt := by subst eσ8_162; rfl
                      refine fd_ok_lt (fun x9_169 ex9_169 => ?_)
                      have t_170 := fd_la ex9_169 (by omega) (by omega)
                      refine fd_ok_mono (ih _ _ i_163 (by omega) (by omega) (by omega)) ?_
                      rintro v s ⟨hi, hf, hx⟩
                      exact ⟨hi, fd_fr_tr f_164 hf, trivial⟩
                    ·
                      have d_171 : ¬ (σ.1 4).toInt = (64 : Int32).toInt := fun q => c_160 (Int32.toInt_inj.mp q)
                      refine fd_ok_pb ?_
                      refine fd_ok_pb ?_
                      refine fd_ok_gd (vp_in_iff.mpr ⟨by omega, by omega⟩) ?_
                      refine fd_ok_lt (fun σ8_172 eσ8_172 => ?_)
                      have i_173 : fd_InvM σ8_172 := fd_inv_sL eσ8_172 i0
                      have f_174 : fd_fr [209] σ σ8_172 := fd_fr_tr f0 (fd_fr_sL eσ8_172 (by decide))
                      have t_175 : (σ8_172.1 1).toInt = (σ.1 1).toInt := by subst eσ8_172; rfl
                      have t_176 : (σ8_172.1 2).toInt = (σ.1 2).toInt := by subst eσ8_172; rfl
                      have t_177 : (σ8_172.1 3).toInt = (σ.1 3).toInt := by subst eσ8_172; rfl
                      have t_178 : (σ8_172.1 4).toInt = (σ.1 4).toInt := by subst eσ8_172; rfl
                      refine fd_ok_lt (fun x9_179 ex9_179 => ?_)
                      have t_180 := fd_la ex9_179 (by omega) (by omega)
                      refine fd_ok_mono (ih _ _ i_173 (by omega) (by omega) (by omega)) ?_
                      rintro v s ⟨hi, hf, hx⟩
                      exact ⟨hi, fd_fr_tr f_174 hf, trivial⟩
                  ·
                    refine fd_ok_pb ?_
                    try unfold f_X11_own_0_9_J44
                    refine fd_ok_bd ?_
                    try unfold f_X11_mask_0
                    have r_182 : (0 : Int) ≤ (σ.1 4).toInt ∧ (σ.1 4).toInt ≤ 64 := i0.1 4
                    refine fd_ok_ite (fun c_183 => ?_) (fun c_183 => ?_)
                    ·
                      have d_184 := congrArg Int32.toInt c_183
                      refine fd_ok_pb ?_
                      refine fd_ok_pb ?_
                      refine fd_ok_gd (vp_in_iff.mpr ⟨by omega, by omega⟩) ?_
                      refine fd_ok_lt (fun σ8_185 eσ8_185 => ?_)
                      have i_186 : fd_InvM σ8_185 := fd_inv_sL eσ8_185 i0
                      have f_187 : fd_fr [209] σ σ8_185 := fd_fr_tr f0 (fd_fr_sL eσ8_185 (by decide))
                      have t_188 : (σ8_185.1 1).toInt = (σ.1 1).toInt := by subst eσ8_185; rfl
                      have t_189 : (σ8_185.1 2).toInt = (σ.1 2).toInt := by subst eσ8_185; rfl
                      have t_190 : (σ8_185.1 3).toInt = (σ.1 3).toInt := by subst eσ8_185; rfl
                      have t_191 : (σ8_185.1 4).toInt = (σ.1 4).toInt := by subst eσ8_185; rfl
                      refine fd_ok_lt (fun x9_192 ex9_192 => ?_)
                      have t_193 := fd_la ex9_192 (by omega) (by omega)
                      refine fd_ok_mono (ih _ _ i_186 (by omega) (by omega) (by omega)) ?_
                      rintro v s ⟨hi, hf, hx⟩
                      exact ⟨hi, fd_fr_tr f_187 hf, trivial⟩
                    ·
                      have d_194 : ¬ (σ.1 4).toInt = (64 : Int32).toInt := fun q => c_183 (Int32.toInt_inj.mp q)
                      refine fd_ok_pb ?_
                      refine fd_ok_pb ?_
                      refine fd_ok_gd (vp_in_iff.mpr ⟨by omega, by omega⟩) ?_
                      refine fd_ok_lt (fun σ8_195 eσ8_195 => ?_)
                      have i_196 : fd_InvM σ8_195 := fd_inv_sL eσ8_195 i0
                      have f_197 : fd_fr [209] σ σ8_195 := fd_fr_tr f0 (fd_fr_sL eσ8_195 (by decide))
                      have t_198 : (σ8_195.1 1).toInt = (σ.1 1).toInt := by subst eσ8_195; rfl
                      have t_199 : (σ8_195.1 2).toInt = (σ.1 2).toInt := by subst eσ8_195; rfl
                      have t_200 : (σ8_195.1 3).toInt = (σ.1 3).toInt := by subst eσ8_195; rfl
                      have t_201 : (σ8_195.1 4).toInt = (σ.1 4).toInt := by subst eσ8_195; rfl
                      refine fd_ok_lt (fun x9_202 ex9_202 => ?_)
                      have t_203 := fd_la ex9_202 (by omega) (by omega)
                      refine fd_ok_mono (ih _ _ i_196 (by omega) (by omega) (by omega)) ?_
                      rintro v s ⟨hi, hf, hx⟩
                      exact ⟨hi, fd_fr_tr f_197 hf, trivial⟩
theorem s_X11_workPlain_0_L2 (N : Nat) (hN : 1000 ≤ N) : ∀ (n : Nat) (y1 : Int32) (σ : fd_St), fd_InvM σ → (0 ≤ y1.toInt) → (y1.toInt ≤ 200) → 200 - y1.toInt < (n : Int) → fd_ok (f_X11_workPlain_0_L2 N n y1 σ) (fun v s => fd_InvM s ∧ fd_fr [209] σ s ∧ (0 ≤ y1.toInt → ∀ r : Nat → Int64, fd_E (σ.2.1 1) (σ.2.1 2) (σ.2.1 3) r (σ.2.2 4) (σ.1 1).toNatClampNeg → (∀ i, i < y1.toNatClampNeg → σ.2.2 9 i = r i &&& fd_mk (σ.1 4)) → ∀ i, i < (σ.1 1).toNatClampNeg → s.2.2 9 i = r i &&& fd_mk (σ.1 4))) := fun n y1 σ i0 h0 h1 hm => fd_ok_x (s0_X11_workPlain_0_L2 N hN n y1 σ i0 h0 h1 hm) (fun v s h => q_X11_workPlain_0_L2 n y1 σ v s h)
set_option maxHeartbeats 4000000 in
theorem s_X11_reaches_0_L2 (N : Nat) (hN : 1000 ≤ N) : ∀ (n : Nat) (y1 : Int32) (y2 : Int32) (y3 : Int32) (σ : fd_St), fd_InvM σ → (0 ≤ y3.toInt) → (y3.toInt ≤ 200) → (0 ≤ y2.toInt) → (y2.toInt ≤ 199) → 200 - y3.toInt < (n : Int) → fd_ok (f_X11_reaches_0_L2 N n y1 y2 y3 σ) (fun v s => fd_InvM s ∧ fd_fr [111] σ s ∧ (True)) := by
  have litm1 : (-1 : Int32).toInt = -1 := by decide
  have lit0 : (0 : Int32).toInt = 0 := by decide
  have lit1 : (1 : Int32).toInt = 1 := by decide
  intro n
  induction n with
  | zero =>
    intro y1 y2 y3 σ i0 h0 h1 h2 h3 hm
    omega
  | succ n ih =>
    intro y1 y2 y3 σ i0 h0 h1 h2 h3 hm
    have f0 : fd_fr [111] σ σ := fd_fr_rf
    unfold f_X11_reaches_0_L2
    have r_1 : (0 : Int) ≤ (σ.1 1).toInt ∧ (σ.1 1).toInt ≤ 200 := i0.1 1
    refine fd_ok_ite (fun c_2 => ?_) (fun c_2 => ?_)
    ·
      have d_3 := Int32.le_iff_toInt_le.mp c_2
      refine fd_ok_gd (vp_in_iff.mpr ⟨by omega, by omega⟩) ?_
      have r_4 : (0 : Int) ≤ (σ.2.1 11 y2.toNatClampNeg).toInt ∧ (σ.2.1 11 y2.toNatClampNeg).toInt ≤ 1 := i0.2.1 11 _
      refine fd_ok_gd (fd_narrow (by omega) (by omega)) ?_
      exact fd_ok_some ⟨i0, f0, trivial⟩
    ·
      have d_5 := Int32.lt_iff_toInt_lt.mp (Int32.not_le.mp c_2)
      refine fd_ok_ite (fun c_6 => ?_) (fun c_6 => ?_)
      ·
        have d_7 := congrArg Int32.toInt c_6
        try unfold f_X11_reaches_0_J58
        try unfold f_X11_reaches_0_J63
        refine fd_ok_gd (vp_in_iff.mpr ⟨by omega, by omega⟩) ?_
        refine fd_ok_lt (fun σ6_8 eσ6_8 => ?_)
        have u_11 : (vp_nar .boolean (1 : Int32)).toInt = 1 := by decide
        have i_9 : fd_InvM σ6_8 := fd_inv_sA eσ6_8 i0 (by decide) (by decide) ⟨(by omega : (0 : Int) ≤ (vp_nar .boolean (1 : Int32)).toInt), (by omega : (vp_nar .boolean (1 : Int32)).toInt ≤ 1)⟩
        have f_10 : fd_fr [111] σ σ6_8 := fd_fr_tr f0 (fd_fr_sA eσ6_8 (by decide))
        have t_12 : (σ6_8.1 1).toInt = (σ.1 1).toInt := by subst eσ6_8; rfl
        have t_13 : (σ6_8.1 2).toInt = (σ.1 2).toInt := by subst eσ6_8; rfl
        have t_14 : (σ6_8.1 3).toInt = (σ.1 3).toInt := by subst eσ6_8; rfl
        refine fd_ok_lt (fun x7_15 ex7_15 => ?_)
        have t_16 := fd_la ex7_15 (by omega) (by omega)
        refine fd_ok_mono (ih _ _ _ _ i_9 (by omega) (by omega) (by omega) (by omega) (by omega)) ?_
        rintro v s ⟨hi, hf, hx⟩
        exact ⟨hi, fd_fr_tr f_10 hf, trivial⟩
      ·
        refine fd_ok_gd (vp_in_iff.mpr ⟨by omega, by omega⟩) ?_
        refine fd_ok_ite (fun c_18 => ?_) (fun c_18 => ?_)
        ·
          have d_19 := congrArg Int32.toInt c_18
          try unfold f_X11_reaches_0_J62
          try unfold f_X11_reaches_0_J63
          refine fd_ok_gd (vp_in_iff.mpr ⟨by omega, by omega⟩) ?_
          refine fd_ok_lt (fun σ6_20 eσ6_20 => ?_)
          have u_23 : (vp_nar .boolean (0 : Int32)).toInt = 0 := by decide
          have i_21 : fd_InvM σ6_20 := fd_inv_sA eσ6_20 i0 (by decide) (by decide) ⟨(by omega : (0 : Int) ≤ (vp_nar .boolean (0 : Int32)).toInt), (by omega : (vp_nar .boolean (0 : Int32)).toInt ≤ 1)⟩
          have f_22 : fd_fr [111] σ σ6_20 := fd_fr_tr f0 (fd_fr_sA eσ6_20 (by decide))
          have t_24 : (σ6_20.1 1).toInt = (σ.1 1).toInt := by subst eσ6_20; rfl
          have t_25 : (σ6_20.1 2).toInt = (σ.1 2).toInt := by subst eσ6_20; rfl
          have t_26 : (σ6_20.1 3).toInt = (σ.1 3).toInt := by subst eσ6_20; rfl
          refine fd_ok_lt (fun x7_27 ex7_27 => ?_)
          have t_28 := fd_la ex7_27 (by omega) (by omega)
          refine fd_ok_mono (ih _ _ _ _ i_21 (by omega) (by omega) (by omega) (by omega) (by omega)) ?_
          rintro v s ⟨hi, hf, hx⟩
          exact ⟨hi, fd_fr_tr f_22 hf, trivial⟩
        ·
          refine fd_ok_gd (vp_in_iff.mpr ⟨by omega, by omega⟩) ?_
          have r_30 : (0 : Int) ≤ (σ.2.1 2 y3.toNatClampNeg).toInt ∧ (σ.2.1 2 y3.toNatClampNeg).toInt ≤ 199 := i0.2.1 2 _
          refine fd_ok_gd (vp_in_iff.mpr ⟨by omega, by omega⟩) ?_
          have r_31 : (0 : Int) ≤ (σ.2.1 11 (σ.2.1 2 y3.toNatClampNeg).toNatClampNeg).toInt ∧ (σ.2.1 11 (σ.2.1 2 y3.toNatClampNeg).toNatClampNeg).toInt ≤ 1 := i0.2.1 11 _
          refine fd_ok_ite (fun c_32 => ?_) (fun c_32 => ?_)
          ·
            have d_33 := congrArg Int32.toInt c_32
            refine fd_ok_gd (vp_in_iff.mpr ⟨by omega, by omega⟩) ?_
            have r_34 : (0 : Int) ≤ (σ.2.1 3 y3.toNatClampNeg).toInt ∧ (σ.2.1 3 y3.toNatClampNeg).toInt ≤ 199 := i0.2.1 3 _
            refine fd_ok_gd (vp_in_iff.mpr ⟨by omega, by omega⟩) ?_
            have r_35 : (0 : Int) ≤ (σ.2.1 11 (σ.2.1 3 y3.toNatClampNeg).toNatClampNeg).toInt ∧ (σ.2.1 11 (σ.2.1 3 y3.toNatClampNeg).toNatClampNeg).toInt ≤ 1 := i0.2.1 11 _
            refine fd_ok_ite (fun c_36 => ?_) (fun c_36 => ?_)
            ·
              have d_37 := congrArg Int32.toInt c_36
              try unfold f_X11_reaches_0_J62
              try unfold f_X11_reaches_0_J63
              refine fd_ok_gd (vp_in_iff.mpr ⟨by omega, by omega⟩) ?_
              refine fd_ok_lt (fun σ6_38 eσ6_38 => ?_)
              have u_41 : (vp_nar .boolean (0 : Int32)).toInt = 0 := by decide
              have i_39 : fd_InvM σ6_38 := fd_inv_sA eσ6_38 i0 (by decide) (by decide) ⟨(by omega : (0 : Int) ≤ (vp_nar .boolean (0 : Int32)).toInt), (by omega : (vp_nar .boolean (0 : Int32)).toInt ≤ 1)⟩
              have f_40 : fd_fr [111] σ σ6_38 := fd_fr_tr f0 (fd_fr_sA eσ6_38 (by decide))
              have t_42 : (σ6_38.1 1).toInt = (σ.1 1).toInt := by subst eσ6_38; rfl
              have t_43 : (σ6_38.1 2).toInt = (σ.1 2).toInt := by subst eσ6_38; rfl
              have t_44 : (σ6_38.1 3).toInt = (σ.1 3).toInt := by subst eσ6_38; rfl
              refine fd_ok_lt (fun x7_45 ex7_45 => ?_)
              have t_46 := fd_la ex7_45 (by omega) (by omega)
              refine fd_ok_mono (ih _ _ _ _ i_39 (by omega) (by omega) (by omega) (by omega) (by omega)) ?_
              rintro v s ⟨hi, hf, hx⟩
              exact ⟨hi, fd_fr_tr f_40 hf, trivial⟩
            ·
              try unfold f_X11_reaches_0_J58
              try unfold f_X11_reaches_0_J63
              refine fd_ok_gd (vp_in_iff.mpr ⟨by omega, by omega⟩) ?_
              refine fd_ok_lt (fun σ6_48 eσ6_48 => ?_)
              have u_51 : (vp_nar .boolean (1 : Int32)).toInt = 1 := by decide
              have i_49 : fd_InvM σ6_48 := fd_inv_sA eσ6_48 i0 (by decide) (by decide) ⟨(by omega : (0 : Int) ≤ (vp_nar .boolean (1 : Int32)).toInt), (by omega : (vp_nar .boolean (1 : Int32)).toInt ≤ 1)⟩
              have f_50 : fd_fr [111] σ σ6_48 := fd_fr_tr f0 (fd_fr_sA eσ6_48 (by decide))
              have t_52 : (σ6_48.1 1).toInt = (σ.1 1).toInt := by subst eσ6_48; rfl
              have t_53 : (σ6_48.1 2).toInt = (σ.1 2).toInt := by subst eσ6_48; rfl
              have t_54 : (σ6_48.1 3).toInt = (σ.1 3).toInt := by subst eσ6_48; rfl
              refine fd_ok_lt (fun x7_55 ex7_55 => ?_)
              have t_56 := fd_la ex7_55 (by omega) (by omega)
              refine fd_ok_mono (ih _ _ _ _ i_49 (by omega) (by omega) (by omega) (by omega) (by omega)) ?_
              rintro v s ⟨hi, hf, hx⟩
              exact ⟨hi, fd_fr_tr f_50 hf, trivial⟩
          ·
            try unfold f_X11_reaches_0_J58
            try unfold f_X11_reaches_0_J63
            refine fd_ok_gd (vp_in_iff.mpr ⟨by omega, by omega⟩) ?_
            refine fd_ok_lt (fun σ6_58 eσ6_58 => ?_)
            have u_61 : (vp_nar .boolean (1 : Int32)).toInt = 1 := by decide
            have i_59 : fd_InvM σ6_58 := fd_inv_sA eσ6_58 i0 (by decide) (by decide) ⟨(by omega : (0 : Int) ≤ (vp_nar .boolean (1 : Int32)).toInt), (by omega : (vp_nar .boolean (1 : Int32)).toInt ≤ 1)⟩
            have f_60 : fd_fr [111] σ σ6_58 := fd_fr_tr f0 (fd_fr_sA eσ6_58 (by decide))
            have t_62 : (σ6_58.1 1).toInt = (σ.1 1).toInt := by subst eσ6_58; rfl
            have t_63 : (σ6_58.1 2).toInt = (σ.1 2).toInt := by subst eσ6_58; rfl
            have t_64 : (σ6_58.1 3).toInt = (σ.1 3).toInt := by subst eσ6_58; rfl
            refine fd_ok_lt (fun x7_65 ex7_65 => ?_)
            have t_66 := fd_la ex7_65 (by omega) (by omega)
            refine fd_ok_mono (ih _ _ _ _ i_59 (by omega) (by omega) (by omega) (by omega) (by omega)) ?_
            rintro v s ⟨hi, hf, hx⟩
            exact ⟨hi, fd_fr_tr f_60 hf, trivial⟩
set_option maxHeartbeats 4000000 in
theorem s_X11_near_0_L34 (N : Nat) (hN : 1000 ≤ N) : ∀ (n : Nat) (y1 : Int32) (y2 : Int32) (y3 : Int32) (y4 : Int32) (y5 : Int32) (σ : fd_St), fd_InvM σ → (0 ≤ y5.toInt) → (y5.toInt ≤ 40) → (-1 ≤ y4.toInt) → (y4.toInt ≤ 39) → (¬ y3.toInt = 0 → 0 ≤ y1.toInt ∧ y1.toInt ≤ 199 ∧ 0 ≤ y2.toInt ∧ y2.toInt ≤ 199) → 40 - y5.toInt < (n : Int) → fd_ok (f_X11_near_0_L34 N n y1 y2 y3 y4 y5 σ) (fun v s => fd_InvM s ∧ fd_fr [0, 5, 6, 7, 107, 108, 111] σ s ∧ (True)) := by
  have litm1 : (-1 : Int32).toInt = -1 := by decide
  have lit0 : (0 : Int32).toInt = 0 := by decide
  have lit1 : (1 : Int32).toInt = 1 := by decide
  have lit2 : (2 : Int32).toInt = 2 := by decide
  have lit3 : (3 : Int32).toInt = 3 := by decide
  have lit40 : (40 : Int32).toInt = 40 := by decide
  intro n
  induction n with
  | zero =>
    intro y1 y2 y3 y4 y5 σ i0 h0 h1 h2 h3 h4 hm
    omega
  | succ n ih =>
    intro y1 y2 y3 y4 y5 σ i0 h0 h1 h2 h3 h4 hm
    have f0 : fd_fr [0, 5, 6, 7, 107, 108, 111] σ σ := fd_fr_rf
    unfold f_X11_near_0_L34
    have r_1 : (0 : Int) ≤ (σ.1 5).toInt ∧ (σ.1 5).toInt ≤ 40 := i0.1 5
    refine fd_ok_ite (fun c_2 => ?_) (fun c_2 => ?_)
    ·
      have d_3 := Int32.le_iff_toInt_le.mp c_2
      refine fd_ok_ite (fun c_4 => ?_) (fun c_4 => ?_)
      ·
        have d_5 := congrArg Int32.toInt c_4
        try unfold f_X11_near_0_J153
        refine fd_ok_lt (fun σ16_6 eσ16_6 => ?_)
        have i_7 : fd_InvM σ16_6 := fd_inv_sI eσ16_6 i0 (fd_rng _)
        have f_8 : fd_fr [0, 5, 6, 7, 107, 108, 111] σ σ16_6 := fd_fr_tr f0 (fd_fr_sI eσ16_6 (by decide))
        have t_9 : (σ16_6.1 0).toInt = (1 : Int32).toInt := congrArg Int32.toInt (fd_tI eσ16_6)
        have t_10 : (σ16_6.1 5).toInt = (σ.1 5).toInt := congrArg Int32.toInt (fd_tN eσ16_6 (by decide))
        have t_11 : (σ16_6.1 7).toInt = (σ.1 7).toInt := congrArg Int32.toInt (fd_tN eσ16_6 (by decide))
        have r_12 := fd_rng (σ16_6.1 0)
        refine fd_ok_itn (Int32.not_le.mpr (Int32.lt_iff_toInt_lt.mpr (by omega))) ?_
        exact fd_ok_some ⟨i_7, f_8, trivial⟩
      ·
        have d_13 : ¬ y3.toInt = (0 : Int32).toInt := fun q => c_4 (Int32.toInt_inj.mp q)
        refine fd_ok_ite (fun c_14 => ?_) (fun c_14 => ?_)
        ·
          have d_15 := congrArg Int32.toInt c_14
          refine fd_ok_ite (fun c_16 => ?_) (fun c_16 => ?_)
          ·
            have d_17 := congrArg Int32.toInt c_16
            try unfold f_X11_near_0_J153
            refine fd_ok_lt (fun σ16_18 eσ16_18 => ?_)
            have i_19 : fd_InvM σ16_18 := fd_inv_sI eσ16_18 i0 (fd_rng _)
            have f_20 : fd_fr [0, 5, 6, 7, 107, 108, 111] σ σ16_18 := fd_fr_tr f0 (fd_fr_sI eσ16_18 (by decide))
            have t_21 : (σ16_18.1 0).toInt = (2 : Int32).toInt := congrArg Int32.toInt (fd_tI eσ16_18)
            have t_22 : (σ16_18.1 5).toInt = (σ.1 5).toInt := congrArg Int32.toInt (fd_tN eσ16_18 (by decide))
            have t_23 : (σ16_18.1 7).toInt = (σ.1 7).toInt := congrArg Int32.toInt (fd_tN eσ16_18 (by decide))
            have r_24 := fd_rng (σ16_18.1 0)
            refine fd_ok_itn (Int32.not_le.mpr (Int32.lt_iff_toInt_lt.mpr (by omega))) ?_
            exact fd_ok_some ⟨i_19, f_20, trivial⟩
          ·
            have d_25 : ¬ (σ.1 5).toInt = (40 : Int32).toInt := fun q => c_16 (Int32.toInt_inj.mp q)
            try unfold f_X11_near_0_J130
            refine fd_ok_bd ?_
            try unfold f_X11_reaches_0
            refine fd_ok_cl (s_X11_reaches_0_L2 N hN N _ _ _ _ i0 (by omega) (by omega) (by omega) (by omega) (by omega)) ?_
            rintro v_26 σ_27 ⟨i_28, g_29, x_30⟩
            have f_31 : fd_fr [0, 5, 6, 7, 107, 108, 111] σ σ_27 := fd_fr_tr f0 (fd_fr_mono g_29 (by decide))
            have t_32 : (σ_27.1 0).toInt = (σ.1 0).toInt := congrArg Int32.toInt (g_29.1 0 (by decide))
            have t_33 : (σ_27.1 5).toInt = (σ.1 5).toInt := congrArg Int32.toInt (g_29.1 5 (by decide))
            have t_34 : (σ_27.1 7).toInt = (σ.1 7).toInt := congrArg Int32.toInt (g_29.1 7 (by decide))
            refine fd_ok_ite (fun c_35 => ?_) (fun c_35 => ?_)
            ·
              have d_36 := congrArg Int32.toInt c_35
              refine fd_ok_bd ?_
              try unfold f_X11_reaches_0
              refine fd_ok_cl (s_X11_reaches_0_L2 N hN N _ _ _ _ i_28 (by omega) (by omega) (by omega) (by omega) (by omega)) ?_
              rintro v_37 σ_38 ⟨i_39, g_40, x_41⟩
              have f_42 : fd_fr [0, 5, 6, 7, 107, 108, 111] σ σ_38 := fd_fr_tr f_31 (fd_fr_mono g_40 (by decide))
              have t_43 : (σ_38.1 0).toInt = (σ_27.1 0).toInt := congrArg Int32.toInt (g_40.1 0 (by decide))
              have t_44 : (σ_38.1 5).toInt = (σ_27.1 5).toInt := congrArg Int32.toInt (g_40.1 5 (by decide))
              have t_45 : (σ_38.1 7).toInt = (σ_27.1 7).toInt := congrArg Int32.toInt (g_40.1 7 (by decide))
              refine fd_ok_ite (fun c_46 => ?_) (fun c_46 => ?_)
              ·
                have d_47 := congrArg Int32.toInt c_46
                try unfold f_X11_near_0_J153
                refine fd_ok_lt (fun σ16_48 eσ16_48 => ?_)
                have i_49 : fd_InvM σ16_48 := fd_inv_sI eσ16_48 i_39 (fd_rng _)
                have f_50 : fd_fr [0, 5, 6, 7, 107, 108, 111] σ σ16_48 := fd_fr_tr f_42 (fd_fr_sI eσ16_48 (by decide))
                have t_51 : (σ16_48.1 0).toInt = (0 : Int32).toInt := congrArg Int32.toInt (fd_tI eσ16_48)
                have t_52 : (σ16_48.1 5).toInt = (σ_38.1 5).toInt := congrArg Int32.toInt (fd_tN eσ16_48 (by decide))
                have t_53 : (σ16_48.1 7).toInt = (σ_38.1 7).toInt := congrArg Int32.toInt (fd_tN eσ16_48 (by decide))
                have r_54 := fd_rng (σ16_48.1 0)
                refine fd_ok_itp (Int32.le_iff_toInt_le.mpr (by omega)) ?_
                refine fd_ok_bd ?_
                try unfold f_X11_changed_0
                refine fd_ok_lt (fun σ1_55 eσ1_55 => ?_)
                have i_56 : fd_InvM σ1_55 := fd_inv_sI eσ1_55 i_49 ⟨(by omega : (0 : Int) ≤ (0 : Int32).toInt), (by omega : (0 : Int32).toInt ≤ 1)⟩
                have f_57 : fd_fr [0, 5, 6, 7, 107, 108, 111] σ σ1_55 := fd_fr_tr f_50 (fd_fr_sI eσ1_55 (by decide))
                have t_58 : (σ1_55.1 0).toInt = (σ16_48.1 0).toInt := congrArg Int32.toInt (fd_tN eσ1_55 (by decide))
                have t_59 : (σ1_55.1 5).toInt = (σ16_48.1 5).toInt := congrArg Int32.toInt (fd_tN eσ1_55 (by decide))
                have t_60 : (σ1_55.1 7).toInt = (σ16_48.1 7).toInt := congrArg Int32.toInt (fd_tN eσ1_55 (by decide))
                refine fd_ok_lt (fun σ2_61 eσ2_61 => ?_)
                have i_62 : fd_InvM σ2_61 := fd_inv_sI eσ2_61 i_56 ⟨(by omega : (0 : Int) ≤ (0 : Int32).toInt), (by omega : (0 : Int32).toInt ≤ 480)⟩
                have f_63 : fd_fr [0, 5, 6, 7, 107, 108, 111] σ σ2_61 := fd_fr_tr f_57 (fd_fr_sI eσ2_61 (by decide))
                have t_64 : (σ2_61.1 0).toInt = (σ1_55.1 0).toInt := congrArg Int32.toInt (fd_tN eσ2_61 (by decide))
                have t_65 : (σ2_61.1 5).toInt = (σ1_55.1 5).toInt := congrArg Int32.toInt (fd_tN eσ2_61 (by decide))
                have t_66 : (σ2_61.1 7).toInt = (0 : Int32).toInt := congrArg Int32.toInt (fd_tI eσ2_61)
                refine fd_ok_pb ?_
                refine fd_ok_ite (fun c_67 => ?_) (fun c_67 => ?_)
                ·
                  have d_68 := congrArg Int32.toInt c_67
                  have r_69 : (0 : Int) ≤ (σ2_61.1 5).toInt ∧ (σ2_61.1 5).toInt ≤ 40 := i_62.1 5
                  refine fd_ok_gd (vp_in_iff.mpr ⟨by omega, by omega⟩) ?_
                  refine fd_ok_lt (fun σ25_70 eσ25_70 => ?_)
                  have i_71 : fd_InvM σ25_70 := fd_inv_sA eσ25_70 i_62 (by decide) (by decide) ⟨(by omega : (0 : Int) ≤ y1.toInt), (by omega : y1.toInt ≤ 199)⟩
                  have f_72 : fd_fr [0, 5, 6, 7, 107, 108, 111] σ σ25_70 := fd_fr_tr f_63 (fd_fr_sA eσ25_70 (by decide))
                  have t_73 : (σ25_70.1 0).toInt = (σ2_61.1 0).toInt := by subst eσ25_70; rfl
                  have t_74 : (σ25_70.1 5).toInt = (σ2_61.1 5).toInt := by subst eσ25_70; rfl
                  have t_75 : (σ25_70.1 7).toInt = (σ2_61.1 7).toInt := by subst eσ25_70; rfl
                  have r_76 : (0 : Int) ≤ (σ25_70.1 5).toInt ∧ (σ25_70.1 5).toInt ≤ 40 := i_71.1 5
                  refine fd_ok_gd (vp_in_iff.mpr ⟨by omega, by omega⟩) ?_
                  refine fd_ok_lt (fun σ27_77 eσ27_77 => ?_)
                  have i_78 : fd_InvM σ27_77 := fd_inv_sA eσ27_77 i_71 (by decide) (by decide) ⟨(by omega : (0 : Int) ≤ y2.toInt), (by omega : y2.toInt ≤ 199)⟩
                  have f_79 : fd_fr [0, 5, 6, 7, 107, 108, 111] σ σ27_77 := fd_fr_tr f_72 (fd_fr_sA eσ27_77 (by decide))
                  have t_80 : (σ27_77.1 0).toInt = (σ25_70.1 0).toInt := by subst eσ27_77; rfl
                  have t_81 : (σ27_77.1 5).toInt = (σ25_70.1 5).toInt := by subst eσ27_77; rfl
                  have t_82 : (σ27_77.1 7).toInt = (σ25_70.1 7).toInt := by subst eσ27_77; rfl
                  refine fd_ok_lt (fun σ28_83 eσ28_83 => ?_)
                  have r_86 : (0 : Int) ≤ (σ27_77.1 5).toInt ∧ (σ27_77.1 5).toInt ≤ 40 := i_78.1 5
                  have u_87 := Jvm.Kit.i32_add (x := (σ27_77.1 5)) (y := (1 : Int32)) (by omega) (by omega)
                  have i_84 : fd_InvM σ28_83 := fd_inv_sI eσ28_83 i_78 ⟨(by omega : (0 : Int) ≤ ((σ27_77.1 5) + (1 : Int32)).toInt), (by omega : ((σ27_77.1 5) + (1 : Int32)).toInt ≤ 40)⟩
                  have f_85 : fd_fr [0, 5, 6, 7, 107, 108, 111] σ σ28_83 := fd_fr_tr f_79 (fd_fr_sI eσ28_83 (by decide))
                  have t_88 : (σ28_83.1 0).toInt = (σ27_77.1 0).toInt := congrArg Int32.toInt (fd_tN eσ28_83 (by decide))
                  have t_89 : (σ28_83.1 5).toInt = ((σ27_77.1 5) + (1 : Int32)).toInt := congrArg Int32.toInt (fd_tI eσ28_83)
                  have t_90 : (σ28_83.1 7).toInt = (σ27_77.1 7).toInt := congrArg Int32.toInt (fd_tN eσ28_83 (by decide))
                  exact fd_ok_some ⟨i_84, f_85, trivial⟩
                ·
                  have d_91 : ¬ y4.toInt = (-1 : Int32).toInt := fun q => c_67 (Int32.toInt_inj.mp q)
                  exact fd_ok_some ⟨i_62, f_63, trivial⟩
              ·
                have d_92 : ¬ v_37.toInt = (0 : Int32).toInt := fun q => c_46 (Int32.toInt_inj.mp q)
                try unfold f_X11_near_0_J148
                try unfold f_X11_near_0_J153
                refine fd_ok_lt (fun σ16_93 eσ16_93 => ?_)
                have i_94 : fd_InvM σ16_93 := fd_inv_sI eσ16_93 i_39 (fd_rng _)
                have f_95 : fd_fr [0, 5, 6, 7, 107, 108, 111] σ σ16_93 := fd_fr_tr f_42 (fd_fr_sI eσ16_93 (by decide))
                have t_96 : (σ16_93.1 0).toInt = (3 : Int32).toInt := congrArg Int32.toInt (fd_tI eσ16_93)
                have t_97 : (σ16_93.1 5).toInt = (σ_38.1 5).toInt := congrArg Int32.toInt (fd_tN eσ16_93 (by decide))
                have t_98 : (σ16_93.1 7).toInt = (σ_38.1 7).toInt := congrArg Int32.toInt (fd_tN eσ16_93 (by decide))
                have r_99 := fd_rng (σ16_93.1 0)
                refine fd_ok_itn (Int32.not_le.mpr (Int32.lt_iff_toInt_lt.mpr (by omega))) ?_
                exact fd_ok_some ⟨i_94, f_95, trivial⟩
            ·
              have d_100 : ¬ v_26.toInt = (0 : Int32).toInt := fun q => c_35 (Int32.toInt_inj.mp q)
              try unfold f_X11_near_0_J148
              try unfold f_X11_near_0_J153
              refine fd_ok_lt (fun σ16_101 eσ16_101 => ?_)
              have i_102 : fd_InvM σ16_101 := fd_inv_sI eσ16_101 i_28 (fd_rng _)
              have f_103 : fd_fr [0, 5, 6, 7, 107, 108, 111] σ σ16_101 := fd_fr_tr f_31 (fd_fr_sI eσ16_101 (by decide))
              have t_104 : (σ16_101.1 0).toInt = (3 : Int32).toInt := congrArg Int32.toInt (fd_tI eσ16_101)
              have t_105 : (σ16_101.1 5).toInt = (σ_27.1 5).toInt := congrArg Int32.toInt (fd_tN eσ16_101 (by decide))
              have t_106 : (σ16_101.1 7).toInt = (σ_27.1 7).toInt := congrArg Int32.toInt (fd_tN eσ16_101 (by decide))
              have r_107 := fd_rng (σ16_101.1 0)
              refine fd_ok_itn (Int32.not_le.mpr (Int32.lt_iff_toInt_lt.mpr (by omega))) ?_
              exact fd_ok_some ⟨i_102, f_103, trivial⟩
        ·
          have d_108 : ¬ y4.toInt = (-1 : Int32).toInt := fun q => c_14 (Int32.toInt_inj.mp q)
          try unfold f_X11_near_0_J130
          refine fd_ok_bd ?_
          try unfold f_X11_reaches_0
          refine fd_ok_cl (s_X11_reaches_0_L2 N hN N _ _ _ _ i0 (by omega) (by omega) (by omega) (by omega) (by omega)) ?_
          rintro v_109 σ_110 ⟨i_111, g_112, x_113⟩
          have f_114 : fd_fr [0, 5, 6, 7, 107, 108, 111] σ σ_110 := fd_fr_tr f0 (fd_fr_mono g_112 (by decide))
          have t_115 : (σ_110.1 0).toInt = (σ.1 0).toInt := congrArg Int32.toInt (g_112.1 0 (by decide))
          have t_116 : (σ_110.1 5).toInt = (σ.1 5).toInt := congrArg Int32.toInt (g_112.1 5 (by decide))
          have t_117 : (σ_110.1 7).toInt = (σ.1 7).toInt := congrArg Int32.toInt (g_112.1 7 (by decide))
          refine fd_ok_ite (fun c_118 => ?_) (fun c_118 => ?_)
          ·
            have d_119 := congrArg Int32.toInt c_118
            refine fd_ok_bd ?_
            try unfold f_X11_reaches_0
            refine fd_ok_cl (s_X11_reaches_0_L2 N hN N _ _ _ _ i_111 (by omega) (by omega) (by omega) (by omega) (by omega)) ?_
            rintro v_120 σ_121 ⟨i_122, g_123, x_124⟩
            have f_125 : fd_fr [0, 5, 6, 7, 107, 108, 111] σ σ_121 := fd_fr_tr f_114 (fd_fr_mono g_123 (by decide))
            have t_126 : (σ_121.1 0).toInt = (σ_110.1 0).toInt := congrArg Int32.toInt (g_123.1 0 (by decide))
            have t_127 : (σ_121.1 5).toInt = (σ_110.1 5).toInt := congrArg Int32.toInt (g_123.1 5 (by decide))
            have t_128 : (σ_121.1 7).toInt = (σ_110.1 7).toInt := congrArg Int32.toInt (g_123.1 7 (by decide))
            refine fd_ok_ite (fun c_129 => ?_) (fun c_129 => ?_)
            ·
              have d_130 := congrArg Int32.toInt c_129
              try unfold f_X11_near_0_J153
              refine fd_ok_lt (fun σ16_131 eσ16_131 => ?_)
              have i_132 : fd_InvM σ16_131 := fd_inv_sI eσ16_131 i_122 (fd_rng _)
              have f_133 : fd_fr [0, 5, 6, 7, 107, 108, 111] σ σ16_131 := fd_fr_tr f_125 (fd_fr_sI eσ16_131 (by decide))
              have t_134 : (σ16_131.1 0).toInt = (0 : Int32).toInt := congrArg Int32.toInt (fd_tI eσ16_131)
              have t_135 : (σ16_131.1 5).toInt = (σ_121.1 5).toInt := congrArg Int32.toInt (fd_tN eσ16_131 (by decide))
              have t_136 : (σ16_131.1 7).toInt = (σ_121.1 7).toInt := congrArg Int32.toInt (fd_tN eσ16_131 (by decide))
              have r_137 := fd_rng (σ16_131.1 0)
              refine fd_ok_itp (Int32.le_iff_toInt_le.mpr (by omega)) ?_
              refine fd_ok_bd ?_
              try unfold f_X11_changed_0
              refine fd_ok_lt (fun σ1_138 eσ1_138 => ?_)
              have i_139 : fd_InvM σ1_138 := fd_inv_sI eσ1_138 i_132 ⟨(by omega : (0 : Int) ≤ (0 : Int32).toInt), (by omega : (0 : Int32).toInt ≤ 1)⟩
              have f_140 : fd_fr [0, 5, 6, 7, 107, 108, 111] σ σ1_138 := fd_fr_tr f_133 (fd_fr_sI eσ1_138 (by decide))
              have t_141 : (σ1_138.1 0).toInt = (σ16_131.1 0).toInt := congrArg Int32.toInt (fd_tN eσ1_138 (by decide))
              have t_142 : (σ1_138.1 5).toInt = (σ16_131.1 5).toInt := congrArg Int32.toInt (fd_tN eσ1_138 (by decide))
              have t_143 : (σ1_138.1 7).toInt = (σ16_131.1 7).toInt := congrArg Int32.toInt (fd_tN eσ1_138 (by decide))
              refine fd_ok_lt (fun σ2_144 eσ2_144 => ?_)
              have i_145 : fd_InvM σ2_144 := fd_inv_sI eσ2_144 i_139 ⟨(by omega : (0 : Int) ≤ (0 : Int32).toInt), (by omega : (0 : Int32).toInt ≤ 480)⟩
              have f_146 : fd_fr [0, 5, 6, 7, 107, 108, 111] σ σ2_144 := fd_fr_tr f_140 (fd_fr_sI eσ2_144 (by decide))
              have t_147 : (σ2_144.1 0).toInt = (σ1_138.1 0).toInt := congrArg Int32.toInt (fd_tN eσ2_144 (by decide))
              have t_148 : (σ2_144.1 5).toInt = (σ1_138.1 5).toInt := congrArg Int32.toInt (fd_tN eσ2_144 (by decide))
              have t_149 : (σ2_144.1 7).toInt = (0 : Int32).toInt := congrArg Int32.toInt (fd_tI eσ2_144)
              refine fd_ok_pb ?_
              refine fd_ok_ite (fun c_150 => ?_) (fun c_150 => ?_)
              ·
                have d_151 := congrArg Int32.toInt c_150
                have r_152 : (0 : Int) ≤ (σ2_144.1 5).toInt ∧ (σ2_144.1 5).toInt ≤ 40 := i_145.1 5
                refine fd_ok_gd (vp_in_iff.mpr ⟨by omega, by omega⟩) ?_
                refine fd_ok_lt (fun σ25_153 eσ25_153 => ?_)
                have i_154 : fd_InvM σ25_153 := fd_inv_sA eσ25_153 i_145 (by decide) (by decide) ⟨(by omega : (0 : Int) ≤ y1.toInt), (by omega : y1.toInt ≤ 199)⟩
                have f_155 : fd_fr [0, 5, 6, 7, 107, 108, 111] σ σ25_153 := fd_fr_tr f_146 (fd_fr_sA eσ25_153 (by decide))
                have t_156 : (σ25_153.1 0).toInt = (σ2_144.1 0).toInt := by subst eσ25_153; rfl
                have t_157 : (σ25_153.1 5).toInt = (σ2_144.1 5).toInt := by subst eσ25_153; rfl
                have t_158 : (σ25_153.1 7).toInt = (σ2_144.1 7).toInt := by subst eσ25_153; rfl
                have r_159 : (0 : Int) ≤ (σ25_153.1 5).toInt ∧ (σ25_153.1 5).toInt ≤ 40 := i_154.1 5
                refine fd_ok_gd (vp_in_iff.mpr ⟨by omega, by omega⟩) ?_
                refine fd_ok_lt (fun σ27_160 eσ27_160 => ?_)
                have i_161 : fd_InvM σ27_160 := fd_inv_sA eσ27_160 i_154 (by decide) (by decide) ⟨(by omega : (0 : Int) ≤ y2.toInt), (by omega : y2.toInt ≤ 199)⟩
                have f_162 : fd_fr [0, 5, 6, 7, 107, 108, 111] σ σ27_160 := fd_fr_tr f_155 (fd_fr_sA eσ27_160 (by decide))
                have t_163 : (σ27_160.1 0).toInt = (σ25_153.1 0).toInt := by subst eσ27_160; rfl
                have t_164 : (σ27_160.1 5).toInt = (σ25_153.1 5).toInt := by subst eσ27_160; rfl
                have t_165 : (σ27_160.1 7).toInt = (σ25_153.1 7).toInt := by subst eσ27_160; rfl
                refine fd_ok_lt (fun σ28_166 eσ28_166 => ?_)
                have r_169 : (0 : Int) ≤ (σ27_160.1 5).toInt ∧ (σ27_160.1 5).toInt ≤ 40 := i_161.1 5
                have u_170 := Jvm.Kit.i32_add (x := (σ27_160.1 5)) (y := (1 : Int32)) (by omega) (by omega)
                have i_167 : fd_InvM σ28_166 := fd_inv_sI eσ28_166 i_161 ⟨(by omega : (0 : Int) ≤ ((σ27_160.1 5) + (1 : Int32)).toInt), (by omega : ((σ27_160.1 5) + (1 : Int32)).toInt ≤ 40)⟩
                have f_168 : fd_fr [0, 5, 6, 7, 107, 108, 111] σ σ28_166 := fd_fr_tr f_162 (fd_fr_sI eσ28_166 (by decide))
                have t_171 : (σ28_166.1 0).toInt = (σ27_160.1 0).toInt := congrArg Int32.toInt (fd_tN eσ28_166 (by decide))
                have t_172 : (σ28_166.1 5).toInt = ((σ27_160.1 5) + (1 : Int32)).toInt := congrArg Int32.toInt (fd_tI eσ28_166)
                have t_173 : (σ28_166.1 7).toInt = (σ27_160.1 7).toInt := congrArg Int32.toInt (fd_tN eσ28_166 (by decide))
                exact fd_ok_some ⟨i_167, f_168, trivial⟩
              ·
                have d_174 : ¬ y4.toInt = (-1 : Int32).toInt := fun q => c_150 (Int32.toInt_inj.mp q)
                exact fd_ok_some ⟨i_145, f_146, trivial⟩
            ·
              have d_175 : ¬ v_120.toInt = (0 : Int32).toInt := fun q => c_129 (Int32.toInt_inj.mp q)
              try unfold f_X11_near_0_J148
              try unfold f_X11_near_0_J153
              refine fd_ok_lt (fun σ16_176 eσ16_176 => ?_)
              have i_177 : fd_InvM σ16_176 := fd_inv_sI eσ16_176 i_122 (fd_rng _)
              have f_178 : fd_fr [0, 5, 6, 7, 107, 108, 111] σ σ16_176 := fd_fr_tr f_125 (fd_fr_sI eσ16_176 (by decide))
              have t_179 : (σ16_176.1 0).toInt = (3 : Int32).toInt := congrArg Int32.toInt (fd_tI eσ16_176)
              have t_180 : (σ16_176.1 5).toInt = (σ_121.1 5).toInt := congrArg Int32.toInt (fd_tN eσ16_176 (by decide))
              have t_181 : (σ16_176.1 7).toInt = (σ_121.1 7).toInt := congrArg Int32.toInt (fd_tN eσ16_176 (by decide))
              have r_182 := fd_rng (σ16_176.1 0)
              refine fd_ok_itn (Int32.not_le.mpr (Int32.lt_iff_toInt_lt.mpr (by omega))) ?_
              exact fd_ok_some ⟨i_177, f_178, trivial⟩
          ·
            have d_183 : ¬ v_109.toInt = (0 : Int32).toInt := fun q => c_118 (Int32.toInt_inj.mp q)
            try unfold f_X11_near_0_J148
            try unfold f_X11_near_0_J153
            refine fd_ok_lt (fun σ16_184 eσ16_184 => ?_)
            have i_185 : fd_InvM σ16_184 := fd_inv_sI eσ16_184 i_111 (fd_rng _)
            have f_186 : fd_fr [0, 5, 6, 7, 107, 108, 111] σ σ16_184 := fd_fr_tr f_114 (fd_fr_sI eσ16_184 (by decide))
            have t_187 : (σ16_184.1 0).toInt = (3 : Int32).toInt := congrArg Int32.toInt (fd_tI eσ16_184)
            have t_188 : (σ16_184.1 5).toInt = (σ_110.1 5).toInt := congrArg Int32.toInt (fd_tN eσ16_184 (by decide))
            have t_189 : (σ16_184.1 7).toInt = (σ_110.1 7).toInt := congrArg Int32.toInt (fd_tN eσ16_184 (by decide))
            have r_190 := fd_rng (σ16_184.1 0)
            refine fd_ok_itn (Int32.not_le.mpr (Int32.lt_iff_toInt_lt.mpr (by omega))) ?_
            exact fd_ok_some ⟨i_185, f_186, trivial⟩
    ·
      have d_191 := Int32.lt_iff_toInt_lt.mp (Int32.not_le.mp c_2)
      refine fd_ok_gd (vp_in_iff.mpr ⟨by omega, by omega⟩) ?_
      have r_192 : (0 : Int) ≤ (σ.2.1 7 y5.toNatClampNeg).toInt ∧ (σ.2.1 7 y5.toNatClampNeg).toInt ≤ 199 := i0.2.1 7 _
      refine fd_ok_ite (fun c_193 => ?_) (fun c_193 => ?_)
      ·
        have d_194 := congrArg Int32.toInt c_193
        refine fd_ok_gd (vp_in_iff.mpr ⟨by omega, by omega⟩) ?_
        have r_195 : (0 : Int) ≤ (σ.2.1 8 y5.toNatClampNeg).toInt ∧ (σ.2.1 8 y5.toNatClampNeg).toInt ≤ 199 := i0.2.1 8 _
        refine fd_ok_ite (fun c_196 => ?_) (fun c_196 => ?_)
        ·
          have d_197 := congrArg Int32.toInt c_196
          try unfold f_X11_near_0_J87
          try unfold f_X11_near_0_J94
          refine fd_ok_lt (fun x40_198 ex40_198 => ?_)
          have t_199 := fd_la ex40_198 (by omega) (by omega)
          refine fd_ok_mono (ih _ _ _ _ _ _ i0 (by omega) (by omega) (by omega) (by omega) (by omega) (by omega)) ?_
          rintro v s ⟨hi, hf, hx⟩
          exact ⟨hi, fd_fr_tr f0 hf, trivial⟩
        ·
          try unfold f_X11_near_0_J65
          refine fd_ok_gd (vp_in_iff.mpr ⟨by omega, by omega⟩) ?_
          refine fd_ok_ite (fun c_201 => ?_) (fun c_201 => ?_)
          ·
            have d_202 := congrArg Int32.toInt c_201
            refine fd_ok_gd (vp_in_iff.mpr ⟨by omega, by omega⟩) ?_
            refine fd_ok_ite (fun c_203 => ?_) (fun c_203 => ?_)
            ·
              have d_204 := congrArg Int32.toInt c_203
              try unfold f_X11_near_0_J87
              try unfold f_X11_near_0_J94
              refine fd_ok_lt (fun x40_205 ex40_205 => ?_)
              have t_206 := fd_la ex40_205 (by omega) (by omega)
              refine fd_ok_mono (ih _ _ _ _ _ _ i0 (by omega) (by omega) (by omega) (by omega) (by omega) (by omega)) ?_
              rintro v s ⟨hi, hf, hx⟩
              exact ⟨hi, fd_fr_tr f0 hf, trivial⟩
            ·
              try unfold f_X11_near_0_J92
              try unfold f_X11_near_0_J94
              refine fd_ok_lt (fun x40_208 ex40_208 => ?_)
              have t_209 := fd_la ex40_208 (by omega) (by omega)
              refine fd_ok_mono (ih _ _ _ _ _ _ i0 (by omega) (by omega) (by omega) (by omega) (by omega) (by omega)) ?_
              rintro v s ⟨hi, hf, hx⟩
              exact ⟨hi, fd_fr_tr f0 hf, trivial⟩
          ·
            try unfold f_X11_near_0_J92
            try unfold f_X11_near_0_J94
            refine fd_ok_lt (fun x40_211 ex40_211 => ?_)
            have t_212 := fd_la ex40_211 (by omega) (by omega)
            refine fd_ok_mono (ih _ _ _ _ _ _ i0 (by omega) (by omega) (by omega) (by omega) (by omega) (by omega)) ?_
            rintro v s ⟨hi, hf, hx⟩
            exact ⟨hi, fd_fr_tr f0 hf, trivial⟩
      ·
        try unfold f_X11_near_0_J65
        refine fd_ok_gd (vp_in_iff.mpr ⟨by omega, by omega⟩) ?_
        refine fd_ok_ite (fun c_214 => ?_) (fun c_214 => ?_)
        ·
          have d_215 := congrArg Int32.toInt c_214
          refine fd_ok_gd (vp_in_iff.mpr ⟨by omega, by omega⟩) ?_
          have r_216 : (0 : Int) ≤ (σ.2.1 8 y5.toNatClampNeg).toInt ∧ (σ.2.1 8 y5.toNatClampNeg).toInt ≤ 199 := i0.2.1 8 _
          refine fd_ok_ite (fun c_217 => ?_) (fun c_217 => ?_)
          ·
            have d_218 := congrArg Int32.toInt c_217
            try unfold f_X11_near_0_J87
            try unfold f_X11_near_0_J94
            refine fd_ok_lt (fun x40_219 ex40_219 => ?_)
            have t_220 := fd_la ex40_219 (by omega) (by omega)
            refine fd_ok_mono (ih _ _ _ _ _ _ i0 (by omega) (by omega) (by omega) (by omega) (by omega) (by omega)) ?_
            rintro v s ⟨hi, hf, hx⟩
            exact ⟨hi, fd_fr_tr f0 hf, trivial⟩
          ·
            try unfold f_X11_near_0_J92
            try unfold f_X11_near_0_J94
            refine fd_ok_lt (fun x40_222 ex40_222 => ?_)
            have t_223 := fd_la ex40_222 (by omega) (by omega)
            refine fd_ok_mono (ih _ _ _ _ _ _ i0 (by omega) (by omega) (by omega) (by omega) (by omega) (by omega)) ?_
            rintro v s ⟨hi, hf, hx⟩
            exact ⟨hi, fd_fr_tr f0 hf, trivial⟩
        ·
          try unfold f_X11_near_0_J92
          try unfold f_X11_near_0_J94
          refine fd_ok_lt (fun x40_225 ex40_225 => ?_)
          have t_226 := fd_la ex40_225 (by omega) (by omega)
          refine fd_ok_mono (ih _ _ _ _ _ _ i0 (by omega) (by omega) (by omega) (by omega) (by omega) (by omega)) ?_
          rintro v s ⟨hi, hf, hx⟩
          exact ⟨hi, fd_fr_tr f0 hf, trivial⟩
set_option maxHeartbeats 4000000 in
theorem s_X11_work_0_L3 (N : Nat) (hN : 1000 ≤ N) : ∀ (n : Nat) (y1 : Int32) (y2 : Int64) (y4 : Int32) (y5 : Int64) (y7 : Int32) (σ : fd_St), fd_InvM σ → (0 ≤ y7.toInt) → (y7.toInt ≤ 200) → 200 - y7.toInt < (n : Int) → fd_ok (f_X11_work_0_L3 N n y1 y2 y4 y5 y7 σ) (fun v s => fd_InvM s ∧ fd_fr [210] σ s ∧ (True)) := by
  have litm1 : (-1 : Int32).toInt = -1 := by decide
  have lit0 : (0 : Int32).toInt = 0 := by decide
  have lit1 : (1 : Int32).toInt = 1 := by decide
  have lit2 : (2 : Int32).toInt = 2 := by decide
  have lit3 : (3 : Int32).toInt = 3 := by decide
  have lit4 : (4 : Int32).toInt = 4 := by decide
  have lit5 : (5 : Int32).toInt = 5 := by decide
  have lit64 : (64 : Int32).toInt = 64 := by decide
  intro n
  induction n with
  | zero =>
    intro y1 y2 y4 y5 y7 σ i0 h0 h1 hm
    omega
  | succ n ih =>
    intro y1 y2 y4 y5 y7 σ i0 h0 h1 hm
    have f0 : fd_fr [210] σ σ := fd_fr_rf
    unfold f_X11_work_0_L3
    have r_1 : (0 : Int) ≤ (σ.1 1).toInt ∧ (σ.1 1).toInt ≤ 200 := i0.1 1
    refine fd_ok_ite (fun c_2 => ?_) (fun c_2 => ?_)
    ·
      have d_3 := Int32.le_iff_toInt_le.mp c_2
      exact fd_ok_some ⟨i0, f0, trivial⟩
    ·
      have d_4 := Int32.lt_iff_toInt_lt.mp (Int32.not_le.mp c_2)
      refine fd_ok_ite (fun c_5 => ?_) (fun c_5 => ?_)
      ·
        have d_6 := congrArg Int32.toInt c_5
        refine fd_ok_bd ?_
        try unfold f_X11_mask_0
        have r_7 : (0 : Int) ≤ (σ.1 4).toInt ∧ (σ.1 4).toInt ≤ 64 := i0.1 4
        refine fd_ok_ite (fun c_8 => ?_) (fun c_8 => ?_)
        ·
          have d_9 := congrArg Int32.toInt c_8
          refine fd_ok_pb ?_
          try unfold f_X11_work_0_J60
          refine fd_ok_gd (vp_in_iff.mpr ⟨by omega, by omega⟩) ?_
          refine fd_ok_lt (fun σ10_10 eσ10_10 => ?_)
          have i_11 : fd_InvM σ10_10 := fd_inv_sL eσ10_10 i0
          have f_12 : fd_fr [210] σ σ10_10 := fd_fr_tr f0 (fd_fr_sL eσ10_10 (by decide))
          have t_13 : (σ10_10.1 1).toInt = (σ.1 1).toInt := by subst eσ10_10; rfl
          have t_14 : (σ10_10.1 2).toInt = (σ.1 2).toInt := by subst eσ10_10; rfl
          have t_15 : (σ10_10.1 3).toInt = (σ.1 3).toInt := by subst eσ10_10; rfl
          have t_16 : (σ10_10.1 4).toInt = (σ.1 4).toInt := by subst eσ10_10; rfl
          refine fd_ok_lt (fun x11_17 ex11_17 => ?_)
          have t_18 := fd_la ex11_17 (by omega) (by omega)
          refine fd_ok_mono (ih _ _ _ _ _ _ i_11 (by omega) (by omega) (by omega)) ?_
          rintro v s ⟨hi, hf, hx⟩
          exact ⟨hi, fd_fr_tr f_12 hf, trivial⟩
        ·
          have d_19 : ¬ (σ.1 4).toInt = (64 : Int32).toInt := fun q => c_8 (Int32.toInt_inj.mp q)
          refine fd_ok_pb ?_
          try unfold f_X11_work_0_J60
          refine fd_ok_gd (vp_in_iff.mpr ⟨by omega, by omega⟩) ?_
          refine fd_ok_lt (fun σ10_20 eσ10_20 => ?_)
          have i_21 : fd_InvM σ10_20 := fd_inv_sL eσ10_20 i0
          have f_22 : fd_fr [210] σ σ10_20 := fd_fr_tr f0 (fd_fr_sL eσ10_20 (by decide))
          have t_23 : (σ10_20.1 1).toInt = (σ.1 1).toInt := by subst eσ10_20; rfl
          have t_24 : (σ10_20.1 2).toInt = (σ.1 2).toInt := by subst eσ10_20; rfl
          have t_25 : (σ10_20.1 3).toInt = (σ.1 3).toInt := by subst eσ10_20; rfl
          have t_26 : (σ10_20.1 4).toInt = (σ.1 4).toInt := by subst eσ10_20; rfl
          refine fd_ok_lt (fun x11_27 ex11_27 => ?_)
          have t_28 := fd_la ex11_27 (by omega) (by omega)
          refine fd_ok_mono (ih _ _ _ _ _ _ i_21 (by omega) (by omega) (by omega)) ?_
          rintro v s ⟨hi, hf, hx⟩
          exact ⟨hi, fd_fr_tr f_22 hf, trivial⟩
      ·
        refine fd_ok_ite (fun c_30 => ?_) (fun c_30 => ?_)
        ·
          have d_31 := congrArg Int32.toInt c_30
          refine fd_ok_bd ?_
          try unfold f_X11_mask_0
          have r_32 : (0 : Int) ≤ (σ.1 4).toInt ∧ (σ.1 4).toInt ≤ 64 := i0.1 4
          refine fd_ok_ite (fun c_33 => ?_) (fun c_33 => ?_)
          ·
            have d_34 := congrArg Int32.toInt c_33
            refine fd_ok_pb ?_
            try unfold f_X11_work_0_J60
            refine fd_ok_gd (vp_in_iff.mpr ⟨by omega, by omega⟩) ?_
            refine fd_ok_lt (fun σ10_35 eσ10_35 => ?_)
            have i_36 : fd_InvM σ10_35 := fd_inv_sL eσ10_35 i0
            have f_37 : fd_fr [210] σ σ10_35 := fd_fr_tr f0 (fd_fr_sL eσ10_35 (by decide))
            have t_38 : (σ10_35.1 1).toInt = (σ.1 1).toInt := by subst eσ10_35; rfl
            have t_39 : (σ10_35.1 2).toInt = (σ.1 2).toInt := by subst eσ10_35; rfl
            have t_40 : (σ10_35.1 3).toInt = (σ.1 3).toInt := by subst eσ10_35; rfl
            have t_41 : (σ10_35.1 4).toInt = (σ.1 4).toInt := by subst eσ10_35; rfl
            refine fd_ok_lt (fun x11_42 ex11_42 => ?_)
            have t_43 := fd_la ex11_42 (by omega) (by omega)
            refine fd_ok_mono (ih _ _ _ _ _ _ i_36 (by omega) (by omega) (by omega)) ?_
            rintro v s ⟨hi, hf, hx⟩
            exact ⟨hi, fd_fr_tr f_37 hf, trivial⟩
          ·
            have d_44 : ¬ (σ.1 4).toInt = (64 : Int32).toInt := fun q => c_33 (Int32.toInt_inj.mp q)
            refine fd_ok_pb ?_
            try unfold f_X11_work_0_J60
            refine fd_ok_gd (vp_in_iff.mpr ⟨by omega, by omega⟩) ?_
            refine fd_ok_lt (fun σ10_45 eσ10_45 => ?_)
            have i_46 : fd_InvM σ10_45 := fd_inv_sL eσ10_45 i0
            have f_47 : fd_fr [210] σ σ10_45 := fd_fr_tr f0 (fd_fr_sL eσ10_45 (by decide))
            have t_48 : (σ10_45.1 1).toInt = (σ.1 1).toInt := by subst eσ10_45; rfl
            have t_49 : (σ10_45.1 2).toInt = (σ.1 2).toInt := by subst eσ10_45; rfl
            have t_50 : (σ10_45.1 3).toInt = (σ.1 3).toInt := by subst eσ10_45; rfl
            have t_51 : (σ10_45.1 4).toInt = (σ.1 4).toInt := by subst eσ10_45; rfl
            refine fd_ok_lt (fun x11_52 ex11_52 => ?_)
            have t_53 := fd_la ex11_52 (by omega) (by omega)
            refine fd_ok_mono (ih _ _ _ _ _ _ i_46 (by omega) (by omega) (by omega)) ?_
            rintro v s ⟨hi, hf, hx⟩
            exact ⟨hi, fd_fr_tr f_47 hf, trivial⟩
        ·
          refine fd_ok_bd ?_
          try unfold f_X11_own_0_10
          refine fd_ok_gd (vp_in_iff.mpr ⟨by omega, by omega⟩) ?_
          refine fd_ok_ite (fun c_55 => ?_) (fun c_55 => ?_)
          ·
            have d_56 := congrArg Int32.toInt c_55
            refine fd_ok_gd (vp_in_iff.mpr ⟨by omega, by omega⟩) ?_
            try unfold f_X11_own_0_10_J44
            refine fd_ok_bd ?_
            try unfold f_X11_mask_0
            have r_57 : (0 : Int) ≤ (σ.1 4).toInt ∧ (σ.1 4).toInt ≤ 64 := i0.1 4
            refine fd_ok_ite (fun c_58 => ?_) (fun c_58 => ?_)
            ·
              have d_59 := congrArg Int32.toInt c_58
              refine fd_ok_pb ?_
              refine fd_ok_pb ?_
              try unfold f_X11_work_0_J60
              refine fd_ok_gd (vp_in_iff.mpr ⟨by omega, by omega⟩) ?_
              refine fd_ok_lt (fun σ10_60 eσ10_60 => ?_)
              have i_61 : fd_InvM σ10_60 := fd_inv_sL eσ10_60 i0
              have f_62 : fd_fr [210] σ σ10_60 := fd_fr_tr f0 (fd_fr_sL eσ10_60 (by decide))
              have t_63 : (σ10_60.1 1).toInt = (σ.1 1).toInt := by subst eσ10_60; rfl
              have t_64 : (σ10_60.1 2).toInt = (σ.1 2).toInt := by subst eσ10_60; rfl
              have t_65 : (σ10_60.1 3).toInt = (σ.1 3).toInt := by subst eσ10_60; rfl
              have t_66 : (σ10_60.1 4).toInt = (σ.1 4).toInt := by subst eσ10_60; rfl
              refine fd_ok_lt (fun x11_67 ex11_67 => ?_)
              have t_68 := fd_la ex11_67 (by omega) (by omega)
              refine fd_ok_mono (ih _ _ _ _ _ _ i_61 (by omega) (by omega) (by omega)) ?_
              rintro v s ⟨hi, hf, hx⟩
              exact ⟨hi, fd_fr_tr f_62 hf, trivial⟩
            ·
              have d_69 : ¬ (σ.1 4).toInt = (64 : Int32).toInt := fun q => c_58 (Int32.toInt_inj.mp q)
              refine fd_ok_pb ?_
              refine fd_ok_pb ?_
              try unfold f_X11_work_0_J60
              refine fd_ok_gd (vp_in_iff.mpr ⟨by omega, by omega⟩) ?_
              refine fd_ok_lt (fun σ10_70 eσ10_70 => ?_)
              have i_71 : fd_InvM σ10_70 := fd_inv_sL eσ10_70 i0
              have f_72 : fd_fr [210] σ σ10_70 := fd_fr_tr f0 (fd_fr_sL eσ10_70 (by decide))
              have t_73 : (σ10_70.1 1).toInt = (σ.1 1).toInt := by subst eσ10_70; rfl
              have t_74 : (σ10_70.1 2).toInt = (σ.1 2).toInt := by subst eσ10_70; rfl
              have t_75 : (σ10_70.1 3).toInt = (σ.1 3).toInt := by subst eσ10_70; rfl
              have t_76 : (σ10_70.1 4).toInt = (σ.1 4).toInt := by subst eσ10_70; rfl
              refine fd_ok_lt (fun x11_77 ex11_77 => ?_)
              have t_78 := fd_la ex11_77 (by omega) (by omega)
              refine fd_ok_mono (ih _ _ _ _ _ _ i_71 (by omega) (by omega) (by omega)) ?_
              rintro v s ⟨hi, hf, hx⟩
              exact ⟨hi, fd_fr_tr f_72 hf, trivial⟩
          ·
            refine fd_ok_gd (vp_in_iff.mpr ⟨by omega, by omega⟩) ?_
            refine fd_ok_gd (vp_in_iff.mpr ⟨by omega, by omega⟩) ?_
            have r_80 : (0 : Int) ≤ (σ.2.1 2 y7.toNatClampNeg).toInt ∧ (σ.2.1 2 y7.toNatClampNeg).toInt ≤ 199 := i0.2.1 2 _
            refine fd_ok_gd (vp_in_iff.mpr ⟨by omega, by omega⟩) ?_
            refine fd_ok_gd (vp_in_iff.mpr ⟨by omega, by omega⟩) ?_
            have r_81 : (0 : Int) ≤ (σ.2.1 3 y7.toNatClampNeg).toInt ∧ (σ.2.1 3 y7.toNatClampNeg).toInt ≤ 199 := i0.2.1 3 _
            refine fd_ok_gd (vp_in_iff.mpr ⟨by omega, by omega⟩) ?_
            refine fd_ok_bd ?_
            try unfold f_X11_tell
            refine fd_ok_ite (fun c_82 => ?_) (fun c_82 => ?_)
            ·
              have d_83 := congrArg Int32.toInt c_82
              refine fd_ok_pb ?_
              try unfold f_X11_own_0_10_J44
              refine fd_ok_bd ?_
              try unfold f_X11_mask_0
              have r_84 : (0 : Int) ≤ (σ.1 4).toInt ∧ (σ.1 4).toInt ≤ 64 := i0.1 4
              refine fd_ok_ite (fun c_85 => ?_) (fun c_85 => ?_)
              ·
                have d_86 := congrArg Int32.toInt c_85
                refine fd_ok_pb ?_
                refine fd_ok_pb ?_
                try unfold f_X11_work_0_J60
                refine fd_ok_gd (vp_in_iff.mpr ⟨by omega, by omega⟩) ?_
                refine fd_ok_lt (fun σ10_87 eσ10_87 => ?_)
                have i_88 : fd_InvM σ10_87 := fd_inv_sL eσ10_87 i0
                have f_89 : fd_fr [210] σ σ10_87 := fd_fr_tr f0 (fd_fr_sL eσ10_87 (by decide))
                have t_90 : (σ10_87.1 1).toInt = (σ.1 1).toInt := by subst eσ10_87; rfl
                have t_91 : (σ10_87.1 2).toInt = (σ.1 2).toInt := by subst eσ10_87; rfl
                have t_92 : (σ10_87.1 3).toInt = (σ.1 3).toInt := by subst eσ10_87; rfl
                have t_93 : (σ10_87.1 4).toInt = (σ.1 4).toInt := by subst eσ10_87; rfl
                refine fd_ok_lt (fun x11_94 ex11_94 => ?_)
                have t_95 := fd_la ex11_94 (by omega) (by omega)
                refine fd_ok_mono (ih _ _ _ _ _ _ i_88 (by omega) (by omega) (by omega)) ?_
                rintro v s ⟨hi, hf, hx⟩
                exact ⟨hi, fd_fr_tr f_89 hf, trivial⟩
              ·
                have d_96 : ¬ (σ.1 4).toInt = (64 : Int32).toInt := fun q => c_85 (Int32.toInt_inj.mp q)
                refine fd_ok_pb ?_
                refine fd_ok_pb ?_
                try unfold f_X11_work_0_J60
                refine fd_ok_gd (vp_in_iff.mpr ⟨by omega, by omega⟩) ?_
                refine fd_ok_lt (fun σ10_97 eσ10_97 => ?_)
                have i_98 : fd_InvM σ10_97 := fd_inv_sL eσ10_97 i0
                have f_99 : fd_fr [210] σ σ10_97 := fd_fr_tr f0 (fd_fr_sL eσ10_97 (by decide))
                have t_100 : (σ10_97.1 1).toInt = (σ.1 1).toInt := by subst eσ10_97; rfl
                have t_101 : (σ10_97.1 2).toInt = (σ.1 2).toInt := by subst eσ10_97; rfl
                have t_102 : (σ10_97.1 3).toInt = (σ.1 3).toInt := by subst eσ10_97; rfl
                have t_103 : (σ10_97.1 4).toInt = (σ.1 4).toInt := by subst eσ10_97; rfl
                refine fd_ok_lt (fun x11_104 ex11_104 => ?_)
                have t_105 := fd_la ex11_104 (by omega) (by omega)
                refine fd_ok_mono (ih _ _ _ _ _ _ i_98 (by omega) (by omega) (by omega)) ?_
                rintro v s ⟨hi, hf, hx⟩
                exact ⟨hi, fd_fr_tr f_99 hf, trivial⟩
            ·
              refine fd_ok_ite (fun c_107 => ?_) (fun c_107 => ?_)
              ·
                have d_108 := congrArg Int32.toInt c_107
                refine fd_ok_pb ?_
                try unfold f_X11_own_0_10_J44
                refine fd_ok_bd ?_
                try unfold f_X11_mask_0
                have r_109 : (0 : Int) ≤ (σ.1 4).toInt ∧ (σ.1 4).toInt ≤ 64 := i0.1 4
                refine fd_ok_ite (fun c_110 => ?_) (fun c_110 => ?_)
                ·
                  have d_111 := congrArg Int32.toInt c_110
                  refine fd_ok_pb ?_
                  refine fd_ok_pb ?_
                  try unfold f_X11_work_0_J60
                  refine fd_ok_gd (vp_in_iff.mpr ⟨by omega, by omega⟩) ?_
                  refine fd_ok_lt (fun σ10_112 eσ10_112 => ?_)
                  have i_113 : fd_InvM σ10_112 := fd_inv_sL eσ10_112 i0
                  have f_114 : fd_fr [210] σ σ10_112 := fd_fr_tr f0 (fd_fr_sL eσ10_112 (by decide))
                  have t_115 : (σ10_112.1 1).toInt = (σ.1 1).toInt := by subst eσ10_112; rfl
                  have t_116 : (σ10_112.1 2).toInt = (σ.1 2).toInt := by subst eσ10_112; rfl
                  have t_117 : (σ10_112.1 3).toInt = (σ.1 3).toInt := by subst eσ10_112; rfl
                  have t_118 : (σ10_112.1 4).toInt = (σ.1 4).toInt := by subst eσ10_112; rfl
                  refine fd_ok_lt (fun x11_119 ex11_119 => ?_)
                  have t_120 := fd_la ex11_119 (by omega) (by omega)
                  refine fd_ok_mono (ih _ _ _ _ _ _ i_113 (by omega) (by omega) (by omega)) ?_
                  rintro v s ⟨hi, hf, hx⟩
                  exact ⟨hi, fd_fr_tr f_114 hf, trivial⟩
                ·
                  have d_121 : ¬ (σ.1 4).toInt = (64 : Int32).toInt := fun q => c_110 (Int32.toInt_inj.mp q)
                  refine fd_ok_pb ?_
                  refine fd_ok_pb ?_
                  try unfold f_X11_work_0_J60
                  refine fd_ok_gd (vp_in_iff.mpr ⟨by omega, by omega⟩) ?_
                  refine fd_ok_lt (fun σ10_122 eσ10_122 => ?_)
                  have i_123 : fd_InvM σ10_122 := fd_inv_sL eσ10_122 i0
                  have f_124 : fd_fr [210] σ σ10_122 := fd_fr_tr f0 (fd_fr_sL eσ10_122 (by decide))
                  have t_125 : (σ10_122.1 1).toInt = (σ.1 1).toInt := by subst eσ10_122; rfl
                  have t_126 : (σ10_122.1 2).toInt = (σ.1 2).toInt := by subst eσ10_122; rfl
                  have t_127 : (σ10_122.1 3).toInt = (σ.1 3).toInt := by subst eσ10_122; rfl
                  have t_128 : (σ10_122.1 4).toInt = (σ.1 4).toInt := by subst eσ10_122; rfl
                  refine fd_ok_lt (fun x11_129 ex11_129 => ?_)
                  have t_130 := fd_la ex11_129 (by omega) (by omega)
                  refine fd_ok_mono (ih _ _ _ _ _ _ i_123 (by omega) (by omega) (by omega)) ?_
                  rintro v s ⟨hi, hf, hx⟩
                  exact ⟨hi, fd_fr_tr f_124 hf, trivial⟩
              ·
                refine fd_ok_ite (fun c_132 => ?_) (fun c_132 => ?_)
                ·
                  have d_133 := congrArg Int32.toInt c_132
                  refine fd_ok_pb ?_
                  try unfold f_X11_own_0_10_J44
                  refine fd_ok_bd ?_
                  try unfold f_X11_mask_0
                  have r_134 : (0 : Int) ≤ (σ.1 4).toInt ∧ (σ.1 4).toInt ≤ 64 := i0.1 4
                  refine fd_ok_ite (fun c_135 => ?_) (fun c_135 => ?_)
                  ·
                    have d_136 := congrArg Int32.toInt c_135
                    refine fd_ok_pb ?_
                    refine fd_ok_pb ?_
                    try unfold f_X11_work_0_J60
                    refine fd_ok_gd (vp_in_iff.mpr ⟨by omega, by omega⟩) ?_
                    refine fd_ok_lt (fun σ10_137 eσ10_137 => ?_)
                    have i_138 : fd_InvM σ10_137 := fd_inv_sL eσ10_137 i0
                    have f_139 : fd_fr [210] σ σ10_137 := fd_fr_tr f0 (fd_fr_sL eσ10_137 (by decide))
                    have t_140 : (σ10_137.1 1).toInt = (σ.1 1).toInt := by subst eσ10_137; rfl
                    have t_141 : (σ10_137.1 2).toInt = (σ.1 2).toInt := by subst eσ10_137; rfl
                    have t_142 : (σ10_137.1 3).toInt = (σ.1 3).toInt := by subst eσ10_137; rfl
                    have t_143 : (σ10_137.1 4).toInt = (σ.1 4).toInt := by subst eσ10_137; rfl
                    refine fd_ok_lt (fun x11_144 ex11_144 => ?_)
                    have t_145 := fd_la ex11_144 (by omega) (by omega)
                    refine fd_ok_mono (ih _ _ _ _ _ _ i_138 (by omega) (by omega) (by omega)) ?_
                    rintro v s ⟨hi, hf, hx⟩
                    exact ⟨hi, fd_fr_tr f_139 hf, trivial⟩
                  ·
                    have d_146 : ¬ (σ.1 4).toInt = (64 : Int32).toInt := fun q => c_135 (Int32.toInt_inj.mp q)
                    refine fd_ok_pb ?_
                    refine fd_ok_pb ?_
                    try unfold f_X11_work_0_J60
                    refine fd_ok_gd (vp_in_iff.mpr ⟨by omega, by omega⟩) ?_
                    refine fd_ok_lt (fun σ10_147 eσ10_147 => ?_)
                    have i_148 : fd_InvM σ10_147 := fd_inv_sL eσ10_147 i0
                    have f_149 : fd_fr [210] σ σ10_147 := fd_fr_tr f0 (fd_fr_sL eσ10_147 (by decide))
                    have t_150 : (σ10_147.1 1).toInt = (σ.1 1).toInt := by subst eσ10_147; rfl
                    have t_151 : (σ10_147.1 2).toInt = (σ.1 2).toInt := by subst eσ10_147; rfl
                    have t_152 : (σ10_147.1 3).toInt = (σ.1 3).toInt := by subst eσ10_147; rfl
                    have t_153 : (σ10_147.1 4).toInt = (σ.1 4).toInt := by subst eσ10_147; rfl
                    refine fd_ok_lt (fun x11_154 ex11_154 => ?_)
                    have t_155 := fd_la ex11_154 (by omega) (by omega)
                    refine fd_ok_mono (ih _ _ _ _ _ _ i_148 (by omega) (by omega) (by omega)) ?_
                    rintro v s ⟨hi, hf, hx⟩
                    exact ⟨hi, fd_fr_tr f_149 hf, trivial⟩
                ·
                  refine fd_ok_ite (fun c_157 => ?_) (fun c_157 => ?_)
                  ·
                    have d_158 := congrArg Int32.toInt c_157
                    refine fd_ok_pb ?_
                    try unfold f_X11_own_0_10_J44
                    refine fd_ok_bd ?_
                    try unfold f_X11_mask_0
                    have r_159 : (0 : Int) ≤ (σ.1 4).toInt ∧ (σ.1 4).toInt ≤ 64 := i0.1 4
                    refine fd_ok_ite (fun c_160 => ?_) (fun c_160 => ?_)
                    ·
                      have d_161 := congrArg Int32.toInt c_160
                      refine fd_ok_pb ?_
                      refine fd_ok_pb ?_
                      try unfold f_X11_work_0_J60
                      refine fd_ok_gd (vp_in_iff.mpr ⟨by omega, by omega⟩) ?_
                      refine fd_ok_lt (fun σ10_162 eσ10_162 => ?_)
                      have i_163 : fd_InvM σ10_162 := fd_inv_sL eσ10_162 i0
                      have f_164 : fd_fr [210] σ σ10_162 := fd_fr_tr f0 (fd_fr_sL eσ10_162 (by decide))
                      have t_165 : (σ10_162.1 1).toInt = (σ.1 1).toInt := by subst eσ10_162; rfl
                      have t_166 : (σ10_162.1 2).toInt = (σ.1 2).toInt := by subst eσ10_162; rfl
                      have t_167 : (σ10_162.1 3).toInt = (σ.1 3).toInt := by subst eσ10_162; rfl
                      have t_168 : (σ10_162.1 4).toInt = (σ.1 4).toInt := by subst eσ10_162; rfl
                      refine fd_ok_lt (fun x11_169 ex11_169 => ?_)
                      have t_170 := fd_la ex11_169 (by omega) (by omega)
                      refine fd_ok_mono (ih _ _ _ _ _ _ i_163 (by omega) (by omega) (by omega)) ?_
                      rintro v s ⟨hi, hf, hx⟩
                      exact ⟨hi, fd_fr_tr f_164 hf, trivial⟩
                    ·
                      have d_171 : ¬ (σ.1 4).toInt = (64 : Int32).toInt := fun q => c_160 (Int32.toInt_inj.mp q)
                      refine fd_ok_pb ?_
                      refine fd_ok_pb ?_
                      try unfold f_X11_work_0_J60
                      refine fd_ok_gd (vp_in_iff.mpr ⟨by omega, by omega⟩) ?_
                      refine fd_ok_lt (fun σ10_172 eσ10_172 => ?_)
                      have i_173 : fd_InvM σ10_172 := fd_inv_sL eσ10_172 i0
                      have f_174 : fd_fr [210] σ σ10_172 := fd_fr_tr f0 (fd_fr_sL eσ10_172 (by decide))
                      have t_175 : (σ10_172.1 1).toInt = (σ.1 1).toInt := by subst eσ10_172; rfl
                      have t_176 : (σ10_172.1 2).toInt = (σ.1 2).toInt := by subst eσ10_172; rfl
                      have t_177 : (σ10_172.1 3).toInt = (σ.1 3).toInt := by subst eσ10_172; rfl
                      have t_178 : (σ10_172.1 4).toInt = (σ.1 4).toInt := by subst eσ10_172; rfl
                      refine fd_ok_lt (fun x11_179 ex11_179 => ?_)
                      have t_180 := fd_la ex11_179 (by omega) (by omega)
                      refine fd_ok_mono (ih _ _ _ _ _ _ i_173 (by omega) (by omega) (by omega)) ?_
                      rintro v s ⟨hi, hf, hx⟩
                      exact ⟨hi, fd_fr_tr f_174 hf, trivial⟩
                  ·
                    refine fd_ok_ite (fun c_182 => ?_) (fun c_182 => ?_)
                    ·
                      have d_183 := congrArg Int32.toInt c_182
                      refine fd_ok_pb ?_
                      try unfold f_X11_own_0_10_J44
                      refine fd_ok_bd ?_
                      try unfold f_X11_mask_0
                      have r_184 : (0 : Int) ≤ (σ.1 4).toInt ∧ (σ.1 4).toInt ≤ 64 := i0.1 4
                      refine fd_ok_ite (fun c_185 => ?_) (fun c_185 => ?_)
                      ·
                        have d_186 := congrArg Int32.toInt c_185
                        refine fd_ok_pb ?_
                        refine fd_ok_pb ?_
                        try unfold f_X11_work_0_J60
                        refine fd_ok_gd (vp_in_iff.mpr ⟨by omega, by omega⟩) ?_
                        refine fd_ok_lt (fun σ10_187 eσ10_187 => ?_)
                        have i_188 : fd_InvM σ10_187 := fd_inv_sL eσ10_187 i0
                        have f_189 : fd_fr [210] σ σ10_187 := fd_fr_tr f0 (fd_fr_sL eσ10_187 (by decide))
                        have t_190 : (σ10_187.1 1).toInt = (σ.1 1).toInt := by subst eσ10_187; rfl
                        have t_191 : (σ10_187.1 2).toInt = (σ.1 2).toInt := by subst eσ10_187; rfl
                        have t_192 : (σ10_187.1 3).toInt = (σ.1 3).toInt := by subst eσ10_187; rfl
                        have t_193 : (σ10_187.1 4).toInt = (σ.1 4).toInt := by subst eσ10_187; rfl
                        refine fd_ok_lt (fun x11_194 ex11_194 => ?_)
                        have t_195 := fd_la ex11_194 (by omega) (by omega)
                        refine fd_ok_mono (ih _ _ _ _ _ _ i_188 (by omega) (by omega) (by omega)) ?_
                        rintro v s ⟨hi, hf, hx⟩
                        exact ⟨hi, fd_fr_tr f_189 hf, trivial⟩
                      ·
                        have d_196 : ¬ (σ.1 4).toInt = (64 : Int32).toInt := fun q => c_185 (Int32.toInt_inj.mp q)
                        refine fd_ok_pb ?_
                        refine fd_ok_pb ?_
                        try unfold f_X11_work_0_J60
                        refine fd_ok_gd (vp_in_iff.mpr ⟨by omega, by omega⟩) ?_
                        refine fd_ok_lt (fun σ10_197 eσ10_197 => ?_)
                        have i_198 : fd_InvM σ10_197 := fd_inv_sL eσ10_197 i0
                        have f_199 : fd_fr [210] σ σ10_197 := fd_fr_tr f0 (fd_fr_sL eσ10_197 (by decide))
                        have t_200 : (σ10_197.1 1).toInt = (σ.1 1).toInt := by subst eσ10_197; rfl
                        have t_201 : (σ10_197.1 2).toInt = (σ.1 2).toInt := by subst eσ10_197; rfl
                        have t_202 : (σ10_197.1 3).toInt = (σ.1 3).toInt := by subst eσ10_197; rfl
                        have t_203 : (σ10_197.1 4).toInt = (σ.1 4).toInt := by subst eσ10_197; rfl
                        refine fd_ok_lt (fun x11_204 ex11_204 => ?_)
                        have t_205 := fd_la ex11_204 (by omega) (by omega)
                        refine fd_ok_mono (ih _ _ _ _ _ _ i_198 (by omega) (by omega) (by omega)) ?_
                        rintro v s ⟨hi, hf, hx⟩
                        exact ⟨hi, fd_fr_tr f_199 hf, trivial⟩
                    ·
                      refine fd_ok_ite (fun c_207 => ?_) (fun c_207 => ?_)
                      ·
                        have d_208 := congrArg Int32.toInt c_207
                        refine fd_ok_pb ?_
                        try unfold f_X11_own_0_10_J44
                        refine fd_ok_bd ?_
                        try unfold f_X11_mask_0
                        have r_209 : (0 : Int) ≤ (σ.1 4).toInt ∧ (σ.1 4).toInt ≤ 64 := i0.1 4
                        refine fd_ok_ite (fun c_210 => ?_) (fun c_210 => ?_)
                        ·
                          have d_211 := congrArg Int32.toInt c_210
                          refine fd_ok_pb ?_
                          refine fd_ok_pb ?_
                          try unfold f_X11_work_0_J60
                          refine fd_ok_gd (vp_in_iff.mpr ⟨by omega, by omega⟩) ?_
                          refine fd_ok_lt (fun σ10_212 eσ10_212 => ?_)
                          have i_213 : fd_InvM σ10_212 := fd_inv_sL eσ10_212 i0
                          have f_214 : fd_fr [210] σ σ10_212 := fd_fr_tr f0 (fd_fr_sL eσ10_212 (by decide))
                          have t_215 : (σ10_212.1 1).toInt = (σ.1 1).toInt := by subst eσ10_212; rfl
                          have t_216 : (σ10_212.1 2).toInt = (σ.1 2).toInt := by subst eσ10_212; rfl
                          have t_217 : (σ10_212.1 3).toInt = (σ.1 3).toInt := by subst eσ10_212; rfl
                          have t_218 : (σ10_212.1 4).toInt = (σ.1 4).toInt := by subst eσ10_212; rfl
                          refine fd_ok_lt (fun x11_219 ex11_219 => ?_)
                          have t_220 := fd_la ex11_219 (by omega) (by omega)
                          refine fd_ok_mono (ih _ _ _ _ _ _ i_213 (by omega) (by omega) (by omega)) ?_
                          rintro v s ⟨hi, hf, hx⟩
                          exact ⟨hi, fd_fr_tr f_214 hf, trivial⟩
                        ·
                          have d_221 : ¬ (σ.1 4).toInt = (64 : Int32).toInt := fun q => c_210 (Int32.toInt_inj.mp q)
                          refine fd_ok_pb ?_
                          refine fd_ok_pb ?_
                          try unfold f_X11_work_0_J60
                          refine fd_ok_gd (vp_in_iff.mpr ⟨by omega, by omega⟩) ?_
                          refine fd_ok_lt (fun σ10_222 eσ10_222 => ?_)
                          have i_223 : fd_InvM σ10_222 := fd_inv_sL eσ10_222 i0
                          have f_224 : fd_fr [210] σ σ10_222 := fd_fr_tr f0 (fd_fr_sL eσ10_222 (by decide))
                          have t_225 : (σ10_222.1 1).toInt = (σ.1 1).toInt := by subst eσ10_222; rfl
                          have t_226 : (σ10_222.1 2).toInt = (σ.1 2).toInt := by subst eσ10_222; rfl
                          have t_227 : (σ10_222.1 3).toInt = (σ.1 3).toInt := by subst eσ10_222; rfl
                          have t_228 : (σ10_222.1 4).toInt = (σ.1 4).toInt := by subst eσ10_222; rfl
                          refine fd_ok_lt (fun x11_229 ex11_229 => ?_)
                          have t_230 := fd_la ex11_229 (by omega) (by omega)
                          refine fd_ok_mono (ih _ _ _ _ _ _ i_223 (by omega) (by omega) (by omega)) ?_
                          rintro v s ⟨hi, hf, hx⟩
                          exact ⟨hi, fd_fr_tr f_224 hf, trivial⟩
                      ·
                        refine fd_ok_pb ?_
                        try unfold f_X11_own_0_10_J44
                        refine fd_ok_bd ?_
                        try unfold f_X11_mask_0
                        have r_232 : (0 : Int) ≤ (σ.1 4).toInt ∧ (σ.1 4).toInt ≤ 64 := i0.1 4
                        refine fd_ok_ite (fun c_233 => ?_) (fun c_233 => ?_)
                        ·
                          have d_234 := congrArg Int32.toInt c_233
                          refine fd_ok_pb ?_
                          refine fd_ok_pb ?_
                          try unfold f_X11_work_0_J60
                          refine fd_ok_gd (vp_in_iff.mpr ⟨by omega, by omega⟩) ?_
                          refine fd_ok_lt (fun σ10_235 eσ10_235 => ?_)
                          have i_236 : fd_InvM σ10_235 := fd_inv_sL eσ10_235 i0
                          have f_237 : fd_fr [210] σ σ10_235 := fd_fr_tr f0 (fd_fr_sL eσ10_235 (by decide))
                          have t_238 : (σ10_235.1 1).toInt = (σ.1 1).toInt := by subst eσ10_235; rfl
                          have t_239 : (σ10_235.1 2).toInt = (σ.1 2).toInt := by subst eσ10_235; rfl
                          have t_240 : (σ10_235.1 3).toInt = (σ.1 3).toInt := by subst eσ10_235; rfl
                          have t_241 : (σ10_235.1 4).toInt = (σ.1 4).toInt := by subst eσ10_235; rfl
                          refine fd_ok_lt (fun x11_242 ex11_242 => ?_)
                          have t_243 := fd_la ex11_242 (by omega) (by omega)
                          refine fd_ok_mono (ih _ _ _ _ _ _ i_236 (by omega) (by omega) (by omega)) ?_
                          rintro v s ⟨hi, hf, hx⟩
                          exact ⟨hi, fd_fr_tr f_237 hf, trivial⟩
                        ·
                          have d_244 : ¬ (σ.1 4).toInt = (64 : Int32).toInt := fun q => c_233 (Int32.toInt_inj.mp q)
                          refine fd_ok_pb ?_
                          refine fd_ok_pb ?_
                          try unfold f_X11_work_0_J60
                          refine fd_ok_gd (vp_in_iff.mpr ⟨by omega, by omega⟩) ?_
                          refine fd_ok_lt (fun σ10_245 eσ10_245 => ?_)
                          have i_246 : fd_InvM σ10_245 := fd_inv_sL eσ10_245 i0
                          have f_247 : fd_fr [210] σ σ10_245 := fd_fr_tr f0 (fd_fr_sL eσ10_245 (by decide))
                          have t_248 : (σ10_245.1 1).toInt = (σ.1 1).toInt := by subst eσ10_245; rfl
                          have t_249 : (σ10_245.1 2).toInt = (σ.1 2).toInt := by subst eσ10_245; rfl
                          have t_250 : (σ10_245.1 3).toInt = (σ.1 3).toInt := by subst eσ10_245; rfl
                          have t_251 : (σ10_245.1 4).toInt = (σ.1 4).toInt := by subst eσ10_245; rfl
                          refine fd_ok_lt (fun x11_252 ex11_252 => ?_)
                          have t_253 := fd_la ex11_252 (by omega) (by omega)
                          refine fd_ok_mono (ih _ _ _ _ _ _ i_246 (by omega) (by omega) (by omega)) ?_
                          rintro v s ⟨hi, hf, hx⟩
                          exact ⟨hi, fd_fr_tr f_247 hf, trivial⟩
set_option maxHeartbeats 4000000 in
theorem s_X11_workFault_0 (N : Nat) (hN : 1000 ≤ N) (p1 : Int32) (p2 : Int32) (σ : fd_St) (i0 : fd_InvM σ) (h0 : 2 ≤ p1.toInt → 0 ≤ p2.toInt ∧ p2.toInt < 40) : fd_ok (f_X11_workFault_0 N p1 p2 σ) (fun v s => fd_InvM s ∧ fd_fr [210] σ s ∧ (True)) := by
  have lit0 : (0 : Int32).toInt = 0 := by decide
  have lit1 : (1 : Int32).toInt = 1 := by decide
  have lit2 : (2 : Int32).toInt = 2 := by decide
  have f0 : fd_fr [210] σ σ := fd_fr_rf
  unfold f_X11_workFault_0
  refine fd_ok_ite (fun c_1 => ?_) (fun c_1 => ?_)
  ·
    have d_2 := Int32.le_iff_toInt_le.mp c_1
    refine fd_ok_gd (vp_in_iff.mpr ⟨by omega, by omega⟩) ?_
    have r_4 : (0 : Int) ≤ (σ.2.1 7 p2.toNatClampNeg).toInt ∧ (σ.2.1 7 p2.toNatClampNeg).toInt ≤ 199 := i0.2.1 7 _
    refine fd_ok_lt (fun x3_3 ex3_3 => ?_)
    have t_5 : x3_3.toInt = (σ.2.1 7 p2.toNatClampNeg).toInt := congrArg Int32.toInt ex3_3
    refine fd_ok_gd (vp_in_iff.mpr ⟨by omega, by omega⟩) ?_
    have r_7 : (0 : Int) ≤ (σ.2.1 8 p2.toNatClampNeg).toInt ∧ (σ.2.1 8 p2.toNatClampNeg).toInt ≤ 199 := i0.2.1 8 _
    refine fd_ok_lt (fun x5_6 ex5_6 => ?_)
    have t_8 : x5_6.toInt = (σ.2.1 8 p2.toNatClampNeg).toInt := congrArg Int32.toInt ex5_6
    refine fd_ok_ite (fun c_9 => ?_) (fun c_9 => ?_)
    ·
      have d_10 := congrArg Int32.toInt c_9
      refine fd_ok_gd (vp_in_iff.mpr ⟨by omega, by omega⟩) ?_
      refine fd_ok_gd (vp_in_iff.mpr ⟨by omega, by omega⟩) ?_
      try unfold f_X11_workFault_0_J78
      refine fd_ok_bd ?_
      try unfold f_X11_work_0
      refine fd_ok_cl (s_X11_work_0_L3 N hN N _ _ _ _ _ _ i0 (by omega) (by omega) (by omega)) ?_
      rintro v_11 σ_12 ⟨i_13, g_14, x_15⟩
      have f_16 : fd_fr [210] σ σ_12 := fd_fr_tr f0 (fd_fr_mono g_14 (by decide))
      have t_17 : (σ_12.1 7).toInt = (σ.1 7).toInt := congrArg Int32.toInt (g_14.1 7 (by decide))
      exact fd_ok_some ⟨i_13, f_16, trivial⟩
    ·
      refine fd_ok_gd (vp_in_iff.mpr ⟨by omega, by omega⟩) ?_
      refine fd_ok_gd (vp_in_iff.mpr ⟨by omega, by omega⟩) ?_
      try unfold f_X11_workFault_0_J78
      refine fd_ok_bd ?_
      try unfold f_X11_work_0
      refine fd_ok_cl (s_X11_work_0_L3 N hN N _ _ _ _ _ _ i0 (by omega) (by omega) (by omega)) ?_
      rintro v_19 σ_20 ⟨i_21, g_22, x_23⟩
      have f_24 : fd_fr [210] σ σ_20 := fd_fr_tr f0 (fd_fr_mono g_22 (by decide))
      have t_25 : (σ_20.1 7).toInt = (σ.1 7).toInt := congrArg Int32.toInt (g_22.1 7 (by decide))
      exact fd_ok_some ⟨i_21, f_24, trivial⟩
  ·
    have d_26 := Int32.lt_iff_toInt_lt.mp (Int32.not_le.mp c_1)
    refine fd_ok_ite (fun c_27 => ?_) (fun c_27 => ?_)
    ·
      have d_28 := congrArg Int32.toInt c_27
      try unfold f_X11_workFault_0_J19
      refine fd_ok_bd ?_
      try unfold f_X11_work_0
      refine fd_ok_cl (s_X11_work_0_L3 N hN N _ _ _ _ _ _ i0 (by omega) (by omega) (by omega)) ?_
      rintro v_29 σ_30 ⟨i_31, g_32, x_33⟩
      have f_34 : fd_fr [210] σ σ_30 := fd_fr_tr f0 (fd_fr_mono g_32 (by decide))
      have t_35 : (σ_30.1 7).toInt = (σ.1 7).toInt := congrArg Int32.toInt (g_32.1 7 (by decide))
      exact fd_ok_some ⟨i_31, f_34, trivial⟩
    ·
      try unfold f_X11_workFault_0_J19
      refine fd_ok_bd ?_
      try unfold f_X11_work_0
      refine fd_ok_cl (s_X11_work_0_L3 N hN N _ _ _ _ _ _ i0 (by omega) (by omega) (by omega)) ?_
      rintro v_37 σ_38 ⟨i_39, g_40, x_41⟩
      have f_42 : fd_fr [210] σ σ_38 := fd_fr_tr f0 (fd_fr_mono g_40 (by decide))
      have t_43 : (σ_38.1 7).toInt = (σ.1 7).toInt := congrArg Int32.toInt (g_40.1 7 (by decide))
      exact fd_ok_some ⟨i_39, f_42, trivial⟩
set_option maxHeartbeats 4000000 in
theorem s_X11_bits_L4 (N : Nat) (hN : 1000 ≤ N) : ∀ (n : Nat) (y0 : Int64) (y2 : Int32) (y3 : Int32) (σ : fd_St), fd_InvM σ → (0 ≤ y3.toInt) → (y3.toInt ≤ 64) → 64 - y3.toInt < (n : Int) → fd_ok (f_X11_bits_L4 N n y0 y2 y3 σ) (fun v s => fd_InvM s ∧ fd_fr [] σ s ∧ (True)) := by
  have lit0 : (0 : Int32).toInt = 0 := by decide
  have lit1 : (1 : Int32).toInt = 1 := by decide
  have lit64 : (64 : Int32).toInt = 64 := by decide
  intro n
  induction n with
  | zero =>
    intro y0 y2 y3 σ i0 h0 h1 hm
    omega
  | succ n ih =>
    intro y0 y2 y3 σ i0 h0 h1 hm
    have f0 : fd_fr [] σ σ := fd_fr_rf
    unfold f_X11_bits_L4
    refine fd_ok_ite (fun c_1 => ?_) (fun c_1 => ?_)
    ·
      have d_2 := Int32.le_iff_toInt_le.mp c_1
      exact fd_ok_some ⟨i0, f0, trivial⟩
    ·
      have d_3 := Int32.lt_iff_toInt_lt.mp (Int32.not_le.mp c_1)
      refine fd_ok_lt (fun x2_4 ex2_4 => ?_)
      refine fd_ok_lt (fun x3_5 ex3_5 => ?_)
      have t_6 := fd_la ex3_5 (by omega) (by omega)
      refine fd_ok_mono (ih _ _ _ _ i0 (by omega) (by omega) (by omega)) ?_
      rintro v s ⟨hi, hf, hx⟩
      exact ⟨hi, fd_fr_tr f0 hf, trivial⟩
set_option maxHeartbeats 4000000 in
theorem s_X11_judge_0_L17 (N : Nat) (hN : 1000 ≤ N) : ∀ (n : Nat) (y1 : Int32) (σ : fd_St), fd_InvM σ → (0 ≤ y1.toInt) → (y1.toInt ≤ 32) → 32 - y1.toInt < (n : Int) → fd_ok (f_X11_judge_0_L17 N n y1 σ) (fun v s => fd_InvM s ∧ fd_fr [8, 9, 10] σ s ∧ (True)) := by
  have lit0 : (0 : Int32).toInt = 0 := by decide
  have lit1 : (1 : Int32).toInt = 1 := by decide
  have lit64 : (64 : Int32).toInt = 64 := by decide
  intro n
  induction n with
  | zero =>
    intro y1 σ i0 h0 h1 hm
    omega
  | succ n ih =>
    intro y1 σ i0 h0 h1 hm
    have f0 : fd_fr [8, 9, 10] σ σ := fd_fr_rf
    unfold f_X11_judge_0_L17
    have r_1 : (0 : Int) ≤ (σ.1 3).toInt ∧ (σ.1 3).toInt ≤ 32 := i0.1 3
    refine fd_ok_ite (fun c_2 => ?_) (fun c_2 => ?_)
    ·
      have d_3 := Int32.le_iff_toInt_le.mp c_2
      exact fd_ok_some ⟨i0, f0, trivial⟩
    ·
      have d_4 := Int32.lt_iff_toInt_lt.mp (Int32.not_le.mp c_2)
      refine fd_ok_gd (vp_in_iff.mpr ⟨by omega, by omega⟩) ?_
      have r_5 : (0 : Int) ≤ (σ.2.1 5 y1.toNatClampNeg).toInt ∧ (σ.2.1 5 y1.toNatClampNeg).toInt ≤ 199 := i0.2.1 5 _
      refine fd_ok_gd (vp_in_iff.mpr ⟨by omega, by omega⟩) ?_
      refine fd_ok_gd (vp_in_iff.mpr ⟨by omega, by omega⟩) ?_
      refine fd_ok_gd (vp_in_iff.mpr ⟨by omega, by omega⟩) ?_
      refine fd_ok_lt (fun x9_6 ex9_6 => ?_)
      refine fd_ok_gd (vp_in_iff.mpr ⟨by omega, by omega⟩) ?_
      refine fd_ok_bd ?_
      try unfold f_X11_mask_0
      have r_7 : (0 : Int) ≤ (σ.1 4).toInt ∧ (σ.1 4).toInt ≤ 64 := i0.1 4
      refine fd_ok_ite (fun c_8 => ?_) (fun c_8 => ?_)
      ·
        have d_9 := congrArg Int32.toInt c_8
        refine fd_ok_pb ?_
        refine fd_ok_lt (fun x16_10 ex16_10 => ?_)
        refine fd_ok_bd ?_
        try unfold f_X11_bits
        refine fd_ok_cl (s_X11_bits_L4 N hN N _ _ _ _ i0 (by omega) (by omega) (by omega)) ?_
        rintro v_11 σ_12 ⟨i_13, g_14, x_15⟩
        have f_16 : fd_fr [8, 9, 10] σ σ_12 := fd_fr_tr f0 (fd_fr_mono g_14 (by decide))
        have t_17 : (σ_12.1 3).toInt = (σ.1 3).toInt := congrArg Int32.toInt (g_14.1 3 (by decide))
        have t_18 : (σ_12.1 4).toInt = (σ.1 4).toInt := congrArg Int32.toInt (g_14.1 4 (by decide))
        have t_19 : (σ_12.1 5).toInt = (σ.1 5).toInt := congrArg Int32.toInt (g_14.1 5 (by decide))
        refine fd_ok_lt (fun σ22_20 eσ22_20 => ?_)
        have i_21 : fd_InvM σ22_20 := fd_inv_sI eσ22_20 i_13 (fd_rng _)
        have f_22 : fd_fr [8, 9, 10] σ σ22_20 := fd_fr_tr f_16 (fd_fr_sI eσ22_20 (by decide))
        have t_23 : (σ22_20.1 3).toInt = (σ_12.1 3).toInt := congrArg Int32.toInt (fd_tN eσ22_20 (by decide))
        have t_24 : (σ22_20.1 4).toInt = (σ_12.1 4).toInt := congrArg Int32.toInt (fd_tN eσ22_20 (by decide))
        have t_25 : (σ22_20.1 5).toInt = (σ_12.1 5).toInt := congrArg Int32.toInt (fd_tN eσ22_20 (by decide))
        refine fd_ok_bd ?_
        try unfold f_X11_bits
        refine fd_ok_cl (s_X11_bits_L4 N hN N _ _ _ _ i_21 (by omega) (by omega) (by omega)) ?_
        rintro v_26 σ_27 ⟨i_28, g_29, x_30⟩
        have f_31 : fd_fr [8, 9, 10] σ σ_27 := fd_fr_tr f_22 (fd_fr_mono g_29 (by decide))
        have t_32 : (σ_27.1 3).toInt = (σ22_20.1 3).toInt := congrArg Int32.toInt (g_29.1 3 (by decide))
        have t_33 : (σ_27.1 4).toInt = (σ22_20.1 4).toInt := congrArg Int32.toInt (g_29.1 4 (by decide))
        have t_34 : (σ_27.1 5).toInt = (σ22_20.1 5).toInt := congrArg Int32.toInt (g_29.1 5 (by decide))
        refine fd_ok_lt (fun σ28_35 eσ28_35 => ?_)
        have i_36 : fd_InvM σ28_35 := fd_inv_sI eσ28_35 i_28 (fd_rng _)
        have f_37 : fd_fr [8, 9, 10] σ σ28_35 := fd_fr_tr f_31 (fd_fr_sI eσ28_35 (by decide))
        have t_38 : (σ28_35.1 3).toInt = (σ_27.1 3).toInt := congrArg Int32.toInt (fd_tN eσ28_35 (by decide))
        have t_39 : (σ28_35.1 4).toInt = (σ_27.1 4).toInt := congrArg Int32.toInt (fd_tN eσ28_35 (by decide))
        have t_40 : (σ28_35.1 5).toInt = (σ_27.1 5).toInt := congrArg Int32.toInt (fd_tN eσ28_35 (by decide))
        refine fd_ok_bd ?_
        try unfold f_X11_bits
        refine fd_ok_cl (s_X11_bits_L4 N hN N _ _ _ _ i_36 (by omega) (by omega) (by omega)) ?_
        rintro v_41 σ_42 ⟨i_43, g_44, x_45⟩
        have f_46 : fd_fr [8, 9, 10] σ σ_42 := fd_fr_tr f_37 (fd_fr_mono g_44 (by decide))
        have t_47 : (σ_42.1 3).toInt = (σ28_35.1 3).toInt := congrArg Int32.toInt (g_44.1 3 (by decide))
        have t_48 : (σ_42.1 4).toInt = (σ28_35.1 4).toInt := congrArg Int32.toInt (g_44.1 4 (by decide))
        have t_49 : (σ_42.1 5).toInt = (σ28_35.1 5).toInt := congrArg Int32.toInt (g_44.1 5 (by decide))
        refine fd_ok_lt (fun σ34_50 eσ34_50 => ?_)
        have i_51 : fd_InvM σ34_50 := fd_inv_sI eσ34_50 i_43 (fd_rng _)
        have f_52 : fd_fr [8, 9, 10] σ σ34_50 := fd_fr_tr f_46 (fd_fr_sI eσ34_50 (by decide))
        have t_53 : (σ34_50.1 3).toInt = (σ_42.1 3).toInt := congrArg Int32.toInt (fd_tN eσ34_50 (by decide))
        have t_54 : (σ34_50.1 4).toInt = (σ_42.1 4).toInt := congrArg Int32.toInt (fd_tN eσ34_50 (by decide))
        have t_55 : (σ34_50.1 5).toInt = (σ_42.1 5).toInt := congrArg Int32.toInt (fd_tN eσ34_50 (by decide))
        refine fd_ok_lt (fun x35_56 ex35_56 => ?_)
        have t_57 := fd_la ex35_56 (by omega) (by omega)
        refine fd_ok_mono (ih _ _ i_51 (by omega) (by omega) (by omega)) ?_
        rintro v s ⟨hi, hf, hx⟩
        exact ⟨hi, fd_fr_tr f_52 hf, trivial⟩
      ·
        have d_58 : ¬ (σ.1 4).toInt = (64 : Int32).toInt := fun q => c_8 (Int32.toInt_inj.mp q)
        refine fd_ok_pb ?_
        refine fd_ok_lt (fun x16_59 ex16_59 => ?_)
        refine fd_ok_bd ?_
        try unfold f_X11_bits
        refine fd_ok_cl (s_X11_bits_L4 N hN N _ _ _ _ i0 (by omega) (by omega) (by omega)) ?_
        rintro v_60 σ_61 ⟨i_62, g_63, x_64⟩
        have f_65 : fd_fr [8, 9, 10] σ σ_61 := fd_fr_tr f0 (fd_fr_mono g_63 (by decide))
        have t_66 : (σ_61.1 3).toInt = (σ.1 3).toInt := congrArg Int32.toInt (g_63.1 3 (by decide))
        have t_67 : (σ_61.1 4).toInt = (σ.1 4).toInt := congrArg Int32.toInt (g_63.1 4 (by decide))
        have t_68 : (σ_61.1 5).toInt = (σ.1 5).toInt := congrArg Int32.toInt (g_63.1 5 (by decide))
        refine fd_ok_lt (fun σ22_69 eσ22_69 => ?_)
        have i_70 : fd_InvM σ22_69 := fd_inv_sI eσ22_69 i_62 (fd_rng _)
        have f_71 : fd_fr [8, 9, 10] σ σ22_69 := fd_fr_tr f_65 (fd_fr_sI eσ22_69 (by decide))
        have t_72 : (σ22_69.1 3).toInt = (σ_61.1 3).toInt := congrArg Int32.toInt (fd_tN eσ22_69 (by decide))
        have t_73 : (σ22_69.1 4).toInt = (σ_61.1 4).toInt := congrArg Int32.toInt (fd_tN eσ22_69 (by decide))
        have t_74 : (σ22_69.1 5).toInt = (σ_61.1 5).toInt := congrArg Int32.toInt (fd_tN eσ22_69 (by decide))
        refine fd_ok_bd ?_
        try unfold f_X11_bits
        refine fd_ok_cl (s_X11_bits_L4 N hN N _ _ _ _ i_70 (by omega) (by omega) (by omega)) ?_
        rintro v_75 σ_76 ⟨i_77, g_78, x_79⟩
        have f_80 : fd_fr [8, 9, 10] σ σ_76 := fd_fr_tr f_71 (fd_fr_mono g_78 (by decide))
        have t_81 : (σ_76.1 3).toInt = (σ22_69.1 3).toInt := congrArg Int32.toInt (g_78.1 3 (by decide))
        have t_82 : (σ_76.1 4).toInt = (σ22_69.1 4).toInt := congrArg Int32.toInt (g_78.1 4 (by decide))
        have t_83 : (σ_76.1 5).toInt = (σ22_69.1 5).toInt := congrArg Int32.toInt (g_78.1 5 (by decide))
        refine fd_ok_lt (fun σ28_84 eσ28_84 => ?_)
        have i_85 : fd_InvM σ28_84 := fd_inv_sI eσ28_84 i_77 (fd_rng _)
        have f_86 : fd_fr [8, 9, 10] σ σ28_84 := fd_fr_tr f_80 (fd_fr_sI eσ28_84 (by decide))
        have t_87 : (σ28_84.1 3).toInt = (σ_76.1 3).toInt := congrArg Int32.toInt (fd_tN eσ28_84 (by decide))
        have t_88 : (σ28_84.1 4).toInt = (σ_76.1 4).toInt := congrArg Int32.toInt (fd_tN eσ28_84 (by decide))
        have t_89 : (σ28_84.1 5).toInt = (σ_76.1 5).toInt := congrArg Int32.toInt (fd_tN eσ28_84 (by decide))
        refine fd_ok_bd ?_
        try unfold f_X11_bits
        refine fd_ok_cl (s_X11_bits_L4 N hN N _ _ _ _ i_85 (by omega) (by omega) (by omega)) ?_
        rintro v_90 σ_91 ⟨i_92, g_93, x_94⟩
        have f_95 : fd_fr [8, 9, 10] σ σ_91 := fd_fr_tr f_86 (fd_fr_mono g_93 (by decide))
        have t_96 : (σ_91.1 3).toInt = (σ28_84.1 3).toInt := congrArg Int32.toInt (g_93.1 3 (by decide))
        have t_97 : (σ_91.1 4).toInt = (σ28_84.1 4).toInt := congrArg Int32.toInt (g_93.1 4 (by decide))
        have t_98 : (σ_91.1 5).toInt = (σ28_84.1 5).toInt := congrArg Int32.toInt (g_93.1 5 (by decide))
        refine fd_ok_lt (fun σ34_99 eσ34_99 => ?_)
        have i_100 : fd_InvM σ34_99 := fd_inv_sI eσ34_99 i_92 (fd_rng _)
        have f_101 : fd_fr [8, 9, 10] σ σ34_99 := fd_fr_tr f_95 (fd_fr_sI eσ34_99 (by decide))
        have t_102 : (σ34_99.1 3).toInt = (σ_91.1 3).toInt := congrArg Int32.toInt (fd_tN eσ34_99 (by decide))
        have t_103 : (σ34_99.1 4).toInt = (σ_91.1 4).toInt := congrArg Int32.toInt (fd_tN eσ34_99 (by decide))
        have t_104 : (σ34_99.1 5).toInt = (σ_91.1 5).toInt := congrArg Int32.toInt (fd_tN eσ34_99 (by decide))
        refine fd_ok_lt (fun x35_105 ex35_105 => ?_)
        have t_106 := fd_la ex35_105 (by omega) (by omega)
        refine fd_ok_mono (ih _ _ i_100 (by omega) (by omega) (by omega)) ?_
        rintro v s ⟨hi, hf, hx⟩
        exact ⟨hi, fd_fr_tr f_101 hf, trivial⟩
