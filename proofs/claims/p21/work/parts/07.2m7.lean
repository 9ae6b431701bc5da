set_option maxHeartbeats 4000000 in
theorem s_X11_span_0 (N : Nat) (hN : 1000 ≤ N) (p1 : Int32) (p2 : Int32) (σ : fd_St) (i0 : fd_InvM σ) : fd_ok (f_X11_span_0 N p1 p2 σ) (fun v s => fd_InvM s ∧ fd_fr [0] σ s ∧ (((p1.toInt < 0 ∨ 1 < p1.toInt ∨ p2.toInt < 0 ∨ 1 < p2.toInt) ∧ (s.1 0).toInt = 1) ∨ (¬ (p1.toInt < 0 ∨ 1 < p1.toInt ∨ p2.toInt < 0 ∨ 1 < p2.toInt) ∧ ((σ.1 12).toInt = 0) ∧ (s.1 0).toInt = 2) ∨ (¬ (p1.toInt < 0 ∨ 1 < p1.toInt ∨ p2.toInt < 0 ∨ 1 < p2.toInt) ∧ ¬ ((σ.1 12).toInt = 0) ∧ (s.1 0).toInt = 0)) ∧ fd_H (((s.1 0).toInt = 0 → fd_sp (fd_mM σ (decide (p1 ≠ 0))) (σ.1 12).toNatClampNeg (decide (p2 = 1)) v.toInt))) := by
  have litm1 : (-1 : Int32).toInt = -1 := by decide
  have lit0 : (0 : Int32).toInt = 0 := by decide
  have lit1 : (1 : Int32).toInt = 1 := by decide
  have lit2 : (2 : Int32).toInt = 2 := by decide
  have f0 : fd_fr [0] σ σ := fd_fr_rf
  unfold f_X11_span_0
  refine fd_ok_ite (fun c_1 => ?_) (fun c_1 => ?_)
  ·
    have d_2 := congrArg Int32.toInt c_1
    try unfold f_X11_span_0_J9
    refine fd_ok_ite (fun c_3 => ?_) (fun c_3 => ?_)
    ·
      have d_4 := congrArg Int32.toInt c_3
      try unfold f_X11_span_0_J18
      try unfold f_X11_span_0_J23
      refine fd_ok_itn (by decide) ?_
      have r_5 : (0 : Int) ≤ (σ.1 12).toInt ∧ (σ.1 12).toInt ≤ 64 := i0.1 12
      refine fd_ok_ite (fun c_6 => ?_) (fun c_6 => ?_)
      ·
        have d_7 := congrArg Int32.toInt c_6
        try unfold f_X11_span_0_J45
        refine fd_ok_lt (fun σ5_8 eσ5_8 => ?_)
        have i_9 : fd_InvM σ5_8 := fd_inv_sI eσ5_8 i0 (fd_rng _)
        have f_10 : fd_fr [0] σ σ5_8 := fd_fr_tr f0 (fd_fr_sI eσ5_8 (by decide))
        have t_11 : (σ5_8.1 0).toInt = (2 : Int32).toInt := congrArg Int32.toInt (fd_tI eσ5_8)
        have t_12 : (σ5_8.1 12).toInt = (σ.1 12).toInt := congrArg Int32.toInt (fd_tN eσ5_8 (by decide))
        have y_13 := fd_yIL (d := 20) eσ5_8 (rfl : σ.2.2 20 = _)
        refine fd_ok_mono (s_X11_span_0_L54 N hN N _ _ _ _ _ i_9 (by omega) (by omega) (by omega)) ?_
        rintro v s ⟨hi, hf, hx⟩
        have t_14 : (s.1 0).toInt = (σ5_8.1 0).toInt := congrArg Int32.toInt (hf.1 0 (by decide))
        have t_15 : (s.1 12).toInt = (σ5_8.1 12).toInt := congrArg Int32.toInt (hf.1 12 (by decide))
        have y_16 := (hf.2.2 20 (by decide)).trans y_13
        have w_17 : fd_H (((s.1 0).toInt = 0 → fd_sp (fd_mM σ (decide (p1 ≠ 0))) (σ.1 12).toNatClampNeg (decide (p2 = 1)) v.toInt)) := fd_hd (fun h => absurd h (by omega))
        have xx : ((p1.toInt < 0 ∨ 1 < p1.toInt ∨ p2.toInt < 0 ∨ 1 < p2.toInt) ∧ (s.1 0).toInt = 1) ∨ (¬ (p1.toInt < 0 ∨ 1 < p1.toInt ∨ p2.toInt < 0 ∨ 1 < p2.toInt) ∧ ((σ.1 12).toInt = 0) ∧ (s.1 0).toInt = 2) ∨ (¬ (p1.toInt < 0 ∨ 1 < p1.toInt ∨ p2.toInt < 0 ∨ 1 < p2.toInt) ∧ ¬ ((σ.1 12).toInt = 0) ∧ (s.1 0).toInt = 0) := by omega
        exact ⟨hi, fd_fr_tr f_10 (fd_fr_mono hf (by decide)), xx, w_17⟩
      ·
        have d_18 : ¬ (σ.1 12).toInt = (0 : Int32).toInt := fun q => c_6 (Int32.toInt_inj.mp q)
        try unfold f_X11_span_0_J45
        refine fd_ok_lt (fun σ5_19 eσ5_19 => ?_)
        have i_20 : fd_InvM σ5_19 := fd_inv_sI eσ5_19 i0 (fd_rng _)
        have f_21 : fd_fr [0] σ σ5_19 := fd_fr_tr f0 (fd_fr_sI eσ5_19 (by decide))
        have t_22 : (σ5_19.1 0).toInt = (0 : Int32).toInt := congrArg Int32.toInt (fd_tI eσ5_19)
        have t_23 : (σ5_19.1 12).toInt = (σ.1 12).toInt := congrArg Int32.toInt (fd_tN eσ5_19 (by decide))
        have y_24 := fd_yIL (d := 20) eσ5_19 (rfl : σ.2.2 20 = _)
        refine fd_ok_mono (s_X11_span_0_L54 N hN N _ _ _ _ _ i_20 (by omega) (by omega) (by omega)) ?_
        rintro v s ⟨hi, hf, hx⟩
        have t_25 : (s.1 0).toInt = (σ5_19.1 0).toInt := congrArg Int32.toInt (hf.1 0 (by decide))
        have t_26 : (s.1 12).toInt = (σ5_19.1 12).toInt := congrArg Int32.toInt (hf.1 12 (by decide))
        have y_27 := (hf.2.2 20 (by decide)).trans y_24
        have E0 : (0 : Int32).toNatClampNeg = 0 := by decide
        have R12 : (0 : Int) ≤ (σ5_19.1 12).toInt ∧ (σ5_19.1 12).toInt ≤ 64 := i_20.1 12
        have R13 : (0 : Int) ≤ (σ5_19.1 13).toInt ∧ (σ5_19.1 13).toInt ≤ 30 := i_20.1 13
        have E1 : σ5_19.1 12 = σ.1 12 := fd_tN eσ5_19 (by decide)
        have E2 : ∀ b, fd_mM σ5_19 b = fd_mM σ b := fun b => by subst eσ5_19; rfl
        have E3 := hx (fd_tI eσ5_19) (by decide) (by omega) (by omega) (by omega) (by omega) (by omega) (Or.inl ⟨by decide, fun c hc => by rw [E0] at hc; exact absurd hc (Nat.not_lt_zero _)⟩)
        rw [E2, E1] at E3
        have w_28 : fd_H (((s.1 0).toInt = 0 → fd_sp (fd_mM σ (decide (p1 ≠ 0))) (σ.1 12).toNatClampNeg (decide (p2 = 1)) v.toInt)) := fd_hd (fun _ => E3)
        have xx : ((p1.toInt < 0 ∨ 1 < p1.toInt ∨ p2.toInt < 0 ∨ 1 < p2.toInt) ∧ (s.1 0).toInt = 1) ∨ (¬ (p1.toInt < 0 ∨ 1 < p1.toInt ∨ p2.toInt < 0 ∨ 1 < p2.toInt) ∧ ((σ.1 12).toInt = 0) ∧ (s.1 0).toInt = 2) ∨ (¬ (p1.toInt < 0 ∨ 1 < p1.toInt ∨ p2.toInt < 0 ∨ 1 < p2.toInt) ∧ ¬ ((σ.1 12).toInt = 0) ∧ (s.1 0).toInt = 0) := by omega
        exact ⟨hi, fd_fr_tr f_21 (fd_fr_mono hf (by decide)), xx, w_28⟩
    ·
      have d_29 : ¬ p2.toInt = (0 : Int32).toInt := fun q => c_3 (Int32.toInt_inj.mp q)
      refine fd_ok_ite (fun c_30 => ?_) (fun c_30 => ?_)
      ·
        have d_31 := congrArg Int32.toInt c_30
        try unfold f_X11_span_0_J18
        try unfold f_X11_span_0_J23
        refine fd_ok_itn (by decide) ?_
        have r_32 : (0 : Int) ≤ (σ.1 12).toInt ∧ (σ.1 12).toInt ≤ 64 := i0.1 12
        refine fd_ok_ite (fun c_33 => ?_) (fun c_33 => ?_)
        ·
          have d_34 := congrArg Int32.toInt c_33
          try unfold f_X11_span_0_J45
          refine fd_ok_lt (fun σ5_35 eσ5_35 => ?_)
          have i_36 : fd_InvM σ5_35 := fd_inv_sI eσ5_35 i0 (fd_rng _)
          have f_37 : fd_fr [0] σ σ5_35 := fd_fr_tr f0 (fd_fr_sI eσ5_35 (by decide))
          have t_38 : (σ5_35.1 0).toInt = (2 : Int32).toInt := congrArg Int32.toInt (fd_tI eσ5_35)
          have t_39 : (σ5_35.1 12).toInt = (σ.1 12).toInt := congrArg Int32.toInt (fd_tN eσ5_35 (by decide))
          have y_40 := fd_yIL (d := 20) eσ5_35 (rfl : σ.2.2 20 = _)
          refine fd_ok_mono (s_X11_span_0_L54 N hN N _ _ _ _ _ i_36 (by omega) (by omega) (by omega)) ?_
          rintro v s ⟨hi, hf, hx⟩
          have t_41 : (s.1 0).toInt = (σ5_35.1 0).toInt := congrArg Int32.toInt (hf.1 0 (by decide))
          have t_42 : (s.1 12).toInt = (σ5_35.1 12).toInt := congrArg Int32.toInt (hf.1 12 (by decide))
          have y_43 := (hf.2.2 20 (by decide)).trans y_40
          have w_44 : fd_H (((s.1 0).toInt = 0 → fd_sp (fd_mM σ (decide (p1 ≠ 0))) (σ.1 12).toNatClampNeg (decide (p2 = 1)) v.toInt)) := fd_hd (fun h => absurd h (by omega))
          have xx : ((p1.toInt < 0 ∨ 1 < p1.toInt ∨ p2.toInt < 0 ∨ 1 < p2.toInt) ∧ (s.1 0).toInt = 1) ∨ (¬ (p1.toInt < 0 ∨ 1 < p1.toInt ∨ p2.toInt < 0 ∨ 1 < p2.toInt) ∧ ((σ.1 12).toInt = 0) ∧ (s.1 0).toInt = 2) ∨ (¬ (p1.toInt < 0 ∨ 1 < p1.toInt ∨ p2.toInt < 0 ∨ 1 < p2.toInt) ∧ ¬ ((σ.1 12).toInt = 0) ∧ (s.1 0).toInt = 0) := by omega
          exact ⟨hi, fd_fr_tr f_37 (fd_fr_mono hf (by decide)), xx, w_44⟩
        ·
          have d_45 : ¬ (σ.1 12).toInt = (0 : Int32).toInt := fun q => c_33 (Int32.toInt_inj.mp q)
          try unfold f_X11_span_0_J45
          refine fd_ok_lt (fun σ5_46 eσ5_46 => ?_)
          have i_47 : fd_InvM σ5_46 := fd_inv_sI eσ5_46 i0 (fd_rng _)
          have f_48 : fd_fr [0] σ σ5_46 := fd_fr_tr f0 (fd_fr_sI eσ5_46 (by decide))
          have t_49 : (σ5_46.1 0).toInt = (0 : Int32).toInt := congrArg Int32.toInt (fd_tI eσ5_46)
          have t_50 : (σ5_46.1 12).toInt = (σ.1 12).toInt := congrArg Int32.toInt (fd_tN eσ5_46 (by decide))
          have y_51 := fd_yIL (d := 20) eσ5_46 (rfl : σ.2.2 20 = _)
          refine fd_ok_mono (s_X11_span_0_L54 N hN N _ _ _ _ _ i_47 (by omega) (by omega) (by omega)) ?_
          rintro v s ⟨hi, hf, hx⟩
          have t_52 : (s.1 0).toInt = (σ5_46.1 0).toInt := congrArg Int32.toInt (hf.1 0 (by decide))
          have t_53 : (s.1 12).toInt = (σ5_46.1 12).toInt := congrArg Int32.toInt (hf.1 12 (by decide))
          have y_54 := (hf.2.2 20 (by decide)).trans y_51
          have E0 : (0 : Int32).toNatClampNeg = 0 := by decide
          have R12 : (0 : Int) ≤ (σ5_46.1 12).toInt ∧ (σ5_46.1 12).toInt ≤ 64 := i_47.1 12
          have R13 : (0 : Int) ≤ (σ5_46.1 13).toInt ∧ (σ5_46.1 13).toInt ≤ 30 := i_47.1 13
          have E1 : σ5_46.1 12 = σ.1 12 := fd_tN eσ5_46 (by decide)
          have E2 : ∀ b, fd_mM σ5_46 b = fd_mM σ b := fun b => by subst eσ5_46; rfl
          have E3 := hx (fd_tI eσ5_46) (by decide) (by omega) (by omega) (by omega) (by omega) (by omega) (Or.inl ⟨by decide, fun c hc => by rw [E0] at hc; exact absurd hc (Nat.not_lt_zero _)⟩)
          rw [E2, E1] at E3
          have w_55 : fd_H (((s.1 0).toInt = 0 → fd_sp (fd_mM σ (decide (p1 ≠ 0))) (σ.1 12).toNatClampNeg (decide (p2 = 1)) v.toInt)) := fd_hd (fun _ => E3)
          have xx : ((p1.toInt < 0 ∨ 1 < p1.toInt ∨ p2.toInt < 0 ∨ 1 < p2.toInt) ∧ (s.1 0).toInt = 1) ∨ (¬ (p1.toInt < 0 ∨ 1 < p1.toInt ∨ p2.toInt < 0 ∨ 1 < p2.toInt) ∧ ((σ.1 12).toInt = 0) ∧ (s.1 0).toInt = 2) ∨ (¬ (p1.toInt < 0 ∨ 1 < p1.toInt ∨ p2.toInt < 0 ∨ 1 < p2.toInt) ∧ ¬ ((σ.1 12).toInt = 0) ∧ (s.1 0).toInt = 0) := by omega
          exact ⟨hi, fd_fr_tr f_48 (fd_fr_mono hf (by decide)), xx, w_55⟩
      ·
        have d_56 : ¬ p2.toInt = (1 : Int32).toInt := fun q => c_30 (Int32.toInt_inj.mp q)
        try unfold f_X11_span_0_J22
        try unfold f_X11_span_0_J23
        refine fd_ok_itp (by decide) ?_
        try unfold f_X11_span_0_J45
        refine fd_ok_lt (fun σ5_57 eσ5_57 => ?_)
        have i_58 : fd_InvM σ5_57 := fd_inv_sI eσ5_57 i0 (fd_rng _)
        have f_59 : fd_fr [0] σ σ5_57 := fd_fr_tr f0 (fd_fr_sI eσ5_57 (by decide))
        have t_60 : (σ5_57.1 0).toInt = (1 : Int32).toInt := congrArg Int32.toInt (fd_tI eσ5_57)
        have t_61 : (σ5_57.1 12).toInt = (σ.1 12).toInt := congrArg Int32.toInt (fd_tN eσ5_57 (by decide))
        have y_62 := fd_yIL (d := 20) eσ5_57 (rfl : σ.2.2 20 = _)
        refine fd_ok_mono (s_X11_span_0_L54 N hN N _ _ _ _ _ i_58 (by omega) (by omega) (by omega)) ?_
        rintro v s ⟨hi, hf, hx⟩
        have t_63 : (s.1 0).toInt = (σ5_57.1 0).toInt := congrArg Int32.toInt (hf.1 0 (by decide))
        have t_64 : (s.1 12).toInt = (σ5_57.1 12).toInt := congrArg Int32.toInt (hf.1 12 (by decide))
        have y_65 := (hf.2.2 20 (by decide)).trans y_62
        have w_66 : fd_H (((s.1 0).toInt = 0 → fd_sp (fd_mM σ (decide (p1 ≠ 0))) (σ.1 12).toNatClampNeg (decide (p2 = 1)) v.toInt)) := fd_hd (fun h => absurd h (by omega))
        have xx : ((p1.toInt < 0 ∨ 1 < p1.toInt ∨ p2.toInt < 0 ∨ 1 < p2.toInt) ∧ (s.1 0).toInt = 1) ∨ (¬ (p1.toInt < 0 ∨ 1 < p1.toInt ∨ p2.toInt < 0 ∨ 1 < p2.toInt) ∧ ((σ.1 12).toInt = 0) ∧ (s.1 0).toInt = 2) ∨ (¬ (p1.toInt < 0 ∨ 1 < p1.toInt ∨ p2.toInt < 0 ∨ 1 < p2.toInt) ∧ ¬ ((σ.1 12).toInt = 0) ∧ (s.1 0).toInt = 0) := by omega
        exact ⟨hi, fd_fr_tr f_59 (fd_fr_mono hf (by decide)), xx, w_66⟩
  ·
    have d_67 : ¬ p1.toInt = (0 : Int32).toInt := fun q => c_1 (Int32.toInt_inj.mp q)
    refine fd_ok_ite (fun c_68 => ?_) (fun c_68 => ?_)
    ·
      have d_69 := congrArg Int32.toInt c_68
      try unfold f_X11_span_0_J9
      refine fd_ok_ite (fun c_70 => ?_) (fun c_70 => ?_)
      ·
        have d_71 := congrArg Int32.toInt c_70
        try unfold f_X11_span_0_J18
        try unfold f_X11_span_0_J23
        refine fd_ok_itn (by decide) ?_
        have r_72 : (0 : Int) ≤ (σ.1 12).toInt ∧ (σ.1 12).toInt ≤ 64 := i0.1 12
        refine fd_ok_ite (fun c_73 => ?_) (fun c_73 => ?_)
        ·
          have d_74 := congrArg Int32.toInt c_73
          try unfold f_X11_span_0_J45
          refine fd_ok_lt (fun σ5_75 eσ5_75 => ?_)
          have i_76 : fd_InvM σ5_75 := fd_inv_sI eσ5_75 i0 (fd_rng _)
          have f_77 : fd_fr [0] σ σ5_75 := fd_fr_tr f0 (fd_fr_sI eσ5_75 (by decide))
          have t_78 : (σ5_75.1 0).toInt = (2 : Int32).toInt := congrArg Int32.toInt (fd_tI eσ5_75)
          have t_79 : (σ5_75.1 12).toInt = (σ.1 12).toInt := congrArg Int32.toInt (fd_tN eσ5_75 (by decide))
          have y_80 := fd_yIL (d := 20) eσ5_75 (rfl : σ.2.2 20 = _)
          refine fd_ok_mono (s_X11_span_0_L54 N hN N _ _ _ _ _ i_76 (by omega) (by omega) (by omega)) ?_
          rintro v s ⟨hi, hf, hx⟩
          have t_81 : (s.1 0).toInt = (σ5_75.1 0).toInt := congrArg Int32.toInt (hf.1 0 (by decide))
          have t_82 : (s.1 12).toInt = (σ5_75.1 12).toInt := congrArg Int32.toInt (hf.1 12 (by decide))
          have y_83 := (hf.2.2 20 (by decide)).trans y_80
          have w_84 : fd_H (((s.1 0).toInt = 0 → fd_sp (fd_mM σ (decide (p1 ≠ 0))) (σ.1 12).toNatClampNeg (decide (p2 = 1)) v.toInt)) := fd_hd (fun h => absurd h (by omega))
          have xx : ((p1.toInt < 0 ∨ 1 < p1.toInt ∨ p2.toInt < 0 ∨ 1 < p2.toInt) ∧ (s.1 0).toInt = 1) ∨ (¬ (p1.toInt < 0 ∨ 1 < p1.toInt ∨ p2.toInt < 0 ∨ 1 < p2.toInt) ∧ ((σ.1 12).toInt = 0) ∧ (s.1 0).toInt = 2) ∨ (¬ (p1.toInt < 0 ∨ 1 < p1.toInt ∨ p2.toInt < 0 ∨ 1 < p2.toInt) ∧ ¬ ((σ.1 12).toInt = 0) ∧ (s.1 0).toInt = 0) := by omega
          exact ⟨hi, fd_fr_tr f_77 (fd_fr_mono hf (by decide)), xx, w_84⟩
        ·
          have d_85 : ¬ (σ.1 12).toInt = (0 : Int32).toInt := fun q => c_73 (Int32.toInt_inj.mp q)
          try unfold f_X11_span_0_J45
          refine fd_ok_lt (fun σ5_86 eσ5_86 => ?_)
          have i_87 : fd_InvM σ5_86 := fd_inv_sI eσ5_86 i0 (fd_rng _)
          have f_88 : fd_fr [0] σ σ5_86 := fd_fr_tr f0 (fd_fr_sI eσ5_86 (by decide))
          have t_89 : (σ5_86.1 0).toInt = (0 : Int32).toInt := congrArg Int32.toInt (fd_tI eσ5_86)
          have t_90 : (σ5_86.1 12).toInt = (σ.1 12).toInt := congrArg Int32.toInt (fd_tN eσ5_86 (by decide))
          have y_91 := fd_yIL (d := 20) eσ5_86 (rfl : σ.2.2 20 = _)
          refine fd_ok_mono (s_X11_span_0_L54 N hN N _ _ _ _ _ i_87 (by omega) (by omega) (by omega)) ?_
          rintro v s ⟨hi, hf, hx⟩
          have t_92 : (s.1 0).toInt = (σ5_86.1 0).toInt := congrArg Int32.toInt (hf.1 0 (by decide))
          have t_93 : (s.1 12).toInt = (σ5_86.1 12).toInt := congrArg Int32.toInt (hf.1 12 (by decide))
          have y_94 := (hf.2.2 20 (by decide)).trans y_91
          have E0 : (0 : Int32).toNatClampNeg = 0 := by decide
          have R12 : (0 : Int) ≤ (σ5_86.1 12).toInt ∧ (σ5_86.1 12).toInt ≤ 64 := i_87.1 12
          have R13 : (0 : Int) ≤ (σ5_86.1 13).toInt ∧ (σ5_86.1 13).toInt ≤ 30 := i_87.1 13
          have E1 : σ5_86.1 12 = σ.1 12 := fd_tN eσ5_86 (by decide)
          have E2 : ∀ b, fd_mM σ5_86 b = fd_mM σ b := fun b => by subst eσ5_86; rfl
          have E3 := hx (fd_tI eσ5_86) (by decide) (by omega) (by omega) (by omega) (by omega) (by omega) (Or.inl ⟨by decide, fun c hc => by rw [E0] at hc; exact absurd hc (Nat.not_lt_zero _)⟩)
          rw [E2, E1] at E3
          have w_95 : fd_H (((s.1 0).toInt = 0 → fd_sp (fd_mM σ (decide (p1 ≠ 0))) (σ.1 12).toNatClampNeg (decide (p2 = 1)) v.toInt)) := fd_hd (fun _ => E3)
          have xx : ((p1.toInt < 0 ∨ 1 < p1.toInt ∨ p2.toInt < 0 ∨ 1 < p2.toInt) ∧ (s.1 0).toInt = 1) ∨ (¬ (p1.toInt < 0 ∨ 1 < p1.toInt ∨ p2.toInt < 0 ∨ 1 < p2.toInt) ∧ ((σ.1 12).toInt = 0) ∧ (s.1 0).toInt = 2) ∨ (¬ (p1.toInt < 0 ∨ 1 < p1.toInt ∨ p2.toInt < 0 ∨ 1 < p2.toInt) ∧ ¬ ((σ.1 12).toInt = 0) ∧ (s.1 0).toInt = 0) := by omega
          exact ⟨hi, fd_fr_tr f_88 (fd_fr_mono hf (by decide)), xx, w_95⟩
      ·
        have d_96 : ¬ p2.toInt = (0 : Int32).toInt := fun q => c_70 (Int32.toInt_inj.mp q)
        refine fd_ok_ite (fun c_97 => ?_) (fun c_97 => ?_)
        ·
          have d_98 := congrArg Int32.toInt c_97
          try unfold f_X11_span_0_J18
          try unfold f_X11_span_0_J23
          refine fd_ok_itn (by decide) ?_
          have r_99 : (0 : Int) ≤ (σ.1 12).toInt ∧ (σ.1 12).toInt ≤ 64 := i0.1 12
          refine fd_ok_ite (fun c_100 => ?_) (fun c_100 => ?_)
          ·
            have d_101 := congrArg Int32.toInt c_100
            try unfold f_X11_span_0_J45
            refine fd_ok_lt (fun σ5_102 eσ5_102 => ?_)
            have i_103 : fd_InvM σ5_102 := fd_inv_sI eσ5_102 i0 (fd_rng _)
            have f_104 : fd_fr [0] σ σ5_102 := fd_fr_tr f0 (fd_fr_sI eσ5_102 (by decide))
            have t_105 : (σ5_102.1 0).toInt = (2 : Int32).toInt := congrArg Int32.toInt (fd_tI eσ5_102)
            have t_106 : (σ5_102.1 12).toInt = (σ.1 12).toInt := congrArg Int32.toInt (fd_tN eσ5_102 (by decide))
            have y_107 := fd_yIL (d := 20) eσ5_102 (rfl : σ.2.2 20 = _)
            refine fd_ok_mono (s_X11_span_0_L54 N hN N _ _ _ _ _ i_103 (by omega) (by omega) (by omega)) ?_
            rintro v s ⟨hi, hf, hx⟩
            have t_108 : (s.1 0).toInt = (σ5_102.1 0).toInt := congrArg Int32.toInt (hf.1 0 (by decide))
            have t_109 : (s.1 12).toInt = (σ5_102.1 12).toInt := congrArg Int32.toInt (hf.1 12 (by decide))
            have y_110 := (hf.2.2 20 (by decide)).trans y_107
            have w_111 : fd_H (((s.1 0).toInt = 0 → fd_sp (fd_mM σ (decide (p1 ≠ 0))) (σ.1 12).toNatClampNeg (decide (p2 = 1)) v.toInt)) := fd_hd (fun h => absurd h (by omega))
            have xx : ((p1.toInt < 0 ∨ 1 < p1.toInt ∨ p2.toInt < 0 ∨ 1 < p2.toInt) ∧ (s.1 0).toInt = 1) ∨ (¬ (p1.toInt < 0 ∨ 1 < p1.toInt ∨ p2.toInt < 0 ∨ 1 < p2.toInt) ∧ ((σ.1 12).toInt = 0) ∧ (s.1 0).toInt = 2) ∨ (¬ (p1.toInt < 0 ∨ 1 < p1.toInt ∨ p2.toInt < 0 ∨ 1 < p2.toInt) ∧ ¬ ((σ.1 12).toInt = 0) ∧ (s.1 0).toInt = 0) := by omega
            exact ⟨hi, fd_fr_tr f_104 (fd_fr_mono hf (by decide)), xx, w_111⟩
          ·
            have d_112 : ¬ (σ.1 12).toInt = (0 : Int32).toInt := fun q => c_100 (Int32.toInt_inj.mp q)
            try unfold f_X11_span_0_J45
            refine fd_ok_lt (fun σ5_113 eσ5_113 => ?_)
            have i_114 : fd_InvM σ5_113 := fd_inv_sI eσ5_113 i0 (fd_rng _)
            have f_115 : fd_fr [0] σ σ5_113 := fd_fr_tr f0 (fd_fr_sI eσ5_113 (by decide))
            have t_116 : (σ5_113.1 0).toInt = (0 : Int32).toInt := congrArg Int32.toInt (fd_tI eσ5_113)
            have t_117 : (σ5_113.1 12).toInt = (σ.1 12).toInt := congrArg Int32.toInt (fd_tN eσ5_113 (by decide))
            have y_118 := fd_yIL (d := 20) eσ5_113 (rfl : σ.2.2 20 = _)
            refine fd_ok_mono (s_X11_span_0_L54 N hN N _ _ _ _ _ i_114 (by omega) (by omega) (by omega)) ?_
            rintro v s ⟨hi, hf, hx⟩
            have t_119 : (s.1 0).toInt = (σ5_113.1 0).toInt := congrArg Int32.toInt (hf.1 0 (by decide))
            have t_120 : (s.1 12).toInt = (σ5_113.1 12).toInt := congrArg Int32.toInt (hf.1 12 (by decide))
            have y_121 := (hf.2.2 20 (by decide)).trans y_118
            have E0 : (0 : Int32).toNatClampNeg = 0 := by decide
            have R12 : (0 : Int) ≤ (σ5_113.1 12).toInt ∧ (σ5_113.1 12).toInt ≤ 64 := i_114.1 12
            have R13 : (0 : Int) ≤ (σ5_113.1 13).toInt ∧ (σ5_113.1 13).toInt ≤ 30 := i_114.1 13
            have E1 : σ5_113.1 12 = σ.1 12 := fd_tN eσ5_113 (by decide)
            have E2 : ∀ b, fd_mM σ5_113 b = fd_mM σ b := fun b => by subst eσ5_113; rfl
            have E3 := hx (fd_tI eσ5_113) (by decide) (by omega) (by omega) (by omega) (by omega) (by omega) (Or.inl ⟨by decide, fun c hc => by rw [E0] at hc; exact absurd hc (Nat.not_lt_zero _)⟩)
            rw [E2, E1] at E3
            have w_122 : fd_H (((s.1 0).toInt = 0 → fd_sp (fd_mM σ (decide (p1 ≠ 0))) (σ.1 12).toNatClampNeg (decide (p2 = 1)) v.toInt)) := fd_hd (fun _ => E3)
            have xx : ((p1.toInt < 0 ∨ 1 < p1.toInt ∨ p2.toInt < 0 ∨ 1 < p2.toInt) ∧ (s.1 0).toInt = 1) ∨ (¬ (p1.toInt < 0 ∨ 1 < p1.toInt ∨ p2.toInt < 0 ∨ 1 < p2.toInt) ∧ ((σ.1 12).toInt = 0) ∧ (s.1 0).toInt = 2) ∨ (¬ (p1.toInt < 0 ∨ 1 < p1.toInt ∨ p2.toInt < 0 ∨ 1 < p2.toInt) ∧ ¬ ((σ.1 12).toInt = 0) ∧ (s.1 0).toInt = 0) := by omega
            exact ⟨hi, fd_fr_tr f_115 (fd_fr_mono hf (by decide)), xx, w_122⟩
        ·
          have d_123 : ¬ p2.toInt = (1 : Int32).toInt := fun q => c_97 (Int32.toInt_inj.mp q)
          try unfold f_X11_span_0_J22
          try unfold f_X11_span_0_J23
          refine fd_ok_itp (by decide) ?_
          try unfold f_X11_span_0_J45
          refine fd_ok_lt (fun σ5_124 eσ5_124 => ?_)
          have i_125 : fd_InvM σ5_124 := fd_inv_sI eσ5_124 i0 (fd_rng _)
          have f_126 : fd_fr [0] σ σ5_124 := fd_fr_tr f0 (fd_fr_sI eσ5_124 (by decide))
          have t_127 : (σ5_124.1 0).toInt = (1 : Int32).toInt := congrArg Int32.toInt (fd_tI eσ5_124)
          have t_128 : (σ5_124.1 12).toInt = (σ.1 12).toInt := congrArg Int32.toInt (fd_tN eσ5_124 (by decide))
          have y_129 := fd_yIL (d := 20) eσ5_124 (rfl : σ.2.2 20 = _)
          refine fd_ok_mono (s_X11_span_0_L54 N hN N _ _ _ _ _ i_125 (by omega) (by omega) (by omega)) ?_
          rintro v s ⟨hi, hf, hx⟩
          have t_130 : (s.1 0).toInt = (σ5_124.1 0).toInt := congrArg Int32.toInt (hf.1 0 (by decide))
          have t_131 : (s.1 12).toInt = (σ5_124.1 12).toInt := congrArg Int32.toInt (hf.1 12 (by decide))
          have y_132 := (hf.2.2 20 (by decide)).trans y_129
          have w_133 : fd_H (((s.1 0).toInt = 0 → fd_sp (fd_mM σ (decide (p1 ≠ 0))) (σ.1 12).toNatClampNeg (decide (p2 = 1)) v.toInt)) := fd_hd (fun h => absurd h (by omega))
          have xx : ((p1.toInt < 0 ∨ 1 < p1.toInt ∨ p2.toInt < 0 ∨ 1 < p2.toInt) ∧ (s.1 0).toInt = 1) ∨ (¬ (p1.toInt < 0 ∨ 1 < p1.toInt ∨ p2.toInt < 0 ∨ 1 < p2.toInt) ∧ ((σ.1 12).toInt = 0) ∧ (s.1 0).toInt = 2) ∨ (¬ (p1.toInt < 0 ∨ 1 < p1.toInt ∨ p2.toInt < 0 ∨ 1 < p2.toInt) ∧ ¬ ((σ.1 12).toInt = 0) ∧ (s.1 0).toInt = 0) := by omega
          exact ⟨hi, fd_fr_tr f_126 (fd_fr_mono hf (by decide)), xx, w_133⟩
    ·
      have d_134 : ¬ p1.toInt = (1 : Int32).toInt := fun q => c_68 (Int32.toInt_inj.mp q)
      try unfold f_X11_span_0_J22
      try unfold f_X11_span_0_J23
      refine fd_ok_itp (by decide) ?_
      try unfold f_X11_span_0_J45
      refine fd_ok_lt (fun σ5_135 eσ5_135 => ?_)
      have i_136 : fd_InvM σ5_135 := fd_inv_sI eσ5_135 i0 (fd_rng _)
      have f_137 : fd_fr [0] σ σ5_135 := fd_fr_tr f0 (fd_fr_sI eσ5_135 (by decide))
      have t_138 : (σ5_135.1 0).toInt = (1 : Int32).toInt := congrArg Int32.toInt (fd_tI eσ5_135)
      have t_139 : (σ5_135.1 12).toInt = (σ.1 12).toInt := congrArg Int32.toInt (fd_tN eσ5_135 (by decide))
      have y_140 := fd_yIL (d := 20) eσ5_135 (rfl : σ.2.2 20 = _)
      refine fd_ok_mono (s_X11_span_0_L54 N hN N _ _ _ _ _ i_136 (by omega) (by omega) (by omega)) ?_
      rintro v s ⟨hi, hf, hx⟩
      have t_141 : (s.1 0).toInt = (σ5_135.1 0).toInt := congrArg Int32.toInt (hf.1 0 (by decide))
      have t_142 : (s.1 12).toInt = (σ5_135.1 12).toInt := congrArg Int32.toInt (hf.1 12 (by decide))
      have y_143 := (hf.2.2 20 (by decide)).trans y_140
      have w_144 : fd_H (((s.1 0).toInt = 0 → fd_sp (fd_mM σ (decide (p1 ≠ 0))) (σ.1 12).toNatClampNeg (decide (p2 = 1)) v.toInt)) := fd_hd (fun h => absurd h (by omega))
      have xx : ((p1.toInt < 0 ∨ 1 < p1.toInt ∨ p2.toInt < 0 ∨ 1 < p2.toInt) ∧ (s.1 0).toInt = 1) ∨ (¬ (p1.toInt < 0 ∨ 1 < p1.toInt ∨ p2.toInt < 0 ∨ 1 < p2.toInt) ∧ ((σ.1 12).toInt = 0) ∧ (s.1 0).toInt = 2) ∨ (¬ (p1.toInt < 0 ∨ 1 < p1.toInt ∨ p2.toInt < 0 ∨ 1 < p2.toInt) ∧ ¬ ((σ.1 12).toInt = 0) ∧ (s.1 0).toInt = 0) := by omega
      exact ⟨hi, fd_fr_tr f_137 (fd_fr_mono hf (by decide)), xx, w_144⟩
set_option maxHeartbeats 4000000 in
theorem s_X11_shape_0 (N : Nat) (hN : 1000 ≤ N) (p1 : Int32) (p2 : Int32) (p3 : Int32) (p4 : Int32) (p5 : Int32) (σ : fd_St) (i0 : fd_InvM σ) : fd_ok (f_X11_shape_0 N p1 p2 p3 p4 p5 σ) (fun v s => fd_InvM s ∧ fd_fr [0, 14, 122, 123, 124, 125, 126] σ s ∧ (((¬ (0 ≤ p1.toInt ∧ p1.toInt < (σ.1 1).toInt)) ∧ (s.1 0).toInt = 1 ∧ (s.1 14).toInt = (σ.1 14).toInt) ∨ (¬ (¬ (0 ≤ p1.toInt ∧ p1.toInt < (σ.1 1).toInt)) ∧ ((σ.1 14).toInt = 60) ∧ (s.1 0).toInt = 2 ∧ (s.1 14).toInt = (σ.1 14).toInt) ∨ (¬ (¬ (0 ≤ p1.toInt ∧ p1.toInt < (σ.1 1).toInt)) ∧ ¬ ((σ.1 14).toInt = 60) ∧ (¬ (0 ≤ p2.toInt ∧ p2.toInt < p4.toInt ∧ p4.toInt ≤ 1000 ∧ 0 ≤ p3.toInt ∧ p3.toInt < p5.toInt ∧ p5.toInt ≤ 1000)) ∧ (s.1 0).toInt = 3 ∧ (s.1 14).toInt = (σ.1 14).toInt) ∨ (¬ (¬ (0 ≤ p1.toInt ∧ p1.toInt < (σ.1 1).toInt)) ∧ ¬ ((σ.1 14).toInt = 60) ∧ ¬ (¬ (0 ≤ p2.toInt ∧ p2.toInt < p4.toInt ∧ p4.toInt ≤ 1000 ∧ 0 ≤ p3.toInt ∧ p3.toInt < p5.toInt ∧ p5.toInt ≤ 1000)) ∧ (s.1 0).toInt = 0 ∧ (s.1 14).toInt = (σ.1 14).toInt + 1)) ∧ fd_H (((¬ (s.1 0).toInt = 0 → s.2.1 22 = σ.2.1 22) ∧ ((s.1 0).toInt = 0 → ∃ j w : Int32, (j.toInt = (σ.1 14).toInt ∧ w.toInt = p1.toInt) ∧ s.2.1 22 = upd (σ.2.1 22) j.toNatClampNeg w))) ∧ fd_H (((¬ (s.1 0).toInt = 0 → s.2.1 23 = σ.2.1 23) ∧ ((s.1 0).toInt = 0 → ∃ j w : Int32, (j.toInt = (σ.1 14).toInt ∧ w.toInt = p2.toInt) ∧ s.2.1 23 = upd (σ.2.1 23) j.toNatClampNeg w))) ∧ fd_H (((¬ (s.1 0).toInt = 0 → s.2.1 24 = σ.2.1 24) ∧ ((s.1 0).toInt = 0 → ∃ j w : Int32, (j.toInt = (σ.1 14).toInt ∧ w.toInt = p3.toInt) ∧ s.2.1 24 = upd (σ.2.1 24) j.toNatClampNeg w))) ∧ fd_H (((¬ (s.1 0).toInt = 0 → s.2.1 25 = σ.2.1 25) ∧ ((s.1 0).toInt = 0 → ∃ j w : Int32, (j.toInt = (σ.1 14).toInt ∧ w.toInt = p4.toInt) ∧ s.2.1 25 = upd (σ.2.1 25) j.toNatClampNeg w))) ∧ fd_H (((¬ (s.1 0).toInt = 0 → s.2.1 26 = σ.2.1 26) ∧ ((s.1 0).toInt = 0 → ∃ j w : Int32, (j.toInt = (σ.1 14).toInt ∧ w.toInt = p5.toInt) ∧ s.2.1 26 = upd (σ.2.1 26) j.toNatClampNeg w))) ∧ fd_H (((s.1 0).toInt = 0 → v.toInt = (fd_cl (s.1 14) (s.2.1 22) p1 N 0 0).toInt))) := by
  have lit0 : (0 : Int32).toInt = 0 := by decide
  have lit1 : (1 : Int32).toInt = 1 := by decide
  have lit2 : (2 : Int32).toInt = 2 := by decide
  have lit3 : (3 : Int32).toInt = 3 := by decide
  have lit60 : (60 : Int32).toInt = 60 := by decide
  have lit1000 : (1000 : Int32).toInt = 1000 := by decide
  have f0 : fd_fr [0, 14, 122, 123, 124, 125, 126] σ σ := fd_fr_rf
  unfold f_X11_shape_0
  refine fd_ok_ite (fun c_1 => ?_) (fun c_1 => ?_)
  ·
    have d_2 := Int32.lt_iff_toInt_lt.mp c_1
    try unfold f_X11_shape_0_J40
    try unfold f_X11_shape_0_J41
    refine fd_ok_bd ?_
    try unfold f_X11_isIn
    refine fd_ok_ite (fun c_3 => ?_) (fun c_3 => ?_)
    ·
      have d_4 := Int32.lt_iff_toInt_lt.mp c_3
      refine fd_ok_pb ?_
      refine fd_ok_itp (by decide) ?_
      try unfold f_X11_shape_0_J82
      refine fd_ok_lt (fun σ10_5 eσ10_5 => ?_)
      have i_6 : fd_InvM σ10_5 := fd_inv_sI eσ10_5 i0 (fd_rng _)
      have f_7 : fd_fr [0, 14, 122, 123, 124, 125, 126] σ σ10_5 := fd_fr_tr f0 (fd_fr_sI eσ10_5 (by decide))
      have t_8 : (σ10_5.1 0).toInt = (1 : Int32).toInt := congrArg Int32.toInt (fd_tI eσ10_5)
      have t_9 : (σ10_5.1 1).toInt = (σ.1 1).toInt := congrArg Int32.toInt (fd_tN eσ10_5 (by decide))
      have t_10 : (σ10_5.1 14).toInt = (σ.1 14).toInt := congrArg Int32.toInt (fd_tN eσ10_5 (by decide))
      have y_11 := fd_yIA (d := 22) eσ10_5 (rfl : σ.2.1 22 = _)
      have y_12 := fd_yIA (d := 23) eσ10_5 (rfl : σ.2.1 23 = _)
      have y_13 := fd_yIA (d := 24) eσ10_5 (rfl : σ.2.1 24 = _)
      have y_14 := fd_yIA (d := 25) eσ10_5 (rfl : σ.2.1 25 = _)
      have y_15 := fd_yIA (d := 26) eσ10_5 (rfl : σ.2.1 26 = _)
      have r_16 := fd_rng (σ10_5.1 0)
      refine fd_ok_itn (Int32.not_le.mpr (Int32.lt_iff_toInt_lt.mpr (by omega))) ?_
      have x_17 : ((¬ (0 ≤ p1.toInt ∧ p1.toInt < (σ.1 1).toInt)) ∧ (σ10_5.1 0).toInt = 1 ∧ (σ10_5.1 14).toInt = (σ.1 14).toInt) ∨ (¬ (¬ (0 ≤ p1.toInt ∧ p1.toInt < (σ.1 1).toInt)) ∧ ((σ.1 14).toInt = 60) ∧ (σ10_5.1 0).toInt = 2 ∧ (σ10_5.1 14).toInt = (σ.1 14).toInt) ∨ (¬ (¬ (0 ≤ p1.toInt ∧ p1.toInt < (σ.1 1).toInt)) ∧ ¬ ((σ.1 14).toInt = 60) ∧ (¬ (0 ≤ p2.toInt ∧ p2.toInt < p4.toInt ∧ p4.toInt ≤ 1000 ∧ 0 ≤ p3.toInt ∧ p3.toInt < p5.toInt ∧ p5.toInt ≤ 1000)) ∧ (σ10_5.1 0).toInt = 3 ∧ (σ10_5.1 14).toInt = (σ.1 14).toInt) ∨ (¬ (¬ (0 ≤ p1.toInt ∧ p1.toInt < (σ.1 1).toInt)) ∧ ¬ ((σ.1 14).toInt = 60) ∧ ¬ (¬ (0 ≤ p2.toInt ∧ p2.toInt < p4.toInt ∧ p4.toInt ≤ 1000 ∧ 0 ≤ p3.toInt ∧ p3.toInt < p5.toInt ∧ p5.toInt ≤ 1000)) ∧ (σ10_5.1 0).toInt = 0 ∧ (σ10_5.1 14).toInt = (σ.1 14).toInt + 1) := by omega
      have w_18 : fd_H (((¬ (σ10_5.1 0).toInt = 0 → σ10_5.2.1 22 = σ.2.1 22) ∧ ((σ10_5.1 0).toInt = 0 → ∃ j w : Int32, (j.toInt = (σ.1 14).toInt ∧ w.toInt = p1.toInt) ∧ σ10_5.2.1 22 = upd (σ.2.1 22) j.toNatClampNeg w))) := fd_hd (⟨fun _ => y_11, fun h => absurd h (by omega)⟩)
      have w_19 : fd_H (((¬ (σ10_5.1 0).toInt = 0 → σ10_5.2.1 23 = σ.2.1 23) ∧ ((σ10_5.1 0).toInt = 0 → ∃ j w : Int32, (j.toInt = (σ.1 14).toInt ∧ w.toInt = p2.toInt) ∧ σ10_5.2.1 23 = upd (σ.2.1 23) j.toNatClampNeg w))) := fd_hd (⟨fun _ => y_12, fun h => absurd h (by omega)⟩)
      have w_20 : fd_H (((¬ (σ10_5.1 0).toInt = 0 → σ10_5.2.1 24 = σ.2.1 24) ∧ ((σ10_5.1 0).toInt = 0 → ∃ j w : Int32, (j.toInt = (σ.1 14).toInt ∧ w.toInt = p3.toInt) ∧ σ10_5.2.1 24 = upd (σ.2.1 24) j.toNatClampNeg w))) := fd_hd (⟨fun _ => y_13, fun h => absurd h (by omega)⟩)
      have w_21 : fd_H (((¬ (σ10_5.1 0).toInt = 0 → σ10_5.2.1 25 = σ.2.1 25) ∧ ((σ10_5.1 0).toInt = 0 → ∃ j w : Int32, (j.toInt = (σ.1 14).toInt ∧ w.toInt = p4.toInt) ∧ σ10_5.2.1 25 = upd (σ.2.1 25) j.toNatClampNeg w))) := fd_hd (⟨fun _ => y_14, fun h => absurd h (by omega)⟩)
      have w_22 : fd_H (((¬ (σ10_5.1 0).toInt = 0 → σ10_5.2.1 26 = σ.2.1 26) ∧ ((σ10_5.1 0).toInt = 0 → ∃ j w : Int32, (j.toInt = (σ.1 14).toInt ∧ w.toInt = p5.toInt) ∧ σ10_5.2.1 26 = upd (σ.2.1 26) j.toNatClampNeg w))) := fd_hd (⟨fun _ => y_15, fun h => absurd h (by omega)⟩)
      have w_23 : fd_H (((σ10_5.1 0).toInt = 0 → (0 : Int32).toInt = (fd_cl (σ10_5.1 14) (σ10_5.2.1 22) p1 N 0 0).toInt)) := fd_hd (fun h => absurd h (by omega))
      exact fd_ok_some ⟨i_6, f_7, x_17, w_18, w_19, w_20, w_21, w_22, w_23⟩
    ·
      have d_24 := Int32.le_iff_toInt_le.mp (Int32.not_lt.mp c_3)
      have r_25 : (0 : Int) ≤ (σ.1 1).toInt ∧ (σ.1 1).toInt ≤ 200 := i0.1 1
      refine fd_ok_ite (fun c_26 => ?_) (fun c_26 => ?_)
      ·
        have d_27 := Int32.le_iff_toInt_le.mp c_26
        refine fd_ok_pb ?_
        refine fd_ok_itp (by decide) ?_
        try unfold f_X11_shape_0_J82
        refine fd_ok_lt (fun σ10_28 eσ10_28 => ?_)
        have i_29 : fd_InvM σ10_28 := fd_inv_sI eσ10_28 i0 (fd_rng _)
        have f_30 : fd_fr [0, 14, 122, 123, 124, 125, 126] σ σ10_28 := fd_fr_tr f0 (fd_fr_sI eσ10_28 (by decide))
        have t_31 : (σ10_28.1 0).toInt = (1 : Int32).toInt := congrArg Int32.toInt (fd_tI eσ10_28)
        have t_32 : (σ10_28.1 1).toInt = (σ.1 1).toInt := congrArg Int32.toInt (fd_tN eσ10_28 (by decide))
        have t_33 : (σ10_28.1 14).toInt = (σ.1 14).toInt := congrArg Int32.toInt (fd_tN eσ10_28 (by decide))
        have y_34 := fd_yIA (d := 22) eσ10_28 (rfl : σ.2.1 22 = _)
        have y_35 := fd_yIA (d := 23) eσ10_28 (rfl : σ.2.1 23 = _)
        have y_36 := fd_yIA (d := 24) eσ10_28 (rfl : σ.2.1 24 = _)
        have y_37 := fd_yIA (d := 25) eσ10_28 (rfl : σ.2.1 25 = _)
        have y_38 := fd_yIA (d := 26) eσ10_28 (rfl : σ.2.1 26 = _)
        have r_39 := fd_rng (σ10_28.1 0)
        refine fd_ok_itn (Int32.not_le.mpr (Int32.lt_iff_toInt_lt.mpr (by omega))) ?_
        have x_40 : ((¬ (0 ≤ p1.toInt ∧ p1.toInt < (σ.1 1).toInt)) ∧ (σ10_28.1 0).toInt = 1 ∧ (σ10_28.1 14).toInt = (σ.1 14).toInt) ∨ (¬ (¬ (0 ≤ p1.toInt ∧ p1.toInt < (σ.1 1).toInt)) ∧ ((σ.1 14).toInt = 60) ∧ (σ10_28.1 0).toInt = 2 ∧ (σ10_28.1 14).toInt = (σ.1 14).toInt) ∨ (¬ (¬ (0 ≤ p1.toInt ∧ p1.toInt < (σ.1 1).toInt)) ∧ ¬ ((σ.1 14).toInt = 60) ∧ (¬ (0 ≤ p2.toInt ∧ p2.toInt < p4.toInt ∧ p4.toInt ≤ 1000 ∧ 0 ≤ p3.toInt ∧ p3.toInt < p5.toInt ∧ p5.toInt ≤ 1000)) ∧ (σ10_28.1 0).toInt = 3 ∧ (σ10_28.1 14).toInt = (σ.1 14).toInt) ∨ (¬ (¬ (0 ≤ p1.toInt ∧ p1.toInt < (σ.1 1).toInt)) ∧ ¬ ((σ.1 14).toInt = 60) ∧ ¬ (¬ (0 ≤ p2.toInt ∧ p2.toInt < p4.toInt ∧ p4.toInt ≤ 1000 ∧ 0 ≤ p3.toInt ∧ p3.toInt < p5.toInt ∧ p5.toInt ≤ 1000)) ∧ (σ10_28.1 0).toInt = 0 ∧ (σ10_28.1 14).toInt = (σ.1 14).toInt + 1) := by omega
        have w_41 : fd_H (((¬ (σ10_28.1 0).toInt = 0 → σ10_28.2.1 22 = σ.2.1 22) ∧ ((σ10_28.1 0).toInt = 0 → ∃ j w : Int32, (j.toInt = (σ.1 14).toInt ∧ w.toInt = p1.toInt) ∧ σ10_28.2.1 22 = upd (σ.2.1 22) j.toNatClampNeg w))) := fd_hd (⟨fun _ => y_34, fun h => absurd h (by omega)⟩)
        have w_42 : fd_H (((¬ (σ10_28.1 0).toInt = 0 → σ10_28.2.1 23 = σ.2.1 23) ∧ ((σ10_28.1 0).toInt = 0 → ∃ j w : Int32, (j.toInt = (σ.1 14).toInt ∧ w.toInt = p2.toInt) ∧ σ10_28.2.1 23 = upd (σ.2.1 23) j.toNatClampNeg w))) := fd_hd (⟨fun _ => y_35, fun h => absurd h (by omega)⟩)
        have w_43 : fd_H (((¬ (σ10_28.1 0).toInt = 0 → σ10_28.2.1 24 = σ.2.1 24) ∧ ((σ10_28.1 0).toInt = 0 → ∃ j w : Int32, (j.toInt = (σ.1 14).toInt ∧ w.toInt = p3.toInt) ∧ σ10_28.2.1 24 = upd (σ.2.1 24) j.toNatClampNeg w))) := fd_hd (⟨fun _ => y_36, fun h => absurd h (by omega)⟩)
        have w_44 : fd_H (((¬ (σ10_28.1 0).toInt = 0 → σ10_28.2.1 25 = σ.2.1 25) ∧ ((σ10_28.1 0).toInt = 0 → ∃ j w : Int32, (j.toInt = (σ.1 14).toInt ∧ w.toInt = p4.toInt) ∧ σ10_28.2.1 25 = upd (σ.2.1 25) j.toNatClampNeg w))) := fd_hd (⟨fun _ => y_37, fun h => absurd h (by omega)⟩)
        have w_45 : fd_H (((¬ (σ10_28.1 0).toInt = 0 → σ10_28.2.1 26 = σ.2.1 26) ∧ ((σ10_28.1 0).toInt = 0 → ∃ j w : Int32, (j.toInt = (σ.1 14).toInt ∧ w.toInt = p5.toInt) ∧ σ10_28.2.1 26 = upd (σ.2.1 26) j.toNatClampNeg w))) := fd_hd (⟨fun _ => y_38, fun h => absurd h (by omega)⟩)
        have w_46 : fd_H (((σ10_28.1 0).toInt = 0 → (0 : Int32).toInt = (fd_cl (σ10_28.1 14) (σ10_28.2.1 22) p1 N 0 0).toInt)) := fd_hd (fun h => absurd h (by omega))
        exact fd_ok_some ⟨i_29, f_30, x_40, w_41, w_42, w_43, w_44, w_45, w_46⟩
      ·
        have d_47 := Int32.lt_iff_toInt_lt.mp (Int32.not_le.mp c_26)
        refine fd_ok_pb ?_
        refine fd_ok_itn (by decide) ?_
        have r_48 : (0 : Int) ≤ (σ.1 14).toInt ∧ (σ.1 14).toInt ≤ 60 := i0.1 14
        refine fd_ok_ite (fun c_49 => ?_) (fun c_49 => ?_)
        ·
          have d_50 := congrArg Int32.toInt c_49
          try unfold f_X11_shape_0_J82
          refine fd_ok_lt (fun σ10_51 eσ10_51 => ?_)
          have i_52 : fd_InvM σ10_51 := fd_inv_sI eσ10_51 i0 (fd_rng _)
          have f_53 : fd_fr [0, 14, 122, 123, 124, 125, 126] σ σ10_51 := fd_fr_tr f0 (fd_fr_sI eσ10_51 (by decide))
          have t_54 : (σ10_51.1 0).toInt = (2 : Int32).toInt := congrArg Int32.toInt (fd_tI eσ10_51)
          have t_55 : (σ10_51.1 1).toInt = (σ.1 1).toInt := congrArg Int32.toInt (fd_tN eσ10_51 (by decide))
          have t_56 : (σ10_51.1 14).toInt = (σ.1 14).toInt := congrArg Int32.toInt (fd_tN eσ10_51 (by decide))
          have y_57 := fd_yIA (d := 22) eσ10_51 (rfl : σ.2.1 22 = _)
          have y_58 := fd_yIA (d := 23) eσ10_51 (rfl : σ.2.1 23 = _)
          have y_59 := fd_yIA (d := 24) eσ10_51 (rfl : σ.2.1 24 = _)
          have y_60 := fd_yIA (d := 25) eσ10_51 (rfl : σ.2.1 25 = _)
          have y_61 := fd_yIA (d := 26) eσ10_51 (rfl : σ.2.1 26 = _)
          have r_62 := fd_rng (σ10_51.1 0)
          refine fd_ok_itn (Int32.not_le.mpr (Int32.lt_iff_toInt_lt.mpr (by omega))) ?_
          have x_63 : ((¬ (0 ≤ p1.toInt ∧ p1.toInt < (σ.1 1).toInt)) ∧ (σ10_51.1 0).toInt = 1 ∧ (σ10_51.1 14).toInt = (σ.1 14).toInt) ∨ (¬ (¬ (0 ≤ p1.toInt ∧ p1.toInt < (σ.1 1).toInt)) ∧ ((σ.1 14).toInt = 60) ∧ (σ10_51.1 0).toInt = 2 ∧ (σ10_51.1 14).toInt = (σ.1 14).toInt) ∨ (¬ (¬ (0 ≤ p1.toInt ∧ p1.toInt < (σ.1 1).toInt)) ∧ ¬ ((σ.1 14).toInt = 60) ∧ (¬ (0 ≤ p2.toInt ∧ p2.toInt < p4.toInt ∧ p4.toInt ≤ 1000 ∧ 0 ≤ p3.toInt ∧ p3.toInt < p5.toInt ∧ p5.toInt ≤ 1000)) ∧ (σ10_51.1 0).toInt = 3 ∧ (σ10_51.1 14).toInt = (σ.1 14).toInt) ∨ (¬ (¬ (0 ≤ p1.toInt ∧ p1.toInt < (σ.1 1).toInt)) ∧ ¬ ((σ.1 14).toInt = 60) ∧ ¬ (¬ (0 ≤ p2.toInt ∧ p2.toInt < p4.toInt ∧ p4.toInt ≤ 1000 ∧ 0 ≤ p3.toInt ∧ p3.toInt < p5.toInt ∧ p5.toInt ≤ 1000)) ∧ (σ10_51.1 0).toInt = 0 ∧ (σ10_51.1 14).toInt = (σ.1 14).toInt + 1) := by omega
          have w_64 : fd_H (((¬ (σ10_51.1 0).toInt = 0 → σ10_51.2.1 22 = σ.2.1 22) ∧ ((σ10_51.1 0).toInt = 0 → ∃ j w : Int32, (j.toInt = (σ.1 14).toInt ∧ w.toInt = p1.toInt) ∧ σ10_51.2.1 22 = upd (σ.2.1 22) j.toNatClampNeg w))) := fd_hd (⟨fun _ => y_57, fun h => absurd h (by omega)⟩)
          have w_65 : fd_H (((¬ (σ10_51.1 0).toInt = 0 → σ10_51.2.1 23 = σ.2.1 23) ∧ ((σ10_51.1 0).toInt = 0 → ∃ j w : Int32, (j.toInt = (σ.1 14).toInt ∧ w.toInt = p2.toInt) ∧ σ10_51.2.1 23 = upd (σ.2.1 23) j.toNatClampNeg w))) := fd_hd (⟨fun _ => y_58, fun h => absurd h (by omega)⟩)
          have w_66 : fd_H (((¬ (σ10_51.1 0).toInt = 0 → σ10_51.2.1 24 = σ.2.1 24) ∧ ((σ10_51.1 0).toInt = 0 → ∃ j w : Int32, (j.toInt = (σ.1 14).toInt ∧ w.toInt = p3.toInt) ∧ σ10_51.2.1 24 = upd (σ.2.1 24) j.toNatClampNeg w))) := fd_hd (⟨fun _ => y_59, fun h => absurd h (by omega)⟩)
          have w_67 : fd_H (((¬ (σ10_51.1 0).toInt = 0 → σ10_51.2.1 25 = σ.2.1 25) ∧ ((σ10_51.1 0).toInt = 0 → ∃ j w : Int32, (j.toInt = (σ.1 14).toInt ∧ w.toInt = p4.toInt) ∧ σ10_51.2.1 25 = upd (σ.2.1 25) j.toNatClampNeg w))) := fd_hd (⟨fun _ => y_60, fun h => absurd h (by omega)⟩)
          have w_68 : fd_H (((¬ (σ10_51.1 0).toInt = 0 → σ10_51.2.1 26 = σ.2.1 26) ∧ ((σ10_51.1 0).toInt = 0 → ∃ j w : Int32, (j.toInt = (σ.1 14).toInt ∧ w.toInt = p5.toInt) ∧ σ10_51.2.1 26 = upd (σ.2.1 26) j.toNatClampNeg w))) := fd_hd (⟨fun _ => y_61, fun h => absurd h (by omega)⟩)
          have w_69 : fd_H (((σ10_51.1 0).toInt = 0 → (0 : Int32).toInt = (fd_cl (σ10_51.1 14) (σ10_51.2.1 22) p1 N 0 0).toInt)) := fd_hd (fun h => absurd h (by omega))
          exact fd_ok_some ⟨i_52, f_53, x_63, w_64, w_65, w_66, w_67, w_68, w_69⟩
        ·
          have d_70 : ¬ (σ.1 14).toInt = (60 : Int32).toInt := fun q => c_49 (Int32.toInt_inj.mp q)
          refine fd_ok_itp (by decide) ?_
          try unfold f_X11_shape_0_J82
          refine fd_ok_lt (fun σ10_71 eσ10_71 => ?_)
          have i_72 : fd_InvM σ10_71 := fd_inv_sI eσ10_71 i0 (fd_rng _)
          have f_73 : fd_fr [0, 14, 122, 123, 124, 125, 126] σ σ10_71 := fd_fr_tr f0 (fd_fr_sI eσ10_71 (by decide))
          have t_74 : (σ10_71.1 0).toInt = (3 : Int32).toInt := congrArg Int32.toInt (fd_tI eσ10_71)
          have t_75 : (σ10_71.1 1).toInt = (σ.1 1).toInt := congrArg Int32.toInt (fd_tN eσ10_71 (by decide))
          have t_76 : (σ10_71.1 14).toInt = (σ.1 14).toInt := congrArg Int32.toInt (fd_tN eσ10_71 (by decide))
          have y_77 := fd_yIA (d := 22) eσ10_71 (rfl : σ.2.1 22 = _)
          have y_78 := fd_yIA (d := 23) eσ10_71 (rfl : σ.2.1 23 = _)
          have y_79 := fd_yIA (d := 24) eσ10_71 (rfl : σ.2.1 24 = _)
          have y_80 := fd_yIA (d := 25) eσ10_71 (rfl : σ.2.1 25 = _)
          have y_81 := fd_yIA (d := 26) eσ10_71 (rfl : σ.2.1 26 = _)
          have r_82 := fd_rng (σ10_71.1 0)
          refine fd_ok_itn (Int32.not_le.mpr (Int32.lt_iff_toInt_lt.mpr (by omega))) ?_
          have x_83 : ((¬ (0 ≤ p1.toInt ∧ p1.toInt < (σ.1 1).toInt)) ∧ (σ10_71.1 0).toInt = 1 ∧ (σ10_71.1 14).toInt = (σ.1 14).toInt) ∨ (¬ (¬ (0 ≤ p1.toInt ∧ p1.toInt < (σ.1 1).toInt)) ∧ ((σ.1 14).toInt = 60) ∧ (σ10_71.1 0).toInt = 2 ∧ (σ10_71.1 14).toInt = (σ.1 14).toInt) ∨ (¬ (¬ (0 ≤ p1.toInt ∧ p1.toInt < (σ.1 1).toInt)) ∧ ¬ ((σ.1 14).toInt = 60) ∧ (¬ (0 ≤ p2.toInt ∧ p2.toInt < p4.toInt ∧ p4.toInt ≤ 1000 ∧ 0 ≤ p3.toInt ∧ p3.toInt < p5.toInt ∧ p5.toInt ≤ 1000)) ∧ (σ10_71.1 0).toInt = 3 ∧ (σ10_71.1 14).toInt = (σ.1 14).toInt) ∨ (¬ (¬ (0 ≤ p1.toInt ∧ p1.toInt < (σ.1 1).toInt)) ∧ ¬ ((σ.1 14).toInt = 60) ∧ ¬ (¬ (0 ≤ p2.toInt ∧ p2.toInt < p4.toInt ∧ p4.toInt ≤ 1000 ∧ 0 ≤ p3.toInt ∧ p3.toInt < p5.toInt ∧ p5.toInt ≤ 1000)) ∧ (σ10_71.1 0).toInt = 0 ∧ (σ10_71.1 14).toInt = (σ.1 14).toInt + 1) := by omega
          have w_84 : fd_H (((¬ (σ10_71.1 0).toInt = 0 → σ10_71.2.1 22 = σ.2.1 22) ∧ ((σ10_71.1 0).toInt = 0 → ∃ j w : Int32, (j.toInt = (σ.1 14).toInt ∧ w.toInt = p1.toInt) ∧ σ10_71.2.1 22 = upd (σ.2.1 22) j.toNatClampNeg w))) := fd_hd (⟨fun _ => y_77, fun h => absurd h (by omega)⟩)
          have w_85 : fd_H (((¬ (σ10_71.1 0).toInt = 0 → σ10_71.2.1 23 = σ.2.1 23) ∧ ((σ10_71.1 0).toInt = 0 → ∃ j w : Int32, (j.toInt = (σ.1 14).toInt ∧ w.toInt = p2.toInt) ∧ σ10_71.2.1 23 = upd (σ.2.1 23) j.toNatClampNeg w))) := fd_hd (⟨fun _ => y_78, fun h => absurd h (by omega)⟩)
          have w_86 : fd_H (((¬ (σ10_71.1 0).toInt = 0 → σ10_71.2.1 24 = σ.2.1 24) ∧ ((σ10_71.1 0).toInt = 0 → ∃ j w : Int32, (j.toInt = (σ.1 14).toInt ∧ w.toInt = p3.toInt) ∧ σ10_71.2.1 24 = upd (σ.2.1 24) j.toNatClampNeg w))) := fd_hd (⟨fun _ => y_79, fun h => absurd h (by omega)⟩)
          have w_87 : fd_H (((¬ (σ10_71.1 0).toInt = 0 → σ10_71.2.1 25 = σ.2.1 25) ∧ ((σ10_71.1 0).toInt = 0 → ∃ j w : Int32, (j.toInt = (σ.1 14).toInt ∧ w.toInt = p4.toInt) ∧ σ10_71.2.1 25 = upd (σ.2.1 25) j.toNatClampNeg w))) := fd_hd (⟨fun _ => y_80, fun h => absurd h (by omega)⟩)
          have w_88 : fd_H (((¬ (σ10_71.1 0).toInt = 0 → σ10_71.2.1 26 = σ.2.1 26) ∧ ((σ10_71.1 0).toInt = 0 → ∃ j w : Int32, (j.toInt = (σ.1 14).toInt ∧ w.toInt = p5.toInt) ∧ σ10_71.2.1 26 = upd (σ.2.1 26) j.toNatClampNeg w))) := fd_hd (⟨fun _ => y_81, fun h => absurd h (by omega)⟩)
          have w_89 : fd_H (((σ10_71.1 0).toInt = 0 → (0 : Int32).toInt = (fd_cl (σ10_71.1 14) (σ10_71.2.1 22) p1 N 0 0).toInt)) := fd_hd (fun h => absurd h (by omega))
          exact fd_ok_some ⟨i_72, f_73, x_83, w_84, w_85, w_86, w_87, w_88, w_89⟩
  ·
    have d_90 := Int32.le_iff_toInt_le.mp (Int32.not_lt.mp c_1)
    refine fd_ok_ite (fun c_91 => ?_) (fun c_91 => ?_)
    ·
      have d_92 := Int32.lt_iff_toInt_lt.mp c_91
      try unfold f_X11_shape_0_J40
      try unfold f_X11_shape_0_J41
      refine fd_ok_bd ?_
      try unfold f_X11_isIn
      refine fd_ok_ite (fun c_93 => ?_) (fun c_93 => ?_)
      ·
        have d_94 := Int32.lt_iff_toInt_lt.mp c_93
        refine fd_ok_pb ?_
        refine fd_ok_itp (by decide) ?_
        try unfold f_X11_shape_0_J82
        refine fd_ok_lt (fun σ10_95 eσ10_95 => ?_)
        have i_96 : fd_InvM σ10_95 := fd_inv_sI eσ10_95 i0 (fd_rng _)
        have f_97 : fd_fr [0, 14, 122, 123, 124, 125, 126] σ σ10_95 := fd_fr_tr f0 (fd_fr_sI eσ10_95 (by decide))
        have t_98 : (σ10_95.1 0).toInt = (1 : Int32).toInt := congrArg Int32.toInt (fd_tI eσ10_95)
        have t_99 : (σ10_95.1 1).toInt = (σ.1 1).toInt := congrArg Int32.toInt (fd_tN eσ10_95 (by decide))
        have t_100 : (σ10_95.1 14).toInt = (σ.1 14).toInt := congrArg Int32.toInt (fd_tN eσ10_95 (by decide))
        have y_101 := fd_yIA (d := 22) eσ10_95 (rfl : σ.2.1 22 = _)
        have y_102 := fd_yIA (d := 23) eσ10_95 (rfl : σ.2.1 23 = _)
        have y_103 := fd_yIA (d := 24) eσ10_95 (rfl : σ.2.1 24 = _)
        have y_104 := fd_yIA (d := 25) eσ10_95 (rfl : σ.2.1 25 = _)
        have y_105 := fd_yIA (d := 26) eσ10_95 (rfl : σ.2.1 26 = _)
        have r_106 := fd_rng (σ10_95.1 0)
        refine fd_ok_itn (Int32.not_le.mpr (Int32.lt_iff_toInt_lt.mpr (by omega))) ?_
        have x_107 : ((¬ (0 ≤ p1.toInt ∧ p1.toInt < (σ.1 1).toInt)) ∧ (σ10_95.1 0).toInt = 1 ∧ (σ10_95.1 14).toInt = (σ.1 14).toInt) ∨ (¬ (¬ (0 ≤ p1.toInt ∧ p1.toInt < (σ.1 1).toInt)) ∧ ((σ.1 14).toInt = 60) ∧ (σ10_95.1 0).toInt = 2 ∧ (σ10_95.1 14).toInt = (σ.1 14).toInt) ∨ (¬ (¬ (0 ≤ p1.toInt ∧ p1.toInt < (σ.1 1).toInt)) ∧ ¬ ((σ.1 14).toInt = 60) ∧ (¬ (0 ≤ p2.toInt ∧ p2.toInt < p4.toInt ∧ p4.toInt ≤ 1000 ∧ 0 ≤ p3.toInt ∧ p3.toInt < p5.toInt ∧ p5.toInt ≤ 1000)) ∧ (σ10_95.1 0).toInt = 3 ∧ (σ10_95.1 14).toInt = (σ.1 14).toInt) ∨ (¬ (¬ (0 ≤ p1.toInt ∧ p1.toInt < (σ.1 1).toInt)) ∧ ¬ ((σ.1 14).toInt = 60) ∧ ¬ (¬ (0 ≤ p2.toInt ∧ p2.toInt < p4.toInt ∧ p4.toInt ≤ 1000 ∧ 0 ≤ p3.toInt ∧ p3.toInt < p5.toInt ∧ p5.toInt ≤ 1000)) ∧ (σ10_95.1 0).toInt = 0 ∧ (σ10_95.1 14).toInt = (σ.1 14).toInt + 1) := by omega
        have w_108 : fd_H (((¬ (σ10_95.1 0).toInt = 0 → σ10_95.2.1 22 = σ.2.1 22) ∧ ((σ10_95.1 0).toInt = 0 → ∃ j w : Int32, (j.toInt = (σ.1 14).toInt ∧ w.toInt = p1.toInt) ∧ σ10_95.2.1 22 = upd (σ.2.1 22) j.toNatClampNeg w))) := fd_hd (⟨fun _ => y_101, fun h => absurd h (by omega)⟩)
        have w_109 : fd_H (((¬ (σ10_95.1 0).toInt = 0 → σ10_95.2.1 23 = σ.2.1 23) ∧ ((σ10_95.1 0).toInt = 0 → ∃ j w : Int32, (j.toInt = (σ.1 14).toInt ∧ w.toInt = p2.toInt) ∧ σ10_95.2.1 23 = upd (σ.2.1 23) j.toNatClampNeg w))) := fd_hd (⟨fun _ => y_102, fun h => absurd h (by omega)⟩)
        have w_110 : fd_H (((¬ (σ10_95.1 0).toInt = 0 → σ10_95.2.1 24 = σ.2.1 24) ∧ ((σ10_95.1 0).toInt = 0 → ∃ j w : Int32, (j.toInt = (σ.1 14).toInt ∧ w.toInt = p3.toInt) ∧ σ10_95.2.1 24 = upd (σ.2.1 24) j.toNatClampNeg w))) := fd_hd (⟨fun _ => y_103, fun h => absurd h (by omega)⟩)
        have w_111 : fd_H (((¬ (σ10_95.1 0).toInt = 0 → σ10_95.2.1 25 = σ.2.1 25) ∧ ((σ10_95.1 0).toInt = 0 → ∃ j w : Int32, (j.toInt = (σ.1 14).toInt ∧ w.toInt = p4.toInt) ∧ σ10_95.2.1 25 = upd (σ.2.1 25) j.toNatClampNeg w))) := fd_hd (⟨fun _ => y_104, fun h => absurd h (by omega)⟩)
        have w_112 : fd_H (((¬ (σ10_95.1 0).toInt = 0 → σ10_95.2.1 26 = σ.2.1 26) ∧ ((σ10_95.1 0).toInt = 0 → ∃ j w : Int32, (j.toInt = (σ.1 14).toInt ∧ w.toInt = p5.toInt) ∧ σ10_95.2.1 26 = upd (σ.2.1 26) j.toNatClampNeg w))) := fd_hd (⟨fun _ => y_105, fun h => absurd h (by omega)⟩)
        have w_113 : fd_H (((σ10_95.1 0).toInt = 0 → (0 : Int32).toInt = (fd_cl (σ10_95.1 14) (σ10_95.2.1 22) p1 N 0 0).toInt)) := fd_hd (fun h => absurd h (by omega))
        exact fd_ok_some ⟨i_96, f_97, x_107, w_108, w_109, w_110, w_111, w_112, w_113⟩
      ·
        have d_114 := Int32.le_iff_toInt_le.mp (Int32.not_lt.mp c_93)
        have r_115 : (0 : Int) ≤ (σ.1 1).toInt ∧ (σ.1 1).toInt ≤ 200 := i0.1 1
        refine fd_ok_ite (fun c_116 => ?_) (fun c_116 => ?_)
        ·
          have d_117 := Int32.le_iff_toInt_le.mp c_116
          refine fd_ok_pb ?_
          refine fd_ok_itp (by decide) ?_
          try unfold f_X11_shape_0_J82
          refine fd_ok_lt (fun σ10_118 eσ10_118 => ?_)
          have i_119 : fd_InvM σ10_118 := fd_inv_sI eσ10_118 i0 (fd_rng _)
          have f_120 : fd_fr [0, 14, 122, 123, 124, 125, 126] σ σ10_118 := fd_fr_tr f0 (fd_fr_sI eσ10_118 (by decide))
          have t_121 : (σ10_118.1 0).toInt = (1 : Int32).toInt := congrArg Int32.toInt (fd_tI eσ10_118)
          have t_122 : (σ10_118.1 1).toInt = (σ.1 1).toInt := congrArg Int32.toInt (fd_tN eσ10_118 (by decide))
          have t_123 : (σ10_118.1 14).toInt = (σ.1 14).toInt := congrArg Int32.toInt (fd_tN eσ10_118 (by decide))
          have y_124 := fd_yIA (d := 22) eσ10_118 (rfl : σ.2.1 22 = _)
          have y_125 := fd_yIA (d := 23) eσ10_118 (rfl : σ.2.1 23 = _)
          have y_126 := fd_yIA (d := 24) eσ10_118 (rfl : σ.2.1 24 = _)
          have y_127 := fd_yIA (d := 25) eσ10_118 (rfl : σ.2.1 25 = _)
          have y_128 := fd_yIA (d := 26) eσ10_118 (rfl : σ.2.1 26 = _)
          have r_129 := fd_rng (σ10_118.1 0)
          refine fd_ok_itn (Int32.not_le.mpr (Int32.lt_iff_toInt_lt.mpr (by omega))) ?_
          have x_130 : ((¬ (0 ≤ p1.toInt ∧ p1.toInt < (σ.1 1).toInt)) ∧ (σ10_118.1 0).toInt = 1 ∧ (σ10_118.1 14).toInt = (σ.1 14).toInt) ∨ (¬ (¬ (0 ≤ p1.toInt ∧ p1.toInt < (σ.1 1).toInt)) ∧ ((σ.1 14).toInt = 60) ∧ (σ10_118.1 0).toInt = 2 ∧ (σ10_118.1 14).toInt = (σ.1 14).toInt) ∨ (¬ (¬ (0 ≤ p1.toInt ∧ p1.toInt < (σ.1 1).toInt)) ∧ ¬ ((σ.1 14).toInt = 60) ∧ (¬ (0 ≤ p2.toInt ∧ p2.toInt < p4.toInt ∧ p4.toInt ≤ 1000 ∧ 0 ≤ p3.toInt ∧ p3.toInt < p5.toInt ∧ p5.toInt ≤ 1000)) ∧ (σ10_118.1 0).toInt = 3 ∧ (σ10_118.1 14).toInt = (σ.1 14).toInt) ∨ (¬ (¬ (0 ≤ p1.toInt ∧ p1.toInt < (σ.1 1).toInt)) ∧ ¬ ((σ.1 14).toInt = 60) ∧ ¬ (¬ (0 ≤ p2.toInt ∧ p2.toInt < p4.toInt ∧ p4.toInt ≤ 1000 ∧ 0 ≤ p3.toInt ∧ p3.toInt < p5.toInt ∧ p5.toInt ≤ 1000)) ∧ (σ10_118.1 0).toInt = 0 ∧ (σ10_118.1 14).toInt = (σ.1 14).toInt + 1) := by omega
          have w_131 : fd_H (((¬ (σ10_118.1 0).toInt = 0 → σ10_118.2.1 22 = σ.2.1 22) ∧ ((σ10_118.1 0).toInt = 0 → ∃ j w : Int32, (j.toInt = (σ.1 14).toInt ∧ w.toInt = p1.toInt) ∧ σ10_118.2.1 22 = upd (σ.2.1 22) j.toNatClampNeg w))) := fd_hd (⟨fun _ => y_124, fun h => absurd h (by omega)⟩)
          have w_132 : fd_H (((¬ (σ10_118.1 0).toInt = 0 → σ10_118.2.1 23 = σ.2.1 23) ∧ ((σ10_118.1 0).toInt = 0 → ∃ j w : Int32, (j.toInt = (σ.1 14).toInt ∧ w.toInt = p2.toInt) ∧ σ10_118.2.1 23 = upd (σ.2.1 23) j.toNatClampNeg w))) := fd_hd (⟨fun _ => y_125, fun h => absurd h (by omega)⟩)
          have w_133 : fd_H (((¬ (σ10_118.1 0).toInt = 0 → σ10_118.2.1 24 = σ.2.1 24) ∧ ((σ10_118.1 0).toInt = 0 → ∃ j w : Int32, (j.toInt = (σ.1 14).toInt ∧ w.toInt = p3.toInt) ∧ σ10_118.2.1 24 = upd (σ.2.1 24) j.toNatClampNeg w))) := fd_hd (⟨fun _ => y_126, fun h => absurd h (by omega)⟩)
          have w_134 : fd_H (((¬ (σ10_118.1 0).toInt = 0 → σ10_118.2.1 25 = σ.2.1 25) ∧ ((σ10_118.1 0).toInt = 0 → ∃ j w : Int32, (j.toInt = (σ.1 14).toInt ∧ w.toInt = p4.toInt) ∧ σ10_118.2.1 25 = upd (σ.2.1 25) j.toNatClampNeg w))) := fd_hd (⟨fun _ => y_127, fun h => absurd h (by omega)⟩)
          have w_135 : fd_H (((¬ (σ10_118.1 0).toInt = 0 → σ10_118.2.1 26 = σ.2.1 26) ∧ ((σ10_118.1 0).toInt = 0 → ∃ j w : Int32, (j.toInt = (σ.1 14).toInt ∧ w.toInt = p5.toInt) ∧ σ10_118.2.1 26 = upd (σ.2.1 26) j.toNatClampNeg w))) := fd_hd (⟨fun _ => y_128, fun h => absurd h (by omega)⟩)
          have w_136 : fd_H (((σ10_118.1 0).toInt = 0 → (0 : Int32).toInt = (fd_cl (σ10_118.1 14) (σ10_118.2.1 22) p1 N 0 0).toInt)) := fd_hd (fun h => absurd h (by omega))
          exact fd_ok_some ⟨i_119, f_120, x_130, w_131, w_132, w_133, w_134, w_135, w_136⟩
        ·
          have d_137 := Int32.lt_iff_toInt_lt.mp (Int32.not_le.mp c_116)
          refine fd_ok_pb ?_
          refine fd_ok_itn (by decide) ?_
          have r_138 : (0 : Int) ≤ (σ.1 14).toInt ∧ (σ.1 14).toInt ≤ 60 := i0.1 14
          refine fd_ok_ite (fun c_139 => ?_) (fun c_139 => ?_)
          ·
            have d_140 := congrArg Int32.toInt c_139
            try unfold f_X11_shape_0_J82
            refine fd_ok_lt (fun σ10_141 eσ10_141 => ?_)
            have i_142 : fd_InvM σ10_141 := fd_inv_sI eσ10_141 i0 (fd_rng _)
            have f_143 : fd_fr [0, 14, 122, 123, 124, 125, 126] σ σ10_141 := fd_fr_tr f0 (fd_fr_sI eσ10_141 (by decide))
            have t_144 : (σ10_141.1 0).toInt = (2 : Int32).toInt := congrArg Int32.toInt (fd_tI eσ10_141)
            have t_145 : (σ10_141.1 1).toInt = (σ.1 1).toInt := congrArg Int32.toInt (fd_tN eσ10_141 (by decide))
            have t_146 : (σ10_141.1 14).toInt = (σ.1 14).toInt := congrArg Int32.toInt (fd_tN eσ10_141 (by decide))
            have y_147 := fd_yIA (d := 22) eσ10_141 (rfl : σ.2.1 22 = _)
            have y_148 := fd_yIA (d := 23) eσ10_141 (rfl : σ.2.1 23 = _)
            have y_149 := fd_yIA (d := 24) eσ10_141 (rfl : σ.2.1 24 = _)
            have y_150 := fd_yIA (d := 25) eσ10_141 (rfl : σ.2.1 25 = _)
            have y_151 := fd_yIA (d := 26) eσ10_141 (rfl : σ.2.1 26 = _)
            have r_152 := fd_rng (σ10_141.1 0)
            refine fd_ok_itn (Int32.not_le.mpr (Int32.lt_iff_toInt_lt.mpr (by omega))) ?_
            have x_153 : ((¬ (0 ≤ p1.toInt ∧ p1.toInt < (σ.1 1).toInt)) ∧ (σ10_141.1 0).toInt = 1 ∧ (σ10_141.1 14).toInt = (σ.1 14).toInt) ∨ (¬ (¬ (0 ≤ p1.toInt ∧ p1.toInt < (σ.1 1).toInt)) ∧ ((σ.1 14).toInt = 60) ∧ (σ10_141.1 0).toInt = 2 ∧ (σ10_141.1 14).toInt = (σ.1 14).toInt) ∨ (¬ (¬ (0 ≤ p1.toInt ∧ p1.toInt < (σ.1 1).toInt)) ∧ ¬ ((σ.1 14).toInt = 60) ∧ (¬ (0 ≤ p2.toInt ∧ p2.toInt < p4.toInt ∧ p4.toInt ≤ 1000 ∧ 0 ≤ p3.toInt ∧ p3.toInt < p5.toInt ∧ p5.toInt ≤ 1000)) ∧ (σ10_141.1 0).toInt = 3 ∧ (σ10_141.1 14).toInt = (σ.1 14).toInt) ∨ (¬ (¬ (0 ≤ p1.toInt ∧ p1.toInt < (σ.1 1).toInt)) ∧ ¬ ((σ.1 14).toInt = 60) ∧ ¬ (¬ (0 ≤ p2.toInt ∧ p2.toInt < p4.toInt ∧ p4.toInt ≤ 1000 ∧ 0 ≤ p3.toInt ∧ p3.toInt < p5.toInt ∧ p5.toInt ≤ 1000)) ∧ (σ10_141.1 0).toInt = 0 ∧ (σ10_141.1 14).toInt = (σ.1 14).toInt + 1) := by omega
            have w_154 : fd_H (((¬ (σ10_141.1 0).toInt = 0 → σ10_141.2.1 22 = σ.2.1 22) ∧ ((σ10_141.1 0).toInt = 0 → ∃ j w : Int32, (j.toInt = (σ.1 14).toInt ∧ w.toInt = p1.toInt) ∧ σ10_141.2.1 22 = upd (σ.2.1 22) j.toNatClampNeg w))) := fd_hd (⟨fun _ => y_147, fun h => absurd h (by omega)⟩)
            have w_155 : fd_H (((¬ (σ10_141.1 0).toInt = 0 → σ10_141.2.1 23 = σ.2.1 23) ∧ ((σ10_141.1 0).toInt = 0 → ∃ j w : Int32, (j.toInt = (σ.1 14).toInt ∧ w.toInt = p2.toInt) ∧ σ10_141.2.1 23 = upd (σ.2.1 23) j.toNatClampNeg w))) := fd_hd (⟨fun _ => y_148, fun h => absurd h (by omega)⟩)
            have w_156 : fd_H (((¬ (σ10_141.1 0).toInt = 0 → σ10_141.2.1 24 = σ.2.1 24) ∧ ((σ10_141.1 0).toInt = 0 → ∃ j w : Int32, (j.toInt = (σ.1 14).toInt ∧ w.toInt = p3.toInt) ∧ σ10_141.2.1 24 = upd (σ.2.1 24) j.toNatClampNeg w))) := fd_hd (⟨fun _ => y_149, fun h => absurd h (by omega)⟩)
            have w_157 : fd_H (((¬ (σ10_141.1 0).toInt = 0 → σ10_141.2.1 25 = σ.2.1 25) ∧ ((σ10_141.1 0).toInt = 0 → ∃ j w : Int32, (j.toInt = (σ.1 14).toInt ∧ w.toInt = p4.toInt) ∧ σ10_141.2.1 25 = upd (σ.2.1 25) j.toNatClampNeg w))) := fd_hd (⟨fun _ => y_150, fun h => absurd h (by omega)⟩)
            have w_158 : fd_H (((¬ (σ10_141.1 0).toInt = 0 → σ10_141.2.1 26 = σ.2.1 26) ∧ ((σ10_141.1 0).toInt = 0 → ∃ j w : Int32, (j.toInt = (σ.1 14).toInt ∧ w.toInt = p5.toInt) ∧ σ10_141.2.1 26 = upd (σ.2.1 26) j.toNatClampNeg w))) := fd_hd (⟨fun _ => y_151, fun h => absurd h (by omega)⟩)
            have w_159 : fd_H (((σ10_141.1 0).toInt = 0 → (0 : Int32).toInt = (fd_cl (σ10_141.1 14) (σ10_141.2.1 22) p1 N 0 0).toInt)) := fd_hd (fun h => absurd h (by omega))
            exact fd_ok_some ⟨i_142, f_143, x_153, w_154, w_155, w_156, w_157, w_158, w_159⟩
          ·
            have d_160 : ¬ (σ.1 14).toInt = (60 : Int32).toInt := fun q => c_139 (Int32.toInt_inj.mp q)
            refine fd_ok_itp (by decide) ?_
            try unfold f_X11_shape_0_J82
            refine fd_ok_lt (fun σ10_161 eσ10_161 => ?_)
            have i_162 : fd_InvM σ10_161 := fd_inv_sI eσ10_161 i0 (fd_rng _)
            have f_163 : fd_fr [0, 14, 122, 123, 124, 125, 126] σ σ10_161 := fd_fr_tr f0 (fd_fr_sI eσ10_161 (by decide))
            have t_164 : (σ10_161.1 0).toInt = (3 : Int32).toInt := congrArg Int32.toInt (fd_tI eσ10_161)
            have t_165 : (σ10_161.1 1).toInt = (σ.1 1).toInt := congrArg Int32.toInt (fd_tN eσ10_161 (by decide))
            have t_166 : (σ10_161.1 14).toInt = (σ.1 14).toInt := congrArg Int32.toInt (fd_tN eσ10_161 (by decide))
            have y_167 := fd_yIA (d := 22) eσ10_161 (rfl : σ.2.1 22 = _)
            have y_168 := fd_yIA (d := 23) eσ10_161 (rfl : σ.2.1 23 = _)
            have y_169 := fd_yIA (d := 24) eσ10_161 (rfl : σ.2.1 24 = _)
            have y_170 := fd_yIA (d := 25) eσ10_161 (rfl : σ.2.1 25 = _)
            have y_171 := fd_yIA (d := 26) eσ10_161 (rfl : σ.2.1 26 = _)
            have r_172 := fd_rng (σ10_161.1 0)
            refine fd_ok_itn (Int32.not_le.mpr (Int32.lt_iff_toInt_lt.mpr (by omega))) ?_
            have x_173 : ((¬ (0 ≤ p1.toInt ∧ p1.toInt < (σ.1 1).toInt)) ∧ (σ10_161.1 0).toInt = 1 ∧ (σ10_161.1 14).toInt = (σ.1 14).toInt) ∨ (¬ (¬ (0 ≤ p1.toInt ∧ p1.toInt < (σ.1 1).toInt)) ∧ ((σ.1 14).toInt = 60) ∧ (σ10_161.1 0).toInt = 2 ∧ (σ10_161.1 14).toInt = (σ.1 14).toInt) ∨ (¬ (¬ (0 ≤ p1.toInt ∧ p1.toInt < (σ.1 1).toInt)) ∧ ¬ ((σ.1 14).toInt = 60) ∧ (¬ (0 ≤ p2.toInt ∧ p2.toInt < p4.toInt ∧ p4.toInt ≤ 1000 ∧ 0 ≤ p3.toInt ∧ p3.toInt < p5.toInt ∧ p5.toInt ≤ 1000)) ∧ (σ10_161.1 0).toInt = 3 ∧ (σ10_161.1 14).toInt = (σ.1 14).toInt) ∨ (¬ (¬ (0 ≤ p1.toInt ∧ p1.toInt < (σ.1 1).toInt)) ∧ ¬ ((σ.1 14).toInt = 60) ∧ ¬ (¬ (0 ≤ p2.toInt ∧ p2.toInt < p4.toInt ∧ p4.toInt ≤ 1000 ∧ 0 ≤ p3.toInt ∧ p3.toInt < p5.toInt ∧ p5.toInt ≤ 1000)) ∧ (σ10_161.1 0).toInt = 0 ∧ (σ10_161.1 14).toInt = (σ.1 14).toInt + 1) := by omega
            have w_174 : fd_H (((¬ (σ10_161.1 0).toInt = 0 → σ10_161.2.1 22 = σ.2.1 22) ∧ ((σ10_161.1 0).toInt = 0 → ∃ j w : Int32, (j.toInt = (σ.1 14).toInt ∧ w.toInt = p1.toInt) ∧ σ10_161.2.1 22 = upd (σ.2.1 22) j.toNatClampNeg w))) := fd_hd (⟨fun _ => y_167, fun h => absurd h (by omega)⟩)
            have w_175 : fd_H (((¬ (σ10_161.1 0).toInt = 0 → σ10_161.2.1 23 = σ.2.1 23) ∧ ((σ10_161.1 0).toInt = 0 → ∃ j w : Int32, (j.toInt = (σ.1 14).toInt ∧ w.toInt = p2.toInt) ∧ σ10_161.2.1 23 = upd (σ.2.1 23) j.toNatClampNeg w))) := fd_hd (⟨fun _ => y_168, fun h => absurd h (by omega)⟩)
            have w_176 : fd_H (((¬ (σ10_161.1 0).toInt = 0 → σ10_161.2.1 24 = σ.2.1 24) ∧ ((σ10_161.1 0).toInt = 0 → ∃ j w : Int32, (j.toInt = (σ.1 14).toInt ∧ w.toInt = p3.toInt) ∧ σ10_161.2.1 24 = upd (σ.2.1 24) j.toNatClampNeg w))) := fd_hd (⟨fun _ => y_169, fun h => absurd h (by omega)⟩)
            have w_177 : fd_H (((¬ (σ10_161.1 0).toInt = 0 → σ10_161.2.1 25 = σ.2.1 25) ∧ ((σ10_161.1 0).toInt = 0 → ∃ j w : Int32, (j.toInt = (σ.1 14).toInt ∧ w.toInt = p4.toInt) ∧ σ10_161.2.1 25 = upd (σ.2.1 25) j.toNatClampNeg w))) := fd_hd (⟨fun _ => y_170, fun h => absurd h (by omega)⟩)
            have w_178 : fd_H (((¬ (σ10_161.1 0).toInt = 0 → σ10_161.2.1 26 = σ.2.1 26) ∧ ((σ10_161.1 0).toInt = 0 → ∃ j w : Int32, (j.toInt = (σ.1 14).toInt ∧ w.toInt = p5.toInt) ∧ σ10_161.2.1 26 = upd (σ.2.1 26) j.toNatClampNeg w))) := fd_hd (⟨fun _ => y_171, fun h => absurd h (by omega)⟩)
            have w_179 : fd_H (((σ10_161.1 0).toInt = 0 → (0 : Int32).toInt = (fd_cl (σ10_161.1 14) (σ10_161.2.1 22) p1 N 0 0).toInt)) := fd_hd (fun h => absurd h (by omega))
            exact fd_ok_some ⟨i_162, f_163, x_173, w_174, w_175, w_176, w_177, w_178, w_179⟩
    ·
      have d_180 := Int32.le_iff_toInt_le.mp (Int32.not_lt.mp c_91)
      refine fd_ok_ite (fun c_181 => ?_) (fun c_181 => ?_)
      ·
        have d_182 := Int32.lt_iff_toInt_lt.mp c_181
        try unfold f_X11_shape_0_J40
        try unfold f_X11_shape_0_J41
        refine fd_ok_bd ?_
        try unfold f_X11_isIn
        refine fd_ok_ite (fun c_183 => ?_) (fun c_183 => ?_)
        ·
          have d_184 := Int32.lt_iff_toInt_lt.mp c_183
          refine fd_ok_pb ?_
          refine fd_ok_itp (by decide) ?_
          try unfold f_X11_shape_0_J82
          refine fd_ok_lt (fun σ10_185 eσ10_185 => ?_)
          have i_186 : fd_InvM σ10_185 := fd_inv_sI eσ10_185 i0 (fd_rng _)
          have f_187 : fd_fr [0, 14, 122, 123, 124, 125, 126] σ σ10_185 := fd_fr_tr f0 (fd_fr_sI eσ10_185 (by decide))
          have t_188 : (σ10_185.1 0).toInt = (1 : Int32).toInt := congrArg Int32.toInt (fd_tI eσ10_185)
          have t_189 : (σ10_185.1 1).toInt = (σ.1 1).toInt := congrArg Int32.toInt (fd_tN eσ10_185 (by decide))
          have t_190 : (σ10_185.1 14).toInt = (σ.1 14).toInt := congrArg Int32.toInt (fd_tN eσ10_185 (by decide))
          have y_191 := fd_yIA (d := 22) eσ10_185 (rfl : σ.2.1 22 = _)
          have y_192 := fd_yIA (d := 23) eσ10_185 (rfl : σ.2.1 23 = _)
          have y_193 := fd_yIA (d := 24) eσ10_185 (rfl : σ.2.1 24 = _)
          have y_194 := fd_yIA (d := 25) eσ10_185 (rfl : σ.2.1 25 = _)
          have y_195 := fd_yIA (d := 26) eσ10_185 (rfl : σ.2.1 26 = _)
          have r_196 := fd_rng (σ10_185.1 0)
          refine fd_ok_itn (Int32.not_le.mpr (Int32.lt_iff_toInt_lt.mpr (by omega))) ?_
          have x_197 : ((¬ (0 ≤ p1.toInt ∧ p1.toInt < (σ.1 1).toInt)) ∧ (σ10_185.1 0).toInt = 1 ∧ (σ10_185.1 14).toInt = (σ.1 14).toInt) ∨ (¬ (¬ (0 ≤ p1.toInt ∧ p1.toInt < (σ.1 1).toInt)) ∧ ((σ.1 14).toInt = 60) ∧ (σ10_185.1 0).toInt = 2 ∧ (σ10_185.1 14).toInt = (σ.1 14).toInt) ∨ (¬ (¬ (0 ≤ p1.toInt ∧ p1.toInt < (σ.1 1).toInt)) ∧ ¬ ((σ.1 14).toInt = 60) ∧ (¬ (0 ≤ p2.toInt ∧ p2.toInt < p4.toInt ∧ p4.toInt ≤ 1000 ∧ 0 ≤ p3.toInt ∧ p3.toInt < p5.toInt ∧ p5.toInt ≤ 1000)) ∧ (σ10_185.1 0).toInt = 3 ∧ (σ10_185.1 14).toInt = (σ.1 14).toInt) ∨ (¬ (¬ (0 ≤ p1.toInt ∧ p1.toInt < (σ.1 1).toInt)) ∧ ¬ ((σ.1 14).toInt = 60) ∧ ¬ (¬ (0 ≤ p2.toInt ∧ p2.toInt < p4.toInt ∧ p4.toInt ≤ 1000 ∧ 0 ≤ p3.toInt ∧ p3.toInt < p5.toInt ∧ p5.toInt ≤ 1000)) ∧ (σ10_185.1 0).toInt = 0 ∧ (σ10_185.1 14).toInt = (σ.1 14).toInt + 1) := by omega
          have w_198 : fd_H (((¬ (σ10_185.1 0).toInt = 0 → σ10_185.2.1 22 = σ.2.1 22) ∧ ((σ10_185.1 0).toInt = 0 → ∃ j w : Int32, (j.toInt = (σ.1 14).toInt ∧ w.toInt = p1.toInt) ∧ σ10_185.2.1 22 = upd (σ.2.1 22) j.toNatClampNeg w))) := fd_hd (⟨fun _ => y_191, fun h => absurd h (by omega)⟩)
          have w_199 : fd_H (((¬ (σ10_185.1 0).toInt = 0 → σ10_185.2.1 23 = σ.2.1 23) ∧ ((σ10_185.1 0).toInt = 0 → ∃ j w : Int32, (j.toInt = (σ.1 14).toInt ∧ w.toInt = p2.toInt) ∧ σ10_185.2.1 23 = upd (σ.2.1 23) j.toNatClampNeg w))) := fd_hd (⟨fun _ => y_192, fun h => absurd h (by omega)⟩)
          have w_200 : fd_H (((¬ (σ10_185.1 0).toInt = 0 → σ10_185.2.1 24 = σ.2.1 24) ∧ ((σ10_185.1 0).toInt = 0 → ∃ j w : Int32, (j.toInt = (σ.1 14).toInt ∧ w.toInt = p3.toInt) ∧ σ10_185.2.1 24 = upd (σ.2.1 24) j.toNatClampNeg w))) := fd_hd (⟨fun _ => y_193, fun h => absurd h (by omega)⟩)
          have w_201 : fd_H (((¬ (σ10_185.1 0).toInt = 0 → σ10_185.2.1 25 = σ.2.1 25) ∧ ((σ10_185.1 0).toInt = 0 → ∃ j w : Int32, (j.toInt = (σ.1 14).toInt ∧ w.toInt = p4.toInt) ∧ σ10_185.2.1 25 = upd (σ.2.1 25) j.toNatClampNeg w))) := fd_hd (⟨fun _ => y_194, fun h => absurd h (by omega)⟩)
          have w_202 : fd_H (((¬ (σ10_185.1 0).toInt = 0 → σ10_185.2.1 26 = σ.2.1 26) ∧ ((σ10_185.1 0).toInt = 0 → ∃ j w : Int32, (j.toInt = (σ.1 14).toInt ∧ w.toInt = p5.toInt) ∧ σ10_185.2.1 26 = upd (σ.2.1 26) j.toNatClampNeg w))) := fd_hd (⟨fun _ => y_195, fun h => absurd h (by omega)⟩)
          have w_203 : fd_H (((σ10_185.1 0).toInt = 0 → (0 : Int32).toInt = (fd_cl (σ10_185.1 14) (σ10_185.2.1 22) p1 N 0 0).toInt)) := fd_hd (fun h => absurd h (by omega))
          exact fd_ok_some ⟨i_186, f_187, x_197, w_198, w_199, w_200, w_201, w_202, w_203⟩
        ·
          have d_204 := Int32.le_iff_toInt_le.mp (Int32.not_lt.mp c_183)
          have r_205 : (0 : Int) ≤ (σ.1 1).toInt ∧ (σ.1 1).toInt ≤ 200 := i0.1 1
          refine fd_ok_ite (fun c_206 => ?_) (fun c_206 => ?_)
          ·
            have d_207 := Int32.le_iff_toInt_le.mp c_206
            refine fd_ok_pb ?_
            refine fd_ok_itp (by decide) ?_
            try unfold f_X11_shape_0_J82
            refine fd_ok_lt (fun σ10_208 eσ10_208 => ?_)
            have i_209 : fd_InvM σ10_208 := fd_inv_sI eσ10_208 i0 (fd_rng _)
            have f_210 : fd_fr [0, 14, 122, 123, 124, 125, 126] σ σ10_208 := fd_fr_tr f0 (fd_fr_sI eσ10_208 (by decide))
            have t_211 : (σ10_208.1 0).toInt = (1 : Int32).toInt := congrArg Int32.toInt (fd_tI eσ10_208)
            have t_212 : (σ10_208.1 1).toInt = (σ.1 1).toInt := congrArg Int32.toInt (fd_tN eσ10_208 (by decide))
            have t_213 : (σ10_208.1 14).toInt = (σ.1 14).toInt := congrArg Int32.toInt (fd_tN eσ10_208 (by decide))
            have y_214 := fd_yIA (d := 22) eσ10_208 (rfl : σ.2.1 22 = _)
            have y_215 := fd_yIA (d := 23) eσ10_208 (rfl : σ.2.1 23 = _)
            have y_216 := fd_yIA (d := 24) eσ10_208 (rfl : σ.2.1 24 = _)
            have y_217 := fd_yIA (d := 25) eσ10_208 (rfl : σ.2.1 25 = _)
            have y_218 := fd_yIA (d := 26) eσ10_208 (rfl : σ.2.1 26 = _)
            have r_219 := fd_rng (σ10_208.1 0)
            refine fd_ok_itn (Int32.not_le.mpr (Int32.lt_iff_toInt_lt.mpr (by omega))) ?_
            have x_220 : ((¬ (0 ≤ p1.toInt ∧ p1.toInt < (σ.1 1).toInt)) ∧ (σ10_208.1 0).toInt = 1 ∧ (σ10_208.1 14).toInt = (σ.1 14).toInt) ∨ (¬ (¬ (0 ≤ p1.toInt ∧ p1.toInt < (σ.1 1).toInt)) ∧ ((σ.1 14).toInt = 60) ∧ (σ10_208.1 0).toInt = 2 ∧ (σ10_208.1 14).toInt = (σ.1 14).toInt) ∨ (¬ (¬ (0 ≤ p1.toInt ∧ p1.toInt < (σ.1 1).toInt)) ∧ ¬ ((σ.1 14).toInt = 60) ∧ (¬ (0 ≤ p2.toInt ∧ p2.toInt < p4.toInt ∧ p4.toInt ≤ 1000 ∧ 0 ≤ p3.toInt ∧ p3.toInt < p5.toInt ∧ p5.toInt ≤ 1000)) ∧ (σ10_208.1 0).toInt = 3 ∧ (σ10_208.1 14).toInt = (σ.1 14).toInt) ∨ (¬ (¬ (0 ≤ p1.toInt ∧ p1.toInt < (σ.1 1).toInt)) ∧ ¬ ((σ.1 14).toInt = 60) ∧ ¬ (¬ (0 ≤ p2.toInt ∧ p2.toInt < p4.toInt ∧ p4.toInt ≤ 1000 ∧ 0 ≤ p3.toInt ∧ p3.toInt < p5.toInt ∧ p5.toInt ≤ 1000)) ∧ (σ10_208.1 0).toInt = 0 ∧ (σ10_208.1 14).toInt = (σ.1 14).toInt + 1) := by omega
            have w_221 : fd_H (((¬ (σ10_208.1 0).toInt = 0 → σ10_208.2.1 22 = σ.2.1 22) ∧ ((σ10_208.1 0).toInt = 0 → ∃ j w : Int32, (j.toInt = (σ.1 14).toInt ∧ w.toInt = p1.toInt) ∧ σ10_208.2.1 22 = upd (σ.2.1 22) j.toNatClampNeg w))) := fd_hd (⟨fun _ => y_214, fun h => absurd h (by omega)⟩)
            have w_222 : fd_H (((¬ (σ10_208.1 0).toInt = 0 → σ10_208.2.1 23 = σ.2.1 23) ∧ ((σ10_208.1 0).toInt = 0 → ∃ j w : Int32, (j.toInt = (σ.1 14).toInt ∧ w.toInt = p2.toInt) ∧ σ10_208.2.1 23 = upd (σ.2.1 23) j.toNatClampNeg w))) := fd_hd (⟨fun _ => y_215, fun h => absurd h (by omega)⟩)
            have w_223 : fd_H (((¬ (σ10_208.1 0).toInt = 0 → σ10_208.2.1 24 = σ.2.1 24) ∧ ((σ10_208.1 0).toInt = 0 → ∃ j w : Int32, (j.toInt = (σ.1 14).toInt ∧ w.toInt = p3.toInt) ∧ σ10_208.2.1 24 = upd (σ.2.1 24) j.toNatClampNeg w))) := fd_hd (⟨fun _ => y_216, fun h => absurd h (by omega)⟩)
            have w_224 : fd_H (((¬ (σ10_208.1 0).toInt = 0 → σ10_208.2.1 25 = σ.2.1 25) ∧ ((σ10_208.1 0).toInt = 0 → ∃ j w : Int32, (j.toInt = (σ.1 14).toInt ∧ w.toInt = p4.toInt) ∧ σ10_208.2.1 25 = upd (σ.2.1 25) j.toNatClampNeg w))) := fd_hd (⟨fun _ => y_217, fun h => absurd h (by omega)⟩)
            have w_225 : fd_H (((¬ (σ10_208.1 0).toInt = 0 → σ10_208.2.1 26 = σ.2.1 26) ∧ ((σ10_208.1 0).toInt = 0 → ∃ j w : Int32, (j.toInt = (σ.1 14).toInt ∧ w.toInt = p5.toInt) ∧ σ10_208.2.1 26 = upd (σ.2.1 26) j.toNatClampNeg w))) := fd_hd (⟨fun _ => y_218, fun h => absurd h (by omega)⟩)
            have w_226 : fd_H (((σ10_208.1 0).toInt = 0 → (0 : Int32).toInt = (fd_cl (σ10_208.1 14) (σ10_208.2.1 22) p1 N 0 0).toInt)) := fd_hd (fun h => absurd h (by omega))
            exact fd_ok_some ⟨i_209, f_210, x_220, w_221, w_222, w_223, w_224, w_225, w_226⟩
          ·
            have d_227 := Int32.lt_iff_toInt_lt.mp (Int32.not_le.mp c_206)
            refine fd_ok_pb ?_
            refine fd_ok_itn (by decide) ?_
            have r_228 : (0 : Int) ≤ (σ.1 14).toInt ∧ (σ.1 14).toInt ≤ 60 := i0.1 14
            refine fd_ok_ite (fun c_229 => ?_) (fun c_229 => ?_)
            ·
              have d_230 := congrArg Int32.toInt c_229
              try unfold f_X11_shape_0_J82
              refine fd_ok_lt (fun σ10_231 eσ10_231 => ?_)
              have i_232 : fd_InvM σ10_231 := fd_inv_sI eσ10_231 i0 (fd_rng _)
              have f_233 : fd_fr [0, 14, 122, 123, 124, 125, 126] σ σ10_231 := fd_fr_tr f0 (fd_fr_sI eσ10_231 (by decide))
              have t_234 : (σ10_231.1 0).toInt = (2 : Int32).toInt := congrArg Int32.toInt (fd_tI eσ10_231)
              have t_235 : (σ10_231.1 1).toInt = (σ.1 1).toInt := congrArg Int32.toInt (fd_tN eσ10_231 (by decide))
              have t_236 : (σ10_231.1 14).toInt = (σ.1 14).toInt := congrArg Int32.toInt (fd_tN eσ10_231 (by decide))
              have y_237 := fd_yIA (d := 22) eσ10_231 (rfl : σ.2.1 22 = _)
              have y_238 := fd_yIA (d := 23) eσ10_231 (rfl : σ.2.1 23 = _)
              have y_239 := fd_yIA (d := 24) eσ10_231 (rfl : σ.2.1 24 = _)
              have y_240 := fd_yIA (d := 25) eσ10_231 (rfl : σ.2.1 25 = _)
              have y_241 := fd_yIA (d := 26) eσ10_231 (rfl : σ.2.1 26 = _)
              have r_242 := fd_rng (σ10_231.1 0)
              refine fd_ok_itn (Int32.not_le.mpr (Int32.lt_iff_toInt_lt.mpr (by omega))) ?_
              have x_243 : ((¬ (0 ≤ p1.toInt ∧ p1.toInt < (σ.1 1).toInt)) ∧ (σ10_231.1 0).toInt = 1 ∧ (σ10_231.1 14).toInt = (σ.1 14).toInt) ∨ (¬ (¬ (0 ≤ p1.toInt ∧ p1.toInt < (σ.1 1).toInt)) ∧ ((σ.1 14).toInt = 60) ∧ (σ10_231.1 0).toInt = 2 ∧ (σ10_231.1 14).toInt = (σ.1 14).toInt) ∨ (¬ (¬ (0 ≤ p1.toInt ∧ p1.toInt < (σ.1 1).toInt)) ∧ ¬ ((σ.1 14).toInt = 60) ∧ (¬ (0 ≤ p2.toInt ∧ p2.toInt < p4.toInt ∧ p4.toInt ≤ 1000 ∧ 0 ≤ p3.toInt ∧ p3.toInt < p5.toInt ∧ p5.toInt ≤ 1000)) ∧ (σ10_231.1 0).toInt = 3 ∧ (σ10_231.1 14).toInt = (σ.1 14).toInt) ∨ (¬ (¬ (0 ≤ p1.toInt ∧ p1.toInt < (σ.1 1).toInt)) ∧ ¬ ((σ.1 14).toInt = 60) ∧ ¬ (¬ (0 ≤ p2.toInt ∧ p2.toInt < p4.toInt ∧ p4.toInt ≤ 1000 ∧ 0 ≤ p3.toInt ∧ p3.toInt < p5.toInt ∧ p5.toInt ≤ 1000)) ∧ (σ10_231.1 0).toInt = 0 ∧ (σ10_231.1 14).toInt = (σ.1 14).toInt + 1) := by omega
              have w_244 : fd_H (((¬ (σ10_231.1 0).toInt = 0 → σ10_231.2.1 22 = σ.2.1 22) ∧ ((σ10_231.1 0).toInt = 0 → ∃ j w : Int32, (j.toInt = (σ.1 14).toInt ∧ w.toInt = p1.toInt) ∧ σ10_231.2.1 22 = upd (σ.2.1 22) j.toNatClampNeg w))) := fd_hd (⟨fun _ => y_237, fun h => absurd h (by omega)⟩)
              have w_245 : fd_H (((¬ (σ10_231.1 0).toInt = 0 → σ10_231.2.1 23 = σ.2.1 23) ∧ ((σ10_231.1 0).toInt = 0 → ∃ j w : Int32, (j.toInt = (σ.1 14).toInt ∧ w.toInt = p2.toInt) ∧ σ10_231.2.1 23 = upd (σ.2.1 23) j.toNatClampNeg w))) := fd_hd (⟨fun _ => y_238, fun h => absurd h (by omega)⟩)
              have w_246 : fd_H (((¬ (σ10_231.1 0).toInt = 0 → σ10_231.2.1 24 = σ.2.1 24) ∧ ((σ10_231.1 0).toInt = 0 → ∃ j w : Int32, (j.toInt = (σ.1 14).toInt ∧ w.toInt = p3.toInt) ∧ σ10_231.2.1 24 = upd (σ.2.1 24) j.toNatClampNeg w))) := fd_hd (⟨fun _ => y_239, fun h => absurd h (by omega)⟩)
              have w_247 : fd_H (((¬ (σ10_231.1 0).toInt = 0 → σ10_231.2.1 25 = σ.2.1 25) ∧ ((σ10_231.1 0).toInt = 0 → ∃ j w : Int32, (j.toInt = (σ.1 14).toInt ∧ w.toInt = p4.toInt) ∧ σ10_231.2.1 25 = upd (σ.2.1 25) j.toNatClampNeg w))) := fd_hd (⟨fun _ => y_240, fun h => absurd h (by omega)⟩)
              have w_248 : fd_H (((¬ (σ10_231.1 0).toInt = 0 → σ10_231.2.1 26 = σ.2.1 26) ∧ ((σ10_231.1 0).toInt = 0 → ∃ j w : Int32, (j.toInt = (σ.1 14).toInt ∧ w.toInt = p5.toInt) ∧ σ10_231.2.1 26 = upd (σ.2.1 26) j.toNatClampNeg w))) := fd_hd (⟨fun _ => y_241, fun h => absurd h (by omega)⟩)
              have w_249 : fd_H (((σ10_231.1 0).toInt = 0 → (0 : Int32).toInt = (fd_cl (σ10_231.1 14) (σ10_231.2.1 22) p1 N 0 0).toInt)) := fd_hd (fun h => absurd h (by omega))
              exact fd_ok_some ⟨i_232, f_233, x_243, w_244, w_245, w_246, w_247, w_248, w_249⟩
            ·
              have d_250 : ¬ (σ.1 14).toInt = (60 : Int32).toInt := fun q => c_229 (Int32.toInt_inj.mp q)
              refine fd_ok_itp (by decide) ?_
              try unfold f_X11_shape_0_J82
              refine fd_ok_lt (fun σ10_251 eσ10_251 => ?_)
              have i_252 : fd_InvM σ10_251 := fd_inv_sI eσ10_251 i0 (fd_rng _)
              have f_253 : fd_fr [0, 14, 122, 123, 124, 125, 126] σ σ10_251 := fd_fr_tr f0 (fd_fr_sI eσ10_251 (by decide))
              have t_254 : (σ10_251.1 0).toInt = (3 : Int32).toInt := congrArg Int32.toInt (fd_tI eσ10_251)
              have t_255 : (σ10_251.1 1).toInt = (σ.1 1).toInt := congrArg Int32.toInt (fd_tN eσ10_251 (by decide))
              have t_256 : (σ10_251.1 14).toInt = (σ.1 14).toInt := congrArg Int32.toInt (fd_tN eσ10_251 (by decide))
              have y_257 := fd_yIA (d := 22) eσ10_251 (rfl : σ.2.1 22 = _)
              have y_258 := fd_yIA (d := 23) eσ10_251 (rfl : σ.2.1 23 = _)
              have y_259 := fd_yIA (d := 24) eσ10_251 (rfl : σ.2.1 24 = _)
              have y_260 := fd_yIA (d := 25) eσ10_251 (rfl : σ.2.1 25 = _)
              have y_261 := fd_yIA (d := 26) eσ10_251 (rfl : σ.2.1 26 = _)
              have r_262 := fd_rng (σ10_251.1 0)
              refine fd_ok_itn (Int32.not_le.mpr (Int32.lt_iff_toInt_lt.mpr (by omega))) ?_
              have x_263 : ((¬ (0 ≤ p1.toInt ∧ p1.toInt < (σ.1 1).toInt)) ∧ (σ10_251.1 0).toInt = 1 ∧ (σ10_251.1 14).toInt = (σ.1 14).toInt) ∨ (¬ (¬ (0 ≤ p1.toInt ∧ p1.toInt < (σ.1 1).toInt)) ∧ ((σ.1 14).toInt = 60) ∧ (σ10_251.1 0).toInt = 2 ∧ (σ10_251.1 14).toInt = (σ.1 14).toInt) ∨ (¬ (¬ (0 ≤ p1.toInt ∧ p1.toInt < (σ.1 1).toInt)) ∧ ¬ ((σ.1 14).toInt = 60) ∧ (¬ (0 ≤ p2.toInt ∧ p2.toInt < p4.toInt ∧ p4.toInt ≤ 1000 ∧ 0 ≤ p3.toInt ∧ p3.toInt < p5.toInt ∧ p5.toInt ≤ 1000)) ∧ (σ10_251.1 0).toInt = 3 ∧ (σ10_251.1 14).toInt = (σ.1 14).toInt) ∨ (¬ (¬ (0 ≤ p1.toInt ∧ p1.toInt < (σ.1 1).toInt)) ∧ ¬ ((σ.1 14).toInt = 60) ∧ ¬ (¬ (0 ≤ p2.toInt ∧ p2.toInt < p4.toInt ∧ p4.toInt ≤ 1000 ∧ 0 ≤ p3.toInt ∧ p3.toInt < p5.toInt ∧ p5.toInt ≤ 1000)) ∧ (σ10_251.1 0).toInt = 0 ∧ (σ10_251.1 14).toInt = (σ.1 14).toInt + 1) := by omega
              have w_264 : fd_H (((¬ (σ10_251.1 0).toInt = 0 → σ10_251.2.1 22 = σ.2.1 22) ∧ ((σ10_251.1 0).toInt = 0 → ∃ j w : Int32, (j.toInt = (σ.1 14).toInt ∧ w.toInt = p1.toInt) ∧ σ10_251.2.1 22 = upd (σ.2.1 22) j.toNatClampNeg w))) := fd_hd (⟨fun _ => y_257, fun h => absurd h (by omega)⟩)
              have w_265 : fd_H (((¬ (σ10_251.1 0).toInt = 0 → σ10_251.2.1 23 = σ.2.1 23) ∧ ((σ10_251.1 0).toInt = 0 → ∃ j w : Int32, (j.toInt = (σ.1 14).toInt ∧ w.toInt = p2.toInt) ∧ σ10_251.2.1 23 = upd (σ.2.1 23) j.toNatClampNeg w))) := fd_hd (⟨fun _ => y_258, fun h => absurd h (by omega)⟩)
              have w_266 : fd_H (((¬ (σ10_251.1 0).toInt = 0 → σ10_251.2.1 24 = σ.2.1 24) ∧ ((σ10_251.1 0).toInt = 0 → ∃ j w : Int32, (j.toInt = (σ.1 14).toInt ∧ w.toInt = p3.toInt) ∧ σ10_251.2.1 24 = upd (σ.2.1 24) j.toNatClampNeg w))) := fd_hd (⟨fun _ => y_259, fun h => absurd h (by omega)⟩)
              have w_267 : fd_H (((¬ (σ10_251.1 0).toInt = 0 → σ10_251.2.1 25 = σ.2.1 25) ∧ ((σ10_251.1 0).toInt = 0 → ∃ j w : Int32, (j.toInt = (σ.1 14).toInt ∧ w.toInt = p4.toInt) ∧ σ10_251.2.1 25 = upd (σ.2.1 25) j.toNatClampNeg w))) := fd_hd (⟨fun _ => y_260, fun h => absurd h (by omega)⟩)
              have w_268 : fd_H (((¬ (σ10_251.1 0).toInt = 0 → σ10_251.2.1 26 = σ.2.1 26) ∧ ((σ10_251.1 0).toInt = 0 → ∃ j w : Int32, (j.toInt = (σ.1 14).toInt ∧ w.toInt = p5.toInt) ∧ σ10_251.2.1 26 = upd (σ.2.1 26) j.toNatClampNeg w))) := fd_hd (⟨fun _ => y_261, fun h => absurd h (by omega)⟩)
              have w_269 : fd_H (((σ10_251.1 0).toInt = 0 → (0 : Int32).toInt = (fd_cl (σ10_251.1 14) (σ10_251.2.1 22) p1 N 0 0).toInt)) := fd_hd (fun h => absurd h (by omega))
              exact fd_ok_some ⟨i_252, f_253, x_263, w_264, w_265, w_266, w_267, w_268, w_269⟩
      ·
        have d_270 := Int32.le_iff_toInt_le.mp (Int32.not_lt.mp c_181)
        refine fd_ok_ite (fun c_271 => ?_) (fun c_271 => ?_)
        ·
          have d_272 := Int32.lt_iff_toInt_lt.mp c_271
          try unfold f_X11_shape_0_J40
          try unfold f_X11_shape_0_J41
          refine fd_ok_bd ?_
          try unfold f_X11_isIn
          refine fd_ok_ite (fun c_273 => ?_) (fun c_273 => ?_)
          ·
            have d_274 := Int32.lt_iff_toInt_lt.mp c_273
            refine fd_ok_pb ?_
            refine fd_ok_itp (by decide) ?_
            try unfold f_X11_shape_0_J82
            refine fd_ok_lt (fun σ10_275 eσ10_275 => ?_)
            have i_276 : fd_InvM σ10_275 := fd_inv_sI eσ10_275 i0 (fd_rng _)
            have f_277 : fd_fr [0, 14, 122, 123, 124, 125, 126] σ σ10_275 := fd_fr_tr f0 (fd_fr_sI eσ10_275 (by decide))
            have t_278 : (σ10_275.1 0).toInt = (1 : Int32).toInt := congrArg Int32.toInt (fd_tI eσ10_275)
            have t_279 : (σ10_275.1 1).toInt = (σ.1 1).toInt := congrArg Int32.toInt (fd_tN eσ10_275 (by decide))
            have t_280 : (σ10_275.1 14).toInt = (σ.1 14).toInt := congrArg Int32.toInt (fd_tN eσ10_275 (by decide))
            have y_281 := fd_yIA (d := 22) eσ10_275 (rfl : σ.2.1 22 = _)
            have y_282 := fd_yIA (d := 23) eσ10_275 (rfl : σ.2.1 23 = _)
            have y_283 := fd_yIA (d := 24) eσ10_275 (rfl : σ.2.1 24 = _)
            have y_284 := fd_yIA (d := 25) eσ10_275 (rfl : σ.2.1 25 = _)
            have y_285 := fd_yIA (d := 26) eσ10_275 (rfl : σ.2.1 26 = _)
            have r_286 := fd_rng (σ10_275.1 0)
            refine fd_ok_itn (Int32.not_le.mpr (Int32.lt_iff_toInt_lt.mpr (by omega))) ?_
            have x_287 : ((¬ (0 ≤ p1.toInt ∧ p1.toInt < (σ.1 1).toInt)) ∧ (σ10_275.1 0).toInt = 1 ∧ (σ10_275.1 14).toInt = (σ.1 14).toInt) ∨ (¬ (¬ (0 ≤ p1.toInt ∧ p1.toInt < (σ.1 1).toInt)) ∧ ((σ.1 14).toInt = 60) ∧ (σ10_275.1 0).toInt = 2 ∧ (σ10_275.1 14).toInt = (σ.1 14).toInt) ∨ (¬ (¬ (0 ≤ p1.toInt ∧ p1.toInt < (σ.1 1).toInt)) ∧ ¬ ((σ.1 14).toInt = 60) ∧ (¬ (0 ≤ p2.toInt ∧ p2.toInt < p4.toInt ∧ p4.toInt ≤ 1000 ∧ 0 ≤ p3.toInt ∧ p3.toInt < p5.toInt ∧ p5.toInt ≤ 1000)) ∧ (σ10_275.1 0).toInt = 3 ∧ (σ10_275.1 14).toInt = (σ.1 14).toInt) ∨ (¬ (¬ (0 ≤ p1.toInt ∧ p1.toInt < (σ.1 1).toInt)) ∧ ¬ ((σ.1 14).toInt = 60) ∧ ¬ (¬ (0 ≤ p2.toInt ∧ p2.toInt < p4.toInt ∧ p4.toInt ≤ 1000 ∧ 0 ≤ p3.toInt ∧ p3.toInt < p5.toInt ∧ p5.toInt ≤ 1000)) ∧ (σ10_275.1 0).toInt = 0 ∧ (σ10_275.1 14).toInt = (σ.1 14).toInt + 1) := by omega
            have w_288 : fd_H (((¬ (σ10_275.1 0).toInt = 0 → σ10_275.2.1 22 = σ.2.1 22) ∧ ((σ10_275.1 0).toInt = 0 → ∃ j w : Int32, (j.toInt = (σ.1 14).toInt ∧ w.toInt = p1.toInt) ∧ σ10_275.2.1 22 = upd (σ.2.1 22) j.toNatClampNeg w))) := fd_hd (⟨fun _ => y_281, fun h => absurd h (by omega)⟩)
            have w_289 : fd_H (((¬ (σ10_275.1 0).toInt = 0 → σ10_275.2.1 23 = σ.2.1 23) ∧ ((σ10_275.1 0).toInt = 0 → ∃ j w : Int32, (j.toInt = (σ.1 14).toInt ∧ w.toInt = p2.toInt) ∧ σ10_275.2.1 23 = upd (σ.2.1 23) j.toNatClampNeg w))) := fd_hd (⟨fun _ => y_282, fun h => absurd h (by omega)⟩)
            have w_290 : fd_H (((¬ (σ10_275.1 0).toInt = 0 → σ10_275.2.1 24 = σ.2.1 24) ∧ ((σ10_275.1 0).toInt = 0 → ∃ j w : Int32, (j.toInt = (σ.1 14).toInt ∧ w.toInt = p3.toInt) ∧ σ10_275.2.1 24 = upd (σ.2.1 24) j.toNatClampNeg w))) := fd_hd (⟨fun _ => y_283, fun h => absurd h (by omega)⟩)
            have w_291 : fd_H (((¬ (σ10_275.1 0).toInt = 0 → σ10_275.2.1 25 = σ.2.1 25) ∧ ((σ10_275.1 0).toInt = 0 → ∃ j w : Int32, (j.toInt = (σ.1 14).toInt ∧ w.toInt = p4.toInt) ∧ σ10_275.2.1 25 = upd (σ.2.1 25) j.toNatClampNeg w))) := fd_hd (⟨fun _ => y_284, fun h => absurd h (by omega)⟩)
            have w_292 : fd_H (((¬ (σ10_275.1 0).toInt = 0 → σ10_275.2.1 26 = σ.2.1 26) ∧ ((σ10_275.1 0).toInt = 0 → ∃ j w : Int32, (j.toInt = (σ.1 14).toInt ∧ w.toInt = p5.toInt) ∧ σ10_275.2.1 26 = upd (σ.2.1 26) j.toNatClampNeg w))) := fd_hd (⟨fun _ => y_285, fun h => absurd h (by omega)⟩)
            have w_293 : fd_H (((σ10_275.1 0).toInt = 0 → (0 : Int32).toInt = (fd_cl (σ10_275.1 14) (σ10_275.2.1 22) p1 N 0 0).toInt)) := fd_hd (fun h => absurd h (by omega))
            exact fd_ok_some ⟨i_276, f_277, x_287, w_288, w_289, w_290, w_291, w_292, w_293⟩
          ·
            have d_294 := Int32.le_iff_toInt_le.mp (Int32.not_lt.mp c_273)
            have r_295 : (0 : Int) ≤ (σ.1 1).toInt ∧ (σ.1 1).toInt ≤ 200 := i0.1 1
            refine fd_ok_ite (fun c_296 => ?_) (fun c_296 => ?_)
            ·
              have d_297 := Int32.le_iff_toInt_le.mp c_296
              refine fd_ok_pb ?_
              refine fd_ok_itp (by decide) ?_
              try unfold f_X11_shape_0_J82
              refine fd_ok_lt (fun σ10_298 eσ10_298 => ?_)
              have i_299 : fd_InvM σ10_298 := fd_inv_sI eσ10_298 i0 (fd_rng _)
              have f_300 : fd_fr [0, 14, 122, 123, 124, 125, 126] σ σ10_298 := fd_fr_tr f0 (fd_fr_sI eσ10_298 (by decide))
              have t_301 : (σ10_298.1 0).toInt = (1 : Int32).toInt := congrArg Int32.toInt (fd_tI eσ10_298)
              have t_302 : (σ10_298.1 1).toInt = (σ.1 1).toInt := congrArg Int32.toInt (fd_tN eσ10_298 (by decide))
              have t_303 : (σ10_298.1 14).toInt = (σ.1 14).toInt := congrArg Int32.toInt (fd_tN eσ10_298 (by decide))
              have y_304 := fd_yIA (d := 22) eσ10_298 (rfl : σ.2.1 22 = _)
              have y_305 := fd_yIA (d := 23) eσ10_298 (rfl : σ.2.1 23 = _)
              have y_306 := fd_yIA (d := 24) eσ10_298 (rfl : σ.2.1 24 = _)
              have y_307 := fd_yIA (d := 25) eσ10_298 (rfl : σ.2.1 25 = _)
              have y_308 := fd_yIA (d := 26) eσ10_298 (rfl : σ.2.1 26 = _)
              have r_309 := fd_rng (σ10_298.1 0)
              refine fd_ok_itn (Int32.not_le.mpr (Int32.lt_iff_toInt_lt.mpr (by omega))) ?_
              have x_310 : ((¬ (0 ≤ p1.toInt ∧ p1.toInt < (σ.1 1).toInt)) ∧ (σ10_298.1 0).toInt = 1 ∧ (σ10_298.1 14).toInt = (σ.1 14).toInt) ∨ (¬ (¬ (0 ≤ p1.toInt ∧ p1.toInt < (σ.1 1).toInt)) ∧ ((σ.1 14).toInt = 60) ∧ (σ10_298.1 0).toInt = 2 ∧ (σ10_298.1 14).toInt = (σ.1 14).toInt) ∨ (¬ (¬ (0 ≤ p1.toInt ∧ p1.toInt < (σ.1 1).toInt)) ∧ ¬ ((σ.1 14).toInt = 60) ∧ (¬ (0 ≤ p2.toInt ∧ p2.toInt < p4.toInt ∧ p4.toInt ≤ 1000 ∧ 0 ≤ p3.toInt ∧ p3.toInt < p5.toInt ∧ p5.toInt ≤ 1000)) ∧ (σ10_298.1 0).toInt = 3 ∧ (σ10_298.1 14).toInt = (σ.1 14).toInt) ∨ (¬ (¬ (0 ≤ p1.toInt ∧ p1.toInt < (σ.1 1).toInt)) ∧ ¬ ((σ.1 14).toInt = 60) ∧ ¬ (¬ (0 ≤ p2.toInt ∧ p2.toInt < p4.toInt ∧ p4.toInt ≤ 1000 ∧ 0 ≤ p3.toInt ∧ p3.toInt < p5.toInt ∧ p5.toInt ≤ 1000)) ∧ (σ10_298.1 0).toInt = 0 ∧ (σ10_298.1 14).toInt = (σ.1 14).toInt + 1) := by omega
              have w_311 : fd_H (((¬ (σ10_298.1 0).toInt = 0 → σ10_298.2.1 22 = σ.2.1 22) ∧ ((σ10_298.1 0).toInt = 0 → ∃ j w : Int32, (j.toInt = (σ.1 14).toInt ∧ w.toInt = p1.toInt) ∧ σ10_298.2.1 22 = upd (σ.2.1 22) j.toNatClampNeg w))) := fd_hd (⟨fun _ => y_304, fun h => absurd h (by omega)⟩)
              have w_312 : fd_H (((¬ (σ10_298.1 0).toInt = 0 → σ10_298.2.1 23 = σ.2.1 23) ∧ ((σ10_298.1 0).toInt = 0 → ∃ j w : Int32, (j.toInt = (σ.1 14).toInt ∧ w.toInt = p2.toInt) ∧ σ10_298.2.1 23 = upd (σ.2.1 23) j.toNatClampNeg w))) := fd_hd (⟨fun _ => y_305, fun h => absurd h (by omega)⟩)
              have w_313 : fd_H (((¬ (σ10_298.1 0).toInt = 0 → σ10_298.2.1 24 = σ.2.1 24) ∧ ((σ10_298.1 0).toInt = 0 → ∃ j w : Int32, (j.toInt = (σ.1 14).toInt ∧ w.toInt = p3.toInt) ∧ σ10_298.2.1 24 = upd (σ.2.1 24) j.toNatClampNeg w))) := fd_hd (⟨fun _ => y_306, fun h => absurd h (by omega)⟩)
              have w_314 : fd_H (((¬ (σ10_298.1 0).toInt = 0 → σ10_298.2.1 25 = σ.2.1 25) ∧ ((σ10_298.1 0).toInt = 0 → ∃ j w : Int32, (j.toInt = (σ.1 14).toInt ∧ w.toInt = p4.toInt) ∧ σ10_298.2.1 25 = upd (σ.2.1 25) j.toNatClampNeg w))) := fd_hd (⟨fun _ => y_307, fun h => absurd h (by omega)⟩)
              have w_315 : fd_H (((¬ (σ10_298.1 0).toInt = 0 → σ10_298.2.1 26 = σ.2.1 26) ∧ ((σ10_298.1 0).toInt = 0 → ∃ j w : Int32, (j.toInt = (σ.1 14).toInt ∧ w.toInt = p5.toInt) ∧ σ10_298.2.1 26 = upd (σ.2.1 26) j.toNatClampNeg w))) := fd_hd (⟨fun _ => y_308, fun h => absurd h (by omega)⟩)
              have w_316 : fd_H (((σ10_298.1 0).toInt = 0 → (0 : Int32).toInt = (fd_cl (σ10_298.1 14) (σ10_298.2.1 22) p1 N 0 0).toInt)) := fd_hd (fun h => absurd h (by omega))
              exact fd_ok_some ⟨i_299, f_300, x_310, w_311, w_312, w_313, w_314, w_315, w_316⟩
            ·
              have d_317 := Int32.lt_iff_toInt_lt.mp (Int32.not_le.mp c_296)
              refine fd_ok_pb ?_
              refine fd_ok_itn (by decide) ?_
              have r_318 : (0 : Int) ≤ (σ.1 14).toInt ∧ (σ.1 14).toInt ≤ 60 := i0.1 14
              refine fd_ok_ite (fun c_319 => ?_) (fun c_319 => ?_)
              ·
                have d_320 := congrArg Int32.toInt c_319
                try unfold f_X11_shape_0_J82
                refine fd_ok_lt (fun σ10_321 eσ10_321 => ?_)
                have i_322 : fd_InvM σ10_321 := fd_inv_sI eσ10_321 i0 (fd_rng _)
                have f_323 : fd_fr [0, 14, 122, 123, 124, 125, 126] σ σ10_321 := fd_fr_tr f0 (fd_fr_sI eσ10_321 (by decide))
                have t_324 : (σ10_321.1 0).toInt = (2 : Int32).toInt := congrArg Int32.toInt (fd_tI eσ10_321)
                have t_325 : (σ10_321.1 1).toInt = (σ.1 1).toInt := congrArg Int32.toInt (fd_tN eσ10_321 (by decide))
                have t_326 : (σ10_321.1 14).toInt = (σ.1 14).toInt := congrArg Int32.toInt (fd_tN eσ10_321 (by decide))
                have y_327 := fd_yIA (d := 22) eσ10_321 (rfl : σ.2.1 22 = _)
                have y_328 := fd_yIA (d := 23) eσ10_321 (rfl : σ.2.1 23 = _)
                have y_329 := fd_yIA (d := 24) eσ10_321 (rfl : σ.2.1 24 = _)
                have y_330 := fd_yIA (d := 25) eσ10_321 (rfl : σ.2.1 25 = _)
                have y_331 := fd_yIA (d := 26) eσ10_321 (rfl : σ.2.1 26 = _)
                have r_332 := fd_rng (σ10_321.1 0)
                refine fd_ok_itn (Int32.not_le.mpr (Int32.lt_iff_toInt_lt.mpr (by omega))) ?_
                have x_333 : ((¬ (0 ≤ p1.toInt ∧ p1.toInt < (σ.1 1).toInt)) ∧ (σ10_321.1 0).toInt = 1 ∧ (σ10_321.1 14).toInt = (σ.1 14).toInt) ∨ (¬ (¬ (0 ≤ p1.toInt ∧ p1.toInt < (σ.1 1).toInt)) ∧ ((σ.1 14).toInt = 60) ∧ (σ10_321.1 0).toInt = 2 ∧ (σ10_321.1 14).toInt = (σ.1 14).toInt) ∨ (¬ (¬ (0 ≤ p1.toInt ∧ p1.toInt < (σ.1 1).toInt)) ∧ ¬ ((σ.1 14).toInt = 60) ∧ (¬ (0 ≤ p2.toInt ∧ p2.toInt < p4.toInt ∧ p4.toInt ≤ 1000 ∧ 0 ≤ p3.toInt ∧ p3.toInt < p5.toInt ∧ p5.toInt ≤ 1000)) ∧ (σ10_321.1 0).toInt = 3 ∧ (σ10_321.1 14).toInt = (σ.1 14).toInt) ∨ (¬ (¬ (0 ≤ p1.toInt ∧ p1.toInt < (σ.1 1).toInt)) ∧ ¬ ((σ.1 14).toInt = 60) ∧ ¬ (¬ (0 ≤ p2.toInt ∧ p2.toInt < p4.toInt ∧ p4.toInt ≤ 1000 ∧ 0 ≤ p3.toInt ∧ p3.toInt < p5.toInt ∧ p5.toInt ≤ 1000)) ∧ (σ10_321.1 0).toInt = 0 ∧ (σ10_321.1 14).toInt = (σ.1 14).toInt + 1) := by omega
                have w_334 : fd_H (((¬ (σ10_321.1 0).toInt = 0 → σ10_321.2.1 22 = σ.2.1 22) ∧ ((σ10_321.1 0).toInt = 0 → ∃ j w : Int32, (j.toInt = (σ.1 14).toInt ∧ w.toInt = p1.toInt) ∧ σ10_321.2.1 22 = upd (σ.2.1 22) j.toNatClampNeg w))) := fd_hd (⟨fun _ => y_327, fun h => absurd h (by omega)⟩)
                have w_335 : fd_H (((¬ (σ10_321.1 0).toInt = 0 → σ10_321.2.1 23 = σ.2.1 23) ∧ ((σ10_321.1 0).toInt = 0 → ∃ j w : Int32, (j.toInt = (σ.1 14).toInt ∧ w.toInt = p2.toInt) ∧ σ10_321.2.1 23 = upd (σ.2.1 23) j.toNatClampNeg w))) := fd_hd (⟨fun _ => y_328, fun h => absurd h (by omega)⟩)
                have w_336 : fd_H (((¬ (σ10_321.1 0).toInt = 0 → σ10_321.2.1 24 = σ.2.1 24) ∧ ((σ10_321.1 0).toInt = 0 → ∃ j w : Int32, (j.toInt = (σ.1 14).toInt ∧ w.toInt = p3.toInt) ∧ σ10_321.2.1 24 = upd (σ.2.1 24) j.toNatClampNeg w))) := fd_hd (⟨fun _ => y_329, fun h => absurd h (by omega)⟩)
                have w_337 : fd_H (((¬ (σ10_321.1 0).toInt = 0 → σ10_321.2.1 25 = σ.2.1 25) ∧ ((σ10_321.1 0).toInt = 0 → ∃ j w : Int32, (j.toInt = (σ.1 14).toInt ∧ w.toInt = p4.toInt) ∧ σ10_321.2.1 25 = upd (σ.2.1 25) j.toNatClampNeg w))) := fd_hd (⟨fun _ => y_330, fun h => absurd h (by omega)⟩)
                have w_338 : fd_H (((¬ (σ10_321.1 0).toInt = 0 → σ10_321.2.1 26 = σ.2.1 26) ∧ ((σ10_321.1 0).toInt = 0 → ∃ j w : Int32, (j.toInt = (σ.1 14).toInt ∧ w.toInt = p5.toInt) ∧ σ10_321.2.1 26 = upd (σ.2.1 26) j.toNatClampNeg w))) := fd_hd (⟨fun _ => y_331, fun h => absurd h (by omega)⟩)
                have w_339 : fd_H (((σ10_321.1 0).toInt = 0 → (0 : Int32).toInt = (fd_cl (σ10_321.1 14) (σ10_321.2.1 22) p1 N 0 0).toInt)) := fd_hd (fun h => absurd h (by omega))
                exact fd_ok_some ⟨i_322, f_323, x_333, w_334, w_335, w_336, w_337, w_338, w_339⟩
              ·
                have d_340 : ¬ (σ.1 14).toInt = (60 : Int32).toInt := fun q => c_319 (Int32.toInt_inj.mp q)
                refine fd_ok_itp (by decide) ?_
                try unfold f_X11_shape_0_J82
                refine fd_ok_lt (fun σ10_341 eσ10_341 => ?_)
                have i_342 : fd_InvM σ10_341 := fd_inv_sI eσ10_341 i0 (fd_rng _)
                have f_343 : fd_fr [0, 14, 122, 123, 124, 125, 126] σ σ10_341 := fd_fr_tr f0 (fd_fr_sI eσ10_341 (by decide))
                have t_344 : (σ10_341.1 0).toInt = (3 : Int32).toInt := congrArg Int32.toInt (fd_tI eσ10_341)
                have t_345 : (σ10_341.1 1).toInt = (σ.1 1).toInt := congrArg Int32.toInt (fd_tN eσ10_341 (by decide))
                have t_346 : (σ10_341.1 14).toInt = (σ.1 14).toInt := congrArg Int32.toInt (fd_tN eσ10_341 (by decide))
                have y_347 := fd_yIA (d := 22) eσ10_341 (rfl : σ.2.1 22 = _)
                have y_348 := fd_yIA (d := 23) eσ10_341 (rfl : σ.2.1 23 = _)
                have y_349 := fd_yIA (d := 24) eσ10_341 (rfl : σ.2.1 24 = _)
                have y_350 := fd_yIA (d := 25) eσ10_341 (rfl : σ.2.1 25 = _)
                have y_351 := fd_yIA (d := 26) eσ10_341 (rfl : σ.2.1 26 = _)
                have r_352 := fd_rng (σ10_341.1 0)
                refine fd_ok_itn (Int32.not_le.mpr (Int32.lt_iff_toInt_lt.mpr (by omega))) ?_
                have x_353 : ((¬ (0 ≤ p1.toInt ∧ p1.toInt < (σ.1 1).toInt)) ∧ (σ10_341.1 0).toInt = 1 ∧ (σ10_341.1 14).toInt = (σ.1 14).toInt) ∨ (¬ (¬ (0 ≤ p1.toInt ∧ p1.toInt < (σ.1 1).toInt)) ∧ ((σ.1 14).toInt = 60) ∧ (σ10_341.1 0).toInt = 2 ∧ (σ10_341.1 14).toInt = (σ.1 14).toInt) ∨ (¬ (¬ (0 ≤ p1.toInt ∧ p1.toInt < (σ.1 1).toInt)) ∧ ¬ ((σ.1 14).toInt = 60) ∧ (¬ (0 ≤ p2.toInt ∧ p2.toInt < p4.toInt ∧ p4.toInt ≤ 1000 ∧ 0 ≤ p3.toInt ∧ p3.toInt < p5.toInt ∧ p5.toInt ≤ 1000)) ∧ (σ10_341.1 0).toInt = 3 ∧ (σ10_341.1 14).toInt = (σ.1 14).toInt) ∨ (¬ (¬ (0 ≤ p1.toInt ∧ p1.toInt < (σ.1 1).toInt)) ∧ ¬ ((σ.1 14).toInt = 60) ∧ ¬ (¬ (0 ≤ p2.toInt ∧ p2.toInt < p4.toInt ∧ p4.toInt ≤ 1000 ∧ 0 ≤ p3.toInt ∧ p3.toInt < p5.toInt ∧ p5.toInt ≤ 1000)) ∧ (σ10_341.1 0).toInt = 0 ∧ (σ10_341.1 14).toInt = (σ.1 14).toInt + 1) := by omega
                have w_354 : fd_H (((¬ (σ10_341.1 0).toInt = 0 → σ10_341.2.1 22 = σ.2.1 22) ∧ ((σ10_341.1 0).toInt = 0 → ∃ j w : Int32, (j.toInt = (σ.1 14).toInt ∧ w.toInt = p1.toInt) ∧ σ10_341.2.1 22 = upd (σ.2.1 22) j.toNatClampNeg w))) := fd_hd (⟨fun _ => y_347, fun h => absurd h (by omega)⟩)
                have w_355 : fd_H (((¬ (σ10_341.1 0).toInt = 0 → σ10_341.2.1 23 = σ.2.1 23) ∧ ((σ10_341.1 0).toInt = 0 → ∃ j w : Int32, (j.toInt = (σ.1 14).toInt ∧ w.toInt = p2.toInt) ∧ σ10_341.2.1 23 = upd (σ.2.1 23) j.toNatClampNeg w))) := fd_hd (⟨fun _ => y_348, fun h => absurd h (by omega)⟩)
                have w_356 : fd_H (((¬ (σ10_341.1 0).toInt = 0 → σ10_341.2.1 24 = σ.2.1 24) ∧ ((σ10_341.1 0).toInt = 0 → ∃ j w : Int32, (j.toInt = (σ.1 14).toInt ∧ w.toInt = p3.toInt) ∧ σ10_341.2.1 24 = upd (σ.2.1 24) j.toNatClampNeg w))) := fd_hd (⟨fun _ => y_349, fun h => absurd h (by omega)⟩)
                have w_357 : fd_H (((¬ (σ10_341.1 0).toInt = 0 → σ10_341.2.1 25 = σ.2.1 25) ∧ ((σ10_341.1 0).toInt = 0 → ∃ j w : Int32, (j.toInt = (σ.1 14).toInt ∧ w.toInt = p4.toInt) ∧ σ10_341.2.1 25 = upd (σ.2.1 25) j.toNatClampNeg w))) := fd_hd (⟨fun _ => y_350, fun h => absurd h (by omega)⟩)
                have w_358 : fd_H (((¬ (σ10_341.1 0).toInt = 0 → σ10_341.2.1 26 = σ.2.1 26) ∧ ((σ10_341.1 0).toInt = 0 → ∃ j w : Int32, (j.toInt = (σ.1 14).toInt ∧ w.toInt = p5.toInt) ∧ σ10_341.2.1 26 = upd (σ.2.1 26) j.toNatClampNeg w))) := fd_hd (⟨fun _ => y_351, fun h => absurd h (by omega)⟩)
                have w_359 : fd_H (((σ10_341.1 0).toInt = 0 → (0 : Int32).toInt = (fd_cl (σ10_341.1 14) (σ10_341.2.1 22) p1 N 0 0).toInt)) := fd_hd (fun h => absurd h (by omega))
                exact fd_ok_some ⟨i_342, f_343, x_353, w_354, w_355, w_356, w_357, w_358, w_359⟩
        ·
          have d_360 := Int32.le_iff_toInt_le.mp (Int32.not_lt.mp c_271)
          refine fd_ok_ite (fun c_361 => ?_) (fun c_361 => ?_)
          ·
            have d_362 := Int32.le_iff_toInt_le.mp c_361
            try unfold f_X11_shape_0_J40
            try unfold f_X11_shape_0_J41
            refine fd_ok_bd ?_
            try unfold f_X11_isIn
            refine fd_ok_ite (fun c_363 => ?_) (fun c_363 => ?_)
            ·
              have d_364 := Int32.lt_iff_toInt_lt.mp c_363
              refine fd_ok_pb ?_
              refine fd_ok_itp (by decide) ?_
              try unfold f_X11_shape_0_J82
              refine fd_ok_lt (fun σ10_365 eσ10_365 => ?_)
              have i_366 : fd_InvM σ10_365 := fd_inv_sI eσ10_365 i0 (fd_rng _)
              have f_367 : fd_fr [0, 14, 122, 123, 124, 125, 126] σ σ10_365 := fd_fr_tr f0 (fd_fr_sI eσ10_365 (by decide))
              have t_368 : (σ10_365.1 0).toInt = (1 : Int32).toInt := congrArg Int32.toInt (fd_tI eσ10_365)
              have t_369 : (σ10_365.1 1).toInt = (σ.1 1).toInt := congrArg Int32.toInt (fd_tN eσ10_365 (by decide))
              have t_370 : (σ10_365.1 14).toInt = (σ.1 14).toInt := congrArg Int32.toInt (fd_tN eσ10_365 (by decide))
              have y_371 := fd_yIA (d := 22) eσ10_365 (rfl : σ.2.1 22 = _)
              have y_372 := fd_yIA (d := 23) eσ10_365 (rfl : σ.2.1 23 = _)
              have y_373 := fd_yIA (d := 24) eσ10_365 (rfl : σ.2.1 24 = _)
              have y_374 := fd_yIA (d := 25) eσ10_365 (rfl : σ.2.1 25 = _)
              have y_375 := fd_yIA (d := 26) eσ10_365 (rfl : σ.2.1 26 = _)
              have r_376 := fd_rng (σ10_365.1 0)
              refine fd_ok_itn (Int32.not_le.mpr (Int32.lt_iff_toInt_lt.mpr (by omega))) ?_
              have x_377 : ((¬ (0 ≤ p1.toInt ∧ p1.toInt < (σ.1 1).toInt)) ∧ (σ10_365.1 0).toInt = 1 ∧ (σ10_365.1 14).toInt = (σ.1 14).toInt) ∨ (¬ (¬ (0 ≤ p1.toInt ∧ p1.toInt < (σ.1 1).toInt)) ∧ ((σ.1 14).toInt = 60) ∧ (σ10_365.1 0).toInt = 2 ∧ (σ10_365.1 14).toInt = (σ.1 14).toInt) ∨ (¬ (¬ (0 ≤ p1.toInt ∧ p1.toInt < (σ.1 1).toInt)) ∧ ¬ ((σ.1 14).toInt = 60) ∧ (¬ (0 ≤ p2.toInt ∧ p2.toInt < p4.toInt ∧ p4.toInt ≤ 1000 ∧ 0 ≤ p3.toInt ∧ p3.toInt < p5.toInt ∧ p5.toInt ≤ 1000)) ∧ (σ10_365.1 0).toInt = 3 ∧ (σ10_365.1 14).toInt = (σ.1 14).toInt) ∨ (¬ (¬ (0 ≤ p1.toInt ∧ p1.toInt < (σ.1 1).toInt)) ∧ ¬ ((σ.1 14).toInt = 60) ∧ ¬ (¬ (0 ≤ p2.toInt ∧ p2.toInt < p4.toInt ∧ p4.toInt ≤ 1000 ∧ 0 ≤ p3.toInt ∧ p3.toInt < p5.toInt ∧ p5.toInt ≤ 1000)) ∧ (σ10_365.1 0).toInt = 0 ∧ (σ10_365.1 14).toInt = (σ.1 14).toInt + 1) := by omega
              have w_378 : fd_H (((¬ (σ10_365.1 0).toInt = 0 → σ10_365.2.1 22 = σ.2.1 22) ∧ ((σ10_365.1 0).toInt = 0 → ∃ j w : Int32, (j.toInt = (σ.1 14).toInt ∧ w.toInt = p1.toInt) ∧ σ10_365.2.1 22 = upd (σ.2.1 22) j.toNatClampNeg w))) := fd_hd (⟨fun _ => y_371, fun h => absurd h (by omega)⟩)
              have w_379 : fd_H (((¬ (σ10_365.1 0).toInt = 0 → σ10_365.2.1 23 = σ.2.1 23) ∧ ((σ10_365.1 0).toInt = 0 → ∃ j w : Int32, (j.toInt = (σ.1 14).toInt ∧ w.toInt = p2.toInt) ∧ σ10_365.2.1 23 = upd (σ.2.1 23) j.toNatClampNeg w))) := fd_hd (⟨fun _ => y_372, fun h => absurd h (by omega)⟩)
              have w_380 : fd_H (((¬ (σ10_365.1 0).toInt = 0 → σ10_365.2.1 24 = σ.2.1 24) ∧ ((σ10_365.1 0).toInt = 0 → ∃ j w : Int32, (j.toInt = (σ.1 14).toInt ∧ w.toInt = p3.toInt) ∧ σ10_365.2.1 24 = upd (σ.2.1 24) j.toNatClampNeg w))) := fd_hd (⟨fun _ => y_373, fun h => absurd h (by omega)⟩)
              have w_381 : fd_H (((¬ (σ10_365.1 0).toInt = 0 → σ10_365.2.1 25 = σ.2.1 25) ∧ ((σ10_365.1 0).toInt = 0 → ∃ j w : Int32, (j.toInt = (σ.1 14).toInt ∧ w.toInt = p4.toInt) ∧ σ10_365.2.1 25 = upd (σ.2.1 25) j.toNatClampNeg w))) := fd_hd (⟨fun _ => y_374, fun h => absurd h (by omega)⟩)
              have w_382 : fd_H (((¬ (σ10_365.1 0).toInt = 0 → σ10_365.2.1 26 = σ.2.1 26) ∧ ((σ10_365.1 0).toInt = 0 → ∃ j w : Int32, (j.toInt = (σ.1 14).toInt ∧ w.toInt = p5.toInt) ∧ σ10_365.2.1 26 = upd (σ.2.1 26) j.toNatClampNeg w))) := fd_hd (⟨fun _ => y_375, fun h => absurd h (by omega)⟩)
              have w_383 : fd_H (((σ10_365.1 0).toInt = 0 → (0 : Int32).toInt = (fd_cl (σ10_365.1 14) (σ10_365.2.1 22) p1 N 0 0).toInt)) := fd_hd (fun h => absurd h (by omega))
              exact fd_ok_some ⟨i_366, f_367, x_377, w_378, w_379, w_380, w_381, w_382, w_383⟩
            ·
              have d_384 := Int32.le_iff_toInt_le.mp (Int32.not_lt.mp c_363)
              have r_385 : (0 : Int) ≤ (σ.1 1).toInt ∧ (σ.1 1).toInt ≤ 200 := i0.1 1
              refine fd_ok_ite (fun c_386 => ?_) (fun c_386 => ?_)
              ·
                have d_387 := Int32.le_iff_toInt_le.mp c_386
                refine fd_ok_pb ?_
                refine fd_ok_itp (by decide) ?_
                try unfold f_X11_shape_0_J82
                refine fd_ok_lt (fun σ10_388 eσ10_388 => ?_)
                have i_389 : fd_InvM σ10_388 := fd_inv_sI eσ10_388 i0 (fd_rng _)
                have f_390 : fd_fr [0, 14, 122, 123, 124, 125, 126] σ σ10_388 := fd_fr_tr f0 (fd_fr_sI eσ10_388 (by decide))
                have t_391 : (σ10_388.1 0).toInt = (1 : Int32).toInt := congrArg Int32.toInt (fd_tI eσ10_388)
                have t_392 : (σ10_388.1 1).toInt = (σ.1 1).toInt := congrArg Int32.toInt (fd_tN eσ10_388 (by decide))
                have t_393 : (σ10_388.1 14).toInt = (σ.1 14).toInt := congrArg Int32.toInt (fd_tN eσ10_388 (by decide))
                have y_394 := fd_yIA (d := 22) eσ10_388 (rfl : σ.2.1 22 = _)
                have y_395 := fd_yIA (d := 23) eσ10_388 (rfl : σ.2.1 23 = _)
                have y_396 := fd_yIA (d := 24) eσ10_388 (rfl : σ.2.1 24 = _)
                have y_397 := fd_yIA (d := 25) eσ10_388 (rfl : σ.2.1 25 = _)
                have y_398 := fd_yIA (d := 26) eσ10_388 (rfl : σ.2.1 26 = _)
                have r_399 := fd_rng (σ10_388.1 0)
                refine fd_ok_itn (Int32.not_le.mpr (Int32.lt_iff_toInt_lt.mpr (by omega))) ?_
                have x_400 : ((¬ (0 ≤ p1.toInt ∧ p1.toInt < (σ.1 1).toInt)) ∧ (σ10_388.1 0).toInt = 1 ∧ (σ10_388.1 14).toInt = (σ.1 14).toInt) ∨ (¬ (¬ (0 ≤ p1.toInt ∧ p1.toInt < (σ.1 1).toInt)) ∧ ((σ.1 14).toInt = 60) ∧ (σ10_388.1 0).toInt = 2 ∧ (σ10_388.1 14).toInt = (σ.1 14).toInt) ∨ (¬ (¬ (0 ≤ p1.toInt ∧ p1.toInt < (σ.1 1).toInt)) ∧ ¬ ((σ.1 14).toInt = 60) ∧ (¬ (0 ≤ p2.toInt ∧ p2.toInt < p4.toInt ∧ p4.toInt ≤ 1000 ∧ 0 ≤ p3.toInt ∧ p3.toInt < p5.toInt ∧ p5.toInt ≤ 1000)) ∧ (σ10_388.1 0).toInt = 3 ∧ (σ10_388.1 14).toInt = (σ.1 14).toInt) ∨ (¬ (¬ (0 ≤ p1.toInt ∧ p1.toInt < (σ.1 1).toInt)) ∧ ¬ ((σ.1 14).toInt = 60) ∧ ¬ (¬ (0 ≤ p2.toInt ∧ p2.toInt < p4.toInt ∧ p4.toInt ≤ 1000 ∧ 0 ≤ p3.toInt ∧ p3.toInt < p5.toInt ∧ p5.toInt ≤ 1000)) ∧ (σ10_388.1 0).toInt = 0 ∧ (σ10_388.1 14).toInt = (σ.1 14).toInt + 1) := by omega
                have w_401 : fd_H (((¬ (σ10_388.1 0).toInt = 0 → σ10_388.2.1 22 = σ.2.1 22) ∧ ((σ10_388.1 0).toInt = 0 → ∃ j w : Int32, (j.toInt = (σ.1 14).toInt ∧ w.toInt = p1.toInt) ∧ σ10_388.2.1 22 = upd (σ.2.1 22) j.toNatClampNeg w))) := fd_hd (⟨fun _ => y_394, fun h => absurd h (by omega)⟩)
                have w_402 : fd_H (((¬ (σ10_388.1 0).toInt = 0 → σ10_388.2.1 23 = σ.2.1 23) ∧ ((σ10_388.1 0).toInt = 0 → ∃ j w : Int32, (j.toInt = (σ.1 14).toInt ∧ w.toInt = p2.toInt) ∧ σ10_388.2.1 23 = upd (σ.2.1 23) j.toNatClampNeg w))) := fd_hd (⟨fun _ => y_395, fun h => absurd h (by omega)⟩)
                have w_403 : fd_H (((¬ (σ10_388.1 0).toInt = 0 → σ10_388.2.1 24 = σ.2.1 24) ∧ ((σ10_388.1 0).toInt = 0 → ∃ j w : Int32, (j.toInt = (σ.1 14).toInt ∧ w.toInt = p3.toInt) ∧ σ10_388.2.1 24 = upd (σ.2.1 24) j.toNatClampNeg w))) := fd_hd (⟨fun _ => y_396, fun h => absurd h (by omega)⟩)
                have w_404 : fd_H (((¬ (σ10_388.1 0).toInt = 0 → σ10_388.2.1 25 = σ.2.1 25) ∧ ((σ10_388.1 0).toInt = 0 → ∃ j w : Int32, (j.toInt = (σ.1 14).toInt ∧ w.toInt = p4.toInt) ∧ σ10_388.2.1 25 = upd (σ.2.1 25) j.toNatClampNeg w))) := fd_hd (⟨fun _ => y_397, fun h => absurd h (by omega)⟩)
                have w_405 : fd_H (((¬ (σ10_388.1 0).toInt = 0 → σ10_388.2.1 26 = σ.2.1 26) ∧ ((σ10_388.1 0).toInt = 0 → ∃ j w : Int32, (j.toInt = (σ.1 14).toInt ∧ w.toInt = p5.toInt) ∧ σ10_388.2.1 26 = upd (σ.2.1 26) j.toNatClampNeg w))) := fd_hd (⟨fun _ => y_398, fun h => absurd h (by omega)⟩)
                have w_406 : fd_H (((σ10_388.1 0).toInt = 0 → (0 : Int32).toInt = (fd_cl (σ10_388.1 14) (σ10_388.2.1 22) p1 N 0 0).toInt)) := fd_hd (fun h => absurd h (by omega))
                exact fd_ok_some ⟨i_389, f_390, x_400, w_401, w_402, w_403, w_404, w_405, w_406⟩
              ·
                have d_407 := Int32.lt_iff_toInt_lt.mp (Int32.not_le.mp c_386)
                refine fd_ok_pb ?_
                refine fd_ok_itn (by decide) ?_
                have r_408 : (0 : Int) ≤ (σ.1 14).toInt ∧ (σ.1 14).toInt ≤ 60 := i0.1 14
                refine fd_ok_ite (fun c_409 => ?_) (fun c_409 => ?_)
                ·
                  have d_410 := congrArg Int32.toInt c_409
                  try unfold f_X11_shape_0_J82
                  refine fd_ok_lt (fun σ10_411 eσ10_411 => ?_)
                  have i_412 : fd_InvM σ10_411 := fd_inv_sI eσ10_411 i0 (fd_rng _)
                  have f_413 : fd_fr [0, 14, 122, 123, 124, 125, 126] σ σ10_411 := fd_fr_tr f0 (fd_fr_sI eσ10_411 (by decide))
                  have t_414 : (σ10_411.1 0).toInt = (2 : Int32).toInt := congrArg Int32.toInt (fd_tI eσ10_411)
                  have t_415 : (σ10_411.1 1).toInt = (σ.1 1).toInt := congrArg Int32.toInt (fd_tN eσ10_411 (by decide))
                  have t_416 : (σ10_411.1 14).toInt = (σ.1 14).toInt := congrArg Int32.toInt (fd_tN eσ10_411 (by decide))
                  have y_417 := fd_yIA (d := 22) eσ10_411 (rfl : σ.2.1 22 = _)
                  have y_418 := fd_yIA (d := 23) eσ10_411 (rfl : σ.2.1 23 = _)
                  have y_419 := fd_yIA (d := 24) eσ10_411 (rfl : σ.2.1 24 = _)
                  have y_420 := fd_yIA (d := 25) eσ10_411 (rfl : σ.2.1 25 = _)
                  have y_421 := fd_yIA (d := 26) eσ10_411 (rfl : σ.2.1 26 = _)
                  have r_422 := fd_rng (σ10_411.1 0)
                  refine fd_ok_itn (Int32.not_le.mpr (Int32.lt_iff_toInt_lt.mpr (by omega))) ?_
                  have x_423 : ((¬ (0 ≤ p1.toInt ∧ p1.toInt < (σ.1 1).toInt)) ∧ (σ10_411.1 0).toInt = 1 ∧ (σ10_411.1 14).toInt = (σ.1 14).toInt) ∨ (¬ (¬ (0 ≤ p1.toInt ∧ p1.toInt < (σ.1 1).toInt)) ∧ ((σ.1 14).toInt = 60) ∧ (σ10_411.1 0).toInt = 2 ∧ (σ10_411.1 14).toInt = (σ.1 14).toInt) ∨ (¬ (¬ (0 ≤ p1.toInt ∧ p1.toInt < (σ.1 1).toInt)) ∧ ¬ ((σ.1 14).toInt = 60) ∧ (¬ (0 ≤ p2.toInt ∧ p2.toInt < p4.toInt ∧ p4.toInt ≤ 1000 ∧ 0 ≤ p3.toInt ∧ p3.toInt < p5.toInt ∧ p5.toInt ≤ 1000)) ∧ (σ10_411.1 0).toInt = 3 ∧ (σ10_411.1 14).toInt = (σ.1 14).toInt) ∨ (¬ (¬ (0 ≤ p1.toInt ∧ p1.toInt < (σ.1 1).toInt)) ∧ ¬ ((σ.1 14).toInt = 60) ∧ ¬ (¬ (0 ≤ p2.toInt ∧ p2.toInt < p4.toInt ∧ p4.toInt ≤ 1000 ∧ 0 ≤ p3.toInt ∧ p3.toInt < p5.toInt ∧ p5.toInt ≤ 1000)) ∧ (σ10_411.1 0).toInt = 0 ∧ (σ10_411.1 14).toInt = (σ.1 14).toInt + 1) := by omega
                  have w_424 : fd_H (((¬ (σ10_411.1 0).toInt = 0 → σ10_411.2.1 22 = σ.2.1 22) ∧ ((σ10_411.1 0).toInt = 0 → ∃ j w : Int32, (j.toInt = (σ.1 14).toInt ∧ w.toInt = p1.toInt) ∧ σ10_411.2.1 22 = upd (σ.2.1 22) j.toNatClampNeg w))) := fd_hd (⟨fun _ => y_417, fun h => absurd h (by omega)⟩)
                  have w_425 : fd_H (((¬ (σ10_411.1 0).toInt = 0 → σ10_411.2.1 23 = σ.2.1 23) ∧ ((σ10_411.1 0).toInt = 0 → ∃ j w : Int32, (j.toInt = (σ.1 14).toInt ∧ w.toInt = p2.toInt) ∧ σ10_411.2.1 23 = upd (σ.2.1 23) j.toNatClampNeg w))) := fd_hd (⟨fun _ => y_418, fun h => absurd h (by omega)⟩)
                  have w_426 : fd_H (((¬ (σ10_411.1 0).toInt = 0 → σ10_411.2.1 24 = σ.2.1 24) ∧ ((σ10_411.1 0).toInt = 0 → ∃ j w : Int32, (j.toInt = (σ.1 14).toInt ∧ w.toInt = p3.toInt) ∧ σ10_411.2.1 24 = upd (σ.2.1 24) j.toNatClampNeg w))) := fd_hd (⟨fun _ => y_419, fun h => absurd h (by omega)⟩)
                  have w_427 : fd_H (((¬ (σ10_411.1 0).toInt = 0 → σ10_411.2.1 25 = σ.2.1 25) ∧ ((σ10_411.1 0).toInt = 0 → ∃ j w : Int32, (j.toInt = (σ.1 14).toInt ∧ w.toInt = p4.toInt) ∧ σ10_411.2.1 25 = upd (σ.2.1 25) j.toNatClampNeg w))) := fd_hd (⟨fun _ => y_420, fun h => absurd h (by omega)⟩)
                  have w_428 : fd_H (((¬ (σ10_411.1 0).toInt = 0 → σ10_411.2.1 26 = σ.2.1 26) ∧ ((σ10_411.1 0).toInt = 0 → ∃ j w : Int32, (j.toInt = (σ.1 14).toInt ∧ w.toInt = p5.toInt) ∧ σ10_411.2.1 26 = upd (σ.2.1 26) j.toNatClampNeg w))) := fd_hd (⟨fun _ => y_421, fun h => absurd h (by omega)⟩)
                  have w_429 : fd_H (((σ10_411.1 0).toInt = 0 → (0 : Int32).toInt = (fd_cl (σ10_411.1 14) (σ10_411.2.1 22) p1 N 0 0).toInt)) := fd_hd (fun h => absurd h (by omega))
                  exact fd_ok_some ⟨i_412, f_413, x_423, w_424, w_425, w_426, w_427, w_428, w_429⟩
                ·
                  have d_430 : ¬ (σ.1 14).toInt = (60 : Int32).toInt := fun q => c_409 (Int32.toInt_inj.mp q)
                  refine fd_ok_itp (by decide) ?_
                  try unfold f_X11_shape_0_J82
                  refine fd_ok_lt (fun σ10_431 eσ10_431 => ?_)
                  have i_432 : fd_InvM σ10_431 := fd_inv_sI eσ10_431 i0 (fd_rng _)
                  have f_433 : fd_fr [0, 14, 122, 123, 124, 125, 126] σ σ10_431 := fd_fr_tr f0 (fd_fr_sI eσ10_431 (by decide))
                  have t_434 : (σ10_431.1 0).toInt = (3 : Int32).toInt := congrArg Int32.toInt (fd_tI eσ10_431)
                  have t_435 : (σ10_431.1 1).toInt = (σ.1 1).toInt := congrArg Int32.toInt (fd_tN eσ10_431 (by decide))
                  have t_436 : (σ10_431.1 14).toInt = (σ.1 14).toInt := congrArg Int32.toInt (fd_tN eσ10_431 (by decide))
                  have y_437 := fd_yIA (d := 22) eσ10_431 (rfl : σ.2.1 22 = _)
                  have y_438 := fd_yIA (d := 23) eσ10_431 (rfl : σ.2.1 23 = _)
                  have y_439 := fd_yIA (d := 24) eσ10_431 (rfl : σ.2.1 24 = _)
                  have y_440 := fd_yIA (d := 25) eσ10_431 (rfl : σ.2.1 25 = _)
                  have y_441 := fd_yIA (d := 26) eσ10_431 (rfl : σ.2.1 26 = _)
                  have r_442 := fd_rng (σ10_431.1 0)
                  refine fd_ok_itn (Int32.not_le.mpr (Int32.lt_iff_toInt_lt.mpr (by omega))) ?_
                  have x_443 : ((¬ (0 ≤ p1.toInt ∧ p1.toInt < (σ.1 1).toInt)) ∧ (σ10_431.1 0).toInt = 1 ∧ (σ10_431.1 14).toInt = (σ.1 14).toInt) ∨ (¬ (¬ (0 ≤ p1.toInt ∧ p1.toInt < (σ.1 1).toInt)) ∧ ((σ.1 14).toInt = 60) ∧ (σ10_431.1 0).toInt = 2 ∧ (σ10_431.1 14).toInt = (σ.1 14).toInt) ∨ (¬ (¬ (0 ≤ p1.toInt ∧ p1.toInt < (σ.1 1).toInt)) ∧ ¬ ((σ.1 14).toInt = 60) ∧ (¬ (0 ≤ p2.toInt ∧ p2.toInt < p4.toInt ∧ p4.toInt ≤ 1000 ∧ 0 ≤ p3.toInt ∧ p3.toInt < p5.toInt ∧ p5.toInt ≤ 1000)) ∧ (σ10_431.1 0).toInt = 3 ∧ (σ10_431.1 14).toInt = (σ.1 14).toInt) ∨ (¬ (¬ (0 ≤ p1.toInt ∧ p1.toInt < (σ.1 1).toInt)) ∧ ¬ ((σ.1 14).toInt = 60) ∧ ¬ (¬ (0 ≤ p2.toInt ∧ p2.toInt < p4.toInt ∧ p4.toInt ≤ 1000 ∧ 0 ≤ p3.toInt ∧ p3.toInt < p5.toInt ∧ p5.toInt ≤ 1000)) ∧ (σ10_431.1 0).toInt = 0 ∧ (σ10_431.1 14).toInt = (σ.1 14).toInt + 1) := by omega
                  have w_444 : fd_H (((¬ (σ10_431.1 0).toInt = 0 → σ10_431.2.1 22 = σ.2.1 22) ∧ ((σ10_431.1 0).toInt = 0 → ∃ j w : Int32, (j.toInt = (σ.1 14).toInt ∧ w.toInt = p1.toInt) ∧ σ10_431.2.1 22 = upd (σ.2.1 22) j.toNatClampNeg w))) := fd_hd (⟨fun _ => y_437, fun h => absurd h (by omega)⟩)
                  have w_445 : fd_H (((¬ (σ10_431.1 0).toInt = 0 → σ10_431.2.1 23 = σ.2.1 23) ∧ ((σ10_431.1 0).toInt = 0 → ∃ j w : Int32, (j.toInt = (σ.1 14).toInt ∧ w.toInt = p2.toInt) ∧ σ10_431.2.1 23 = upd (σ.2.1 23) j.toNatClampNeg w))) := fd_hd (⟨fun _ => y_438, fun h => absurd h (by omega)⟩)
                  have w_446 : fd_H (((¬ (σ10_431.1 0).toInt = 0 → σ10_431.2.1 24 = σ.2.1 24) ∧ ((σ10_431.1 0).toInt = 0 → ∃ j w : Int32, (j.toInt = (σ.1 14).toInt ∧ w.toInt = p3.toInt) ∧ σ10_431.2.1 24 = upd (σ.2.1 24) j.toNatClampNeg w))) := fd_hd (⟨fun _ => y_439, fun h => absurd h (by omega)⟩)
                  have w_447 : fd_H (((¬ (σ10_431.1 0).toInt = 0 → σ10_431.2.1 25 = σ.2.1 25) ∧ ((σ10_431.1 0).toInt = 0 → ∃ j w : Int32, (j.toInt = (σ.1 14).toInt ∧ w.toInt = p4.toInt) ∧ σ10_431.2.1 25 = upd (σ.2.1 25) j.toNatClampNeg w))) := fd_hd (⟨fun _ => y_440, fun h => absurd h (by omega)⟩)
                  have w_448 : fd_H (((¬ (σ10_431.1 0).toInt = 0 → σ10_431.2.1 26 = σ.2.1 26) ∧ ((σ10_431.1 0).toInt = 0 → ∃ j w : Int32, (j.toInt = (σ.1 14).toInt ∧ w.toInt = p5.toInt) ∧ σ10_431.2.1 26 = upd (σ.2.1 26) j.toNatClampNeg w))) := fd_hd (⟨fun _ => y_441, fun h => absurd h (by omega)⟩)
                  have w_449 : fd_H (((σ10_431.1 0).toInt = 0 → (0 : Int32).toInt = (fd_cl (σ10_431.1 14) (σ10_431.2.1 22) p1 N 0 0).toInt)) := fd_hd (fun h => absurd h (by omega))
                  exact fd_ok_some ⟨i_432, f_433, x_443, w_444, w_445, w_446, w_447, w_448, w_449⟩
          ·
            have d_450 := Int32.lt_iff_toInt_lt.mp (Int32.not_le.mp c_361)
            refine fd_ok_ite (fun c_451 => ?_) (fun c_451 => ?_)
            ·
              have d_452 := Int32.le_iff_toInt_le.mp c_451
              try unfold f_X11_shape_0_J40
              try unfold f_X11_shape_0_J41
              refine fd_ok_bd ?_
              try unfold f_X11_isIn
              refine fd_ok_ite (fun c_453 => ?_) (fun c_453 => ?_)
              ·
                have d_454 := Int32.lt_iff_toInt_lt.mp c_453
                refine fd_ok_pb ?_
                refine fd_ok_itp (by decide) ?_
                try unfold f_X11_shape_0_J82
                refine fd_ok_lt (fun σ10_455 eσ10_455 => ?_)
                have i_456 : fd_InvM σ10_455 := fd_inv_sI eσ10_455 i0 (fd_rng _)
                have f_457 : fd_fr [0, 14, 122, 123, 124, 125, 126] σ σ10_455 := fd_fr_tr f0 (fd_fr_sI eσ10_455 (by decide))
                have t_458 : (σ10_455.1 0).toInt = (1 : Int32).toInt := congrArg Int32.toInt (fd_tI eσ10_455)
                have t_459 : (σ10_455.1 1).toInt = (σ.1 1).toInt := congrArg Int32.toInt (fd_tN eσ10_455 (by decide))
                have t_460 : (σ10_455.1 14).toInt = (σ.1 14).toInt := congrArg Int32.toInt (fd_tN eσ10_455 (by decide))
                have y_461 := fd_yIA (d := 22) eσ10_455 (rfl : σ.2.1 22 = _)
                have y_462 := fd_yIA (d := 23) eσ10_455 (rfl : σ.2.1 23 = _)
                have y_463 := fd_yIA (d := 24) eσ10_455 (rfl : σ.2.1 24 = _)
                have y_464 := fd_yIA (d := 25) eσ10_455 (rfl : σ.2.1 25 = _)
                have y_465 := fd_yIA (d := 26) eσ10_455 (rfl : σ.2.1 26 = _)
                have r_466 := fd_rng (σ10_455.1 0)
                refine fd_ok_itn (Int32.not_le.mpr (Int32.lt_iff_toInt_lt.mpr (by omega))) ?_
                have x_467 : ((¬ (0 ≤ p1.toInt ∧ p1.toInt < (σ.1 1).toInt)) ∧ (σ10_455.1 0).toInt = 1 ∧ (σ10_455.1 14).toInt = (σ.1 14).toInt) ∨ (¬ (¬ (0 ≤ p1.toInt ∧ p1.toInt < (σ.1 1).toInt)) ∧ ((σ.1 14).toInt = 60) ∧ (σ10_455.1 0).toInt = 2 ∧ (σ10_455.1 14).toInt = (σ.1 14).toInt) ∨ (¬ (¬ (0 ≤ p1.toInt ∧ p1.toInt < (σ.1 1).toInt)) ∧ ¬ ((σ.1 14).toInt = 60) ∧ (¬ (0 ≤ p2.toInt ∧ p2.toInt < p4.toInt ∧ p4.toInt ≤ 1000 ∧ 0 ≤ p3.toInt ∧ p3.toInt < p5.toInt ∧ p5.toInt ≤ 1000)) ∧ (σ10_455.1 0).toInt = 3 ∧ (σ10_455.1 14).toInt = (σ.1 14).toInt) ∨ (¬ (¬ (0 ≤ p1.toInt ∧ p1.toInt < (σ.1 1).toInt)) ∧ ¬ ((σ.1 14).toInt = 60) ∧ ¬ (¬ (0 ≤ p2.toInt ∧ p2.toInt < p4.toInt ∧ p4.toInt ≤ 1000 ∧ 0 ≤ p3.toInt ∧ p3.toInt < p5.toInt ∧ p5.toInt ≤ 1000)) ∧ (σ10_455.1 0).toInt = 0 ∧ (σ10_455.1 14).toInt = (σ.1 14).toInt + 1) := by omega
                have w_468 : fd_H (((¬ (σ10_455.1 0).toInt = 0 → σ10_455.2.1 22 = σ.2.1 22) ∧ ((σ10_455.1 0).toInt = 0 → ∃ j w : Int32, (j.toInt = (σ.1 14).toInt ∧ w.toInt = p1.toInt) ∧ σ10_455.2.1 22 = upd (σ.2.1 22) j.toNatClampNeg w))) := fd_hd (⟨fun _ => y_461, fun h => absurd h (by omega)⟩)
                have w_469 : fd_H (((¬ (σ10_455.1 0).toInt = 0 → σ10_455.2.1 23 = σ.2.1 23) ∧ ((σ10_455.1 0).toInt = 0 → ∃ j w : Int32, (j.toInt = (σ.1 14).toInt ∧ w.toInt = p2.toInt) ∧ σ10_455.2.1 23 = upd (σ.2.1 23) j.toNatClampNeg w))) := fd_hd (⟨fun _ => y_462, fun h => absurd h (by omega)⟩)
                have w_470 : fd_H (((¬ (σ10_455.1 0).toInt = 0 → σ10_455.2.1 24 = σ.2.1 24) ∧ ((σ10_455.1 0).toInt = 0 → ∃ j w : Int32, (j.toInt = (σ.1 14).toInt ∧ w.toInt = p3.toInt) ∧ σ10_455.2.1 24 = upd (σ.2.1 24) j.toNatClampNeg w))) := fd_hd (⟨fun _ => y_463, fun h => absurd h (by omega)⟩)
                have w_471 : fd_H (((¬ (σ10_455.1 0).toInt = 0 → σ10_455.2.1 25 = σ.2.1 25) ∧ ((σ10_455.1 0).toInt = 0 → ∃ j w : Int32, (j.toInt = (σ.1 14).toInt ∧ w.toInt = p4.toInt) ∧ σ10_455.2.1 25 = upd (σ.2.1 25) j.toNatClampNeg w))) := fd_hd (⟨fun _ => y_464, fun h => absurd h (by omega)⟩)
                have w_472 : fd_H (((¬ (σ10_455.1 0).toInt = 0 → σ10_455.2.1 26 = σ.2.1 26) ∧ ((σ10_455.1 0).toInt = 0 → ∃ j w : Int32, (j.toInt = (σ.1 14).toInt ∧ w.toInt = p5.toInt) ∧ σ10_455.2.1 26 = upd (σ.2.1 26) j.toNatClampNeg w))) := fd_hd (⟨fun _ => y_465, fun h => absurd h (by omega)⟩)
                have w_473 : fd_H (((σ10_455.1 0).toInt = 0 → (0 : Int32).toInt = (fd_cl (σ10_455.1 14) (σ10_455.2.1 22) p1 N 0 0).toInt)) := fd_hd (fun h => absurd h (by omega))
                exact fd_ok_some ⟨i_456, f_457, x_467, w_468, w_469, w_470, w_471, w_472, w_473⟩
              ·
                have d_474 := Int32.le_iff_toInt_le.mp (Int32.not_lt.mp c_453)
                have r_475 : (0 : Int) ≤ (σ.1 1).toInt ∧ (σ.1 1).toInt ≤ 200 := i0.1 1
                refine fd_ok_ite (fun c_476 => ?_) (fun c_476 => ?_)
                ·
                  have d_477 := Int32.le_iff_toInt_le.mp c_476
                  refine fd_ok_pb ?_
                  refine fd_ok_itp (by decide) ?_
                  try unfold f_X11_shape_0_J82
                  refine fd_ok_lt (fun σ10_478 eσ10_478 => ?_)
                  have i_479 : fd_InvM σ10_478 := fd_inv_sI eσ10_478 i0 (fd_rng _)
                  have f_480 : fd_fr [0, 14, 122, 123, 124, 125, 126] σ σ10_478 := fd_fr_tr f0 (fd_fr_sI eσ10_478 (by decide))
                  have t_481 : (σ10_478.1 0).toInt = (1 : Int32).toInt := congrArg Int32.toInt (fd_tI eσ10_478)
                  have t_482 : (σ10_478.1 1).toInt = (σ.1 1).toInt := congrArg Int32.toInt (fd_tN eσ10_478 (by decide))
                  have t_483 : (σ10_478.1 14).toInt = (σ.1 14).toInt := congrArg Int32.toInt (fd_tN eσ10_478 (by decide))
                  have y_484 := fd_yIA (d := 22) eσ10_478 (rfl : σ.2.1 22 = _)
                  have y_485 := fd_yIA (d := 23) eσ10_478 (rfl : σ.2.1 23 = _)
                  have y_486 := fd_yIA (d := 24) eσ10_478 (rfl : σ.2.1 24 = _)
                  have y_487 := fd_yIA (d := 25) eσ10_478 (rfl : σ.2.1 25 = _)
                  have y_488 := fd_yIA (d := 26) eσ10_478 (rfl : σ.2.1 26 = _)
                  have r_489 := fd_rng (σ10_478.1 0)
                  refine fd_ok_itn (Int32.not_le.mpr (Int32.lt_iff_toInt_lt.mpr (by omega))) ?_
                  have x_490 : ((¬ (0 ≤ p1.toInt ∧ p1.toInt < (σ.1 1).toInt)) ∧ (σ10_478.1 0).toInt = 1 ∧ (σ10_478.1 14).toInt = (σ.1 14).toInt) ∨ (¬ (¬ (0 ≤ p1.toInt ∧ p1.toInt < (σ.1 1).toInt)) ∧ ((σ.1 14).toInt = 60) ∧ (σ10_478.1 0).toInt = 2 ∧ (σ10_478.1 14).toInt = (σ.1 14).toInt) ∨ (¬ (¬ (0 ≤ p1.toInt ∧ p1.toInt < (σ.1 1).toInt)) ∧ ¬ ((σ.1 14).toInt = 60) ∧ (¬ (0 ≤ p2.toInt ∧ p2.toInt < p4.toInt ∧ p4.toInt ≤ 1000 ∧ 0 ≤ p3.toInt ∧ p3.toInt < p5.toInt ∧ p5.toInt ≤ 1000)) ∧ (σ10_478.1 0).toInt = 3 ∧ (σ10_478.1 14).toInt = (σ.1 14).toInt) ∨ (¬ (¬ (0 ≤ p1.toInt ∧ p1.toInt < (σ.1 1).toInt)) ∧ ¬ ((σ.1 14).toInt = 60) ∧ ¬ (¬ (0 ≤ p2.toInt ∧ p2.toInt < p4.toInt ∧ p4.toInt ≤ 1000 ∧ 0 ≤ p3.toInt ∧ p3.toInt < p5.toInt ∧ p5.toInt ≤ 1000)) ∧ (σ10_478.1 0).toInt = 0 ∧ (σ10_478.1 14).toInt = (σ.1 14).toInt + 1) := by omega
                  have w_491 : fd_H (((¬ (σ10_478.1 0).toInt = 0 → σ10_478.2.1 22 = σ.2.1 22) ∧ ((σ10_478.1 0).toInt = 0 → ∃ j w : Int32, (j.toInt = (σ.1 14).toInt ∧ w.toInt = p1.toInt) ∧ σ10_478.2.1 22 = upd (σ.2.1 22) j.toNatClampNeg w))) := fd_hd (⟨fun _ => y_484, fun h => absurd h (by omega)⟩)
                  have w_492 : fd_H (((¬ (σ10_478.1 0).toInt = 0 → σ10_478.2.1 23 = σ.2.1 23) ∧ ((σ10_478.1 0).toInt = 0 → ∃ j w : Int32, (j.toInt = (σ.1 14).toInt ∧ w.toInt = p2.toInt) ∧ σ10_478.2.1 23 = upd (σ.2.1 23) j.toNatClampNeg w))) := fd_hd (⟨fun _ => y_485, fun h => absurd h (by omega)⟩)
                  have w_493 : fd_H (((¬ (σ10_478.1 0).toInt = 0 → σ10_478.2.1 24 = σ.2.1 24) ∧ ((σ10_478.1 0).toInt = 0 → ∃ j w : Int32, (j.toInt = (σ.1 14).toInt ∧ w.toInt = p3.toInt) ∧ σ10_478.2.1 24 = upd (σ.2.1 24) j.toNatClampNeg w))) := fd_hd (⟨fun _ => y_486, fun h => absurd h (by omega)⟩)
                  have w_494 : fd_H (((¬ (σ10_478.1 0).toInt = 0 → σ10_478.2.1 25 = σ.2.1 25) ∧ ((σ10_478.1 0).toInt = 0 → ∃ j w : Int32, (j.toInt = (σ.1 14).toInt ∧ w.toInt = p4.toInt) ∧ σ10_478.2.1 25 = upd (σ.2.1 25) j.toNatClampNeg w))) := fd_hd (⟨fun _ => y_487, fun h => absurd h (by omega)⟩)
                  have w_495 : fd_H (((¬ (σ10_478.1 0).toInt = 0 → σ10_478.2.1 26 = σ.2.1 26) ∧ ((σ10_478.1 0).toInt = 0 → ∃ j w : Int32, (j.toInt = (σ.1 14).toInt ∧ w.toInt = p5.toInt) ∧ σ10_478.2.1 26 = upd (σ.2.1 26) j.toNatClampNeg w))) := fd_hd (⟨fun _ => y_488, fun h => absurd h (by omega)⟩)
                  have w_496 : fd_H (((σ10_478.1 0).toInt = 0 → (0 : Int32).toInt = (fd_cl (σ10_478.1 14) (σ10_478.2.1 22) p1 N 0 0).toInt)) := fd_hd (fun h => absurd h (by omega))
                  exact fd_ok_some ⟨i_479, f_480, x_490, w_491, w_492, w_493, w_494, w_495, w_496⟩
                ·
                  have d_497 := Int32.lt_iff_toInt_lt.mp (Int32.not_le.mp c_476)
                  refine fd_ok_pb ?_
                  refine fd_ok_itn (by decide) ?_
                  have r_498 : (0 : Int) ≤ (σ.1 14).toInt ∧ (σ.1 14).toInt ≤ 60 := i0.1 14
                  refine fd_ok_ite (fun c_499 => ?_) (fun c_499 => ?_)
                  ·
                    have d_500 := congrArg Int32.toInt c_499
                    try unfold f_X11_shape_0_J82
                    refine fd_ok_lt (fun σ10_501 eσ10_501 => ?_)
                    have i_502 : fd_InvM σ10_501 := fd_inv_sI eσ10_501 i0 (fd_rng _)
                    have f_503 : fd_fr [0, 14, 122, 123, 124, 125, 126] σ σ10_501 := fd_fr_tr f0 (fd_fr_sI eσ10_501 (by decide))
                    have t_504 : (σ10_501.1 0).toInt = (2 : Int32).toInt := congrArg Int32.toInt (fd_tI eσ10_501)
                    have t_505 : (σ10_501.1 1).toInt = (σ.1 1).toInt := congrArg Int32.toInt (fd_tN eσ10_501 (by decide))
                    have t_506 : (σ10_501.1 14).toInt = (σ.1 14).toInt := congrArg Int32.toInt (fd_tN eσ10_501 (by decide))
                    have y_507 := fd_yIA (d := 22) eσ10_501 (rfl : σ.2.1 22 = _)
                    have y_508 := fd_yIA (d := 23) eσ10_501 (rfl : σ.2.1 23 = _)
                    have y_509 := fd_yIA (d := 24) eσ10_501 (rfl : σ.2.1 24 = _)
                    have y_510 := fd_yIA (d := 25) eσ10_501 (rfl : σ.2.1 25 = _)
                    have y_511 := fd_yIA (d := 26) eσ10_501 (rfl : σ.2.1 26 = _)
                    have r_512 := fd_rng (σ10_501.1 0)
                    refine fd_ok_itn (Int32.not_le.mpr (Int32.lt_iff_toInt_lt.mpr (by omega))) ?_
                    have x_513 : ((¬ (0 ≤ p1.toInt ∧ p1.toInt < (σ.1 1).toInt)) ∧ (σ10_501.1 0).toInt = 1 ∧ (σ10_501.1 14).toInt = (σ.1 14).toInt) ∨ (¬ (¬ (0 ≤ p1.toInt ∧ p1.toInt < (σ.1 1).toInt)) ∧ ((σ.1 14).toInt = 60) ∧ (σ10_501.1 0).toInt = 2 ∧ (σ10_501.1 14).toInt = (σ.1 14).toInt) ∨ (¬ (¬ (0 ≤ p1.toInt ∧ p1.toInt < (σ.1 1).toInt)) ∧ ¬ ((σ.1 14).toInt = 60) ∧ (¬ (0 ≤ p2.toInt ∧ p2.toInt < p4.toInt ∧ p4.toInt ≤ 1000 ∧ 0 ≤ p3.toInt ∧ p3.toInt < p5.toInt ∧ p5.toInt ≤ 1000)) ∧ (σ10_501.1 0).toInt = 3 ∧ (σ10_501.1 14).toInt = (σ.1 14).toInt) ∨ (¬ (¬ (0 ≤ p1.toInt ∧ p1.toInt < (σ.1 1).toInt)) ∧ ¬ ((σ.1 14).toInt = 60) ∧ ¬ (¬ (0 ≤ p2.toInt ∧ p2.toInt < p4.toInt ∧ p4.toInt ≤ 1000 ∧ 0 ≤ p3.toInt ∧ p3.toInt < p5.toInt ∧ p5.toInt ≤ 1000)) ∧ (σ10_501.1 0).toInt = 0 ∧ (σ10_501.1 14).toInt = (σ.1 14).toInt + 1) := by omega
                    have w_514 : fd_H (((¬ (σ10_501.1 0).toInt = 0 → σ10_501.2.1 22 = σ.2.1 22) ∧ ((σ10_501.1 0).toInt = 0 → ∃ j w : Int32, (j.toInt = (σ.1 14).toInt ∧ w.toInt = p1.toInt) ∧ σ10_501.2.1 22 = upd (σ.2.1 22) j.toNatClampNeg w))) := fd_hd (⟨fun _ => y_507, fun h => absurd h (by omega)⟩)
                    have w_515 : fd_H (((¬ (σ10_501.1 0).toInt = 0 → σ10_501.2.1 23 = σ.2.1 23) ∧ ((σ10_501.1 0).toInt = 0 → ∃ j w : Int32, (j.toInt = (σ.1 14).toInt ∧ w.toInt = p2.toInt) ∧ σ10_501.2.1 23 = upd (σ.2.1 23) j.toNatClampNeg w))) := fd_hd (⟨fun _ => y_508, fun h => absurd h (by omega)⟩)
                    have w_516 : fd_H (((¬ (σ10_501.1 0).toInt = 0 → σ10_501.2.1 24 = σ.2.1 24) ∧ ((σ10_501.1 0).toInt = 0 → ∃ j w : Int32, (j.toInt = (σ.1 14).toInt ∧ w.toInt = p3.toInt) ∧ σ10_501.2.1 24 = upd (σ.2.1 24) j.toNatClampNeg w))) := fd_hd (⟨fun _ => y_509, fun h => absurd h (by omega)⟩)
                    have w_517 : fd_H (((¬ (σ10_501.1 0).toInt = 0 → σ10_501.2.1 25 = σ.2.1 25) ∧ ((σ10_501.1 0).toInt = 0 → ∃ j w : Int32, (j.toInt = (σ.1 14).toInt ∧ w.toInt = p4.toInt) ∧ σ10_501.2.1 25 = upd (σ.2.1 25) j.toNatClampNeg w))) := fd_hd (⟨fun _ => y_510, fun h => absurd h (by omega)⟩)
                    have w_518 : fd_H (((¬ (σ10_501.1 0).toInt = 0 → σ10_501.2.1 26 = σ.2.1 26) ∧ ((σ10_501.1 0).toInt = 0 → ∃ j w : Int32, (j.toInt = (σ.1 14).toInt ∧ w.toInt = p5.toInt) ∧ σ10_501.2.1 26 = upd (σ.2.1 26) j.toNatClampNeg w))) := fd_hd (⟨fun _ => y_511, fun h => absurd h (by omega)⟩)
                    have w_519 : fd_H (((σ10_501.1 0).toInt = 0 → (0 : Int32).toInt = (fd_cl (σ10_501.1 14) (σ10_501.2.1 22) p1 N 0 0).toInt)) := fd_hd (fun h => absurd h (by omega))
                    exact fd_ok_some ⟨i_502, f_503, x_513, w_514, w_515, w_516, w_517, w_518, w_519⟩
                  ·
                    have d_520 : ¬ (σ.1 14).toInt = (60 : Int32).toInt := fun q => c_499 (Int32.toInt_inj.mp q)
                    refine fd_ok_itp (by decide) ?_
                    try unfold f_X11_shape_0_J82
                    refine fd_ok_lt (fun σ10_521 eσ10_521 => ?_)
                    have i_522 : fd_InvM σ10_521 := fd_inv_sI eσ10_521 i0 (fd_rng _)
                    have f_523 : fd_fr [0, 14, 122, 123, 124, 125, 126] σ σ10_521 := fd_fr_tr f0 (fd_fr_sI eσ10_521 (by decide))
                    have t_524 : (σ10_521.1 0).toInt = (3 : Int32).toInt := congrArg Int32.toInt (fd_tI eσ10_521)
                    have t_525 : (σ10_521.1 1).toInt = (σ.1 1).toInt := congrArg Int32.toInt (fd_tN eσ10_521 (by decide))
                    have t_526 : (σ10_521.1 14).toInt = (σ.1 14).toInt := congrArg Int32.toInt (fd_tN eσ10_521 (by decide))
                    have y_527 := fd_yIA (d := 22) eσ10_521 (rfl : σ.2.1 22 = _)
                    have y_528 := fd_yIA (d := 23) eσ10_521 (rfl : σ.2.1 23 = _)
                    have y_529 := fd_yIA (d := 24) eσ10_521 (rfl : σ.2.1 24 = _)
                    have y_530 := fd_yIA (d := 25) eσ10_521 (rfl : σ.2.1 25 = _)
                    have y_531 := fd_yIA (d := 26) eσ10_521 (rfl : σ.2.1 26 = _)
                    have r_532 := fd_rng (σ10_521.1 0)
                    refine fd_ok_itn (Int32.not_le.mpr (Int32.lt_iff_toInt_lt.mpr (by omega))) ?_
                    have x_533 : ((¬ (0 ≤ p1.toInt ∧ p1.toInt < (σ.1 1).toInt)) ∧ (σ10_521.1 0).toInt = 1 ∧ (σ10_521.1 14).toInt = (σ.1 14).toInt) ∨ (¬ (¬ (0 ≤ p1.toInt ∧ p1.toInt < (σ.1 1).toInt)) ∧ ((σ.1 14).toInt = 60) ∧ (σ10_521.1 0).toInt = 2 ∧ (σ10_521.1 14).toInt = (σ.1 14).toInt) ∨ (¬ (¬ (0 ≤ p1.toInt ∧ p1.toInt < (σ.1 1).toInt)) ∧ ¬ ((σ.1 14).toInt = 60) ∧ (¬ (0 ≤ p2.toInt ∧ p2.toInt < p4.toInt ∧ p4.toInt ≤ 1000 ∧ 0 ≤ p3.toInt ∧ p3.toInt < p5.toInt ∧ p5.toInt ≤ 1000)) ∧ (σ10_521.1 0).toInt = 3 ∧ (σ10_521.1 14).toInt = (σ.1 14).toInt) ∨ (¬ (¬ (0 ≤ p1.toInt ∧ p1.toInt < (σ.1 1).toInt)) ∧ ¬ ((σ.1 14).toInt = 60) ∧ ¬ (¬ (0 ≤ p2.toInt ∧ p2.toInt < p4.toInt ∧ p4.toInt ≤ 1000 ∧ 0 ≤ p3.toInt ∧ p3.toInt < p5.toInt ∧ p5.toInt ≤ 1000)) ∧ (σ10_521.1 0).toInt = 0 ∧ (σ10_521.1 14).toInt = (σ.1 14).toInt + 1) := by omega
                    have w_534 : fd_H (((¬ (σ10_521.1 0).toInt = 0 → σ10_521.2.1 22 = σ.2.1 22) ∧ ((σ10_521.1 0).toInt = 0 → ∃ j w : Int32, (j.toInt = (σ.1 14).toInt ∧ w.toInt = p1.toInt) ∧ σ10_521.2.1 22 = upd (σ.2.1 22) j.toNatClampNeg w))) := fd_hd (⟨fun _ => y_527, fun h => absurd h (by omega)⟩)
                    have w_535 : fd_H (((¬ (σ10_521.1 0).toInt = 0 → σ10_521.2.1 23 = σ.2.1 23) ∧ ((σ10_521.1 0).toInt = 0 → ∃ j w : Int32, (j.toInt = (σ.1 14).toInt ∧ w.toInt = p2.toInt) ∧ σ10_521.2.1 23 = upd (σ.2.1 23) j.toNatClampNeg w))) := fd_hd (⟨fun _ => y_528, fun h => absurd h (by omega)⟩)
                    have w_536 : fd_H (((¬ (σ10_521.1 0).toInt = 0 → σ10_521.2.1 24 = σ.2.1 24) ∧ ((σ10_521.1 0).toInt = 0 → ∃ j w : Int32, (j.toInt = (σ.1 14).toInt ∧ w.toInt = p3.toInt) ∧ σ10_521.2.1 24 = upd (σ.2.1 24) j.toNatClampNeg w))) := fd_hd (⟨fun _ => y_529, fun h => absurd h (by omega)⟩)
                    have w_537 : fd_H (((¬ (σ10_521.1 0).toInt = 0 → σ10_521.2.1 25 = σ.2.1 25) ∧ ((σ10_521.1 0).toInt = 0 → ∃ j w : Int32, (j.toInt = (σ.1 14).toInt ∧ w.toInt = p4.toInt) ∧ σ10_521.2.1 25 = upd (σ.2.1 25) j.toNatClampNeg w))) := fd_hd (⟨fun _ => y_530, fun h => absurd h (by omega)⟩)
                    have w_538 : fd_H (((¬ (σ10_521.1 0).toInt = 0 → σ10_521.2.1 26 = σ.2.1 26) ∧ ((σ10_521.1 0).toInt = 0 → ∃ j w : Int32, (j.toInt = (σ.1 14).toInt ∧ w.toInt = p5.toInt) ∧ σ10_521.2.1 26 = upd (σ.2.1 26) j.toNatClampNeg w))) := fd_hd (⟨fun _ => y_531, fun h => absurd h (by omega)⟩)
                    have w_539 : fd_H (((σ10_521.1 0).toInt = 0 → (0 : Int32).toInt = (fd_cl (σ10_521.1 14) (σ10_521.2.1 22) p1 N 0 0).toInt)) := fd_hd (fun h => absurd h (by omega))
                    exact fd_ok_some ⟨i_522, f_523, x_533, w_534, w_535, w_536, w_537, w_538, w_539⟩
            ·
              have d_540 := Int32.lt_iff_toInt_lt.mp (Int32.not_le.mp c_451)
              try unfold f_X11_shape_0_J41
              refine fd_ok_bd ?_
              try unfold f_X11_isIn
              refine fd_ok_ite (fun c_541 => ?_) (fun c_541 => ?_)
              ·
                have d_542 := Int32.lt_iff_toInt_lt.mp c_541
                refine fd_ok_pb ?_
                refine fd_ok_itp (by decide) ?_
                try unfold f_X11_shape_0_J82
                refine fd_ok_lt (fun σ10_543 eσ10_543 => ?_)
                have i_544 : fd_InvM σ10_543 := fd_inv_sI eσ10_543 i0 (fd_rng _)
                have f_545 : fd_fr [0, 14, 122, 123, 124, 125, 126] σ σ10_543 := fd_fr_tr f0 (fd_fr_sI eσ10_543 (by decide))
                have t_546 : (σ10_543.1 0).toInt = (1 : Int32).toInt := congrArg Int32.toInt (fd_tI eσ10_543)
                have t_547 : (σ10_543.1 1).toInt = (σ.1 1).toInt := congrArg Int32.toInt (fd_tN eσ10_543 (by decide))
                have t_548 : (σ10_543.1 14).toInt = (σ.1 14).toInt := congrArg Int32.toInt (fd_tN eσ10_543 (by decide))
                have y_549 := fd_yIA (d := 22) eσ10_543 (rfl : σ.2.1 22 = _)
                have y_550 := fd_yIA (d := 23) eσ10_543 (rfl : σ.2.1 23 = _)
                have y_551 := fd_yIA (d := 24) eσ10_543 (rfl : σ.2.1 24 = _)
                have y_552 := fd_yIA (d := 25) eσ10_543 (rfl : σ.2.1 25 = _)
                have y_553 := fd_yIA (d := 26) eσ10_543 (rfl : σ.2.1 26 = _)
                have r_554 := fd_rng (σ10_543.1 0)
                refine fd_ok_itn (Int32.not_le.mpr (Int32.lt_iff_toInt_lt.mpr (by omega))) ?_
                have x_555 : ((¬ (0 ≤ p1.toInt ∧ p1.toInt < (σ.1 1).toInt)) ∧ (σ10_543.1 0).toInt = 1 ∧ (σ10_543.1 14).toInt = (σ.1 14).toInt) ∨ (¬ (¬ (0 ≤ p1.toInt ∧ p1.toInt < (σ.1 1).toInt)) ∧ ((σ.1 14).toInt = 60) ∧ (σ10_543.1 0).toInt = 2 ∧ (σ10_543.1 14).toInt = (σ.1 14).toInt) ∨ (¬ (¬ (0 ≤ p1.toInt ∧ p1.toInt < (σ.1 1).toInt)) ∧ ¬ ((σ.1 14).toInt = 60) ∧ (¬ (0 ≤ p2.toInt ∧ p2.toInt < p4.toInt ∧ p4.toInt ≤ 1000 ∧ 0 ≤ p3.toInt ∧ p3.toInt < p5.toInt ∧ p5.toInt ≤ 1000)) ∧ (σ10_543.1 0).toInt = 3 ∧ (σ10_543.1 14).toInt = (σ.1 14).toInt) ∨ (¬ (¬ (0 ≤ p1.toInt ∧ p1.toInt < (σ.1 1).toInt)) ∧ ¬ ((σ.1 14).toInt = 60) ∧ ¬ (¬ (0 ≤ p2.toInt ∧ p2.toInt < p4.toInt ∧ p4.toInt ≤ 1000 ∧ 0 ≤ p3.toInt ∧ p3.toInt < p5.toInt ∧ p5.toInt ≤ 1000)) ∧ (σ10_543.1 0).toInt = 0 ∧ (σ10_543.1 14).toInt = (σ.1 14).toInt + 1) := by omega
                have w_556 : fd_H (((¬ (σ10_543.1 0).toInt = 0 → σ10_543.2.1 22 = σ.2.1 22) ∧ ((σ10_543.1 0).toInt = 0 → ∃ j w : Int32, (j.toInt = (σ.1 14).toInt ∧ w.toInt = p1.toInt) ∧ σ10_543.2.1 22 = upd (σ.2.1 22) j.toNatClampNeg w))) := fd_hd (⟨fun _ => y_549, fun h => absurd h (by omega)⟩)
                have w_557 : fd_H (((¬ (σ10_543.1 0).toInt = 0 → σ10_543.2.1 23 = σ.2.1 23) ∧ ((σ10_543.1 0).toInt = 0 → ∃ j w : Int32, (j.toInt = (σ.1 14).toInt ∧ w.toInt = p2.toInt) ∧ σ10_543.2.1 23 = upd (σ.2.1 23) j.toNatClampNeg w))) := fd_hd (⟨fun _ => y_550, fun h => absurd h (by omega)⟩)
                have w_558 : fd_H (((¬ (σ10_543.1 0).toInt = 0 → σ10_543.2.1 24 = σ.2.1 24) ∧ ((σ10_543.1 0).toInt = 0 → ∃ j w : Int32, (j.toInt = (σ.1 14).toInt ∧ w.toInt = p3.toInt) ∧ σ10_543.2.1 24 = upd (σ.2.1 24) j.toNatClampNeg w))) := fd_hd (⟨fun _ => y_551, fun h => absurd h (by omega)⟩)
                have w_559 : fd_H (((¬ (σ10_543.1 0).toInt = 0 → σ10_543.2.1 25 = σ.2.1 25) ∧ ((σ10_543.1 0).toInt = 0 → ∃ j w : Int32, (j.toInt = (σ.1 14).toInt ∧ w.toInt = p4.toInt) ∧ σ10_543.2.1 25 = upd (σ.2.1 25) j.toNatClampNeg w))) := fd_hd (⟨fun _ => y_552, fun h => absurd h (by omega)⟩)
                have w_560 : fd_H (((¬ (σ10_543.1 0).toInt = 0 → σ10_543.2.1 26 = σ.2.1 26) ∧ ((σ10_543.1 0).toInt = 0 → ∃ j w : Int32, (j.toInt = (σ.1 14).toInt ∧ w.toInt = p5.toInt) ∧ σ10_543.2.1 26 = upd (σ.2.1 26) j.toNatClampNeg w))) := fd_hd (⟨fun _ => y_553, fun h => absurd h (by omega)⟩)
                have w_561 : fd_H (((σ10_543.1 0).toInt = 0 → (0 : Int32).toInt = (fd_cl (σ10_543.1 14) (σ10_543.2.1 22) p1 N 0 0).toInt)) := fd_hd (fun h => absurd h (by omega))
                exact fd_ok_some ⟨i_544, f_545, x_555, w_556, w_557, w_558, w_559, w_560, w_561⟩
              ·
                have d_562 := Int32.le_iff_toInt_le.mp (Int32.not_lt.mp c_541)
                have r_563 : (0 : Int) ≤ (σ.1 1).toInt ∧ (σ.1 1).toInt ≤ 200 := i0.1 1
                refine fd_ok_ite (fun c_564 => ?_) (fun c_564 => ?_)
                ·
                  have d_565 := Int32.le_iff_toInt_le.mp c_564
                  refine fd_ok_pb ?_
                  refine fd_ok_itp (by decide) ?_
                  try unfold f_X11_shape_0_J82
                  refine fd_ok_lt (fun σ10_566 eσ10_566 => ?_)
                  have i_567 : fd_InvM σ10_566 := fd_inv_sI eσ10_566 i0 (fd_rng _)
                  have f_568 : fd_fr [0, 14, 122, 123, 124, 125, 126] σ σ10_566 := fd_fr_tr f0 (fd_fr_sI eσ10_566 (by decide))
                  have t_569 : (σ10_566.1 0).toInt = (1 : Int32).toInt := congrArg Int32.toInt (fd_tI eσ10_566)
                  have t_570 : (σ10_566.1 1).toInt = (σ.1 1).toInt := congrArg Int32.toInt (fd_tN eσ10_566 (by decide))
                  have t_571 : (σ10_566.1 14).toInt = (σ.1 14).toInt := congrArg Int32.toInt (fd_tN eσ10_566 (by decide))
                  have y_572 := fd_yIA (d := 22) eσ10_566 (rfl : σ.2.1 22 = _)
                  have y_573 := fd_yIA (d := 23) eσ10_566 (rfl : σ.2.1 23 = _)
                  have y_574 := fd_yIA (d := 24) eσ10_566 (rfl : σ.2.1 24 = _)
                  have y_575 := fd_yIA (d := 25) eσ10_566 (rfl : σ.2.1 25 = _)
                  have y_576 := fd_yIA (d := 26) eσ10_566 (rfl : σ.2.1 26 = _)
                  have r_577 := fd_rng (σ10_566.1 0)
                  refine fd_ok_itn (Int32.not_le.mpr (Int32.lt_iff_toInt_lt.mpr (by omega))) ?_
                  have x_578 : ((¬ (0 ≤ p1.toInt ∧ p1.toInt < (σ.1 1).toInt)) ∧ (σ10_566.1 0).toInt = 1 ∧ (σ10_566.1 14).toInt = (σ.1 14).toInt) ∨ (¬ (¬ (0 ≤ p1.toInt ∧ p1.toInt < (σ.1 1).toInt)) ∧ ((σ.1 14).toInt = 60) ∧ (σ10_566.1 0).toInt = 2 ∧ (σ10_566.1 14).toInt = (σ.1 14).toInt) ∨ (¬ (¬ (0 ≤ p1.toInt ∧ p1.toInt < (σ.1 1).toInt)) ∧ ¬ ((σ.1 14).toInt = 60) ∧ (¬ (0 ≤ p2.toInt ∧ p2.toInt < p4.toInt ∧ p4.toInt ≤ 1000 ∧ 0 ≤ p3.toInt ∧ p3.toInt < p5.toInt ∧ p5.toInt ≤ 1000)) ∧ (σ10_566.1 0).toInt = 3 ∧ (σ10_566.1 14).toInt = (σ.1 14).toInt) ∨ (¬ (¬ (0 ≤ p1.toInt ∧ p1.toInt < (σ.1 1).toInt)) ∧ ¬ ((σ.1 14).toInt = 60) ∧ ¬ (¬ (0 ≤ p2.toInt ∧ p2.toInt < p4.toInt ∧ p4.toInt ≤ 1000 ∧ 0 ≤ p3.toInt ∧ p3.toInt < p5.toInt ∧ p5.toInt ≤ 1000)) ∧ (σ10_566.1 0).toInt = 0 ∧ (σ10_566.1 14).toInt = (σ.1 14).toInt + 1) := by omega
                  have w_579 : fd_H (((¬ (σ10_566.1 0).toInt = 0 → σ10_566.2.1 22 = σ.2.1 22) ∧ ((σ10_566.1 0).toInt = 0 → ∃ j w : Int32, (j.toInt = (σ.1 14).toInt ∧ w.toInt = p1.toInt) ∧ σ10_566.2.1 22 = upd (σ.2.1 22) j.toNatClampNeg w))) := fd_hd (⟨fun _ => y_572, fun h => absurd h (by omega)⟩)
                  have w_580 : fd_H (((¬ (σ10_566.1 0).toInt = 0 → σ10_566.2.1 23 = σ.2.1 23) ∧ ((σ10_566.1 0).toInt = 0 → ∃ j w : Int32, (j.toInt = (σ.1 14).toInt ∧ w.toInt = p2.toInt) ∧ σ10_566.2.1 23 = upd (σ.2.1 23) j.toNatClampNeg w))) := fd_hd (⟨fun _ => y_573, fun h => absurd h (by omega)⟩)
                  have w_581 : fd_H (((¬ (σ10_566.1 0).toInt = 0 → σ10_566.2.1 24 = σ.2.1 24) ∧ ((σ10_566.1 0).toInt = 0 → ∃ j w : Int32, (j.toInt = (σ.1 14).toInt ∧ w.toInt = p3.toInt) ∧ σ10_566.2.1 24 = upd (σ.2.1 24) j.toNatClampNeg w))) := fd_hd (⟨fun _ => y_574, fun h => absurd h (by omega)⟩)
                  have w_582 : fd_H (((¬ (σ10_566.1 0).toInt = 0 → σ10_566.2.1 25 = σ.2.1 25) ∧ ((σ10_566.1 0).toInt = 0 → ∃ j w : Int32, (j.toInt = (σ.1 14).toInt ∧ w.toInt = p4.toInt) ∧ σ10_566.2.1 25 = upd (σ.2.1 25) j.toNatClampNeg w))) := fd_hd (⟨fun _ => y_575, fun h => absurd h (by omega)⟩)
                  have w_583 : fd_H (((¬ (σ10_566.1 0).toInt = 0 → σ10_566.2.1 26 = σ.2.1 26) ∧ ((σ10_566.1 0).toInt = 0 → ∃ j w : Int32, (j.toInt = (σ.1 14).toInt ∧ w.toInt = p5.toInt) ∧ σ10_566.2.1 26 = upd (σ.2.1 26) j.toNatClampNeg w))) := fd_hd (⟨fun _ => y_576, fun h => absurd h (by omega)⟩)
                  have w_584 : fd_H (((σ10_566.1 0).toInt = 0 → (0 : Int32).toInt = (fd_cl (σ10_566.1 14) (σ10_566.2.1 22) p1 N 0 0).toInt)) := fd_hd (fun h => absurd h (by omega))
                  exact fd_ok_some ⟨i_567, f_568, x_578, w_579, w_580, w_581, w_582, w_583, w_584⟩
                ·
                  have d_585 := Int32.lt_iff_toInt_lt.mp (Int32.not_le.mp c_564)
                  refine fd_ok_pb ?_
                  refine fd_ok_itn (by decide) ?_
                  have r_586 : (0 : Int) ≤ (σ.1 14).toInt ∧ (σ.1 14).toInt ≤ 60 := i0.1 14
                  refine fd_ok_ite (fun c_587 => ?_) (fun c_587 => ?_)
                  ·
                    have d_588 := congrArg Int32.toInt c_587
                    try unfold f_X11_shape_0_J82
                    refine fd_ok_lt (fun σ10_589 eσ10_589 => ?_)
                    have i_590 : fd_InvM σ10_589 := fd_inv_sI eσ10_589 i0 (fd_rng _)
                    have f_591 : fd_fr [0, 14, 122, 123, 124, 125, 126] σ σ10_589 := fd_fr_tr f0 (fd_fr_sI eσ10_589 (by decide))
                    have t_592 : (σ10_589.1 0).toInt = (2 : Int32).toInt := congrArg Int32.toInt (fd_tI eσ10_589)
                    have t_593 : (σ10_589.1 1).toInt = (σ.1 1).toInt := congrArg Int32.toInt (fd_tN eσ10_589 (by decide))
                    have t_594 : (σ10_589.1 14).toInt = (σ.1 14).toInt := congrArg Int32.toInt (fd_tN eσ10_589 (by decide))
                    have y_595 := fd_yIA (d := 22) eσ10_589 (rfl : σ.2.1 22 = _)
                    have y_596 := fd_yIA (d := 23) eσ10_589 (rfl : σ.2.1 23 = _)
                    have y_597 := fd_yIA (d := 24) eσ10_589 (rfl : σ.2.1 24 = _)
                    have y_598 := fd_yIA (d := 25) eσ10_589 (rfl : σ.2.1 25 = _)
                    have y_599 := fd_yIA (d := 26) eσ10_589 (rfl : σ.2.1 26 = _)
                    have r_600 := fd_rng (σ10_589.1 0)
                    refine fd_ok_itn (Int32.not_le.mpr (Int32.lt_iff_toInt_lt.mpr (by omega))) ?_
                    have x_601 : ((¬ (0 ≤ p1.toInt ∧ p1.toInt < (σ.1 1).toInt)) ∧ (σ10_589.1 0).toInt = 1 ∧ (σ10_589.1 14).toInt = (σ.1 14).toInt) ∨ (¬ (¬ (0 ≤ p1.toInt ∧ p1.toInt < (σ.1 1).toInt)) ∧ ((σ.1 14).toInt = 60) ∧ (σ10_589.1 0).toInt = 2 ∧ (σ10_589.1 14).toInt = (σ.1 14).toInt) ∨ (¬ (¬ (0 ≤ p1.toInt ∧ p1.toInt < (σ.1 1).toInt)) ∧ ¬ ((σ.1 14).toInt = 60) ∧ (¬ (0 ≤ p2.toInt ∧ p2.toInt < p4.toInt ∧ p4.toInt ≤ 1000 ∧ 0 ≤ p3.toInt ∧ p3.toInt < p5.toInt ∧ p5.toInt ≤ 1000)) ∧ (σ10_589.1 0).toInt = 3 ∧ (σ10_589.1 14).toInt = (σ.1 14).toInt) ∨ (¬ (¬ (0 ≤ p1.toInt ∧ p1.toInt < (σ.1 1).toInt)) ∧ ¬ ((σ.1 14).toInt = 60) ∧ ¬ (¬ (0 ≤ p2.toInt ∧ p2.toInt < p4.toInt ∧ p4.toInt ≤ 1000 ∧ 0 ≤ p3.toInt ∧ p3.toInt < p5.toInt ∧ p5.toInt ≤ 1000)) ∧ (σ10_589.1 0).toInt = 0 ∧ (σ10_589.1 14).toInt = (σ.1 14).toInt + 1) := by omega
                    have w_602 : fd_H (((¬ (σ10_589.1 0).toInt = 0 → σ10_589.2.1 22 = σ.2.1 22) ∧ ((σ10_589.1 0).toInt = 0 → ∃ j w : Int32, (j.toInt = (σ.1 14).toInt ∧ w.toInt = p1.toInt) ∧ σ10_589.2.1 22 = upd (σ.2.1 22) j.toNatClampNeg w))) := fd_hd (⟨fun _ => y_595, fun h => absurd h (by omega)⟩)
                    have w_603 : fd_H (((¬ (σ10_589.1 0).toInt = 0 → σ10_589.2.1 23 = σ.2.1 23) ∧ ((σ10_589.1 0).toInt = 0 → ∃ j w : Int32, (j.toInt = (σ.1 14).toInt ∧ w.toInt = p2.toInt) ∧ σ10_589.2.1 23 = upd (σ.2.1 23) j.toNatClampNeg w))) := fd_hd (⟨fun _ => y_596, fun h => absurd h (by omega)⟩)
                    have w_604 : fd_H (((¬ (σ10_589.1 0).toInt = 0 → σ10_589.2.1 24 = σ.2.1 24) ∧ ((σ10_589.1 0).toInt = 0 → ∃ j w : Int32, (j.toInt = (σ.1 14).toInt ∧ w.toInt = p3.toInt) ∧ σ10_589.2.1 24 = upd (σ.2.1 24) j.toNatClampNeg w))) := fd_hd (⟨fun _ => y_597, fun h => absurd h (by omega)⟩)
                    have w_605 : fd_H (((¬ (σ10_589.1 0).toInt = 0 → σ10_589.2.1 25 = σ.2.1 25) ∧ ((σ10_589.1 0).toInt = 0 → ∃ j w : Int32, (j.toInt = (σ.1 14).toInt ∧ w.toInt = p4.toInt) ∧ σ10_589.2.1 25 = upd (σ.2.1 25) j.toNatClampNeg w))) := fd_hd (⟨fun _ => y_598, fun h => absurd h (by omega)⟩)
                    have w_606 : fd_H (((¬ (σ10_589.1 0).toInt = 0 → σ10_589.2.1 26 = σ.2.1 26) ∧ ((σ10_589.1 0).toInt = 0 → ∃ j w : Int32, (j.toInt = (σ.1 14).toInt ∧ w.toInt = p5.toInt) ∧ σ10_589.2.1 26 = upd (σ.2.1 26) j.toNatClampNeg w))) := fd_hd (⟨fun _ => y_599, fun h => absurd h (by omega)⟩)
                    have w_607 : fd_H (((σ10_589.1 0).toInt = 0 → (0 : Int32).toInt = (fd_cl (σ10_589.1 14) (σ10_589.2.1 22) p1 N 0 0).toInt)) := fd_hd (fun h => absurd h (by omega))
                    exact fd_ok_some ⟨i_590, f_591, x_601, w_602, w_603, w_604, w_605, w_606, w_607⟩
                  ·
                    have d_608 : ¬ (σ.1 14).toInt = (60 : Int32).toInt := fun q => c_587 (Int32.toInt_inj.mp q)
                    refine fd_ok_itn (by decide) ?_
                    try unfold f_X11_shape_0_J82
                    refine fd_ok_lt (fun σ10_609 eσ10_609 => ?_)
                    have i_610 : fd_InvM σ10_609 := fd_inv_sI eσ10_609 i0 (fd_rng _)
                    have f_611 : fd_fr [0, 14, 122, 123, 124, 125, 126] σ σ10_609 := fd_fr_tr f0 (fd_fr_sI eσ10_609 (by decide))
                    have t_612 : (σ10_609.1 0).toInt = (0 : Int32).toInt := congrArg Int32.toInt (fd_tI eσ10_609)
                    have t_613 : (σ10_609.1 1).toInt = (σ.1 1).toInt := congrArg Int32.toInt (fd_tN eσ10_609 (by decide))
                    have t_614 : (σ10_609.1 14).toInt = (σ.1 14).toInt := congrArg Int32.toInt (fd_tN eσ10_609 (by decide))
                    have y_615 := fd_yIA (d := 22) eσ10_609 (rfl : σ.2.1 22 = _)
                    have y_616 := fd_yIA (d := 23) eσ10_609 (rfl : σ.2.1 23 = _)
                    have y_617 := fd_yIA (d := 24) eσ10_609 (rfl : σ.2.1 24 = _)
                    have y_618 := fd_yIA (d := 25) eσ10_609 (rfl : σ.2.1 25 = _)
                    have y_619 := fd_yIA (d := 26) eσ10_609 (rfl : σ.2.1 26 = _)
                    have r_620 := fd_rng (σ10_609.1 0)
                    refine fd_ok_itp (Int32.le_iff_toInt_le.mpr (by omega)) ?_
                    have r_621 : (0 : Int) ≤ (σ10_609.1 14).toInt ∧ (σ10_609.1 14).toInt ≤ 60 := i_610.1 14
                    refine fd_ok_gd (vp_in_iff.mpr ⟨by omega, by omega⟩) ?_
                    refine fd_ok_lt (fun σ13_622 eσ13_622 => ?_)
                    have i_623 : fd_InvM σ13_622 := fd_inv_sA eσ13_622 i_610 (by decide) (by decide) (fd_rng _)
                    have f_624 : fd_fr [0, 14, 122, 123, 124, 125, 126] σ σ13_622 := fd_fr_tr f_611 (fd_fr_sA eσ13_622 (by decide))
                    have t_625 : (σ13_622.1 0).toInt = (σ10_609.1 0).toInt := by subst eσ13_622; rfl
                    have t_626 : (σ13_622.1 1).toInt = (σ10_609.1 1).toInt := by subst eσ13_622; rfl
                    have t_627 : (σ13_622.1 14).toInt = (σ10_609.1 14).toInt := by subst eσ13_622; rfl
                    have y_628 := fd_yA eσ13_622 y_615
                    have y_629 := fd_yAn (d := 23) eσ13_622 (by decide) y_616
                    have y_630 := fd_yAn (d := 24) eσ13_622 (by decide) y_617
                    have y_631 := fd_yAn (d := 25) eσ13_622 (by decide) y_618
                    have y_632 := fd_yAn (d := 26) eσ13_622 (by decide) y_619
                    have r_633 : (0 : Int) ≤ (σ13_622.1 14).toInt ∧ (σ13_622.1 14).toInt ≤ 60 := i_623.1 14
                    refine fd_ok_gd (vp_in_iff.mpr ⟨by omega, by omega⟩) ?_
                    refine fd_ok_lt (fun σ15_634 eσ15_634 => ?_)
                    have i_635 : fd_InvM σ15_634 := fd_inv_sA eσ15_634 i_623 (by decide) (by decide) (fd_rng _)
                    have f_636 : fd_fr [0, 14, 122, 123, 124, 125, 126] σ σ15_634 := fd_fr_tr f_624 (fd_fr_sA eσ15_634 (by decide))
                    have t_637 : (σ15_634.1 0).toInt = (σ13_622.1 0).toInt := by subst eσ15_634; rfl
                    have t_638 : (σ15_634.1 1).toInt = (σ13_622.1 1).toInt := by subst eσ15_634; rfl
                    have t_639 : (σ15_634.1 14).toInt = (σ13_622.1 14).toInt := by subst eσ15_634; rfl
                    have y_640 := fd_yAn (d := 22) eσ15_634 (by decide) y_628
                    have y_641 := fd_yA eσ15_634 y_629
                    have y_642 := fd_yAn (d := 24) eσ15_634 (by decide) y_630
                    have y_643 := fd_yAn (d := 25) eσ15_634 (by decide) y_631
                    have y_644 := fd_yAn (d := 26) eσ15_634 (by decide) y_632
                    have r_645 : (0 : Int) ≤ (σ15_634.1 14).toInt ∧ (σ15_634.1 14).toInt ≤ 60 := i_635.1 14
                    refine fd_ok_gd (vp_in_iff.mpr ⟨by omega, by omega⟩) ?_
                    refine fd_ok_lt (fun σ17_646 eσ17_646 => ?_)
                    have i_647 : fd_InvM σ17_646 := fd_inv_sA eσ17_646 i_635 (by decide) (by decide) (fd_rng _)
                    have f_648 : fd_fr [0, 14, 122, 123, 124, 125, 126] σ σ17_646 := fd_fr_tr f_636 (fd_fr_sA eσ17_646 (by decide))
                    have t_649 : (σ17_646.1 0).toInt = (σ15_634.1 0).toInt := by subst eσ17_646; rfl
                    have t_650 : (σ17_646.1 1).toInt = (σ15_634.1 1).toInt := by subst eσ17_646; rfl
                    have t_651 : (σ17_646.1 14).toInt = (σ15_634.1 14).toInt := by subst eσ17_646; rfl
                    have y_652 := fd_yAn (d := 22) eσ17_646 (by decide) y_640
                    have y_653 := fd_yAn (d := 23) eσ17_646 (by decide) y_641
                    have y_654 := fd_yA eσ17_646 y_642
                    have y_655 := fd_yAn (d := 25) eσ17_646 (by decide) y_643
                    have y_656 := fd_yAn (d := 26) eσ17_646 (by decide) y_644
                    have r_657 : (0 : Int) ≤ (σ17_646.1 14).toInt ∧ (σ17_646.1 14).toInt ≤ 60 := i_647.1 14
                    refine fd_ok_gd (vp_in_iff.mpr ⟨by omega, by omega⟩) ?_
                    refine fd_ok_lt (fun σ19_658 eσ19_658 => ?_)
                    have i_659 : fd_InvM σ19_658 := fd_inv_sA eσ19_658 i_647 (by decide) (by decide) (fd_rng _)
                    have f_660 : fd_fr [0, 14, 122, 123, 124, 125, 126] σ σ19_658 := fd_fr_tr f_648 (fd_fr_sA eσ19_658 (by decide))
                    have t_661 : (σ19_658.1 0).toInt = (σ17_646.1 0).toInt := by subst eσ19_658; rfl
                    have t_662 : (σ19_658.1 1).toInt = (σ17_646.1 1).toInt := by subst eσ19_658; rfl
                    have t_663 : (σ19_658.1 14).toInt = (σ17_646.1 14).toInt := by subst eσ19_658; rfl
                    have y_664 := fd_yAn (d := 22) eσ19_658 (by decide) y_652
                    have y_665 := fd_yAn (d := 23) eσ19_658 (by decide) y_653
                    have y_666 := fd_yAn (d := 24) eσ19_658 (by decide) y_654
                    have y_667 := fd_yA eσ19_658 y_655
                    have y_668 := fd_yAn (d := 26) eσ19_658 (by decide) y_656
                    have r_669 : (0 : Int) ≤ (σ19_658.1 14).toInt ∧ (σ19_658.1 14).toInt ≤ 60 := i_659.1 14
                    refine fd_ok_gd (vp_in_iff.mpr ⟨by omega, by omega⟩) ?_
                    refine fd_ok_lt (fun σ21_670 eσ21_670 => ?_)
                    have i_671 : fd_InvM σ21_670 := fd_inv_sA eσ21_670 i_659 (by decide) (by decide) (fd_rng _)
                    have f_672 : fd_fr [0, 14, 122, 123, 124, 125, 126] σ σ21_670 := fd_fr_tr f_660 (fd_fr_sA eσ21_670 (by decide))
                    have t_673 : (σ21_670.1 0).toInt = (σ19_658.1 0).toInt := by subst eσ21_670; rfl
                    have t_674 : (σ21_670.1 1).toInt = (σ19_658.1 1).toInt := by subst eσ21_670; rfl
                    have t_675 : (σ21_670.1 14).toInt = (σ19_658.1 14).toInt := by subst eσ21_670; rfl
                    have y_676 := fd_yAn (d := 22) eσ21_670 (by decide) y_664
                    have y_677 := fd_yAn (d := 23) eσ21_670 (by decide) y_665
                    have y_678 := fd_yAn (d := 24) eσ21_670 (by decide) y_666
                    have y_679 := fd_yAn (d := 25) eσ21_670 (by decide) y_667
                    have y_680 := fd_yA eσ21_670 y_668
                    refine fd_ok_lt (fun σ22_681 eσ22_681 => ?_)
                    have r_684 : (0 : Int) ≤ (σ21_670.1 14).toInt ∧ (σ21_670.1 14).toInt ≤ 60 := i_671.1 14
                    have u_685 := Jvm.Kit.i32_add (x := (σ21_670.1 14)) (y := (1 : Int32)) (by omega) (by omega)
                    have i_682 : fd_InvM σ22_681 := fd_inv_sI eσ22_681 i_671 ⟨(by omega : (0 : Int) ≤ ((σ21_670.1 14) + (1 : Int32)).toInt), (by omega : ((σ21_670.1 14) + (1 : Int32)).toInt ≤ 60)⟩
                    have f_683 : fd_fr [0, 14, 122, 123, 124, 125, 126] σ σ22_681 := fd_fr_tr f_672 (fd_fr_sI eσ22_681 (by decide))
                    have t_686 : (σ22_681.1 0).toInt = (σ21_670.1 0).toInt := congrArg Int32.toInt (fd_tN eσ22_681 (by decide))
                    have t_687 : (σ22_681.1 1).toInt = (σ21_670.1 1).toInt := congrArg Int32.toInt (fd_tN eσ22_681 (by decide))
                    have t_688 : (σ22_681.1 14).toInt = ((σ21_670.1 14) + (1 : Int32)).toInt := congrArg Int32.toInt (fd_tI eσ22_681)
                    have y_689 := fd_yIA (d := 22) eσ22_681 y_676
                    have y_690 := fd_yIA (d := 23) eσ22_681 y_677
                    have y_691 := fd_yIA (d := 24) eσ22_681 y_678
                    have y_692 := fd_yIA (d := 25) eσ22_681 y_679
                    have y_693 := fd_yIA (d := 26) eσ22_681 y_680
                    refine fd_ok_mono (s_X11_shape_0_L162 N hN N _ _ _ _ i_682 (by omega) (by omega) (by omega)) ?_
                    rintro v s ⟨hi, hf, hx⟩
                    have t_694 : (s.1 0).toInt = (σ22_681.1 0).toInt := congrArg Int32.toInt (hf.1 0 (by decide))
                    have t_695 : (s.1 1).toInt = (σ22_681.1 1).toInt := congrArg Int32.toInt (hf.1 1 (by decide))
                    have t_696 : (s.1 14).toInt = (σ22_681.1 14).toInt := congrArg Int32.toInt (hf.1 14 (by decide))
                    have y_697 := (hf.2.1 22 (by decide)).trans y_689
                    have y_698 := (hf.2.1 23 (by decide)).trans y_690
                    have y_699 := (hf.2.1 24 (by decide)).trans y_691
                    have y_700 := (hf.2.1 25 (by decide)).trans y_692
                    have y_701 := (hf.2.1 26 (by decide)).trans y_693
                    have w_702 : fd_H (((¬ (s.1 0).toInt = 0 → s.2.1 22 = σ.2.1 22) ∧ ((s.1 0).toInt = 0 → ∃ j w : Int32, (j.toInt = (σ.1 14).toInt ∧ w.toInt = p1.toInt) ∧ s.2.1 22 = upd (σ.2.1 22) j.toNatClampNeg w))) := fd_hd (⟨fun h => absurd (by omega) h, fun _ => ⟨_, _, by omega, y_697⟩⟩)
                    have w_703 : fd_H (((¬ (s.1 0).toInt = 0 → s.2.1 23 = σ.2.1 23) ∧ ((s.1 0).toInt = 0 → ∃ j w : Int32, (j.toInt = (σ.1 14).toInt ∧ w.toInt = p2.toInt) ∧ s.2.1 23 = upd (σ.2.1 23) j.toNatClampNeg w))) := fd_hd (⟨fun h => absurd (by omega) h, fun _ => ⟨_, _, by omega, y_698⟩⟩)
                    have w_704 : fd_H (((¬ (s.1 0).toInt = 0 → s.2.1 24 = σ.2.1 24) ∧ ((s.1 0).toInt = 0 → ∃ j w : Int32, (j.toInt = (σ.1 14).toInt ∧ w.toInt = p3.toInt) ∧ s.2.1 24 = upd (σ.2.1 24) j.toNatClampNeg w))) := fd_hd (⟨fun h => absurd (by omega) h, fun _ => ⟨_, _, by omega, y_699⟩⟩)
                    have w_705 : fd_H (((¬ (s.1 0).toInt = 0 → s.2.1 25 = σ.2.1 25) ∧ ((s.1 0).toInt = 0 → ∃ j w : Int32, (j.toInt = (σ.1 14).toInt ∧ w.toInt = p4.toInt) ∧ s.2.1 25 = upd (σ.2.1 25) j.toNatClampNeg w))) := fd_hd (⟨fun h => absurd (by omega) h, fun _ => ⟨_, _, by omega, y_700⟩⟩)
                    have w_706 : fd_H (((¬ (s.1 0).toInt = 0 → s.2.1 26 = σ.2.1 26) ∧ ((s.1 0).toInt = 0 → ∃ j w : Int32, (j.toInt = (σ.1 14).toInt ∧ w.toInt = p5.toInt) ∧ s.2.1 26 = upd (σ.2.1 26) j.toNatClampNeg w))) := fd_hd (⟨fun h => absurd (by omega) h, fun _ => ⟨_, _, by omega, y_701⟩⟩)
                    have w_707 : fd_H (((s.1 0).toInt = 0 → v.toInt = (fd_cl (s.1 14) (s.2.1 22) p1 N 0 0).toInt)) := fd_hd (fun _ => by rw [hf.1 14 (by decide), hf.2.1 22 (by decide), ← hx])
                    have xx : ((¬ (0 ≤ p1.toInt ∧ p1.toInt < (σ.1 1).toInt)) ∧ (s.1 0).toInt = 1 ∧ (s.1 14).toInt = (σ.1 14).toInt) ∨ (¬ (¬ (0 ≤ p1.toInt ∧ p1.toInt < (σ.1 1).toInt)) ∧ ((σ.1 14).toInt = 60) ∧ (s.1 0).toInt = 2 ∧ (s.1 14).toInt = (σ.1 14).toInt) ∨ (¬ (¬ (0 ≤ p1.toInt ∧ p1.toInt < (σ.1 1).toInt)) ∧ ¬ ((σ.1 14).toInt = 60) ∧ (¬ (0 ≤ p2.toInt ∧ p2.toInt < p4.toInt ∧ p4.toInt ≤ 1000 ∧ 0 ≤ p3.toInt ∧ p3.toInt < p5.toInt ∧ p5.toInt ≤ 1000)) ∧ (s.1 0).toInt = 3 ∧ (s.1 14).toInt = (σ.1 14).toInt) ∨ (¬ (¬ (0 ≤ p1.toInt ∧ p1.toInt < (σ.1 1).toInt)) ∧ ¬ ((σ.1 14).toInt = 60) ∧ ¬ (¬ (0 ≤ p2.toInt ∧ p2.toInt < p4.toInt ∧ p4.toInt ≤ 1000 ∧ 0 ≤ p3.toInt ∧ p3.toInt < p5.toInt ∧ p5.toInt ≤ 1000)) ∧ (s.1 0).toInt = 0 ∧ (s.1 14).toInt = (σ.1 14).toInt + 1) := by omega
                    exact ⟨hi, fd_fr_tr f_683 (fd_fr_mono hf (by decide)), xx, w_702, w_703, w_704, w_705, w_706, w_707⟩
set_option maxHeartbeats 4000000 in
theorem s_X11_area_0 (N : Nat) (hN : 1000 ≤ N) (p1 : Int32) (p2 : Int32) (σ : fd_St) (i0 : fd_InvM σ) : fd_ok (f_X11_area_0 N p1 p2 σ) (fun v s => fd_InvM s ∧ fd_fr [0, 127, 128] σ s ∧ ((¬ (0 ≤ p1.toInt ∧ p1.toInt < (σ.1 1).toInt) ∧ (s.1 0).toInt = 1) ∨ (¬ ¬ (0 ≤ p1.toInt ∧ p1.toInt < (σ.1 1).toInt) ∧ (p2.toInt < 0 ∨ 100 < p2.toInt) ∧ (s.1 0).toInt = 2) ∨ (¬ ¬ (0 ≤ p1.toInt ∧ p1.toInt < (σ.1 1).toInt) ∧ ¬ (p2.toInt < 0 ∨ 100 < p2.toInt) ∧ (s.1 0).toInt = 0)) ∧ fd_H (((s.1 0).toInt = 0 → fd_Sh (σ.2.1 23) (σ.2.1 24) (σ.2.1 25) (σ.2.1 26) (σ.1 14).toNatClampNeg → v.toInt = fd_rs (fun x => fd_rs (fun y => fd_in (fd_B (σ.2.1 22) (σ.2.1 23) (σ.2.1 24) (σ.2.1 25) (σ.2.1 26) p1 p1 p2.toInt (σ.1 14).toNatClampNeg x y)) (-100) 1100) (-100) 1100))) := by
  have lit0 : (0 : Int32).toInt = 0 := by decide
  have lit1 : (1 : Int32).toInt = 1 := by decide
  have lit2 : (2 : Int32).toInt = 2 := by decide
  have lit100 : (100 : Int32).toInt = 100 := by decide
  have f0 : fd_fr [0, 127, 128] σ σ := fd_fr_rf
  unfold f_X11_area_0
  refine fd_ok_bd ?_
  try unfold f_X11_isIn
  refine fd_ok_ite (fun c_1 => ?_) (fun c_1 => ?_)
  ·
    have d_2 := Int32.lt_iff_toInt_lt.mp c_1
    refine fd_ok_pb ?_
    refine fd_ok_itp (by decide) ?_
    try unfold f_X11_area_0_J31
    refine fd_ok_lt (fun σ8_3 eσ8_3 => ?_)
    have i_4 : fd_InvM σ8_3 := fd_inv_sI eσ8_3 i0 (fd_rng _)
    have f_5 : fd_fr [0, 127, 128] σ σ8_3 := fd_fr_tr f0 (fd_fr_sI eσ8_3 (by decide))
    have t_6 : (σ8_3.1 0).toInt = (1 : Int32).toInt := congrArg Int32.toInt (fd_tI eσ8_3)
    have t_7 : (σ8_3.1 1).toInt = (σ.1 1).toInt := congrArg Int32.toInt (fd_tN eσ8_3 (by decide))
    have y_8 := fd_yIA (d := 22) eσ8_3 (rfl : σ.2.1 22 = _)
    have r_9 := fd_rng (σ8_3.1 0)
    refine fd_ok_itn (Int32.not_le.mpr (Int32.lt_iff_toInt_lt.mpr (by omega))) ?_
    have x_10 : (¬ (0 ≤ p1.toInt ∧ p1.toInt < (σ.1 1).toInt) ∧ (σ8_3.1 0).toInt = 1) ∨ (¬ ¬ (0 ≤ p1.toInt ∧ p1.toInt < (σ.1 1).toInt) ∧ (p2.toInt < 0 ∨ 100 < p2.toInt) ∧ (σ8_3.1 0).toInt = 2) ∨ (¬ ¬ (0 ≤ p1.toInt ∧ p1.toInt < (σ.1 1).toInt) ∧ ¬ (p2.toInt < 0 ∨ 100 < p2.toInt) ∧ (σ8_3.1 0).toInt = 0) := by omega
    have w_11 : fd_H (((σ8_3.1 0).toInt = 0 → fd_Sh (σ.2.1 23) (σ.2.1 24) (σ.2.1 25) (σ.2.1 26) (σ.1 14).toNatClampNeg → (0 : Int32).toInt = fd_rs (fun x => fd_rs (fun y => fd_in (fd_B (σ.2.1 22) (σ.2.1 23) (σ.2.1 24) (σ.2.1 25) (σ.2.1 26) p1 p1 p2.toInt (σ.1 14).toNatClampNeg x y)) (-100) 1100) (-100) 1100)) := fd_hd (fun h => absurd h (by omega))
    exact fd_ok_some ⟨i_4, f_5, x_10, w_11⟩
  ·
    have d_12 := Int32.le_iff_toInt_le.mp (Int32.not_lt.mp c_1)
    have r_13 : (0 : Int) ≤ (σ.1 1).toInt ∧ (σ.1 1).toInt ≤ 200 := i0.1 1
    refine fd_ok_ite (fun c_14 => ?_) (fun c_14 => ?_)
    ·
      have d_15 := Int32.le_iff_toInt_le.mp c_14
      refine fd_ok_pb ?_
      refine fd_ok_itp (by decide) ?_
      try unfold f_X11_area_0_J31
      refine fd_ok_lt (fun σ8_16 eσ8_16 => ?_)
      have i_17 : fd_InvM σ8_16 := fd_inv_sI eσ8_16 i0 (fd_rng _)
      have f_18 : fd_fr [0, 127, 128] σ σ8_16 := fd_fr_tr f0 (fd_fr_sI eσ8_16 (by decide))
      have t_19 : (σ8_16.1 0).toInt = (1 : Int32).toInt := congrArg Int32.toInt (fd_tI eσ8_16)
      have t_20 : (σ8_16.1 1).toInt = (σ.1 1).toInt := congrArg Int32.toInt (fd_tN eσ8_16 (by decide))
      have y_21 := fd_yIA (d := 22) eσ8_16 (rfl : σ.2.1 22 = _)
      have r_22 := fd_rng (σ8_16.1 0)
      refine fd_ok_itn (Int32.not_le.mpr (Int32.lt_iff_toInt_lt.mpr (by omega))) ?_
      have x_23 : (¬ (0 ≤ p1.toInt ∧ p1.toInt < (σ.1 1).toInt) ∧ (σ8_16.1 0).toInt = 1) ∨ (¬ ¬ (0 ≤ p1.toInt ∧ p1.toInt < (σ.1 1).toInt) ∧ (p2.toInt < 0 ∨ 100 < p2.toInt) ∧ (σ8_16.1 0).toInt = 2) ∨ (¬ ¬ (0 ≤ p1.toInt ∧ p1.toInt < (σ.1 1).toInt) ∧ ¬ (p2.toInt < 0 ∨ 100 < p2.toInt) ∧ (σ8_16.1 0).toInt = 0) := by omega
      have w_24 : fd_H (((σ8_16.1 0).toInt = 0 → fd_Sh (σ.2.1 23) (σ.2.1 24) (σ.2.1 25) (σ.2.1 26) (σ.1 14).toNatClampNeg → (0 : Int32).toInt = fd_rs (fun x => fd_rs (fun y => fd_in (fd_B (σ.2.1 22) (σ.2.1 23) (σ.2.1 24) (σ.2.1 25) (σ.2.1 26) p1 p1 p2.toInt (σ.1 14).toNatClampNeg x y)) (-100) 1100) (-100) 1100)) := fd_hd (fun h => absurd h (by omega))
      exact fd_ok_some ⟨i_17, f_18, x_23, w_24⟩
    ·
      have d_25 := Int32.lt_iff_toInt_lt.mp (Int32.not_le.mp c_14)
      refine fd_ok_pb ?_
      refine fd_ok_itn (by decide) ?_
      refine fd_ok_ite (fun c_26 => ?_) (fun c_26 => ?_)
      ·
        have d_27 := Int32.lt_iff_toInt_lt.mp c_26
        try unfold f_X11_area_0_J26
        try unfold f_X11_area_0_J31
        refine fd_ok_lt (fun σ8_28 eσ8_28 => ?_)
        have i_29 : fd_InvM σ8_28 := fd_inv_sI eσ8_28 i0 (fd_rng _)
        have f_30 : fd_fr [0, 127, 128] σ σ8_28 := fd_fr_tr f0 (fd_fr_sI eσ8_28 (by decide))
        have t_31 : (σ8_28.1 0).toInt = (2 : Int32).toInt := congrArg Int32.toInt (fd_tI eσ8_28)
        have t_32 : (σ8_28.1 1).toInt = (σ.1 1).toInt := congrArg Int32.toInt (fd_tN eσ8_28 (by decide))
        have y_33 := fd_yIA (d := 22) eσ8_28 (rfl : σ.2.1 22 = _)
        have r_34 := fd_rng (σ8_28.1 0)
        refine fd_ok_itn (Int32.not_le.mpr (Int32.lt_iff_toInt_lt.mpr (by omega))) ?_
        have x_35 : (¬ (0 ≤ p1.toInt ∧ p1.toInt < (σ.1 1).toInt) ∧ (σ8_28.1 0).toInt = 1) ∨ (¬ ¬ (0 ≤ p1.toInt ∧ p1.toInt < (σ.1 1).toInt) ∧ (p2.toInt < 0 ∨ 100 < p2.toInt) ∧ (σ8_28.1 0).toInt = 2) ∨ (¬ ¬ (0 ≤ p1.toInt ∧ p1.toInt < (σ.1 1).toInt) ∧ ¬ (p2.toInt < 0 ∨ 100 < p2.toInt) ∧ (σ8_28.1 0).toInt = 0) := by omega
        have w_36 : fd_H (((σ8_28.1 0).toInt = 0 → fd_Sh (σ.2.1 23) (σ.2.1 24) (σ.2.1 25) (σ.2.1 26) (σ.1 14).toNatClampNeg → (0 : Int32).toInt = fd_rs (fun x => fd_rs (fun y => fd_in (fd_B (σ.2.1 22) (σ.2.1 23) (σ.2.1 24) (σ.2.1 25) (σ.2.1 26) p1 p1 p2.toInt (σ.1 14).toNatClampNeg x y)) (-100) 1100) (-100) 1100)) := fd_hd (fun h => absurd h (by omega))
        exact fd_ok_some ⟨i_29, f_30, x_35, w_36⟩
      ·
        have d_37 := Int32.le_iff_toInt_le.mp (Int32.not_lt.mp c_26)
        refine fd_ok_ite (fun c_38 => ?_) (fun c_38 => ?_)
        ·
          have d_39 := Int32.le_iff_toInt_le.mp c_38
          try unfold f_X11_area_0_J31
          refine fd_ok_lt (fun σ8_40 eσ8_40 => ?_)
          have i_41 : fd_InvM σ8_40 := fd_inv_sI eσ8_40 i0 (fd_rng _)
          have f_42 : fd_fr [0, 127, 128] σ σ8_40 := fd_fr_tr f0 (fd_fr_sI eσ8_40 (by decide))
          have t_43 : (σ8_40.1 0).toInt = (0 : Int32).toInt := congrArg Int32.toInt (fd_tI eσ8_40)
          have t_44 : (σ8_40.1 1).toInt = (σ.1 1).toInt := congrArg Int32.toInt (fd_tN eσ8_40 (by decide))
          have y_45 := fd_yIA (d := 22) eσ8_40 (rfl : σ.2.1 22 = _)
          have r_46 := fd_rng (σ8_40.1 0)
          refine fd_ok_itp (Int32.le_iff_toInt_le.mpr (by omega)) ?_
          refine fd_ok_bd ?_
          refine fd_ok_cl (s_X11_areaOf_0 N hN _ _ _ _ i_41) ?_
          rintro v_47 σ_48 ⟨i_49, g_50, x_51⟩
          have f_52 : fd_fr [0, 127, 128] σ σ_48 := fd_fr_tr f_42 (fd_fr_mono g_50 (by decide))
          have y_53 := (g_50.2.1 22 (by decide)).trans y_45
          have t_54 : (σ_48.1 0).toInt = (σ8_40.1 0).toInt := congrArg Int32.toInt (g_50.1 0 (by decide))
          have t_55 : (σ_48.1 1).toInt = (σ8_40.1 1).toInt := congrArg Int32.toInt (g_50.1 1 (by decide))
          have x_56 : (¬ (0 ≤ p1.toInt ∧ p1.toInt < (σ.1 1).toInt) ∧ (σ_48.1 0).toInt = 1) ∨ (¬ ¬ (0 ≤ p1.toInt ∧ p1.toInt < (σ.1 1).toInt) ∧ (p2.toInt < 0 ∨ 100 < p2.toInt) ∧ (σ_48.1 0).toInt = 2) ∨ (¬ ¬ (0 ≤ p1.toInt ∧ p1.toInt < (σ.1 1).toInt) ∧ ¬ (p2.toInt < 0 ∨ 100 < p2.toInt) ∧ (σ_48.1 0).toInt = 0) := by omega
          have E1 : σ8_40.1 14 = σ.1 14 := fd_tN eσ8_40 (by decide)
          have E2 : σ8_40.2.1 = σ.2.1 := by subst eσ8_40; rfl
          have R14 : (0 : Int) ≤ (σ8_40.1 14).toInt ∧ (σ8_40.1 14).toInt ≤ 60 := i_41.1 14
          rw [E1, E2] at x_51
          rw [E1] at R14
          have w_57 : fd_H (((σ_48.1 0).toInt = 0 → fd_Sh (σ.2.1 23) (σ.2.1 24) (σ.2.1 25) (σ.2.1 26) (σ.1 14).toNatClampNeg → v_47.toInt = fd_rs (fun x => fd_rs (fun y => fd_in (fd_B (σ.2.1 22) (σ.2.1 23) (σ.2.1 24) (σ.2.1 25) (σ.2.1 26) p1 p1 p2.toInt (σ.1 14).toNatClampNeg x y)) (-100) 1100) (-100) 1100)) := fd_hd (fun _ => fun hS => x_51 R14.1 R14.2 (by omega) (by omega) hS)
          exact fd_ok_some ⟨i_49, f_52, x_56, w_57⟩
        ·
          have d_58 := Int32.lt_iff_toInt_lt.mp (Int32.not_le.mp c_38)
          try unfold f_X11_area_0_J26
          try unfold f_X11_area_0_J31
          refine fd_ok_lt (fun σ8_59 eσ8_59 => ?_)
          have i_60 : fd_InvM σ8_59 := fd_inv_sI eσ8_59 i0 (fd_rng _)
          have f_61 : fd_fr [0, 127, 128] σ σ8_59 := fd_fr_tr f0 (fd_fr_sI eσ8_59 (by decide))
          have t_62 : (σ8_59.1 0).toInt = (2 : Int32).toInt := congrArg Int32.toInt (fd_tI eσ8_59)
          have t_63 : (σ8_59.1 1).toInt = (σ.1 1).toInt := congrArg Int32.toInt (fd_tN eσ8_59 (by decide))
          have y_64 := fd_yIA (d := 22) eσ8_59 (rfl : σ.2.1 22 = _)
          have r_65 := fd_rng (σ8_59.1 0)
          refine fd_ok_itn (Int32.not_le.mpr (Int32.lt_iff_toInt_lt.mpr (by omega))) ?_
          have x_66 : (¬ (0 ≤ p1.toInt ∧ p1.toInt < (σ.1 1).toInt) ∧ (σ8_59.1 0).toInt = 1) ∨ (¬ ¬ (0 ≤ p1.toInt ∧ p1.toInt < (σ.1 1).toInt) ∧ (p2.toInt < 0 ∨ 100 < p2.toInt) ∧ (σ8_59.1 0).toInt = 2) ∨ (¬ ¬ (0 ≤ p1.toInt ∧ p1.toInt < (σ.1 1).toInt) ∧ ¬ (p2.toInt < 0 ∨ 100 < p2.toInt) ∧ (σ8_59.1 0).toInt = 0) := by omega
          have w_67 : fd_H (((σ8_59.1 0).toInt = 0 → fd_Sh (σ.2.1 23) (σ.2.1 24) (σ.2.1 25) (σ.2.1 26) (σ.1 14).toNatClampNeg → (0 : Int32).toInt = fd_rs (fun x => fd_rs (fun y => fd_in (fd_B (σ.2.1 22) (σ.2.1 23) (σ.2.1 24) (σ.2.1 25) (σ.2.1 26) p1 p1 p2.toInt (σ.1 14).toNatClampNeg x y)) (-100) 1100) (-100) 1100)) := fd_hd (fun h => absurd h (by omega))
          exact fd_ok_some ⟨i_60, f_61, x_66, w_67⟩
set_option maxHeartbeats 4000000 in
theorem s_X11_common_0 (N : Nat) (hN : 1000 ≤ N) (p1 : Int32) (p2 : Int32) (p3 : Int32) (σ : fd_St) (i0 : fd_InvM σ) : fd_ok (f_X11_common_0 N p1 p2 p3 σ) (fun v s => fd_InvM s ∧ fd_fr [0, 127, 128] σ s ∧ ((¬ ((0 ≤ p1.toInt ∧ p1.toInt < (σ.1 1).toInt) ∧ (0 ≤ p2.toInt ∧ p2.toInt < (σ.1 1).toInt)) ∧ (s.1 0).toInt = 1) ∨ (¬ ¬ ((0 ≤ p1.toInt ∧ p1.toInt < (σ.1 1).toInt) ∧ (0 ≤ p2.toInt ∧ p2.toInt < (σ.1 1).toInt)) ∧ (p3.toInt < 0 ∨ 100 < p3.toInt) ∧ (s.1 0).toInt = 2) ∨ (¬ ¬ ((0 ≤ p1.toInt ∧ p1.toInt < (σ.1 1).toInt) ∧ (0 ≤ p2.toInt ∧ p2.toInt < (σ.1 1).toInt)) ∧ ¬ (p3.toInt < 0 ∨ 100 < p3.toInt) ∧ (s.1 0).toInt = 0)) ∧ fd_H (((s.1 0).toInt = 0 → fd_Sh (σ.2.1 23) (σ.2.1 24) (σ.2.1 25) (σ.2.1 26) (σ.1 14).toNatClampNeg → v.toInt = fd_rs (fun x => fd_rs (fun y => fd_in (fd_B (σ.2.1 22) (σ.2.1 23) (σ.2.1 24) (σ.2.1 25) (σ.2.1 26) p1 p2 p3.toInt (σ.1 14).toNatClampNeg x y)) (-100) 1100) (-100) 1100))) := by
  have lit0 : (0 : Int32).toInt = 0 := by decide
  have lit1 : (1 : Int32).toInt = 1 := by decide
  have lit2 : (2 : Int32).toInt = 2 := by decide
  have lit100 : (100 : Int32).toInt = 100 := by decide
  have f0 : fd_fr [0, 127, 128] σ σ := fd_fr_rf
  unfold f_X11_common_0
  refine fd_ok_bd ?_
  try unfold f_X11_isIn
  refine fd_ok_ite (fun c_1 => ?_) (fun c_1 => ?_)
  ·
    have d_2 := Int32.lt_iff_toInt_lt.mp c_1
    refine fd_ok_pb ?_
    refine fd_ok_itp (by decide) ?_
    try unfold f_X11_common_0_J23
    try unfold f_X11_common_0_J42
    refine fd_ok_lt (fun σ7_3 eσ7_3 => ?_)
    have i_4 : fd_InvM σ7_3 := fd_inv_sI eσ7_3 i0 (fd_rng _)
    have f_5 : fd_fr [0, 127, 128] σ σ7_3 := fd_fr_tr f0 (fd_fr_sI eσ7_3 (by decide))
    have t_6 : (σ7_3.1 0).toInt = (1 : Int32).toInt := congrArg Int32.toInt (fd_tI eσ7_3)
    have t_7 : (σ7_3.1 1).toInt = (σ.1 1).toInt := congrArg Int32.toInt (fd_tN eσ7_3 (by decide))
    have y_8 := fd_yIA (d := 22) eσ7_3 (rfl : σ.2.1 22 = _)
    have r_9 := fd_rng (σ7_3.1 0)
    refine fd_ok_itn (Int32.not_le.mpr (Int32.lt_iff_toInt_lt.mpr (by omega))) ?_
    have x_10 : (¬ ((0 ≤ p1.toInt ∧ p1.toInt < (σ.1 1).toInt) ∧ (0 ≤ p2.toInt ∧ p2.toInt < (σ.1 1).toInt)) ∧ (σ7_3.1 0).toInt = 1) ∨ (¬ ¬ ((0 ≤ p1.toInt ∧ p1.toInt < (σ.1 1).toInt) ∧ (0 ≤ p2.toInt ∧ p2.toInt < (σ.1 1).toInt)) ∧ (p3.toInt < 0 ∨ 100 < p3.toInt) ∧ (σ7_3.1 0).toInt = 2) ∨ (¬ ¬ ((0 ≤ p1.toInt ∧ p1.toInt < (σ.1 1).toInt) ∧ (0 ≤ p2.toInt ∧ p2.toInt < (σ.1 1).toInt)) ∧ ¬ (p3.toInt < 0 ∨ 100 < p3.toInt) ∧ (σ7_3.1 0).toInt = 0) := by omega
    have w_11 : fd_H (((σ7_3.1 0).toInt = 0 → fd_Sh (σ.2.1 23) (σ.2.1 24) (σ.2.1 25) (σ.2.1 26) (σ.1 14).toNatClampNeg → (0 : Int32).toInt = fd_rs (fun x => fd_rs (fun y => fd_in (fd_B (σ.2.1 22) (σ.2.1 23) (σ.2.1 24) (σ.2.1 25) (σ.2.1 26) p1 p2 p3.toInt (σ.1 14).toNatClampNeg x y)) (-100) 1100) (-100) 1100)) := fd_hd (fun h => absurd h (by omega))
    exact fd_ok_some ⟨i_4, f_5, x_10, w_11⟩
  ·
    have d_12 := Int32.le_iff_toInt_le.mp (Int32.not_lt.mp c_1)
    have r_13 : (0 : Int) ≤ (σ.1 1).toInt ∧ (σ.1 1).toInt ≤ 200 := i0.1 1
    refine fd_ok_ite (fun c_14 => ?_) (fun c_14 => ?_)
    ·
      have d_15 := Int32.le_iff_toInt_le.mp c_14
      refine fd_ok_pb ?_
      refine fd_ok_itp (by decide) ?_
      try unfold f_X11_common_0_J23
      try unfold f_X11_common_0_J42
      refine fd_ok_lt (fun σ7_16 eσ7_16 => ?_)
      have i_17 : fd_InvM σ7_16 := fd_inv_sI eσ7_16 i0 (fd_rng _)
      have f_18 : fd_fr [0, 127, 128] σ σ7_16 := fd_fr_tr f0 (fd_fr_sI eσ7_16 (by decide))
      have t_19 : (σ7_16.1 0).toInt = (1 : Int32).toInt := congrArg Int32.toInt (fd_tI eσ7_16)
      have t_20 : (σ7_16.1 1).toInt = (σ.1 1).toInt := congrArg Int32.toInt (fd_tN eσ7_16 (by decide))
      have y_21 := fd_yIA (d := 22) eσ7_16 (rfl : σ.2.1 22 = _)
      have r_22 := fd_rng (σ7_16.1 0)
      refine fd_ok_itn (Int32.not_le.mpr (Int32.lt_iff_toInt_lt.mpr (by omega))) ?_
      have x_23 : (¬ ((0 ≤ p1.toInt ∧ p1.toInt < (σ.1 1).toInt) ∧ (0 ≤ p2.toInt ∧ p2.toInt < (σ.1 1).toInt)) ∧ (σ7_16.1 0).toInt = 1) ∨ (¬ ¬ ((0 ≤ p1.toInt ∧ p1.toInt < (σ.1 1).toInt) ∧ (0 ≤ p2.toInt ∧ p2.toInt < (σ.1 1).toInt)) ∧ (p3.toInt < 0 ∨ 100 < p3.toInt) ∧ (σ7_16.1 0).toInt = 2) ∨ (¬ ¬ ((0 ≤ p1.toInt ∧ p1.toInt < (σ.1 1).toInt) ∧ (0 ≤ p2.toInt ∧ p2.toInt < (σ.1 1).toInt)) ∧ ¬ (p3.toInt < 0 ∨ 100 < p3.toInt) ∧ (σ7_16.1 0).toInt = 0) := by omega
      have w_24 : fd_H (((σ7_16.1 0).toInt = 0 → fd_Sh (σ.2.1 23) (σ.2.1 24) (σ.2.1 25) (σ.2.1 26) (σ.1 14).toNatClampNeg → (0 : Int32).toInt = fd_rs (fun x => fd_rs (fun y => fd_in (fd_B (σ.2.1 22) (σ.2.1 23) (σ.2.1 24) (σ.2.1 25) (σ.2.1 26) p1 p2 p3.toInt (σ.1 14).toNatClampNeg x y)) (-100) 1100) (-100) 1100)) := fd_hd (fun h => absurd h (by omega))
      exact fd_ok_some ⟨i_17, f_18, x_23, w_24⟩
    ·
      have d_25 := Int32.lt_iff_toInt_lt.mp (Int32.not_le.mp c_14)
      refine fd_ok_pb ?_
      refine fd_ok_itn (by decide) ?_
      refine fd_ok_bd ?_
      try unfold f_X11_isIn
      refine fd_ok_ite (fun c_26 => ?_) (fun c_26 => ?_)
      ·
        have d_27 := Int32.lt_iff_toInt_lt.mp c_26
        refine fd_ok_pb ?_
        refine fd_ok_itp (by decide) ?_
        try unfold f_X11_common_0_J23
        try unfold f_X11_common_0_J42
        refine fd_ok_lt (fun σ7_28 eσ7_28 => ?_)
        have i_29 : fd_InvM σ7_28 := fd_inv_sI eσ7_28 i0 (fd_rng _)
        have f_30 : fd_fr [0, 127, 128] σ σ7_28 := fd_fr_tr f0 (fd_fr_sI eσ7_28 (by decide))
        have t_31 : (σ7_28.1 0).toInt = (1 : Int32).toInt := congrArg Int32.toInt (fd_tI eσ7_28)
        have t_32 : (σ7_28.1 1).toInt = (σ.1 1).toInt := congrArg Int32.toInt (fd_tN eσ7_28 (by decide))
        have y_33 := fd_yIA (d := 22) eσ7_28 (rfl : σ.2.1 22 = _)
        have r_34 := fd_rng (σ7_28.1 0)
        refine fd_ok_itn (Int32.not_le.mpr (Int32.lt_iff_toInt_lt.mpr (by omega))) ?_
        have x_35 : (¬ ((0 ≤ p1.toInt ∧ p1.toInt < (σ.1 1).toInt) ∧ (0 ≤ p2.toInt ∧ p2.toInt < (σ.1 1).toInt)) ∧ (σ7_28.1 0).toInt = 1) ∨ (¬ ¬ ((0 ≤ p1.toInt ∧ p1.toInt < (σ.1 1).toInt) ∧ (0 ≤ p2.toInt ∧ p2.toInt < (σ.1 1).toInt)) ∧ (p3.toInt < 0 ∨ 100 < p3.toInt) ∧ (σ7_28.1 0).toInt = 2) ∨ (¬ ¬ ((0 ≤ p1.toInt ∧ p1.toInt < (σ.1 1).toInt) ∧ (0 ≤ p2.toInt ∧ p2.toInt < (σ.1 1).toInt)) ∧ ¬ (p3.toInt < 0 ∨ 100 < p3.toInt) ∧ (σ7_28.1 0).toInt = 0) := by omega
        have w_36 : fd_H (((σ7_28.1 0).toInt = 0 → fd_Sh (σ.2.1 23) (σ.2.1 24) (σ.2.1 25) (σ.2.1 26) (σ.1 14).toNatClampNeg → (0 : Int32).toInt = fd_rs (fun x => fd_rs (fun y => fd_in (fd_B (σ.2.1 22) (σ.2.1 23) (σ.2.1 24) (σ.2.1 25) (σ.2.1 26) p1 p2 p3.toInt (σ.1 14).toNatClampNeg x y)) (-100) 1100) (-100) 1100)) := fd_hd (fun h => absurd h (by omega))
        exact fd_ok_some ⟨i_29, f_30, x_35, w_36⟩
      ·
        have d_37 := Int32.le_iff_toInt_le.mp (Int32.not_lt.mp c_26)
        refine fd_ok_ite (fun c_38 => ?_) (fun c_38 => ?_)
        ·
          have d_39 := Int32.le_iff_toInt_le.mp c_38
          refine fd_ok_pb ?_
          refine fd_ok_itp (by decide) ?_
          try unfold f_X11_common_0_J23
          try unfold f_X11_common_0_J42
          refine fd_ok_lt (fun σ7_40 eσ7_40 => ?_)
          have i_41 : fd_InvM σ7_40 := fd_inv_sI eσ7_40 i0 (fd_rng _)
          have f_42 : fd_fr [0, 127, 128] σ σ7_40 := fd_fr_tr f0 (fd_fr_sI eσ7_40 (by decide))
          have t_43 : (σ7_40.1 0).toInt = (1 : Int32).toInt := congrArg Int32.toInt (fd_tI eσ7_40)
          have t_44 : (σ7_40.1 1).toInt = (σ.1 1).toInt := congrArg Int32.toInt (fd_tN eσ7_40 (by decide))
          have y_45 := fd_yIA (d := 22) eσ7_40 (rfl : σ.2.1 22 = _)
          have r_46 := fd_rng (σ7_40.1 0)
          refine fd_ok_itn (Int32.not_le.mpr (Int32.lt_iff_toInt_lt.mpr (by omega))) ?_
          have x_47 : (¬ ((0 ≤ p1.toInt ∧ p1.toInt < (σ.1 1).toInt) ∧ (0 ≤ p2.toInt ∧ p2.toInt < (σ.1 1).toInt)) ∧ (σ7_40.1 0).toInt = 1) ∨ (¬ ¬ ((0 ≤ p1.toInt ∧ p1.toInt < (σ.1 1).toInt) ∧ (0 ≤ p2.toInt ∧ p2.toInt < (σ.1 1).toInt)) ∧ (p3.toInt < 0 ∨ 100 < p3.toInt) ∧ (σ7_40.1 0).toInt = 2) ∨ (¬ ¬ ((0 ≤ p1.toInt ∧ p1.toInt < (σ.1 1).toInt) ∧ (0 ≤ p2.toInt ∧ p2.toInt < (σ.1 1).toInt)) ∧ ¬ (p3.toInt < 0 ∨ 100 < p3.toInt) ∧ (σ7_40.1 0).toInt = 0) := by omega
          have w_48 : fd_H (((σ7_40.1 0).toInt = 0 → fd_Sh (σ.2.1 23) (σ.2.1 24) (σ.2.1 25) (σ.2.1 26) (σ.1 14).toNatClampNeg → (0 : Int32).toInt = fd_rs (fun x => fd_rs (fun y => fd_in (fd_B (σ.2.1 22) (σ.2.1 23) (σ.2.1 24) (σ.2.1 25) (σ.2.1 26) p1 p2 p3.toInt (σ.1 14).toNatClampNeg x y)) (-100) 1100) (-100) 1100)) := fd_hd (fun h => absurd h (by omega))
          exact fd_ok_some ⟨i_41, f_42, x_47, w_48⟩
        ·
          have d_49 := Int32.lt_iff_toInt_lt.mp (Int32.not_le.mp c_38)
          refine fd_ok_pb ?_
          refine fd_ok_itn (by decide) ?_
          refine fd_ok_ite (fun c_50 => ?_) (fun c_50 => ?_)
          ·
            have d_51 := Int32.lt_iff_toInt_lt.mp c_50
            try unfold f_X11_common_0_J37
            try unfold f_X11_common_0_J42
            refine fd_ok_lt (fun σ7_52 eσ7_52 => ?_)
            have i_53 : fd_InvM σ7_52 := fd_inv_sI eσ7_52 i0 (fd_rng _)
            have f_54 : fd_fr [0, 127, 128] σ σ7_52 := fd_fr_tr f0 (fd_fr_sI eσ7_52 (by decide))
            have t_55 : (σ7_52.1 0).toInt = (2 : Int32).toInt := congrArg Int32.toInt (fd_tI eσ7_52)
            have t_56 : (σ7_52.1 1).toInt = (σ.1 1).toInt := congrArg Int32.toInt (fd_tN eσ7_52 (by decide))
            have y_57 := fd_yIA (d := 22) eσ7_52 (rfl : σ.2.1 22 = _)
            have r_58 := fd_rng (σ7_52.1 0)
            refine fd_ok_itn (Int32.not_le.mpr (Int32.lt_iff_toInt_lt.mpr (by omega))) ?_
            have x_59 : (¬ ((0 ≤ p1.toInt ∧ p1.toInt < (σ.1 1).toInt) ∧ (0 ≤ p2.toInt ∧ p2.toInt < (σ.1 1).toInt)) ∧ (σ7_52.1 0).toInt = 1) ∨ (¬ ¬ ((0 ≤ p1.toInt ∧ p1.toInt < (σ.1 1).toInt) ∧ (0 ≤ p2.toInt ∧ p2.toInt < (σ.1 1).toInt)) ∧ (p3.toInt < 0 ∨ 100 < p3.toInt) ∧ (σ7_52.1 0).toInt = 2) ∨ (¬ ¬ ((0 ≤ p1.toInt ∧ p1.toInt < (σ.1 1).toInt) ∧ (0 ≤ p2.toInt ∧ p2.toInt < (σ.1 1).toInt)) ∧ ¬ (p3.toInt < 0 ∨ 100 < p3.toInt) ∧ (σ7_52.1 0).toInt = 0) := by omega
            have w_60 : fd_H (((σ7_52.1 0).toInt = 0 → fd_Sh (σ.2.1 23) (σ.2.1 24) (σ.2.1 25) (σ.2.1 26) (σ.1 14).toNatClampNeg → (0 : Int32).toInt = fd_rs (fun x => fd_rs (fun y => fd_in (fd_B (σ.2.1 22) (σ.2.1 23) (σ.2.1 24) (σ.2.1 25) (σ.2.1 26) p1 p2 p3.toInt (σ.1 14).toNatClampNeg x y)) (-100) 1100) (-100) 1100)) := fd_hd (fun h => absurd h (by omega))
            exact fd_ok_some ⟨i_53, f_54, x_59, w_60⟩
          ·
            have d_61 := Int32.le_iff_toInt_le.mp (Int32.not_lt.mp c_50)
            refine fd_ok_ite (fun c_62 => ?_) (fun c_62 => ?_)
            ·
              have d_63 := Int32.le_iff_toInt_le.mp c_62
              try unfold f_X11_common_0_J42
              refine fd_ok_lt (fun σ7_64 eσ7_64 => ?_)
              have i_65 : fd_InvM σ7_64 := fd_inv_sI eσ7_64 i0 (fd_rng _)
              have f_66 : fd_fr [0, 127, 128] σ σ7_64 := fd_fr_tr f0 (fd_fr_sI eσ7_64 (by decide))
              have t_67 : (σ7_64.1 0).toInt = (0 : Int32).toInt := congrArg Int32.toInt (fd_tI eσ7_64)
              have t_68 : (σ7_64.1 1).toInt = (σ.1 1).toInt := congrArg Int32.toInt (fd_tN eσ7_64 (by decide))
              have y_69 := fd_yIA (d := 22) eσ7_64 (rfl : σ.2.1 22 = _)
              have r_70 := fd_rng (σ7_64.1 0)
              refine fd_ok_itp (Int32.le_iff_toInt_le.mpr (by omega)) ?_
              refine fd_ok_bd ?_
              refine fd_ok_cl (s_X11_areaOf_0 N hN _ _ _ _ i_65) ?_
              rintro v_71 σ_72 ⟨i_73, g_74, x_75⟩
              have f_76 : fd_fr [0, 127, 128] σ σ_72 := fd_fr_tr f_66 (fd_fr_mono g_74 (by decide))
              have y_77 := (g_74.2.1 22 (by decide)).trans y_69
              have t_78 : (σ_72.1 0).toInt = (σ7_64.1 0).toInt := congrArg Int32.toInt (g_74.1 0 (by decide))
              have t_79 : (σ_72.1 1).toInt = (σ7_64.1 1).toInt := congrArg Int32.toInt (g_74.1 1 (by decide))
              have x_80 : (¬ ((0 ≤ p1.toInt ∧ p1.toInt < (σ.1 1).toInt) ∧ (0 ≤ p2.toInt ∧ p2.toInt < (σ.1 1).toInt)) ∧ (σ_72.1 0).toInt = 1) ∨ (¬ ¬ ((0 ≤ p1.toInt ∧ p1.toInt < (σ.1 1).toInt) ∧ (0 ≤ p2.toInt ∧ p2.toInt < (σ.1 1).toInt)) ∧ (p3.toInt < 0 ∨ 100 < p3.toInt) ∧ (σ_72.1 0).toInt = 2) ∨ (¬ ¬ ((0 ≤ p1.toInt ∧ p1.toInt < (σ.1 1).toInt) ∧ (0 ≤ p2.toInt ∧ p2.toInt < (σ.1 1).toInt)) ∧ ¬ (p3.toInt < 0 ∨ 100 < p3.toInt) ∧ (σ_72.1 0).toInt = 0) := by omega
              have E1 : σ7_64.1 14 = σ.1 14 := fd_tN eσ7_64 (by decide)
              have E2 : σ7_64.2.1 = σ.2.1 := by subst eσ7_64; rfl
              have R14 : (0 : Int) ≤ (σ7_64.1 14).toInt ∧ (σ7_64.1 14).toInt ≤ 60 := i_65.1 14
              rw [E1, E2] at x_75
              rw [E1] at R14
              have w_81 : fd_H (((σ_72.1 0).toInt = 0 → fd_Sh (σ.2.1 23) (σ.2.1 24) (σ.2.1 25) (σ.2.1 26) (σ.1 14).toNatClampNeg → v_71.toInt = fd_rs (fun x => fd_rs (fun y => fd_in (fd_B (σ.2.1 22) (σ.2.1 23) (σ.2.1 24) (σ.2.1 25) (σ.2.1 26) p1 p2 p3.toInt (σ.1 14).toNatClampNeg x y)) (-100) 1100) (-100) 1100)) := fd_hd (fun _ => fun hS => x_75 R14.1 R14.2 (by omega) (by omega) hS)
              exact fd_ok_some ⟨i_73, f_76, x_80, w_81⟩
            ·
              have d_82 := Int32.lt_iff_toInt_lt.mp (Int32.not_le.mp c_62)
              try unfold f_X11_common_0_J37
              try unfold f_X11_common_0_J42
              refine fd_ok_lt (fun σ7_83 eσ7_83 => ?_)
              have i_84 : fd_InvM σ7_83 := fd_inv_sI eσ7_83 i0 (fd_rng _)
              have f_85 : fd_fr [0, 127, 128] σ σ7_83 := fd_fr_tr f0 (fd_fr_sI eσ7_83 (by decide))
              have t_86 : (σ7_83.1 0).toInt = (2 : Int32).toInt := congrArg Int32.toInt (fd_tI eσ7_83)
              have t_87 : (σ7_83.1 1).toInt = (σ.1 1).toInt := congrArg Int32.toInt (fd_tN eσ7_83 (by decide))
              have y_88 := fd_yIA (d := 22) eσ7_83 (rfl : σ.2.1 22 = _)
              have r_89 := fd_rng (σ7_83.1 0)
              refine fd_ok_itn (Int32.not_le.mpr (Int32.lt_iff_toInt_lt.mpr (by omega))) ?_
              have x_90 : (¬ ((0 ≤ p1.toInt ∧ p1.toInt < (σ.1 1).toInt) ∧ (0 ≤ p2.toInt ∧ p2.toInt < (σ.1 1).toInt)) ∧ (σ7_83.1 0).toInt = 1) ∨ (¬ ¬ ((0 ≤ p1.toInt ∧ p1.toInt < (σ.1 1).toInt) ∧ (0 ≤ p2.toInt ∧ p2.toInt < (σ.1 1).toInt)) ∧ (p3.toInt < 0 ∨ 100 < p3.toInt) ∧ (σ7_83.1 0).toInt = 2) ∨ (¬ ¬ ((0 ≤ p1.toInt ∧ p1.toInt < (σ.1 1).toInt) ∧ (0 ≤ p2.toInt ∧ p2.toInt < (σ.1 1).toInt)) ∧ ¬ (p3.toInt < 0 ∨ 100 < p3.toInt) ∧ (σ7_83.1 0).toInt = 0) := by omega
              have w_91 : fd_H (((σ7_83.1 0).toInt = 0 → fd_Sh (σ.2.1 23) (σ.2.1 24) (σ.2.1 25) (σ.2.1 26) (σ.1 14).toNatClampNeg → (0 : Int32).toInt = fd_rs (fun x => fd_rs (fun y => fd_in (fd_B (σ.2.1 22) (σ.2.1 23) (σ.2.1 24) (σ.2.1 25) (σ.2.1 26) p1 p2 p3.toInt (σ.1 14).toNatClampNeg x y)) (-100) 1100) (-100) 1100)) := fd_hd (fun h => absurd h (by omega))
              exact fd_ok_some ⟨i_84, f_85, x_90, w_91⟩
set_option maxHeartbeats 4000000 in
theorem s_X11_count_0 (N : Nat) (hN : 1000 ≤ N) (p1 : Int32) (σ : fd_St) (i0 : fd_InvM σ) : fd_ok (f_X11_count_0 N p1 σ) (fun v s => fd_InvM s ∧ fd_fr [0] σ s ∧ (True)) := by
  have lit0 : (0 : Int32).toInt = 0 := by decide
  have lit1 : (1 : Int32).toInt = 1 := by decide
  have lit2 : (2 : Int32).toInt = 2 := by decide
  have lit3 : (3 : Int32).toInt = 3 := by decide
  have lit4 : (4 : Int32).toInt = 4 := by decide
  have lit5 : (5 : Int32).toInt = 5 := by decide
  have lit6 : (6 : Int32).toInt = 6 := by decide
  have lit7 : (7 : Int32).toInt = 7 := by decide
  have lit8 : (8 : Int32).toInt = 8 := by decide
  have lit9 : (9 : Int32).toInt = 9 := by decide
  have f0 : fd_fr [0] σ σ := fd_fr_rf
  unfold f_X11_count_0
  refine fd_ok_bd ?_
  try unfold f_X11_isIn
  refine fd_ok_ite (fun c_1 => ?_) (fun c_1 => ?_)
  ·
    have d_2 := Int32.lt_iff_toInt_lt.mp c_1
    refine fd_ok_pb ?_
    refine fd_ok_itp (by decide) ?_
    try unfold f_X11_count_0_J15
    refine fd_ok_lt (fun σ7_3 eσ7_3 => ?_)
    have i_4 : fd_InvM σ7_3 := fd_inv_sI eσ7_3 i0 (fd_rng _)
    have f_5 : fd_fr [0] σ σ7_3 := fd_fr_tr f0 (fd_fr_sI eσ7_3 (by decide))
    have t_6 : (σ7_3.1 1).toInt = (σ.1 1).toInt := congrArg Int32.toInt (fd_tN eσ7_3 (by decide))
    have t_7 : (σ7_3.1 2).toInt = (σ.1 2).toInt := congrArg Int32.toInt (fd_tN eσ7_3 (by decide))
    have t_8 : (σ7_3.1 3).toInt = (σ.1 3).toInt := congrArg Int32.toInt (fd_tN eσ7_3 (by decide))
    have t_9 : (σ7_3.1 4).toInt = (σ.1 4).toInt := congrArg Int32.toInt (fd_tN eσ7_3 (by decide))
    have t_10 : (σ7_3.1 5).toInt = (σ.1 5).toInt := congrArg Int32.toInt (fd_tN eσ7_3 (by decide))
    have t_11 : (σ7_3.1 6).toInt = (σ.1 6).toInt := congrArg Int32.toInt (fd_tN eσ7_3 (by decide))
    have t_12 : (σ7_3.1 7).toInt = (σ.1 7).toInt := congrArg Int32.toInt (fd_tN eσ7_3 (by decide))
    have t_13 : (σ7_3.1 13).toInt = (σ.1 13).toInt := congrArg Int32.toInt (fd_tN eσ7_3 (by decide))
    have t_14 : (σ7_3.1 14).toInt = (σ.1 14).toInt := congrArg Int32.toInt (fd_tN eσ7_3 (by decide))
    refine fd_ok_ite (fun c_15 => ?_) (fun c_15 => ?_)
    ·
      have d_16 := congrArg Int32.toInt c_15
      exact fd_ok_some ⟨i_4, f_5, trivial⟩
    ·
      have d_17 : ¬ p1.toInt = (0 : Int32).toInt := fun q => c_15 (Int32.toInt_inj.mp q)
      refine fd_ok_ite (fun c_18 => ?_) (fun c_18 => ?_)
      ·
        have d_19 := congrArg Int32.toInt c_18
        exact fd_ok_some ⟨i_4, f_5, trivial⟩
      ·
        refine fd_ok_ite (fun c_21 => ?_) (fun c_21 => ?_)
        ·
          have d_22 := congrArg Int32.toInt c_21
          exact fd_ok_some ⟨i_4, f_5, trivial⟩
        ·
          refine fd_ok_ite (fun c_24 => ?_) (fun c_24 => ?_)
          ·
            have d_25 := congrArg Int32.toInt c_24
            exact fd_ok_some ⟨i_4, f_5, trivial⟩
          ·
            refine fd_ok_ite (fun c_27 => ?_) (fun c_27 => ?_)
            ·
              have d_28 := congrArg Int32.toInt c_27
              have r_29 : (0 : Int) ≤ (σ7_3.1 6).toInt ∧ (σ7_3.1 6).toInt ≤ 1 := i_4.1 6
              refine fd_ok_ite (fun c_30 => ?_) (fun c_30 => ?_)
              ·
                have d_31 := congrArg Int32.toInt c_30
                exact fd_ok_some ⟨i_4, f_5, trivial⟩
              ·
                have d_32 : ¬ (σ7_3.1 6).toInt = (0 : Int32).toInt := fun q => c_30 (Int32.toInt_inj.mp q)
                exact fd_ok_some ⟨i_4, f_5, trivial⟩
            ·
              refine fd_ok_ite (fun c_34 => ?_) (fun c_34 => ?_)
              ·
                have d_35 := congrArg Int32.toInt c_34
                exact fd_ok_some ⟨i_4, f_5, trivial⟩
              ·
                refine fd_ok_ite (fun c_37 => ?_) (fun c_37 => ?_)
                ·
                  have d_38 := congrArg Int32.toInt c_37
                  exact fd_ok_some ⟨i_4, f_5, trivial⟩
                ·
                  refine fd_ok_ite (fun c_40 => ?_) (fun c_40 => ?_)
                  ·
                    have d_41 := congrArg Int32.toInt c_40
                    exact fd_ok_some ⟨i_4, f_5, trivial⟩
                  ·
                    refine fd_ok_ite (fun c_43 => ?_) (fun c_43 => ?_)
                    ·
                      have d_44 := congrArg Int32.toInt c_43
                      exact fd_ok_some ⟨i_4, f_5, trivial⟩
                    ·
                      exact fd_ok_some ⟨i_4, f_5, trivial⟩
  ·
    have d_46 := Int32.le_iff_toInt_le.mp (Int32.not_lt.mp c_1)
    refine fd_ok_ite (fun c_47 => ?_) (fun c_47 => ?_)
    ·
      have d_48 := Int32.le_iff_toInt_le.mp c_47
      refine fd_ok_pb ?_
      refine fd_ok_itp (by decide) ?_
      try unfold f_X11_count_0_J15
      refine fd_ok_lt (fun σ7_49 eσ7_49 => ?_)
      have i_50 : fd_InvM σ7_49 := fd_inv_sI eσ7_49 i0 (fd_rng _)
      have f_51 : fd_fr [0] σ σ7_49 := fd_fr_tr f0 (fd_fr_sI eσ7_49 (by decide))
      have t_52 : (σ7_49.1 1).toInt = (σ.1 1).toInt := congrArg Int32.toInt (fd_tN eσ7_49 (by decide))
      have t_53 : (σ7_49.1 2).toInt = (σ.1 2).toInt := congrArg Int32.toInt (fd_tN eσ7_49 (by decide))
      have t_54 : (σ7_49.1 3).toInt = (σ.1 3).toInt := congrArg Int32.toInt (fd_tN eσ7_49 (by decide))
      have t_55 : (σ7_49.1 4).toInt = (σ.1 4).toInt := congrArg Int32.toInt (fd_tN eσ7_49 (by decide))
      have t_56 : (σ7_49.1 5).toInt = (σ.1 5).toInt := congrArg Int32.toInt (fd_tN eσ7_49 (by decide))
      have t_57 : (σ7_49.1 6).toInt = (σ.1 6).toInt := congrArg Int32.toInt (fd_tN eσ7_49 (by decide))
      have t_58 : (σ7_49.1 7).toInt = (σ.1 7).toInt := congrArg Int32.toInt (fd_tN eσ7_49 (by decide))
      have t_59 : (σ7_49.1 13).toInt = (σ.1 13).toInt := congrArg Int32.toInt (fd_tN eσ7_49 (by decide))
      have t_60 : (σ7_49.1 14).toInt = (σ.1 14).toInt := congrArg Int32.toInt (fd_tN eσ7_49 (by decide))
      refine fd_ok_ite (fun c_61 => ?_) (fun c_61 => ?_)
      ·
        have d_62 := congrArg Int32.toInt c_61
        exact fd_ok_some ⟨i_50, f_51, trivial⟩
      ·
        have d_63 : ¬ p1.toInt = (0 : Int32).toInt := fun q => c_61 (Int32.toInt_inj.mp q)
        refine fd_ok_ite (fun c_64 => ?_) (fun c_64 => ?_)
        ·
          have d_65 := congrArg Int32.toInt c_64
          exact fd_ok_some ⟨i_50, f_51, trivial⟩
        ·
          refine fd_ok_ite (fun c_67 => ?_) (fun c_67 => ?_)
          ·
            have d_68 := congrArg Int32.toInt c_67
            exact fd_ok_some ⟨i_50, f_51, trivial⟩
          ·
            refine fd_ok_ite (fun c_70 => ?_) (fun c_70 => ?_)
            ·
              have d_71 := congrArg Int32.toInt c_70
              exact fd_ok_some ⟨i_50, f_51, trivial⟩
            ·
              refine fd_ok_ite (fun c_73 => ?_) (fun c_73 => ?_)
              ·
                have d_74 := congrArg Int32.toInt c_73
                have r_75 : (0 : Int) ≤ (σ7_49.1 6).toInt ∧ (σ7_49.1 6).toInt ≤ 1 := i_50.1 6
                refine fd_ok_ite (fun c_76 => ?_) (fun c_76 => ?_)
                ·
                  have d_77 := congrArg Int32.toInt c_76
                  exact fd_ok_some ⟨i_50, f_51, trivial⟩
                ·
                  have d_78 : ¬ (σ7_49.1 6).toInt = (0 : Int32).toInt := fun q => c_76 (Int32.toInt_inj.mp q)
                  exact fd_ok_some ⟨i_50, f_51, trivial⟩
              ·
                refine fd_ok_ite (fun c_80 => ?_) (fun c_80 => ?_)
                ·
                  have d_81 := congrArg Int32.toInt c_80
                  exact fd_ok_some ⟨i_50, f_51, trivial⟩
                ·
                  refine fd_ok_ite (fun c_83 => ?_) (fun c_83 => ?_)
                  ·
                    have d_84 := congrArg Int32.toInt c_83
                    exact fd_ok_some ⟨i_50, f_51, trivial⟩
                  ·
                    refine fd_ok_ite (fun c_86 => ?_) (fun c_86 => ?_)
                    ·
                      have d_87 := congrArg Int32.toInt c_86
                      exact fd_ok_some ⟨i_50, f_51, trivial⟩
                    ·
                      refine fd_ok_ite (fun c_89 => ?_) (fun c_89 => ?_)
                      ·
                        have d_90 := congrArg Int32.toInt c_89
                        exact fd_ok_some ⟨i_50, f_51, trivial⟩
                      ·
                        exact fd_ok_some ⟨i_50, f_51, trivial⟩
    ·
      have d_92 := Int32.lt_iff_toInt_lt.mp (Int32.not_le.mp c_47)
      refine fd_ok_pb ?_
      refine fd_ok_itn (by decide) ?_
      try unfold f_X11_count_0_J15
      refine fd_ok_lt (fun σ7_93 eσ7_93 => ?_)
      have i_94 : fd_InvM σ7_93 := fd_inv_sI eσ7_93 i0 (fd_rng _)
      have f_95 : fd_fr [0] σ σ7_93 := fd_fr_tr f0 (fd_fr_sI eσ7_93 (by decide))
      have t_96 : (σ7_93.1 1).toInt = (σ.1 1).toInt := congrArg Int32.toInt (fd_tN eσ7_93 (by decide))
      have t_97 : (σ7_93.1 2).toInt = (σ.1 2).toInt := congrArg Int32.toInt (fd_tN eσ7_93 (by decide))
      have t_98 : (σ7_93.1 3).toInt = (σ.1 3).toInt := congrArg Int32.toInt (fd_tN eσ7_93 (by decide))
      have t_99 : (σ7_93.1 4).toInt = (σ.1 4).toInt := congrArg Int32.toInt (fd_tN eσ7_93 (by decide))
      have t_100 : (σ7_93.1 5).toInt = (σ.1 5).toInt := congrArg Int32.toInt (fd_tN eσ7_93 (by decide))
      have t_101 : (σ7_93.1 6).toInt = (σ.1 6).toInt := congrArg Int32.toInt (fd_tN eσ7_93 (by decide))
      have t_102 : (σ7_93.1 7).toInt = (σ.1 7).toInt := congrArg Int32.toInt (fd_tN eσ7_93 (by decide))
      have t_103 : (σ7_93.1 13).toInt = (σ.1 13).toInt := congrArg Int32.toInt (fd_tN eσ7_93 (by decide))
      have t_104 : (σ7_93.1 14).toInt = (σ.1 14).toInt := congrArg Int32.toInt (fd_tN eσ7_93 (by decide))
      refine fd_ok_ite (fun c_105 => ?_) (fun c_105 => ?_)
      ·
        have d_106 := congrArg Int32.toInt c_105
        exact fd_ok_some ⟨i_94, f_95, trivial⟩
      ·
        have d_107 : ¬ p1.toInt = (0 : Int32).toInt := fun q => c_105 (Int32.toInt_inj.mp q)
        refine fd_ok_ite (fun c_108 => ?_) (fun c_108 => ?_)
        ·
          have d_109 := congrArg Int32.toInt c_108
          exact fd_ok_some ⟨i_94, f_95, trivial⟩
        ·
          refine fd_ok_ite (fun c_111 => ?_) (fun c_111 => ?_)
          ·
            have d_112 := congrArg Int32.toInt c_111
            exact fd_ok_some ⟨i_94, f_95, trivial⟩
          ·
            refine fd_ok_ite (fun c_114 => ?_) (fun c_114 => ?_)
            ·
              have d_115 := congrArg Int32.toInt c_114
              exact fd_ok_some ⟨i_94, f_95, trivial⟩
            ·
              refine fd_ok_ite (fun c_117 => ?_) (fun c_117 => ?_)
              ·
                have d_118 := congrArg Int32.toInt c_117
                have r_119 : (0 : Int) ≤ (σ7_93.1 6).toInt ∧ (σ7_93.1 6).toInt ≤ 1 := i_94.1 6
                refine fd_ok_ite (fun c_120 => ?_) (fun c_120 => ?_)
                ·
                  have d_121 := congrArg Int32.toInt c_120
                  exact fd_ok_some ⟨i_94, f_95, trivial⟩
                ·
                  have d_122 : ¬ (σ7_93.1 6).toInt = (0 : Int32).toInt := fun q => c_120 (Int32.toInt_inj.mp q)
                  exact fd_ok_some ⟨i_94, f_95, trivial⟩
              ·
                refine fd_ok_ite (fun c_124 => ?_) (fun c_124 => ?_)
                ·
                  have d_125 := congrArg Int32.toInt c_124
                  exact fd_ok_some ⟨i_94, f_95, trivial⟩
                ·
                  refine fd_ok_ite (fun c_127 => ?_) (fun c_127 => ?_)
                  ·
                    have d_128 := congrArg Int32.toInt c_127
                    exact fd_ok_some ⟨i_94, f_95, trivial⟩
                  ·
                    refine fd_ok_ite (fun c_130 => ?_) (fun c_130 => ?_)
                    ·
                      have d_131 := congrArg Int32.toInt c_130
                      exact fd_ok_some ⟨i_94, f_95, trivial⟩
                    ·
                      refine fd_ok_ite (fun c_133 => ?_) (fun c_133 => ?_)
                      ·
                        have d_134 := congrArg Int32.toInt c_133
                        exact fd_ok_some ⟨i_94, f_95, trivial⟩
                      ·
                        exact fd_ok_some ⟨i_94, f_95, trivial⟩
set_option maxHeartbeats 4000000 in
theorem s_X11_clear_0 (N : Nat) (hN : 1000 ≤ N) (σ : fd_St) (i0 : fd_InvM σ) : fd_ok (f_X11_clear_0 N σ) (fun v s => fd_InvM s ∧ fd_fr [1, 2, 3, 4, 5, 6, 7, 11, 12, 13, 14, 119] σ s ∧ ((s.1 1).toInt = 0 ∧ (s.1 2).toInt = 0 ∧ (s.1 4).toInt = 0 ∧ (s.1 3).toInt = 0 ∧ (s.1 5).toInt = 0 ∧ (s.1 12).toInt = 0 ∧ (s.1 13).toInt = 0 ∧ (s.1 14).toInt = 0)) := by
  have lit0 : (0 : Int32).toInt = 0 := by decide
  have lit1 : (1 : Int32).toInt = 1 := by decide
  have f0 : fd_fr [1, 2, 3, 4, 5, 6, 7, 11, 12, 13, 14, 119] σ σ := fd_fr_rf
  unfold f_X11_clear_0
  refine fd_ok_lt (fun σ1_1 eσ1_1 => ?_)
  have i_2 : fd_InvM σ1_1 := fd_inv_sI eσ1_1 i0 ⟨(by omega : (0 : Int) ≤ (0 : Int32).toInt), (by omega : (0 : Int32).toInt ≤ 200)⟩
  have f_3 : fd_fr [1, 2, 3, 4, 5, 6, 7, 11, 12, 13, 14, 119] σ σ1_1 := fd_fr_tr f0 (fd_fr_sI eσ1_1 (by decide))
  have t_4 : (σ1_1.1 1).toInt = (0 : Int32).toInt := congrArg Int32.toInt (fd_tI eσ1_1)
  have t_5 : (σ1_1.1 2).toInt = (σ.1 2).toInt := congrArg Int32.toInt (fd_tN eσ1_1 (by decide))
  have t_6 : (σ1_1.1 3).toInt = (σ.1 3).toInt := congrArg Int32.toInt (fd_tN eσ1_1 (by decide))
  have t_7 : (σ1_1.1 4).toInt = (σ.1 4).toInt := congrArg Int32.toInt (fd_tN eσ1_1 (by decide))
  have t_8 : (σ1_1.1 5).toInt = (σ.1 5).toInt := congrArg Int32.toInt (fd_tN eσ1_1 (by decide))
  have t_9 : (σ1_1.1 12).toInt = (σ.1 12).toInt := congrArg Int32.toInt (fd_tN eσ1_1 (by decide))
  have t_10 : (σ1_1.1 13).toInt = (σ.1 13).toInt := congrArg Int32.toInt (fd_tN eσ1_1 (by decide))
  have t_11 : (σ1_1.1 14).toInt = (σ.1 14).toInt := congrArg Int32.toInt (fd_tN eσ1_1 (by decide))
  refine fd_ok_lt (fun σ2_12 eσ2_12 => ?_)
  have i_13 : fd_InvM σ2_12 := fd_inv_sI eσ2_12 i_2 ⟨(by omega : (0 : Int) ≤ (0 : Int32).toInt), (by omega : (0 : Int32).toInt ≤ 32)⟩
  have f_14 : fd_fr [1, 2, 3, 4, 5, 6, 7, 11, 12, 13, 14, 119] σ σ2_12 := fd_fr_tr f_3 (fd_fr_sI eσ2_12 (by decide))
  have t_15 : (σ2_12.1 1).toInt = (σ1_1.1 1).toInt := congrArg Int32.toInt (fd_tN eσ2_12 (by decide))
  have t_16 : (σ2_12.1 2).toInt = (0 : Int32).toInt := congrArg Int32.toInt (fd_tI eσ2_12)
  have t_17 : (σ2_12.1 3).toInt = (σ1_1.1 3).toInt := congrArg Int32.toInt (fd_tN eσ2_12 (by decide))
  have t_18 : (σ2_12.1 4).toInt = (σ1_1.1 4).toInt := congrArg Int32.toInt (fd_tN eσ2_12 (by decide))
  have t_19 : (σ2_12.1 5).toInt = (σ1_1.1 5).toInt := congrArg Int32.toInt (fd_tN eσ2_12 (by decide))
  have t_20 : (σ2_12.1 12).toInt = (σ1_1.1 12).toInt := congrArg Int32.toInt (fd_tN eσ2_12 (by decide))
  have t_21 : (σ2_12.1 13).toInt = (σ1_1.1 13).toInt := congrArg Int32.toInt (fd_tN eσ2_12 (by decide))
  have t_22 : (σ2_12.1 14).toInt = (σ1_1.1 14).toInt := congrArg Int32.toInt (fd_tN eσ2_12 (by decide))
  refine fd_ok_lt (fun σ3_23 eσ3_23 => ?_)
  have i_24 : fd_InvM σ3_23 := fd_inv_sI eσ3_23 i_13 ⟨(by omega : (0 : Int) ≤ (0 : Int32).toInt), (by omega : (0 : Int32).toInt ≤ 32)⟩
  have f_25 : fd_fr [1, 2, 3, 4, 5, 6, 7, 11, 12, 13, 14, 119] σ σ3_23 := fd_fr_tr f_14 (fd_fr_sI eσ3_23 (by decide))
  have t_26 : (σ3_23.1 1).toInt = (σ2_12.1 1).toInt := congrArg Int32.toInt (fd_tN eσ3_23 (by decide))
  have t_27 : (σ3_23.1 2).toInt = (σ2_12.1 2).toInt := congrArg Int32.toInt (fd_tN eσ3_23 (by decide))
  have t_28 : (σ3_23.1 3).toInt = (0 : Int32).toInt := congrArg Int32.toInt (fd_tI eσ3_23)
  have t_29 : (σ3_23.1 4).toInt = (σ2_12.1 4).toInt := congrArg Int32.toInt (fd_tN eσ3_23 (by decide))
  have t_30 : (σ3_23.1 5).toInt = (σ2_12.1 5).toInt := congrArg Int32.toInt (fd_tN eσ3_23 (by decide))
  have t_31 : (σ3_23.1 12).toInt = (σ2_12.1 12).toInt := congrArg Int32.toInt (fd_tN eσ3_23 (by decide))
  have t_32 : (σ3_23.1 13).toInt = (σ2_12.1 13).toInt := congrArg Int32.toInt (fd_tN eσ3_23 (by decide))
  have t_33 : (σ3_23.1 14).toInt = (σ2_12.1 14).toInt := congrArg Int32.toInt (fd_tN eσ3_23 (by decide))
  refine fd_ok_lt (fun σ4_34 eσ4_34 => ?_)
  have i_35 : fd_InvM σ4_34 := fd_inv_sI eσ4_34 i_24 ⟨(by omega : (0 : Int) ≤ (0 : Int32).toInt), (by omega : (0 : Int32).toInt ≤ 64)⟩
  have f_36 : fd_fr [1, 2, 3, 4, 5, 6, 7, 11, 12, 13, 14, 119] σ σ4_34 := fd_fr_tr f_25 (fd_fr_sI eσ4_34 (by decide))
  have t_37 : (σ4_34.1 1).toInt = (σ3_23.1 1).toInt := congrArg Int32.toInt (fd_tN eσ4_34 (by decide))
  have t_38 : (σ4_34.1 2).toInt = (σ3_23.1 2).toInt := congrArg Int32.toInt (fd_tN eσ4_34 (by decide))
  have t_39 : (σ4_34.1 3).toInt = (σ3_23.1 3).toInt := congrArg Int32.toInt (fd_tN eσ4_34 (by decide))
  have t_40 : (σ4_34.1 4).toInt = (0 : Int32).toInt := congrArg Int32.toInt (fd_tI eσ4_34)
  have t_41 : (σ4_34.1 5).toInt = (σ3_23.1 5).toInt := congrArg Int32.toInt (fd_tN eσ4_34 (by decide))
  have t_42 : (σ4_34.1 12).toInt = (σ3_23.1 12).toInt := congrArg Int32.toInt (fd_tN eσ4_34 (by decide))
  have t_43 : (σ4_34.1 13).toInt = (σ3_23.1 13).toInt := congrArg Int32.toInt (fd_tN eσ4_34 (by decide))
  have t_44 : (σ4_34.1 14).toInt = (σ3_23.1 14).toInt := congrArg Int32.toInt (fd_tN eσ4_34 (by decide))
  refine fd_ok_lt (fun σ5_45 eσ5_45 => ?_)
  have i_46 : fd_InvM σ5_45 := fd_inv_sI eσ5_45 i_35 ⟨(by omega : (0 : Int) ≤ (0 : Int32).toInt), (by omega : (0 : Int32).toInt ≤ 40)⟩
  have f_47 : fd_fr [1, 2, 3, 4, 5, 6, 7, 11, 12, 13, 14, 119] σ σ5_45 := fd_fr_tr f_36 (fd_fr_sI eσ5_45 (by decide))
  have t_48 : (σ5_45.1 1).toInt = (σ4_34.1 1).toInt := congrArg Int32.toInt (fd_tN eσ5_45 (by decide))
  have t_49 : (σ5_45.1 2).toInt = (σ4_34.1 2).toInt := congrArg Int32.toInt (fd_tN eσ5_45 (by decide))
  have t_50 : (σ5_45.1 3).toInt = (σ4_34.1 3).toInt := congrArg Int32.toInt (fd_tN eσ5_45 (by decide))
  have t_51 : (σ5_45.1 4).toInt = (σ4_34.1 4).toInt := congrArg Int32.toInt (fd_tN eσ5_45 (by decide))
  have t_52 : (σ5_45.1 5).toInt = (0 : Int32).toInt := congrArg Int32.toInt (fd_tI eσ5_45)
  have t_53 : (σ5_45.1 12).toInt = (σ4_34.1 12).toInt := congrArg Int32.toInt (fd_tN eσ5_45 (by decide))
  have t_54 : (σ5_45.1 13).toInt = (σ4_34.1 13).toInt := congrArg Int32.toInt (fd_tN eσ5_45 (by decide))
  have t_55 : (σ5_45.1 14).toInt = (σ4_34.1 14).toInt := congrArg Int32.toInt (fd_tN eσ5_45 (by decide))
  refine fd_ok_lt (fun σ6_56 eσ6_56 => ?_)
  have i_57 : fd_InvM σ6_56 := fd_inv_sI eσ6_56 i_46 ⟨(by omega : (0 : Int) ≤ (0 : Int32).toInt), (by omega : (0 : Int32).toInt ≤ 1)⟩
  have f_58 : fd_fr [1, 2, 3, 4, 5, 6, 7, 11, 12, 13, 14, 119] σ σ6_56 := fd_fr_tr f_47 (fd_fr_sI eσ6_56 (by decide))
  have t_59 : (σ6_56.1 1).toInt = (σ5_45.1 1).toInt := congrArg Int32.toInt (fd_tN eσ6_56 (by decide))
  have t_60 : (σ6_56.1 2).toInt = (σ5_45.1 2).toInt := congrArg Int32.toInt (fd_tN eσ6_56 (by decide))
  have t_61 : (σ6_56.1 3).toInt = (σ5_45.1 3).toInt := congrArg Int32.toInt (fd_tN eσ6_56 (by decide))
  have t_62 : (σ6_56.1 4).toInt = (σ5_45.1 4).toInt := congrArg Int32.toInt (fd_tN eσ6_56 (by decide))
  have t_63 : (σ6_56.1 5).toInt = (σ5_45.1 5).toInt := congrArg Int32.toInt (fd_tN eσ6_56 (by decide))
  have t_64 : (σ6_56.1 12).toInt = (σ5_45.1 12).toInt := congrArg Int32.toInt (fd_tN eσ6_56 (by decide))
  have t_65 : (σ6_56.1 13).toInt = (σ5_45.1 13).toInt := congrArg Int32.toInt (fd_tN eσ6_56 (by decide))
  have t_66 : (σ6_56.1 14).toInt = (σ5_45.1 14).toInt := congrArg Int32.toInt (fd_tN eσ6_56 (by decide))
  refine fd_ok_lt (fun σ7_67 eσ7_67 => ?_)
  have i_68 : fd_InvM σ7_67 := fd_inv_sI eσ7_67 i_57 ⟨(by omega : (0 : Int) ≤ (0 : Int32).toInt), (by omega : (0 : Int32).toInt ≤ 480)⟩
  have f_69 : fd_fr [1, 2, 3, 4, 5, 6, 7, 11, 12, 13, 14, 119] σ σ7_67 := fd_fr_tr f_58 (fd_fr_sI eσ7_67 (by decide))
  have t_70 : (σ7_67.1 1).toInt = (σ6_56.1 1).toInt := congrArg Int32.toInt (fd_tN eσ7_67 (by decide))
  have t_71 : (σ7_67.1 2).toInt = (σ6_56.1 2).toInt := congrArg Int32.toInt (fd_tN eσ7_67 (by decide))
  have t_72 : (σ7_67.1 3).toInt = (σ6_56.1 3).toInt := congrArg Int32.toInt (fd_tN eσ7_67 (by decide))
  have t_73 : (σ7_67.1 4).toInt = (σ6_56.1 4).toInt := congrArg Int32.toInt (fd_tN eσ7_67 (by decide))
  have t_74 : (σ7_67.1 5).toInt = (σ6_56.1 5).toInt := congrArg Int32.toInt (fd_tN eσ7_67 (by decide))
  have t_75 : (σ7_67.1 12).toInt = (σ6_56.1 12).toInt := congrArg Int32.toInt (fd_tN eσ7_67 (by decide))
  have t_76 : (σ7_67.1 13).toInt = (σ6_56.1 13).toInt := congrArg Int32.toInt (fd_tN eσ7_67 (by decide))
  have t_77 : (σ7_67.1 14).toInt = (σ6_56.1 14).toInt := congrArg Int32.toInt (fd_tN eσ7_67 (by decide))
  refine fd_ok_lt (fun σ8_78 eσ8_78 => ?_)
  have i_79 : fd_InvM σ8_78 := fd_inv_sI eσ8_78 i_68 (fd_rng _)
  have f_80 : fd_fr [1, 2, 3, 4, 5, 6, 7, 11, 12, 13, 14, 119] σ σ8_78 := fd_fr_tr f_69 (fd_fr_sI eσ8_78 (by decide))
  have t_81 : (σ8_78.1 1).toInt = (σ7_67.1 1).toInt := congrArg Int32.toInt (fd_tN eσ8_78 (by decide))
  have t_82 : (σ8_78.1 2).toInt = (σ7_67.1 2).toInt := congrArg Int32.toInt (fd_tN eσ8_78 (by decide))
  have t_83 : (σ8_78.1 3).toInt = (σ7_67.1 3).toInt := congrArg Int32.toInt (fd_tN eσ8_78 (by decide))
  have t_84 : (σ8_78.1 4).toInt = (σ7_67.1 4).toInt := congrArg Int32.toInt (fd_tN eσ8_78 (by decide))
  have t_85 : (σ8_78.1 5).toInt = (σ7_67.1 5).toInt := congrArg Int32.toInt (fd_tN eσ8_78 (by decide))
  have t_86 : (σ8_78.1 12).toInt = (σ7_67.1 12).toInt := congrArg Int32.toInt (fd_tN eσ8_78 (by decide))
  have t_87 : (σ8_78.1 13).toInt = (σ7_67.1 13).toInt := congrArg Int32.toInt (fd_tN eσ8_78 (by decide))
  have t_88 : (σ8_78.1 14).toInt = (σ7_67.1 14).toInt := congrArg Int32.toInt (fd_tN eσ8_78 (by decide))
  refine fd_ok_lt (fun σ9_89 eσ9_89 => ?_)
  have i_90 : fd_InvM σ9_89 := fd_inv_sI eσ9_89 i_79 ⟨(by omega : (0 : Int) ≤ (0 : Int32).toInt), (by omega : (0 : Int32).toInt ≤ 64)⟩
  have f_91 : fd_fr [1, 2, 3, 4, 5, 6, 7, 11, 12, 13, 14, 119] σ σ9_89 := fd_fr_tr f_80 (fd_fr_sI eσ9_89 (by decide))
  have t_92 : (σ9_89.1 1).toInt = (σ8_78.1 1).toInt := congrArg Int32.toInt (fd_tN eσ9_89 (by decide))
  have t_93 : (σ9_89.1 2).toInt = (σ8_78.1 2).toInt := congrArg Int32.toInt (fd_tN eσ9_89 (by decide))
  have t_94 : (σ9_89.1 3).toInt = (σ8_78.1 3).toInt := congrArg Int32.toInt (fd_tN eσ9_89 (by decide))
  have t_95 : (σ9_89.1 4).toInt = (σ8_78.1 4).toInt := congrArg Int32.toInt (fd_tN eσ9_89 (by decide))
  have t_96 : (σ9_89.1 5).toInt = (σ8_78.1 5).toInt := congrArg Int32.toInt (fd_tN eσ9_89 (by decide))
  have t_97 : (σ9_89.1 12).toInt = (0 : Int32).toInt := congrArg Int32.toInt (fd_tI eσ9_89)
  have t_98 : (σ9_89.1 13).toInt = (σ8_78.1 13).toInt := congrArg Int32.toInt (fd_tN eσ9_89 (by decide))
  have t_99 : (σ9_89.1 14).toInt = (σ8_78.1 14).toInt := congrArg Int32.toInt (fd_tN eσ9_89 (by decide))
  refine fd_ok_lt (fun σ10_100 eσ10_100 => ?_)
  have i_101 : fd_InvM σ10_100 := fd_inv_sI eσ10_100 i_90 ⟨(by omega : (0 : Int) ≤ (0 : Int32).toInt), (by omega : (0 : Int32).toInt ≤ 30)⟩
  have f_102 : fd_fr [1, 2, 3, 4, 5, 6, 7, 11, 12, 13, 14, 119] σ σ10_100 := fd_fr_tr f_91 (fd_fr_sI eσ10_100 (by decide))
  have t_103 : (σ10_100.1 1).toInt = (σ9_89.1 1).toInt := congrArg Int32.toInt (fd_tN eσ10_100 (by decide))
  have t_104 : (σ10_100.1 2).toInt = (σ9_89.1 2).toInt := congrArg Int32.toInt (fd_tN eσ10_100 (by decide))
  have t_105 : (σ10_100.1 3).toInt = (σ9_89.1 3).toInt := congrArg Int32.toInt (fd_tN eσ10_100 (by decide))
  have t_106 : (σ10_100.1 4).toInt = (σ9_89.1 4).toInt := congrArg Int32.toInt (fd_tN eσ10_100 (by decide))
  have t_107 : (σ10_100.1 5).toInt = (σ9_89.1 5).toInt := congrArg Int32.toInt (fd_tN eσ10_100 (by decide))
  have t_108 : (σ10_100.1 12).toInt = (σ9_89.1 12).toInt := congrArg Int32.toInt (fd_tN eσ10_100 (by decide))
  have t_109 : (σ10_100.1 13).toInt = (0 : Int32).toInt := congrArg Int32.toInt (fd_tI eσ10_100)
  have t_110 : (σ10_100.1 14).toInt = (σ9_89.1 14).toInt := congrArg Int32.toInt (fd_tN eσ10_100 (by decide))
  refine fd_ok_lt (fun σ11_111 eσ11_111 => ?_)
  have i_112 : fd_InvM σ11_111 := fd_inv_sI eσ11_111 i_101 ⟨(by omega : (0 : Int) ≤ (0 : Int32).toInt), (by omega : (0 : Int32).toInt ≤ 60)⟩
  have f_113 : fd_fr [1, 2, 3, 4, 5, 6, 7, 11, 12, 13, 14, 119] σ σ11_111 := fd_fr_tr f_102 (fd_fr_sI eσ11_111 (by decide))
  have t_114 : (σ11_111.1 1).toInt = (σ10_100.1 1).toInt := congrArg Int32.toInt (fd_tN eσ11_111 (by decide))
  have t_115 : (σ11_111.1 2).toInt = (σ10_100.1 2).toInt := congrArg Int32.toInt (fd_tN eσ11_111 (by decide))
  have t_116 : (σ11_111.1 3).toInt = (σ10_100.1 3).toInt := congrArg Int32.toInt (fd_tN eσ11_111 (by decide))
  have t_117 : (σ11_111.1 4).toInt = (σ10_100.1 4).toInt := congrArg Int32.toInt (fd_tN eσ11_111 (by decide))
  have t_118 : (σ11_111.1 5).toInt = (σ10_100.1 5).toInt := congrArg Int32.toInt (fd_tN eσ11_111 (by decide))
  have t_119 : (σ11_111.1 12).toInt = (σ10_100.1 12).toInt := congrArg Int32.toInt (fd_tN eσ11_111 (by decide))
  have t_120 : (σ11_111.1 13).toInt = (σ10_100.1 13).toInt := congrArg Int32.toInt (fd_tN eσ11_111 (by decide))
  have t_121 : (σ11_111.1 14).toInt = (0 : Int32).toInt := congrArg Int32.toInt (fd_tI eσ11_111)
  refine fd_ok_mono (s_X11_clear_0_L57 N hN N _ _ i_112 (by omega) (by omega) (by omega)) ?_
  rintro v s ⟨hi, hf, hx⟩
  have t_122 : (s.1 1).toInt = (σ11_111.1 1).toInt := congrArg Int32.toInt (hf.1 1 (by decide))
  have t_123 : (s.1 2).toInt = (σ11_111.1 2).toInt := congrArg Int32.toInt (hf.1 2 (by decide))
  have t_124 : (s.1 3).toInt = (σ11_111.1 3).toInt := congrArg Int32.toInt (hf.1 3 (by decide))
  have t_125 : (s.1 4).toInt = (σ11_111.1 4).toInt := congrArg Int32.toInt (hf.1 4 (by decide))
  have t_126 : (s.1 5).toInt = (σ11_111.1 5).toInt := congrArg Int32.toInt (hf.1 5 (by decide))
  have t_127 : (s.1 12).toInt = (σ11_111.1 12).toInt := congrArg Int32.toInt (hf.1 12 (by decide))
  have t_128 : (s.1 13).toInt = (σ11_111.1 13).toInt := congrArg Int32.toInt (hf.1 13 (by decide))
  have t_129 : (s.1 14).toInt = (σ11_111.1 14).toInt := congrArg Int32.toInt (hf.1 14 (by decide))
  have xx : (s.1 1).toInt = 0 ∧ (s.1 2).toInt = 0 ∧ (s.1 4).toInt = 0 ∧ (s.1 3).toInt = 0 ∧ (s.1 5).toInt = 0 ∧ (s.1 12).toInt = 0 ∧ (s.1 13).toInt = 0 ∧ (s.1 14).toInt = 0 := by omega
  exact ⟨hi, fd_fr_tr f_113 (fd_fr_mono hf (by decide)), xx⟩
