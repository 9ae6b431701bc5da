set_option maxHeartbeats 4000000 in
theorem s_X11_run_0_L77 (N : Nat) (hN : 1000 ≤ N) : ∀ (n : Nat) (y1 : Int32) (σ : fd_St), fd_InvM σ → (0 ≤ y1.toInt) → (y1.toInt ≤ 6) → 6 - y1.toInt < (n : Int) → fd_ok (f_X11_run_0_L77 N n y1 σ) (fun v s => fd_InvM s ∧ fd_fr [6, 8, 9, 10, 118, 210] σ s ∧ (True)) := by
  have lit0 : (0 : Int32).toInt = 0 := by decide
  have lit1 : (1 : Int32).toInt = 1 := by decide
  have lit6 : (6 : Int32).toInt = 6 := by decide
  intro n
  induction n with
  | zero =>
    intro y1 σ i0 h0 h1 hm
    omega
  | succ n ih =>
    intro y1 σ i0 h0 h1 hm
    have f0 : fd_fr [6, 8, 9, 10, 118, 210] σ σ := fd_fr_rf
    unfold f_X11_run_0_L77
    refine fd_ok_ite (fun c_1 => ?_) (fun c_1 => ?_)
    ·
      have d_2 := Int32.le_iff_toInt_le.mp c_1
      refine fd_ok_mono (s_X11_run_0_L100 N hN N _ _ _ i0 (by omega) (by omega) (by omega)) ?_
      rintro v s ⟨hi, hf, hx⟩
      exact ⟨hi, fd_fr_tr f0 (fd_fr_mono hf (by decide)), trivial⟩
    ·
      have d_3 := Int32.lt_iff_toInt_lt.mp (Int32.not_le.mp c_1)
      refine fd_ok_gd (vp_in_iff.mpr ⟨by omega, by omega⟩) ?_
      refine fd_ok_lt (fun σ38_4 eσ38_4 => ?_)
      have i_5 : fd_InvM σ38_4 := fd_inv_sA eσ38_4 i0 (by decide) (by decide) (fd_rng _)
      have f_6 : fd_fr [6, 8, 9, 10, 118, 210] σ σ38_4 := fd_fr_tr f0 (fd_fr_sA eσ38_4 (by decide))
      refine fd_ok_lt (fun x39_7 ex39_7 => ?_)
      have t_8 := fd_la ex39_7 (by omega) (by omega)
      refine fd_ok_mono (ih _ _ i_5 (by omega) (by omega) (by omega)) ?_
      rintro v s ⟨hi, hf, hx⟩
      exact ⟨hi, fd_fr_tr f_6 hf, trivial⟩
set_option maxHeartbeats 4000000 in
theorem s_X11_run_0_L23 (N : Nat) (hN : 1000 ≤ N) (k16 : Int32 → fd_St → Option (Int32 × fd_St)) (σ0 : fd_St) (Q : Int32 → fd_St → Prop) (b : Int) (hk16 : ∀ (z1 : Int32) (τ : fd_St), fd_InvM τ → fd_fr [6, 7, 8, 9, 10, 112, 113, 114, 115, 116, 117, 118, 210] σ0 τ → (b < z1.toInt) → (0 ≤ z1.toInt) → (z1.toInt ≤ 4) → ((z1.toInt = 0 → (τ.1 7).toInt ≤ 0) ∧ (z1.toInt = 1 → (τ.1 7).toInt ≤ 200 + 0) ∧ (z1.toInt = 2 → (τ.1 7).toInt ≤ 400 + 0) ∧ (z1.toInt = 3 → (τ.1 7).toInt ≤ 440 + 0)) → fd_ok (k16 z1 τ) Q) : ∀ (n : Nat) (y1 : Int32) (y2 : Int32) (σ : fd_St), fd_InvM σ → fd_fr [6, 7, 8, 9, 10, 112, 113, 114, 115, 116, 117, 118, 210] σ0 σ → (b ≤ y1.toInt) → (0 ≤ y1.toInt) → (y1.toInt ≤ 3) → (0 ≤ y2.toInt) → (y2.toInt ≤ 200) → (1 < y1.toInt → y2.toInt ≤ 40) → ((y1.toInt = 0 → (σ.1 7).toInt ≤ y2.toInt) ∧ (y1.toInt = 1 → (σ.1 7).toInt ≤ 200 + y2.toInt) ∧ (y1.toInt = 2 → (σ.1 7).toInt ≤ 400 + y2.toInt) ∧ (y1.toInt = 3 → (σ.1 7).toInt ≤ 440 + y2.toInt)) → 200 - y2.toInt < (n : Int) → fd_ok (f_X11_run_0_L23 N k16 n y1 y2 σ) Q := by
  have lit0 : (0 : Int32).toInt = 0 := by decide
  have lit1 : (1 : Int32).toInt = 1 := by decide
  have lit2 : (2 : Int32).toInt = 2 := by decide
  intro n
  induction n with
  | zero =>
    intro y1 y2 σ i0 f0 h0 h1 h2 h3 h4 h5 h6 hm
    omega
  | succ n ih =>
    intro y1 y2 σ i0 f0 h0 h1 h2 h3 h4 h5 h6 hm
    unfold f_X11_run_0_L23
    refine fd_ok_ite (fun c_1 => ?_) (fun c_1 => ?_)
    ·
      have d_2 := Int32.le_iff_toInt_le.mp c_1
      try unfold f_X11_run_0_J40
      have r_3 : (0 : Int) ≤ (σ.1 5).toInt ∧ (σ.1 5).toInt ≤ 40 := i0.1 5
      refine fd_ok_ite (fun c_4 => ?_) (fun c_4 => ?_)
      ·
        have d_5 := Int32.le_iff_toInt_le.mp c_4
        refine fd_ok_lt (fun x42_6 ex42_6 => ?_)
        have t_7 := fd_la ex42_6 (by omega) (by omega)
        exact hk16 _ _ i0 f0 (by omega) (by omega) (by omega) (by omega)
      ·
        have d_8 := Int32.lt_iff_toInt_lt.mp (Int32.not_le.mp c_4)
        refine fd_ok_bd ?_
        refine fd_ok_cl (s_X11_enter_0 N hN _ _ _ i0 (by omega) (by omega) (by omega) (by omega) (by omega) (by omega)) ?_
        rintro v_9 σ_10 ⟨i_11, g_12, x_13⟩
        have f_14 : fd_fr [6, 7, 8, 9, 10, 112, 113, 114, 115, 116, 117, 118, 210] σ0 σ_10 := fd_fr_tr f0 (fd_fr_mono g_12 (by decide))
        have t_15 : (σ_10.1 1).toInt = (σ.1 1).toInt := congrArg Int32.toInt (g_12.1 1 (by decide))
        have t_16 : (σ_10.1 5).toInt = (σ.1 5).toInt := congrArg Int32.toInt (g_12.1 5 (by decide))
        refine fd_ok_lt (fun x48_17 ex48_17 => ?_)
        have t_18 := fd_la ex48_17 (by omega) (by omega)
        exact ih _ _ _ i_11 f_14 (by omega) (by omega) (by omega) (by omega) (by omega) (by omega) (by omega) (by omega)
    ·
      have d_19 := Int32.lt_iff_toInt_lt.mp (Int32.not_le.mp c_1)
      try unfold f_X11_run_0_J40
      have r_20 : (0 : Int) ≤ (σ.1 1).toInt ∧ (σ.1 1).toInt ≤ 200 := i0.1 1
      refine fd_ok_ite (fun c_21 => ?_) (fun c_21 => ?_)
      ·
        have d_22 := Int32.le_iff_toInt_le.mp c_21
        refine fd_ok_lt (fun x42_23 ex42_23 => ?_)
        have t_24 := fd_la ex42_23 (by omega) (by omega)
        exact hk16 _ _ i0 f0 (by omega) (by omega) (by omega) (by omega)
      ·
        have d_25 := Int32.lt_iff_toInt_lt.mp (Int32.not_le.mp c_21)
        refine fd_ok_bd ?_
        refine fd_ok_cl (s_X11_enter_0 N hN _ _ _ i0 (by omega) (by omega) (by omega) (by omega) (by omega) (by omega)) ?_
        rintro v_26 σ_27 ⟨i_28, g_29, x_30⟩
        have f_31 : fd_fr [6, 7, 8, 9, 10, 112, 113, 114, 115, 116, 117, 118, 210] σ0 σ_27 := fd_fr_tr f0 (fd_fr_mono g_29 (by decide))
        have t_32 : (σ_27.1 1).toInt = (σ.1 1).toInt := congrArg Int32.toInt (g_29.1 1 (by decide))
        have t_33 : (σ_27.1 5).toInt = (σ.1 5).toInt := congrArg Int32.toInt (g_29.1 5 (by decide))
        refine fd_ok_lt (fun x48_34 ex48_34 => ?_)
        have t_35 := fd_la ex48_34 (by omega) (by omega)
        exact ih _ _ _ i_28 f_31 (by omega) (by omega) (by omega) (by omega) (by omega) (by omega) (by omega) (by omega)
set_option maxHeartbeats 4000000 in
theorem s_X11_run_0_L16 (N : Nat) (hN : 1000 ≤ N) : ∀ (n : Nat) (y1 : Int32) (σ : fd_St), fd_InvM σ → (0 ≤ y1.toInt) → (y1.toInt ≤ 4) → ((y1.toInt = 0 → (σ.1 7).toInt ≤ 0) ∧ (y1.toInt = 1 → (σ.1 7).toInt ≤ 200 + 0) ∧ (y1.toInt = 2 → (σ.1 7).toInt ≤ 400 + 0) ∧ (y1.toInt = 3 → (σ.1 7).toInt ≤ 440 + 0)) → 4 - y1.toInt < (n : Int) → fd_ok (f_X11_run_0_L16 N n y1 σ) (fun v s => fd_InvM s ∧ fd_fr [6, 7, 8, 9, 10, 112, 113, 114, 115, 116, 117, 118, 210] σ s ∧ (True)) := by
  have litm1 : (-1 : Int32).toInt = -1 := by decide
  have lit0 : (0 : Int32).toInt = 0 := by decide
  have lit1 : (1 : Int32).toInt = 1 := by decide
  have lit2 : (2 : Int32).toInt = 2 := by decide
  have lit4 : (4 : Int32).toInt = 4 := by decide
  intro n
  induction n with
  | zero =>
    intro y1 σ i0 h0 h1 h2 hm
    omega
  | succ n ih =>
    intro y1 σ i0 h0 h1 h2 hm
    have f0 : fd_fr [6, 7, 8, 9, 10, 112, 113, 114, 115, 116, 117, 118, 210] σ σ := fd_fr_rf
    unfold f_X11_run_0_L16
    refine fd_ok_ite (fun c_1 => ?_) (fun c_1 => ?_)
    ·
      have d_2 := Int32.le_iff_toInt_le.mp c_1
      refine fd_ok_gd (vp_in_iff.mpr ⟨by omega, by omega⟩) ?_
      refine fd_ok_lt (fun σ10_3 eσ10_3 => ?_)
      have i_4 : fd_InvM σ10_3 := fd_inv_sA eσ10_3 i0 (by decide) (by decide) (fd_rng _)
      have f_5 : fd_fr [6, 7, 8, 9, 10, 112, 113, 114, 115, 116, 117, 118, 210] σ σ10_3 := fd_fr_tr f0 (fd_fr_sA eσ10_3 (by decide))
      have t_6 : (σ10_3.1 1).toInt = (σ.1 1).toInt := by subst eσ10_3; rfl
      have t_7 : (σ10_3.1 5).toInt = (σ.1 5).toInt := by subst eσ10_3; rfl
      have t_8 : (σ10_3.1 7).toInt = (σ.1 7).toInt := by subst eσ10_3; rfl
      refine fd_ok_gd (vp_in_iff.mpr ⟨by omega, by omega⟩) ?_
      refine fd_ok_lt (fun σ12_9 eσ12_9 => ?_)
      have i_10 : fd_InvM σ12_9 := fd_inv_sA eσ12_9 i_4 (by decide) (by decide) (fd_rng _)
      have f_11 : fd_fr [6, 7, 8, 9, 10, 112, 113, 114, 115, 116, 117, 118, 210] σ σ12_9 := fd_fr_tr f_5 (fd_fr_sA eσ12_9 (by decide))
      have t_12 : (σ12_9.1 1).toInt = (σ10_3.1 1).toInt := by subst eσ12_9; rfl
      have t_13 : (σ12_9.1 5).toInt = (σ10_3.1 5).toInt := by subst eσ12_9; rfl
      have t_14 : (σ12_9.1 7).toInt = (σ10_3.1 7).toInt := by subst eσ12_9; rfl
      refine fd_ok_mono (s_X11_run_0_L77 N hN N _ _ i_10 (by omega) (by omega) (by omega)) ?_
      rintro v s ⟨hi, hf, hx⟩
      exact ⟨hi, fd_fr_tr f_11 (fd_fr_mono hf (by decide)), trivial⟩
    ·
      have d_15 := Int32.lt_iff_toInt_lt.mp (Int32.not_le.mp c_1)
      refine s_X11_run_0_L23 N hN (f_X11_run_0_L16 N n) σ _ y1.toInt (fun z1 τ jI jF j0 j1 j2 j3 => ?_) N _ _ _ i0 f0 (by omega) (by omega) (by omega) (by omega) (by omega) (by omega) (by omega) (by omega)
      refine fd_ok_mono (ih z1 τ jI (by omega) (by omega) (by omega) (by omega)) ?_
      rintro v s ⟨hi, hf, hx⟩
      exact ⟨hi, fd_fr_tr jF hf, trivial⟩
set_option maxHeartbeats 4000000 in
theorem s_X11_join_0_L58 (N : Nat) (hN : 1000 ≤ N) : ∀ (n : Nat) (y1 : Int32) (y2 : Int32) (σ : fd_St), fd_InvM σ → (0 ≤ y2.toInt) → (y2.toInt ≤ 480) → (0 ≤ y1.toInt) → (y1.toInt ≤ 480) → 480 - y2.toInt < (n : Int) → fd_ok (f_X11_join_0_L58 N n y1 y2 σ) (fun v s => fd_InvM s ∧ fd_fr [11, 119] σ s ∧ (True)) := by
  have lit0 : (0 : Int32).toInt = 0 := by decide
  have lit1 : (1 : Int32).toInt = 1 := by decide
  have lit2 : (2 : Int32).toInt = 2 := by decide
  have lit10 : (10 : Int32).toInt = 10 := by decide
  have lit2520 : (2520 : Int32).toInt = 2520 := by decide
  intro n
  induction n with
  | zero =>
    intro y1 y2 σ i0 h0 h1 h2 h3 hm
    omega
  | succ n ih =>
    intro y1 y2 σ i0 h0 h1 h2 h3 hm
    have f0 : fd_fr [11, 119] σ σ := fd_fr_rf
    unfold f_X11_join_0_L58
    refine fd_ok_ite (fun c_1 => ?_) (fun c_1 => ?_)
    ·
      have d_2 := Int32.le_iff_toInt_le.mp c_1
      try unfold f_X11_join_0_J151
      refine fd_ok_lt (fun σ6_3 eσ6_3 => ?_)
      have i_4 : fd_InvM σ6_3 := fd_inv_sI eσ6_3 i0 (fd_rng _)
      have f_5 : fd_fr [11, 119] σ σ6_3 := fd_fr_tr f0 (fd_fr_sI eσ6_3 (by decide))
      have t_6 : (σ6_3.1 7).toInt = (σ.1 7).toInt := congrArg Int32.toInt (fd_tN eσ6_3 (by decide))
      have t_7 : (σ6_3.1 12).toInt = (σ.1 12).toInt := congrArg Int32.toInt (fd_tN eσ6_3 (by decide))
      have t_8 : (σ6_3.1 13).toInt = (σ.1 13).toInt := congrArg Int32.toInt (fd_tN eσ6_3 (by decide))
      exact fd_ok_some ⟨i_4, f_5, trivial⟩
    ·
      have d_9 := Int32.lt_iff_toInt_lt.mp (Int32.not_le.mp c_1)
      refine fd_ok_ite (fun c_10 => ?_) (fun c_10 => ?_)
      ·
        have d_11 := Int32.lt_iff_toInt_lt.mp c_10
        try unfold f_X11_join_0_J151
        refine fd_ok_lt (fun σ6_12 eσ6_12 => ?_)
        have i_13 : fd_InvM σ6_12 := fd_inv_sI eσ6_12 i0 (fd_rng _)
        have f_14 : fd_fr [11, 119] σ σ6_12 := fd_fr_tr f0 (fd_fr_sI eσ6_12 (by decide))
        have t_15 : (σ6_12.1 7).toInt = (σ.1 7).toInt := congrArg Int32.toInt (fd_tN eσ6_12 (by decide))
        have t_16 : (σ6_12.1 12).toInt = (σ.1 12).toInt := congrArg Int32.toInt (fd_tN eσ6_12 (by decide))
        have t_17 : (σ6_12.1 13).toInt = (σ.1 13).toInt := congrArg Int32.toInt (fd_tN eσ6_12 (by decide))
        exact fd_ok_some ⟨i_13, f_14, trivial⟩
      ·
        have d_18 := Int32.le_iff_toInt_le.mp (Int32.not_lt.mp c_10)
        refine fd_ok_gd (vp_in_iff.mpr ⟨by omega, by omega⟩) ?_
        have r_20 : (0 : Int) ≤ (σ.2.1 13 y2.toNatClampNeg).toInt ∧ (σ.2.1 13 y2.toNatClampNeg).toInt ≤ 199 := i0.2.1 13 _
        have r_21 := i0.2.2 y2.toNatClampNeg
        refine fd_ok_lt (fun x9_19 ex9_19 => ?_)
        have t_22 : x9_19.toInt = (σ.2.1 13 y2.toNatClampNeg).toInt := congrArg Int32.toInt ex9_19
        refine fd_ok_gd (vp_in_iff.mpr ⟨by omega, by omega⟩) ?_
        have r_23 : (0 : Int) ≤ (σ.2.1 12 y2.toNatClampNeg).toInt ∧ (σ.2.1 12 y2.toNatClampNeg).toInt ≤ 3 := i0.2.1 12 _
        have r_24 := i0.2.2 y2.toNatClampNeg
        refine fd_ok_ite (fun c_25 => ?_) (fun c_25 => ?_)
        ·
          have d_26 := Int32.le_iff_toInt_le.mp c_25
          try unfold f_X11_join_0_J91
          refine fd_ok_itp (by decide) ?_
          refine fd_ok_gd (vp_in_iff.mpr ⟨by omega, by omega⟩) ?_
          try unfold f_X11_join_0_J112
          have r_27 : (0 : Int) ≤ (σ.2.1 7 x9_19.toNatClampNeg).toInt ∧ (σ.2.1 7 x9_19.toNatClampNeg).toInt ≤ 199 := i0.2.1 7 _
          refine fd_ok_gd (vp_in_iff.mpr ⟨by omega, by omega⟩) ?_
          refine fd_ok_gd (fun q => by have := congrArg Int32.toInt q; omega) ?_
          refine fd_ok_gd (vp_in_iff.mpr ⟨by omega, by omega⟩) ?_
          refine fd_ok_lt (fun σ17_28 eσ17_28 => ?_)
          have i_29 : fd_InvM σ17_28 := fd_inv_sA eσ17_28 i0 (by decide) (by decide) (fd_rng _)
          have f_30 : fd_fr [11, 119] σ σ17_28 := fd_fr_tr f0 (fd_fr_sA eσ17_28 (by decide))
          have t_31 : (σ17_28.1 7).toInt = (σ.1 7).toInt := by subst eσ17_28; rfl
          have t_32 : (σ17_28.1 12).toInt = (σ.1 12).toInt := by subst eσ17_28; rfl
          have t_33 : (σ17_28.1 13).toInt = (σ.1 13).toInt := by subst eσ17_28; rfl
          refine fd_ok_itp (by decide) ?_
          refine fd_ok_gd (vp_in_iff.mpr ⟨by omega, by omega⟩) ?_
          have r_35 : (0 : Int) ≤ (σ17_28.2.1 8 x9_19.toNatClampNeg).toInt ∧ (σ17_28.2.1 8 x9_19.toNatClampNeg).toInt ≤ 199 := i_29.2.1 8 _
          refine fd_ok_lt (fun x21_34 ex21_34 => ?_)
          have t_36 : x21_34.toInt = (σ17_28.2.1 8 x9_19.toNatClampNeg).toInt := congrArg Int32.toInt ex21_34
          refine fd_ok_gd (vp_in_iff.mpr ⟨by omega, by omega⟩) ?_
          refine fd_ok_gd (fun q => by have := congrArg Int32.toInt q; omega) ?_
          refine fd_ok_gd (vp_in_iff.mpr ⟨by omega, by omega⟩) ?_
          refine fd_ok_lt (fun σ25_37 eσ25_37 => ?_)
          have i_38 : fd_InvM σ25_37 := fd_inv_sA eσ25_37 i_29 (by decide) (by decide) (fd_rng _)
          have f_39 : fd_fr [11, 119] σ σ25_37 := fd_fr_tr f_30 (fd_fr_sA eσ25_37 (by decide))
          have t_40 : (σ25_37.1 7).toInt = (σ17_28.1 7).toInt := by subst eσ25_37; rfl
          have t_41 : (σ25_37.1 12).toInt = (σ17_28.1 12).toInt := by subst eσ25_37; rfl
          have t_42 : (σ25_37.1 13).toInt = (σ17_28.1 13).toInt := by subst eσ25_37; rfl
          try unfold f_X11_join_0_J145
          refine fd_ok_lt (fun x19_43 ex19_43 => ?_)
          have t_44 := fd_la ex19_43 (by omega) (by omega)
          refine fd_ok_mono (ih _ _ _ i_38 (by omega) (by omega) (by omega) (by omega) (by omega)) ?_
          rintro v s ⟨hi, hf, hx⟩
          exact ⟨hi, fd_fr_tr f_39 hf, trivial⟩
        ·
          have d_45 := Int32.lt_iff_toInt_lt.mp (Int32.not_le.mp c_25)
          try unfold f_X11_join_0_J91
          refine fd_ok_itn (by decide) ?_
          try unfold f_X11_join_0_J112
          refine fd_ok_gd (vp_in_iff.mpr ⟨by omega, by omega⟩) ?_
          refine fd_ok_gd (fun q => by have := congrArg Int32.toInt q; omega) ?_
          refine fd_ok_gd (vp_in_iff.mpr ⟨by omega, by omega⟩) ?_
          refine fd_ok_lt (fun σ17_46 eσ17_46 => ?_)
          have i_47 : fd_InvM σ17_46 := fd_inv_sA eσ17_46 i0 (by decide) (by decide) (fd_rng _)
          have f_48 : fd_fr [11, 119] σ σ17_46 := fd_fr_tr f0 (fd_fr_sA eσ17_46 (by decide))
          have t_49 : (σ17_46.1 7).toInt = (σ.1 7).toInt := by subst eσ17_46; rfl
          have t_50 : (σ17_46.1 12).toInt = (σ.1 12).toInt := by subst eσ17_46; rfl
          have t_51 : (σ17_46.1 13).toInt = (σ.1 13).toInt := by subst eσ17_46; rfl
          refine fd_ok_itn (by decide) ?_
          try unfold f_X11_join_0_J145
          refine fd_ok_lt (fun x19_52 ex19_52 => ?_)
          have t_53 := fd_la ex19_52 (by omega) (by omega)
          refine fd_ok_mono (ih _ _ _ i_47 (by omega) (by omega) (by omega) (by omega) (by omega)) ?_
          rintro v s ⟨hi, hf, hx⟩
          exact ⟨hi, fd_fr_tr f_48 hf, trivial⟩
set_option maxHeartbeats 4000000 in
theorem s_X11_join_0_L27 (N : Nat) (hN : 1000 ≤ N) : ∀ (n : Nat) (y1 : Int32) (σ : fd_St), fd_InvM σ → (0 ≤ y1.toInt) → (y1.toInt ≤ 480) → 480 - y1.toInt < (n : Int) → fd_ok (f_X11_join_0_L27 N n y1 σ) (fun v s => fd_InvM s ∧ fd_fr [11, 119] σ s ∧ (True)) := by
  have lit0 : (0 : Int32).toInt = 0 := by decide
  have lit1 : (1 : Int32).toInt = 1 := by decide
  intro n
  induction n with
  | zero =>
    intro y1 σ i0 h0 h1 hm
    omega
  | succ n ih =>
    intro y1 σ i0 h0 h1 hm
    have f0 : fd_fr [11, 119] σ σ := fd_fr_rf
    unfold f_X11_join_0_L27
    have r_1 : (0 : Int) ≤ (σ.1 7).toInt ∧ (σ.1 7).toInt ≤ 480 := i0.1 7
    refine fd_ok_ite (fun c_2 => ?_) (fun c_2 => ?_)
    ·
      have d_3 := Int32.le_iff_toInt_le.mp c_2
      try unfold f_X11_join_0_J56
      refine fd_ok_mono (s_X11_join_0_L58 N hN N _ _ _ i0 (by omega) (by omega) (by omega) (by omega) (by omega)) ?_
      rintro v s ⟨hi, hf, hx⟩
      exact ⟨hi, fd_fr_tr f0 (fd_fr_mono hf (by decide)), trivial⟩
    ·
      have d_4 := Int32.lt_iff_toInt_lt.mp (Int32.not_le.mp c_2)
      refine fd_ok_gd (vp_in_iff.mpr ⟨by omega, by omega⟩) ?_
      refine fd_ok_gd (vp_in_iff.mpr ⟨by omega, by omega⟩) ?_
      refine fd_ok_ite (fun c_5 => ?_) (fun c_5 => ?_)
      ·
        have d_6 := congrArg Int32.toInt c_5
        refine fd_ok_lt (fun x29_7 ex29_7 => ?_)
        have t_8 := fd_la ex29_7 (by omega) (by omega)
        refine fd_ok_mono (ih _ _ i0 (by omega) (by omega) (by omega)) ?_
        rintro v s ⟨hi, hf, hx⟩
        exact ⟨hi, fd_fr_tr f0 hf, trivial⟩
      ·
        try unfold f_X11_join_0_J56
        refine fd_ok_mono (s_X11_join_0_L58 N hN N _ _ _ i0 (by omega) (by omega) (by omega) (by omega) (by omega)) ?_
        rintro v s ⟨hi, hf, hx⟩
        exact ⟨hi, fd_fr_tr f0 (fd_fr_mono hf (by decide)), trivial⟩
set_option maxHeartbeats 4000000 in
theorem s_X11_mayBe_0_L15 (N : Nat) (hN : 1000 ≤ N) (k3 : Int32 → Int64 → Int32 → fd_St → Option (Int32 × fd_St)) (σ0 : fd_St) (Q : Int32 → fd_St → Prop) (b : Int) (hq : ∀ v s, fd_InvM s → fd_fr [] σ0 s → Q v s) (hk3 : ∀ (z1 : Int32) (z2 : Int64) (z4 : Int32) (τ : fd_St), fd_InvM τ → fd_fr [] σ0 τ → (b < z4.toInt) → (0 ≤ z4.toInt) → (z4.toInt ≤ 30) → fd_ok (k3 z1 z2 z4 τ) Q) : ∀ (n : Nat) (y1 : Int32) (y2 : Int64) (y4 : Int32) (y5 : Int32) (σ : fd_St), fd_InvM σ → fd_fr [] σ0 σ → (b ≤ y4.toInt) → (0 ≤ y4.toInt) → (y4.toInt ≤ 29) → (0 ≤ y5.toInt) → (y5.toInt ≤ 64) → 64 - y5.toInt < (n : Int) → fd_ok (f_X11_mayBe_0_L15 N k3 n y1 y2 y4 y5 σ) Q := by
  have lit0 : (0 : Int32).toInt = 0 := by decide
  have lit1 : (1 : Int32).toInt = 1 := by decide
  intro n
  induction n with
  | zero =>
    intro y1 y2 y4 y5 σ i0 f0 h0 h1 h2 h3 h4 hm
    omega
  | succ n ih =>
    intro y1 y2 y4 y5 σ i0 f0 h0 h1 h2 h3 h4 hm
    unfold f_X11_mayBe_0_L15
    have r_1 : (0 : Int) ≤ (σ.1 12).toInt ∧ (σ.1 12).toInt ≤ 64 := i0.1 12
    refine fd_ok_ite (fun c_2 => ?_) (fun c_2 => ?_)
    ·
      have d_3 := Int32.le_iff_toInt_le.mp c_2
      refine fd_ok_lt (fun x3_4 ex3_4 => ?_)
      have t_5 := fd_la ex3_4 (by omega) (by omega)
      exact hk3 _ _ _ _ i0 f0 (by omega) (by omega) (by omega)
    ·
      have d_6 := Int32.lt_iff_toInt_lt.mp (Int32.not_le.mp c_2)
      refine fd_ok_ite (fun c_7 => ?_) (fun c_7 => ?_)
      ·
        have d_8 := Int32.lt_iff_toInt_lt.mp c_7
        refine fd_ok_gd (vp_in_iff.mpr ⟨by omega, by omega⟩) ?_
        try unfold f_X11_mayBe_0_J46
        refine fd_ok_gd (vp_in_iff.mpr ⟨by omega, by omega⟩) ?_
        refine fd_ok_ite (fun c_9 => ?_) (fun c_9 => ?_)
        ·
          refine fd_ok_lt (fun x8_11 ex8_11 => ?_)
          have t_12 := fd_la ex8_11 (by omega) (by omega)
          exact ih _ _ _ _ _ i0 f0 (by omega) (by omega) (by omega) (by omega) (by omega) (by omega)
        ·
          exact fd_ok_some (hq _ _ i0 f0)
      ·
        have d_14 := Int32.le_iff_toInt_le.mp (Int32.not_lt.mp c_7)
        try unfold f_X11_mayBe_0_J46
        refine fd_ok_gd (vp_in_iff.mpr ⟨by omega, by omega⟩) ?_
        refine fd_ok_ite (fun c_15 => ?_) (fun c_15 => ?_)
        ·
          refine fd_ok_lt (fun x8_17 ex8_17 => ?_)
          have t_18 := fd_la ex8_17 (by omega) (by omega)
          exact ih _ _ _ _ _ i0 f0 (by omega) (by omega) (by omega) (by omega) (by omega) (by omega)
        ·
          exact fd_ok_some (hq _ _ i0 f0)
set_option maxHeartbeats 4000000 in
theorem s_X11_mayBe_0_L3 (N : Nat) (hN : 1000 ≤ N) : ∀ (n : Nat) (y1 : Int32) (y2 : Int64) (y4 : Int32) (σ : fd_St), fd_InvM σ → (0 ≤ y4.toInt) → (y4.toInt ≤ 30) → 30 - y4.toInt < (n : Int) → fd_ok (f_X11_mayBe_0_L3 N n y1 y2 y4 σ) (fun v s => fd_InvM s ∧ fd_fr [] σ s ∧ (True)) := by
  have lit0 : (0 : Int32).toInt = 0 := by decide
  have lit1 : (1 : Int32).toInt = 1 := by decide
  intro n
  induction n with
  | zero =>
    intro y1 y2 y4 σ i0 h0 h1 hm
    omega
  | succ n ih =>
    intro y1 y2 y4 σ i0 h0 h1 hm
    have f0 : fd_fr [] σ σ := fd_fr_rf
    unfold f_X11_mayBe_0_L3
    have r_1 : (0 : Int) ≤ (σ.1 13).toInt ∧ (σ.1 13).toInt ≤ 30 := i0.1 13
    refine fd_ok_ite (fun c_2 => ?_) (fun c_2 => ?_)
    ·
      have d_3 := Int32.le_iff_toInt_le.mp c_2
      exact fd_ok_some ⟨i0, f0, trivial⟩
    ·
      have d_4 := Int32.lt_iff_toInt_lt.mp (Int32.not_le.mp c_2)
      refine s_X11_mayBe_0_L15 N hN (f_X11_mayBe_0_L3 N n) σ _ y4.toInt (fun v s a b => ⟨a, b, trivial⟩) (fun z1 z2 z4 τ jI jF j0 j1 j2 => ?_) N _ _ _ _ _ i0 f0 (by omega) (by omega) (by omega) (by omega) (by omega) (by omega)
      refine fd_ok_mono (ih z1 z2 z4 τ jI (by omega) (by omega) (by omega)) ?_
      rintro v s ⟨hi, hf, hx⟩
      exact ⟨hi, fd_fr_tr jF hf, trivial⟩
