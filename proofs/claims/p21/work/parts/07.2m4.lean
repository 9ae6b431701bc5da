set_option maxHeartbeats 4000000 in
theorem s_X11_areaOf_0_L122 (N : Nat) (hN : 1000 ≤ N) (k110 : Int32 → Int32 → Int32 → Int32 → Int32 → Int32 → Int32 → fd_St → Option (Int32 × fd_St)) (σ0 : fd_St) (Q : Int32 → fd_St → Prop) (b : Int) (hk110 : ∀ (z1 : Int32) (z2 : Int32) (z3 : Int32) (z4 : Int32) (z5 : Int32) (z6 : Int32) (z7 : Int32) (τ : fd_St), fd_InvM τ → fd_fr [] σ0 τ → (b < z7.toInt) → (0 ≤ z4.toInt) → (z4.toInt ≤ 120) → (0 ≤ z5.toInt) → (z5.toInt ≤ 120) → (0 ≤ z7.toInt) → (z7.toInt ≤ 120) → fd_ok (k110 z1 z2 z3 z4 z5 z6 z7 τ) Q) : ∀ (n : Nat) (y1 : Int32) (y2 : Int32) (y3 : Int32) (y4 : Int32) (y5 : Int32) (y6 : Int32) (y7 : Int32) (y8 : Int32) (σ : fd_St), fd_InvM σ → fd_fr [] σ0 σ → (b ≤ y7.toInt) → (0 ≤ y4.toInt) → (y4.toInt ≤ 120) → (0 ≤ y5.toInt) → (y5.toInt ≤ 120) → (0 ≤ y7.toInt) → (y7.toInt ≤ 119) → (y7.toInt + 1 < y4.toInt) → (0 ≤ y8.toInt) → (y8.toInt ≤ 120) → 121 - y8.toInt < (n : Int) → fd_ok (f_X11_areaOf_0_L122 N k110 n y1 y2 y3 y4 y5 y6 y7 y8 σ) Q := by
  have lit0 : (0 : Int32).toInt = 0 := by decide
  have lit1 : (1 : Int32).toInt = 1 := by decide
  intro n
  induction n with
  | zero =>
    intro y1 y2 y3 y4 y5 y6 y7 y8 σ i0 f0 h0 h1 h2 h3 h4 h5 h6 h7 h8 h9 hm
    omega
  | succ n ih =>
    intro y1 y2 y3 y4 y5 y6 y7 y8 σ i0 f0 h0 h1 h2 h3 h4 h5 h6 h7 h8 h9 hm
    unfold f_X11_areaOf_0_L122
    have u_1 := Jvm.Kit.i32_add (x := y8) (y := (1 : Int32)) (by omega) (by omega)
    refine fd_ok_ite (fun c_2 => ?_) (fun c_2 => ?_)
    ·
      have d_3 := Int32.le_iff_toInt_le.mp c_2
      refine fd_ok_lt (fun x4_4 ex4_4 => ?_)
      have t_5 := fd_la ex4_4 (by omega) (by omega)
      exact hk110 _ _ _ _ _ _ _ _ i0 f0 (by omega) (by omega) (by omega) (by omega) (by omega) (by omega) (by omega)
    ·
      have d_6 := Int32.lt_iff_toInt_lt.mp (Int32.not_le.mp c_2)
      refine fd_ok_gd (vp_in_iff.mpr ⟨by omega, by omega⟩) ?_
      refine fd_ok_gd (vp_in_iff.mpr ⟨by omega, by omega⟩) ?_
      refine fd_ok_bd ?_
      try unfold f_X11_covers_0
      refine fd_ok_cl (s_X11_covers_0_L3 N hN N _ _ _ _ _ _ i0 (by omega) (by omega) (by omega)) ?_
      rintro v_7 σ_8 ⟨i_9, g_10, x_11⟩
      have f_12 : fd_fr [] σ0 σ_8 := fd_fr_tr f0 (fd_fr_mono g_10 (by decide))
      refine fd_ok_ite (fun c_13 => ?_) (fun c_13 => ?_)
      ·
        have d_14 := congrArg Int32.toInt c_13
        try unfold f_X11_areaOf_0_J217
        refine fd_ok_lt (fun x13_15 ex13_15 => ?_)
        have t_16 := fd_la ex13_15 (by omega) (by omega)
        exact ih _ _ _ _ _ _ _ _ _ i_9 f_12 (by omega) (by omega) (by omega) (by omega) (by omega) (by omega) (by omega) (by omega) (by omega) (by omega) (by omega)
      ·
        have d_17 : ¬ v_7.toInt = (0 : Int32).toInt := fun q => c_13 (Int32.toInt_inj.mp q)
        refine fd_ok_gd (vp_in_iff.mpr ⟨by omega, by omega⟩) ?_
        refine fd_ok_gd (vp_in_iff.mpr ⟨by omega, by omega⟩) ?_
        refine fd_ok_bd ?_
        try unfold f_X11_covers_0
        refine fd_ok_cl (s_X11_covers_0_L3 N hN N _ _ _ _ _ _ i_9 (by omega) (by omega) (by omega)) ?_
        rintro v_18 σ_19 ⟨i_20, g_21, x_22⟩
        have f_23 : fd_fr [] σ0 σ_19 := fd_fr_tr f_12 (fd_fr_mono g_21 (by decide))
        refine fd_ok_ite (fun c_24 => ?_) (fun c_24 => ?_)
        ·
          have d_25 := congrArg Int32.toInt c_24
          try unfold f_X11_areaOf_0_J217
          refine fd_ok_lt (fun x13_26 ex13_26 => ?_)
          have t_27 := fd_la ex13_26 (by omega) (by omega)
          exact ih _ _ _ _ _ _ _ _ _ i_20 f_23 (by omega) (by omega) (by omega) (by omega) (by omega) (by omega) (by omega) (by omega) (by omega) (by omega) (by omega)
        ·
          have d_28 : ¬ v_18.toInt = (0 : Int32).toInt := fun q => c_24 (Int32.toInt_inj.mp q)
          have u_29 := Jvm.Kit.i32_add (x := y7) (y := (1 : Int32)) (by omega) (by omega)
          refine fd_ok_gd (vp_in_iff.mpr ⟨by omega, by omega⟩) ?_
          refine fd_ok_gd (vp_in_iff.mpr ⟨by omega, by omega⟩) ?_
          refine fd_ok_gd (vp_in_iff.mpr ⟨by omega, by omega⟩) ?_
          refine fd_ok_gd (vp_in_iff.mpr ⟨by omega, by omega⟩) ?_
          refine fd_ok_lt (fun x26_30 ex26_30 => ?_)
          have t_31 : x26_30.toInt = (y6 + (((σ_19.2.1 27 (y7 + (1 : Int32)).toNatClampNeg) - (σ_19.2.1 27 y7.toNatClampNeg)) * ((σ_19.2.1 28 (y8 + (1 : Int32)).toNatClampNeg) - (σ_19.2.1 28 y8.toNatClampNeg)))).toInt := congrArg Int32.toInt ex26_30
          try unfold f_X11_areaOf_0_J217
          refine fd_ok_lt (fun x13_32 ex13_32 => ?_)
          have t_33 := fd_la ex13_32 (by omega) (by omega)
          exact ih _ _ _ _ _ _ _ _ _ i_20 f_23 (by omega) (by omega) (by omega) (by omega) (by omega) (by omega) (by omega) (by omega) (by omega) (by omega) (by omega)
set_option maxHeartbeats 4000000 in
theorem s_X11_areaOf_0_L110 (N : Nat) (hN : 1000 ≤ N) : ∀ (n : Nat) (y1 : Int32) (y2 : Int32) (y3 : Int32) (y4 : Int32) (y5 : Int32) (y6 : Int32) (y7 : Int32) (σ : fd_St), fd_InvM σ → (0 ≤ y4.toInt) → (y4.toInt ≤ 120) → (0 ≤ y5.toInt) → (y5.toInt ≤ 120) → (0 ≤ y7.toInt) → (y7.toInt ≤ 120) → 121 - y7.toInt < (n : Int) → fd_ok (f_X11_areaOf_0_L110 N n y1 y2 y3 y4 y5 y6 y7 σ) (fun v s => fd_InvM s ∧ fd_fr [] σ s ∧ (True)) := by
  have lit0 : (0 : Int32).toInt = 0 := by decide
  have lit1 : (1 : Int32).toInt = 1 := by decide
  intro n
  induction n with
  | zero =>
    intro y1 y2 y3 y4 y5 y6 y7 σ i0 h0 h1 h2 h3 h4 h5 hm
    omega
  | succ n ih =>
    intro y1 y2 y3 y4 y5 y6 y7 σ i0 h0 h1 h2 h3 h4 h5 hm
    have f0 : fd_fr [] σ σ := fd_fr_rf
    unfold f_X11_areaOf_0_L110
    have u_1 := Jvm.Kit.i32_add (x := y7) (y := (1 : Int32)) (by omega) (by omega)
    refine fd_ok_ite (fun c_2 => ?_) (fun c_2 => ?_)
    ·
      have d_3 := Int32.le_iff_toInt_le.mp c_2
      exact fd_ok_some ⟨i0, f0, trivial⟩
    ·
      have d_4 := Int32.lt_iff_toInt_lt.mp (Int32.not_le.mp c_2)
      refine s_X11_areaOf_0_L122 N hN (f_X11_areaOf_0_L110 N n) σ _ y7.toInt (fun z1 z2 z3 z4 z5 z6 z7 τ jI jF j0 j1 j2 j3 j4 j5 j6 => ?_) N _ _ _ _ _ _ _ _ _ i0 f0 (by omega) (by omega) (by omega) (by omega) (by omega) (by omega) (by omega) (by omega) (by omega) (by omega) (by omega)
      refine fd_ok_mono (ih z1 z2 z3 z4 z5 z6 z7 τ jI (by omega) (by omega) (by omega) (by omega) (by omega) (by omega) (by omega)) ?_
      rintro v s ⟨hi, hf, hx⟩
      exact ⟨hi, fd_fr_tr jF hf, trivial⟩
set_option maxHeartbeats 4000000 in
theorem s_X11_areaOf_0_L9 (N : Nat) (hN : 1000 ≤ N) : ∀ (n : Nat) (y1 : Int32) (y2 : Int32) (y3 : Int32) (y4 : Int32) (y5 : Int32) (y6 : Int32) (σ : fd_St), fd_InvM σ → (0 ≤ y6.toInt) → (y6.toInt ≤ 60) → (0 ≤ y4.toInt) → (y4.toInt ≤ 120) → (0 ≤ y5.toInt) → (y5.toInt ≤ 120) → (0 ≤ y4.toInt) → (y4.toInt ≤ 2 * y6.toInt) → (0 ≤ y5.toInt) → (y5.toInt ≤ 2 * y6.toInt) → 60 - y6.toInt < (n : Int) → fd_ok (f_X11_areaOf_0_L9 N n y1 y2 y3 y4 y5 y6 σ) (fun v s => fd_InvM s ∧ fd_fr [127, 128] σ s ∧ (True)) := by
  have lit0 : (0 : Int32).toInt = 0 := by decide
  have lit1 : (1 : Int32).toInt = 1 := by decide
  intro n
  induction n with
  | zero =>
    intro y1 y2 y3 y4 y5 y6 σ i0 h0 h1 h2 h3 h4 h5 h6 h7 h8 h9 hm
    omega
  | succ n ih =>
    intro y1 y2 y3 y4 y5 y6 σ i0 h0 h1 h2 h3 h4 h5 h6 h7 h8 h9 hm
    have f0 : fd_fr [127, 128] σ σ := fd_fr_rf
    unfold f_X11_areaOf_0_L9
    have r_1 : (0 : Int) ≤ (σ.1 14).toInt ∧ (σ.1 14).toInt ≤ 60 := i0.1 14
    refine fd_ok_ite (fun c_2 => ?_) (fun c_2 => ?_)
    ·
      have d_3 := Int32.le_iff_toInt_le.mp c_2
      refine fd_ok_mono (s_X11_areaOf_0_L110 N hN N _ _ _ _ _ _ _ _ i0 (by omega) (by omega) (by omega) (by omega) (by omega) (by omega) (by omega)) ?_
      rintro v s ⟨hi, hf, hx⟩
      exact ⟨hi, fd_fr_tr f0 (fd_fr_mono hf (by decide)), trivial⟩
    ·
      have d_4 := Int32.lt_iff_toInt_lt.mp (Int32.not_le.mp c_2)
      refine fd_ok_gd (vp_in_iff.mpr ⟨by omega, by omega⟩) ?_
      refine fd_ok_bd ?_
      try unfold f_X11_insert_27
      refine fd_ok_cl (s_X11_insert_27_L2 N hN N _ _ _ _ i0 (by omega) (by omega) (by omega) (by omega) (by omega) (by omega)) ?_
      rintro v_5 σ_6 ⟨i_7, g_8, x_9⟩
      have f_10 : fd_fr [127, 128] σ σ_6 := fd_fr_tr f0 (fd_fr_mono g_8 (by decide))
      have t_11 : (σ_6.1 14).toInt = (σ.1 14).toInt := congrArg Int32.toInt (g_8.1 14 (by decide))
      refine fd_ok_gd (vp_in_iff.mpr ⟨by omega, by omega⟩) ?_
      refine fd_ok_bd ?_
      try unfold f_X11_insert_27
      refine fd_ok_cl (s_X11_insert_27_L2 N hN N _ _ _ _ i_7 (by omega) (by omega) (by omega) (by omega) (by omega) (by omega)) ?_
      rintro v_12 σ_13 ⟨i_14, g_15, x_16⟩
      have f_17 : fd_fr [127, 128] σ σ_13 := fd_fr_tr f_10 (fd_fr_mono g_15 (by decide))
      have t_18 : (σ_13.1 14).toInt = (σ_6.1 14).toInt := congrArg Int32.toInt (g_15.1 14 (by decide))
      refine fd_ok_gd (vp_in_iff.mpr ⟨by omega, by omega⟩) ?_
      refine fd_ok_bd ?_
      try unfold f_X11_insert_28
      refine fd_ok_cl (s_X11_insert_28_L2 N hN N _ _ _ _ i_14 (by omega) (by omega) (by omega) (by omega) (by omega) (by omega)) ?_
      rintro v_19 σ_20 ⟨i_21, g_22, x_23⟩
      have f_24 : fd_fr [127, 128] σ σ_20 := fd_fr_tr f_17 (fd_fr_mono g_22 (by decide))
      have t_25 : (σ_20.1 14).toInt = (σ_13.1 14).toInt := congrArg Int32.toInt (g_22.1 14 (by decide))
      refine fd_ok_gd (vp_in_iff.mpr ⟨by omega, by omega⟩) ?_
      refine fd_ok_bd ?_
      try unfold f_X11_insert_28
      refine fd_ok_cl (s_X11_insert_28_L2 N hN N _ _ _ _ i_21 (by omega) (by omega) (by omega) (by omega) (by omega) (by omega)) ?_
      rintro v_26 σ_27 ⟨i_28, g_29, x_30⟩
      have f_31 : fd_fr [127, 128] σ σ_27 := fd_fr_tr f_24 (fd_fr_mono g_29 (by decide))
      have t_32 : (σ_27.1 14).toInt = (σ_20.1 14).toInt := congrArg Int32.toInt (g_29.1 14 (by decide))
      refine fd_ok_lt (fun x51_33 ex51_33 => ?_)
      have t_34 := fd_la ex51_33 (by omega) (by omega)
      refine fd_ok_mono (ih _ _ _ _ _ _ _ i_28 (by omega) (by omega) (by omega) (by omega) (by omega) (by omega) (by omega) (by omega) (by omega) (by omega) (by omega)) ?_
      rintro v s ⟨hi, hf, hx⟩
      exact ⟨hi, fd_fr_tr f_31 hf, trivial⟩
set_option maxHeartbeats 4000000 in
theorem s_X11_clear_0_L57 (N : Nat) (hN : 1000 ≤ N) : ∀ (n : Nat) (y1 : Int32) (σ : fd_St), fd_InvM σ → (0 ≤ y1.toInt) → (y1.toInt ≤ 200) → 200 - y1.toInt < (n : Int) → fd_ok (f_X11_clear_0_L57 N n y1 σ) (fun v s => fd_InvM s ∧ fd_fr [119] σ s ∧ (True)) := by
  have lit0 : (0 : Int32).toInt = 0 := by decide
  have lit1 : (1 : Int32).toInt = 1 := by decide
  have lit200 : (200 : Int32).toInt = 200 := by decide
  intro n
  induction n with
  | zero =>
    intro y1 σ i0 h0 h1 hm
    omega
  | succ n ih =>
    intro y1 σ i0 h0 h1 hm
    have f0 : fd_fr [119] σ σ := fd_fr_rf
    unfold f_X11_clear_0_L57
    refine fd_ok_ite (fun c_1 => ?_) (fun c_1 => ?_)
    ·
      have d_2 := Int32.le_iff_toInt_le.mp c_1
      exact fd_ok_some ⟨i0, f0, trivial⟩
    ·
      have d_3 := Int32.lt_iff_toInt_lt.mp (Int32.not_le.mp c_1)
      refine fd_ok_gd (vp_in_iff.mpr ⟨by omega, by omega⟩) ?_
      refine fd_ok_lt (fun σ14_4 eσ14_4 => ?_)
      have i_5 : fd_InvM σ14_4 := fd_inv_sA eσ14_4 i0 (by decide) (by decide) (fd_rng _)
      have f_6 : fd_fr [119] σ σ14_4 := fd_fr_tr f0 (fd_fr_sA eσ14_4 (by decide))
      refine fd_ok_lt (fun x15_7 ex15_7 => ?_)
      have t_8 := fd_la ex15_7 (by omega) (by omega)
      refine fd_ok_mono (ih _ _ i_5 (by omega) (by omega) (by omega)) ?_
      rintro v s ⟨hi, hf, hx⟩
      exact ⟨hi, fd_fr_tr f_6 hf, trivial⟩
set_option maxHeartbeats 4000000 in
theorem s0_X11_areaOf_0 (N : Nat) (hN : 1000 ≤ N) (p1 : Int32) (p2 : Int32) (p3 : Int32) (σ : fd_St) (i0 : fd_InvM σ) : fd_ok (f_X11_areaOf_0 N p1 p2 p3 σ) (fun v s => fd_InvM s ∧ fd_fr [127, 128] σ s ∧ (True)) := by
  have lit0 : (0 : Int32).toInt = 0 := by decide
  have lit1 : (1 : Int32).toInt = 1 := by decide
  have f0 : fd_fr [127, 128] σ σ := fd_fr_rf
  unfold f_X11_areaOf_0
  refine fd_ok_mono (s_X11_areaOf_0_L9 N hN N _ _ _ _ _ _ _ i0 (by omega) (by omega) (by omega) (by omega) (by omega) (by omega) (by omega) (by omega) (by omega) (by omega) (by omega)) ?_
  rintro v s ⟨hi, hf, hx⟩
  exact ⟨hi, fd_fr_tr f0 (fd_fr_mono hf (by decide)), trivial⟩
theorem s_X11_areaOf_0 (N : Nat) (hN : 1000 ≤ N) (p1 : Int32) (p2 : Int32) (p3 : Int32) (σ : fd_St) (i0 : fd_InvM σ) : fd_ok (f_X11_areaOf_0 N p1 p2 p3 σ) (fun v s => fd_InvM s ∧ fd_fr [127, 128] σ s ∧ (0 ≤ (σ.1 14).toInt → (σ.1 14).toInt ≤ 60 → 0 ≤ p3.toInt → p3.toInt ≤ 100 → fd_Sh (σ.2.1 23) (σ.2.1 24) (σ.2.1 25) (σ.2.1 26) (σ.1 14).toNatClampNeg → v.toInt = fd_rs (fun x => fd_rs (fun y => fd_in (fd_B (σ.2.1 22) (σ.2.1 23) (σ.2.1 24) (σ.2.1 25) (σ.2.1 26) p1 p2 p3.toInt (σ.1 14).toNatClampNeg x y)) (-100) 1100) (-100) 1100)) := fd_ok_x (s0_X11_areaOf_0 N hN p1 p2 p3 σ i0 ) (fun v s h => q_X11_areaOf_0 h)
set_option maxHeartbeats 4000000 in
theorem s_X11_input_0 (N : Nat) (hN : 1000 ≤ N) (σ : fd_St) (i0 : fd_InvM σ) : fd_ok (f_X11_input_0 N σ) (fun v s => fd_InvM s ∧ fd_fr [0, 1, 2, 6, 7, 101, 204] σ s ∧ ((((σ.1 2).toInt = 32 ∨ (σ.1 1).toInt = 200) ∧ (s.1 0).toInt = 1 ∧ (s.1 1).toInt = (σ.1 1).toInt ∧ (s.1 2).toInt = (σ.1 2).toInt) ∨ (¬ ((σ.1 2).toInt = 32 ∨ (σ.1 1).toInt = 200) ∧ (s.1 0).toInt = 0 ∧ (s.1 1).toInt = (σ.1 1).toInt + 1 ∧ (s.1 2).toInt = (σ.1 2).toInt + 1 ∧ v.toInt = (σ.1 1).toInt)) ∧ fd_H (((¬ (s.1 0).toInt = 0 → s.2.1 1 = σ.2.1 1) ∧ ((s.1 0).toInt = 0 → ∃ j w : Int32, (j.toInt = (σ.1 1).toInt ∧ w.toInt = -1) ∧ s.2.1 1 = upd (σ.2.1 1) j.toNatClampNeg w))) ∧ fd_H (((¬ (s.1 0).toInt = 0 → s.2.2 4 = σ.2.2 4) ∧ ((s.1 0).toInt = 0 → ∃ j : Int32, j.toInt = (σ.1 1).toInt ∧ s.2.2 4 = vp_updL (σ.2.2 4) j.toNatClampNeg (0 : Int64))))) := by
  have litm1 : (-1 : Int32).toInt = -1 := by decide
  have lit0 : (0 : Int32).toInt = 0 := by decide
  have lit1 : (1 : Int32).toInt = 1 := by decide
  have lit32 : (32 : Int32).toInt = 32 := by decide
  have lit200 : (200 : Int32).toInt = 200 := by decide
  have f0 : fd_fr [0, 1, 2, 6, 7, 101, 204] σ σ := fd_fr_rf
  unfold f_X11_input_0
  have r_1 : (0 : Int) ≤ (σ.1 2).toInt ∧ (σ.1 2).toInt ≤ 32 := i0.1 2
  refine fd_ok_ite (fun c_2 => ?_) (fun c_2 => ?_)
  ·
    have d_3 := Int32.le_iff_toInt_le.mp c_2
    try unfold f_X11_input_0_J24
    try unfold f_X11_input_0_J25
    refine fd_ok_lt (fun σ2_4 eσ2_4 => ?_)
    have i_5 : fd_InvM σ2_4 := fd_inv_sI eσ2_4 i0 (fd_rng _)
    have f_6 : fd_fr [0, 1, 2, 6, 7, 101, 204] σ σ2_4 := fd_fr_tr f0 (fd_fr_sI eσ2_4 (by decide))
    have t_7 : (σ2_4.1 0).toInt = (1 : Int32).toInt := congrArg Int32.toInt (fd_tI eσ2_4)
    have t_8 : (σ2_4.1 1).toInt = (σ.1 1).toInt := congrArg Int32.toInt (fd_tN eσ2_4 (by decide))
    have t_9 : (σ2_4.1 2).toInt = (σ.1 2).toInt := congrArg Int32.toInt (fd_tN eσ2_4 (by decide))
    have y_10 := fd_yIA (d := 1) eσ2_4 (rfl : σ.2.1 1 = _)
    have y_11 := fd_yIL (d := 4) eσ2_4 (rfl : σ.2.2 4 = _)
    have r_12 := fd_rng (σ2_4.1 0)
    refine fd_ok_itn (Int32.not_le.mpr (Int32.lt_iff_toInt_lt.mpr (by omega))) ?_
    have x_13 : (((σ.1 2).toInt = 32 ∨ (σ.1 1).toInt = 200) ∧ (σ2_4.1 0).toInt = 1 ∧ (σ2_4.1 1).toInt = (σ.1 1).toInt ∧ (σ2_4.1 2).toInt = (σ.1 2).toInt) ∨ (¬ ((σ.1 2).toInt = 32 ∨ (σ.1 1).toInt = 200) ∧ (σ2_4.1 0).toInt = 0 ∧ (σ2_4.1 1).toInt = (σ.1 1).toInt + 1 ∧ (σ2_4.1 2).toInt = (σ.1 2).toInt + 1 ∧ (0 : Int32).toInt = (σ.1 1).toInt) := by omega
    have w_14 : fd_H (((¬ (σ2_4.1 0).toInt = 0 → σ2_4.2.1 1 = σ.2.1 1) ∧ ((σ2_4.1 0).toInt = 0 → ∃ j w : Int32, (j.toInt = (σ.1 1).toInt ∧ w.toInt = -1) ∧ σ2_4.2.1 1 = upd (σ.2.1 1) j.toNatClampNeg w))) := fd_hd (⟨fun _ => y_10, fun h => absurd h (by omega)⟩)
    have w_15 : fd_H (((¬ (σ2_4.1 0).toInt = 0 → σ2_4.2.2 4 = σ.2.2 4) ∧ ((σ2_4.1 0).toInt = 0 → ∃ j : Int32, j.toInt = (σ.1 1).toInt ∧ σ2_4.2.2 4 = vp_updL (σ.2.2 4) j.toNatClampNeg (0 : Int64)))) := fd_hd (⟨fun _ => y_11, fun h => absurd h (by omega)⟩)
    exact fd_ok_some ⟨i_5, f_6, x_13, w_14, w_15⟩
  ·
    have d_16 := Int32.lt_iff_toInt_lt.mp (Int32.not_le.mp c_2)
    have r_17 : (0 : Int) ≤ (σ.1 1).toInt ∧ (σ.1 1).toInt ≤ 200 := i0.1 1
    refine fd_ok_ite (fun c_18 => ?_) (fun c_18 => ?_)
    ·
      have d_19 := Int32.le_iff_toInt_le.mp c_18
      try unfold f_X11_input_0_J24
      try unfold f_X11_input_0_J25
      refine fd_ok_lt (fun σ2_20 eσ2_20 => ?_)
      have i_21 : fd_InvM σ2_20 := fd_inv_sI eσ2_20 i0 (fd_rng _)
      have f_22 : fd_fr [0, 1, 2, 6, 7, 101, 204] σ σ2_20 := fd_fr_tr f0 (fd_fr_sI eσ2_20 (by decide))
      have t_23 : (σ2_20.1 0).toInt = (1 : Int32).toInt := congrArg Int32.toInt (fd_tI eσ2_20)
      have t_24 : (σ2_20.1 1).toInt = (σ.1 1).toInt := congrArg Int32.toInt (fd_tN eσ2_20 (by decide))
      have t_25 : (σ2_20.1 2).toInt = (σ.1 2).toInt := congrArg Int32.toInt (fd_tN eσ2_20 (by decide))
      have y_26 := fd_yIA (d := 1) eσ2_20 (rfl : σ.2.1 1 = _)
      have y_27 := fd_yIL (d := 4) eσ2_20 (rfl : σ.2.2 4 = _)
      have r_28 := fd_rng (σ2_20.1 0)
      refine fd_ok_itn (Int32.not_le.mpr (Int32.lt_iff_toInt_lt.mpr (by omega))) ?_
      have x_29 : (((σ.1 2).toInt = 32 ∨ (σ.1 1).toInt = 200) ∧ (σ2_20.1 0).toInt = 1 ∧ (σ2_20.1 1).toInt = (σ.1 1).toInt ∧ (σ2_20.1 2).toInt = (σ.1 2).toInt) ∨ (¬ ((σ.1 2).toInt = 32 ∨ (σ.1 1).toInt = 200) ∧ (σ2_20.1 0).toInt = 0 ∧ (σ2_20.1 1).toInt = (σ.1 1).toInt + 1 ∧ (σ2_20.1 2).toInt = (σ.1 2).toInt + 1 ∧ (0 : Int32).toInt = (σ.1 1).toInt) := by omega
      have w_30 : fd_H (((¬ (σ2_20.1 0).toInt = 0 → σ2_20.2.1 1 = σ.2.1 1) ∧ ((σ2_20.1 0).toInt = 0 → ∃ j w : Int32, (j.toInt = (σ.1 1).toInt ∧ w.toInt = -1) ∧ σ2_20.2.1 1 = upd (σ.2.1 1) j.toNatClampNeg w))) := fd_hd (⟨fun _ => y_26, fun h => absurd h (by omega)⟩)
      have w_31 : fd_H (((¬ (σ2_20.1 0).toInt = 0 → σ2_20.2.2 4 = σ.2.2 4) ∧ ((σ2_20.1 0).toInt = 0 → ∃ j : Int32, j.toInt = (σ.1 1).toInt ∧ σ2_20.2.2 4 = vp_updL (σ.2.2 4) j.toNatClampNeg (0 : Int64)))) := fd_hd (⟨fun _ => y_27, fun h => absurd h (by omega)⟩)
      exact fd_ok_some ⟨i_21, f_22, x_29, w_30, w_31⟩
    ·
      have d_32 := Int32.lt_iff_toInt_lt.mp (Int32.not_le.mp c_18)
      try unfold f_X11_input_0_J25
      refine fd_ok_lt (fun σ2_33 eσ2_33 => ?_)
      have i_34 : fd_InvM σ2_33 := fd_inv_sI eσ2_33 i0 (fd_rng _)
      have f_35 : fd_fr [0, 1, 2, 6, 7, 101, 204] σ σ2_33 := fd_fr_tr f0 (fd_fr_sI eσ2_33 (by decide))
      have t_36 : (σ2_33.1 0).toInt = (0 : Int32).toInt := congrArg Int32.toInt (fd_tI eσ2_33)
      have t_37 : (σ2_33.1 1).toInt = (σ.1 1).toInt := congrArg Int32.toInt (fd_tN eσ2_33 (by decide))
      have t_38 : (σ2_33.1 2).toInt = (σ.1 2).toInt := congrArg Int32.toInt (fd_tN eσ2_33 (by decide))
      have y_39 := fd_yIA (d := 1) eσ2_33 (rfl : σ.2.1 1 = _)
      have y_40 := fd_yIL (d := 4) eσ2_33 (rfl : σ.2.2 4 = _)
      have r_41 := fd_rng (σ2_33.1 0)
      refine fd_ok_itp (Int32.le_iff_toInt_le.mpr (by omega)) ?_
      have r_42 : (0 : Int) ≤ (σ2_33.1 1).toInt ∧ (σ2_33.1 1).toInt ≤ 200 := i_34.1 1
      refine fd_ok_gd (vp_in_iff.mpr ⟨by omega, by omega⟩) ?_
      refine fd_ok_lt (fun σ5_43 eσ5_43 => ?_)
      have i_44 : fd_InvM σ5_43 := fd_inv_sA eσ5_43 i_34 (by decide) (by decide) (fd_rng _)
      have f_45 : fd_fr [0, 1, 2, 6, 7, 101, 204] σ σ5_43 := fd_fr_tr f_35 (fd_fr_sA eσ5_43 (by decide))
      have t_46 : (σ5_43.1 0).toInt = (σ2_33.1 0).toInt := by subst eσ5_43; rfl
      have t_47 : (σ5_43.1 1).toInt = (σ2_33.1 1).toInt := by subst eσ5_43; rfl
      have t_48 : (σ5_43.1 2).toInt = (σ2_33.1 2).toInt := by subst eσ5_43; rfl
      have y_49 := fd_yA eσ5_43 y_39
      have y_50 := fd_yAL (d := 4) eσ5_43 y_40
      have r_51 : (0 : Int) ≤ (σ5_43.1 1).toInt ∧ (σ5_43.1 1).toInt ≤ 200 := i_44.1 1
      refine fd_ok_gd (vp_in_iff.mpr ⟨by omega, by omega⟩) ?_
      refine fd_ok_lt (fun σ7_52 eσ7_52 => ?_)
      have i_53 : fd_InvM σ7_52 := fd_inv_sL eσ7_52 i_44
      have f_54 : fd_fr [0, 1, 2, 6, 7, 101, 204] σ σ7_52 := fd_fr_tr f_45 (fd_fr_sL eσ7_52 (by decide))
      have t_55 : (σ7_52.1 0).toInt = (σ5_43.1 0).toInt := by subst eσ7_52; rfl
      have t_56 : (σ7_52.1 1).toInt = (σ5_43.1 1).toInt := by subst eσ7_52; rfl
      have t_57 : (σ7_52.1 2).toInt = (σ5_43.1 2).toInt := by subst eσ7_52; rfl
      have y_58 := fd_yLA (d := 1) eσ7_52 y_49
      have y_59 := fd_yL eσ7_52 y_50
      refine fd_ok_lt (fun σ8_60 eσ8_60 => ?_)
      have r_63 : (0 : Int) ≤ (σ7_52.1 2).toInt ∧ (σ7_52.1 2).toInt ≤ 32 := i_53.1 2
      have u_64 := Jvm.Kit.i32_add (x := (σ7_52.1 2)) (y := (1 : Int32)) (by omega) (by omega)
      have i_61 : fd_InvM σ8_60 := fd_inv_sI eσ8_60 i_53 ⟨(by omega : (0 : Int) ≤ ((σ7_52.1 2) + (1 : Int32)).toInt), (by omega : ((σ7_52.1 2) + (1 : Int32)).toInt ≤ 32)⟩
      have f_62 : fd_fr [0, 1, 2, 6, 7, 101, 204] σ σ8_60 := fd_fr_tr f_54 (fd_fr_sI eσ8_60 (by decide))
      have t_65 : (σ8_60.1 0).toInt = (σ7_52.1 0).toInt := congrArg Int32.toInt (fd_tN eσ8_60 (by decide))
      have t_66 : (σ8_60.1 1).toInt = (σ7_52.1 1).toInt := congrArg Int32.toInt (fd_tN eσ8_60 (by decide))
      have t_67 : (σ8_60.1 2).toInt = ((σ7_52.1 2) + (1 : Int32)).toInt := congrArg Int32.toInt (fd_tI eσ8_60)
      have y_68 := fd_yIA (d := 1) eσ8_60 y_58
      have y_69 := fd_yIL (d := 4) eσ8_60 y_59
      refine fd_ok_lt (fun σ9_70 eσ9_70 => ?_)
      have r_73 : (0 : Int) ≤ (σ8_60.1 1).toInt ∧ (σ8_60.1 1).toInt ≤ 200 := i_61.1 1
      have u_74 := Jvm.Kit.i32_add (x := (σ8_60.1 1)) (y := (1 : Int32)) (by omega) (by omega)
      have i_71 : fd_InvM σ9_70 := fd_inv_sI eσ9_70 i_61 ⟨(by omega : (0 : Int) ≤ ((σ8_60.1 1) + (1 : Int32)).toInt), (by omega : ((σ8_60.1 1) + (1 : Int32)).toInt ≤ 200)⟩
      have f_72 : fd_fr [0, 1, 2, 6, 7, 101, 204] σ σ9_70 := fd_fr_tr f_62 (fd_fr_sI eσ9_70 (by decide))
      have t_75 : (σ9_70.1 0).toInt = (σ8_60.1 0).toInt := congrArg Int32.toInt (fd_tN eσ9_70 (by decide))
      have t_76 : (σ9_70.1 1).toInt = ((σ8_60.1 1) + (1 : Int32)).toInt := congrArg Int32.toInt (fd_tI eσ9_70)
      have t_77 : (σ9_70.1 2).toInt = (σ8_60.1 2).toInt := congrArg Int32.toInt (fd_tN eσ9_70 (by decide))
      have y_78 := fd_yIA (d := 1) eσ9_70 y_68
      have y_79 := fd_yIL (d := 4) eσ9_70 y_69
      refine fd_ok_bd ?_
      try unfold f_X11_changed_0
      refine fd_ok_lt (fun σ1_80 eσ1_80 => ?_)
      have i_81 : fd_InvM σ1_80 := fd_inv_sI eσ1_80 i_71 ⟨(by omega : (0 : Int) ≤ (0 : Int32).toInt), (by omega : (0 : Int32).toInt ≤ 1)⟩
      have f_82 : fd_fr [0, 1, 2, 6, 7, 101, 204] σ σ1_80 := fd_fr_tr f_72 (fd_fr_sI eσ1_80 (by decide))
      have t_83 : (σ1_80.1 0).toInt = (σ9_70.1 0).toInt := congrArg Int32.toInt (fd_tN eσ1_80 (by decide))
      have t_84 : (σ1_80.1 1).toInt = (σ9_70.1 1).toInt := congrArg Int32.toInt (fd_tN eσ1_80 (by decide))
      have t_85 : (σ1_80.1 2).toInt = (σ9_70.1 2).toInt := congrArg Int32.toInt (fd_tN eσ1_80 (by decide))
      have y_86 := fd_yIA (d := 1) eσ1_80 y_78
      have y_87 := fd_yIL (d := 4) eσ1_80 y_79
      refine fd_ok_lt (fun σ2_88 eσ2_88 => ?_)
      have i_89 : fd_InvM σ2_88 := fd_inv_sI eσ2_88 i_81 ⟨(by omega : (0 : Int) ≤ (0 : Int32).toInt), (by omega : (0 : Int32).toInt ≤ 480)⟩
      have f_90 : fd_fr [0, 1, 2, 6, 7, 101, 204] σ σ2_88 := fd_fr_tr f_82 (fd_fr_sI eσ2_88 (by decide))
      have t_91 : (σ2_88.1 0).toInt = (σ1_80.1 0).toInt := congrArg Int32.toInt (fd_tN eσ2_88 (by decide))
      have t_92 : (σ2_88.1 1).toInt = (σ1_80.1 1).toInt := congrArg Int32.toInt (fd_tN eσ2_88 (by decide))
      have t_93 : (σ2_88.1 2).toInt = (σ1_80.1 2).toInt := congrArg Int32.toInt (fd_tN eσ2_88 (by decide))
      have y_94 := fd_yIA (d := 1) eσ2_88 y_86
      have y_95 := fd_yIL (d := 4) eσ2_88 y_87
      refine fd_ok_pb ?_
      have r_96 : (0 : Int) ≤ (σ2_88.1 1).toInt ∧ (σ2_88.1 1).toInt ≤ 200 := i_89.1 1
      have u_97 := Jvm.Kit.i32_sub (x := (σ2_88.1 1)) (y := (1 : Int32)) (by omega) (by omega)
      have x_98 : (((σ.1 2).toInt = 32 ∨ (σ.1 1).toInt = 200) ∧ (σ2_88.1 0).toInt = 1 ∧ (σ2_88.1 1).toInt = (σ.1 1).toInt ∧ (σ2_88.1 2).toInt = (σ.1 2).toInt) ∨ (¬ ((σ.1 2).toInt = 32 ∨ (σ.1 1).toInt = 200) ∧ (σ2_88.1 0).toInt = 0 ∧ (σ2_88.1 1).toInt = (σ.1 1).toInt + 1 ∧ (σ2_88.1 2).toInt = (σ.1 2).toInt + 1 ∧ ((σ2_88.1 1) - (1 : Int32)).toInt = (σ.1 1).toInt) := by omega
      have w_99 : fd_H (((¬ (σ2_88.1 0).toInt = 0 → σ2_88.2.1 1 = σ.2.1 1) ∧ ((σ2_88.1 0).toInt = 0 → ∃ j w : Int32, (j.toInt = (σ.1 1).toInt ∧ w.toInt = -1) ∧ σ2_88.2.1 1 = upd (σ.2.1 1) j.toNatClampNeg w))) := fd_hd (⟨fun h => absurd (by omega) h, fun _ => ⟨_, _, by omega, y_94⟩⟩)
      have w_100 : fd_H (((¬ (σ2_88.1 0).toInt = 0 → σ2_88.2.2 4 = σ.2.2 4) ∧ ((σ2_88.1 0).toInt = 0 → ∃ j : Int32, j.toInt = (σ.1 1).toInt ∧ σ2_88.2.2 4 = vp_updL (σ.2.2 4) j.toNatClampNeg (0 : Int64)))) := fd_hd (⟨fun h => absurd (by omega) h, fun _ => ⟨_, by omega, y_95⟩⟩)
      exact fd_ok_some ⟨i_89, f_90, x_98, w_99, w_100⟩
set_option maxHeartbeats 4000000 in
theorem s_X11_gate_0 (N : Nat) (hN : 1000 ≤ N) (p1 : Int32) (p2 : Int32) (p3 : Int32) (σ : fd_St) (i0 : fd_InvM σ) : fd_ok (f_X11_gate_0 N p1 p2 p3 σ) (fun v s => fd_InvM s ∧ fd_fr [0, 1, 6, 7, 101, 102, 103] σ s ∧ (((¬ (0 ≤ p2.toInt ∧ p2.toInt < (σ.1 1).toInt ∧ (p1.toInt = 5 ∨ p1.toInt = 6 ∨ (0 ≤ p3.toInt ∧ p3.toInt < (σ.1 1).toInt)))) ∧ (s.1 0).toInt = 1 ∧ (s.1 1).toInt = (σ.1 1).toInt) ∨ (¬ (¬ (0 ≤ p2.toInt ∧ p2.toInt < (σ.1 1).toInt ∧ (p1.toInt = 5 ∨ p1.toInt = 6 ∨ (0 ≤ p3.toInt ∧ p3.toInt < (σ.1 1).toInt)))) ∧ ((σ.1 1).toInt = 200) ∧ (s.1 0).toInt = 2 ∧ (s.1 1).toInt = (σ.1 1).toInt) ∨ (¬ (¬ (0 ≤ p2.toInt ∧ p2.toInt < (σ.1 1).toInt ∧ (p1.toInt = 5 ∨ p1.toInt = 6 ∨ (0 ≤ p3.toInt ∧ p3.toInt < (σ.1 1).toInt)))) ∧ ¬ ((σ.1 1).toInt = 200) ∧ (p1.toInt < 0 ∨ 6 < p1.toInt) ∧ (s.1 0).toInt = 3 ∧ (s.1 1).toInt = (σ.1 1).toInt) ∨ (¬ (¬ (0 ≤ p2.toInt ∧ p2.toInt < (σ.1 1).toInt ∧ (p1.toInt = 5 ∨ p1.toInt = 6 ∨ (0 ≤ p3.toInt ∧ p3.toInt < (σ.1 1).toInt)))) ∧ ¬ ((σ.1 1).toInt = 200) ∧ ¬ (p1.toInt < 0 ∨ 6 < p1.toInt) ∧ (s.1 0).toInt = 0 ∧ (s.1 1).toInt = (σ.1 1).toInt + 1 ∧ v.toInt = (σ.1 1).toInt)) ∧ fd_H (((¬ (s.1 0).toInt = 0 → s.2.1 1 = σ.2.1 1) ∧ ((s.1 0).toInt = 0 → ∃ j w : Int32, (j.toInt = (σ.1 1).toInt ∧ w.toInt = p1.toInt) ∧ s.2.1 1 = upd (σ.2.1 1) j.toNatClampNeg w))) ∧ fd_H (((¬ (s.1 0).toInt = 0 → s.2.1 2 = σ.2.1 2) ∧ ((s.1 0).toInt = 0 → ∃ j w : Int32, (j.toInt = (σ.1 1).toInt ∧ w.toInt = p2.toInt) ∧ s.2.1 2 = upd (σ.2.1 2) j.toNatClampNeg w))) ∧ fd_H (((¬ (s.1 0).toInt = 0 → s.2.1 3 = σ.2.1 3) ∧ ((s.1 0).toInt = 0 → ∃ j w : Int32, (j.toInt = (σ.1 1).toInt ∧ ((p1.toInt = 5 ∨ p1.toInt = 6) → w.toInt = p2.toInt) ∧ (¬ (p1.toInt = 5 ∨ p1.toInt = 6) → w.toInt = p3.toInt)) ∧ s.2.1 3 = upd (σ.2.1 3) j.toNatClampNeg w)))) := by
  have lit0 : (0 : Int32).toInt = 0 := by decide
  have lit1 : (1 : Int32).toInt = 1 := by decide
  have lit2 : (2 : Int32).toInt = 2 := by decide
  have lit3 : (3 : Int32).toInt = 3 := by decide
  have lit5 : (5 : Int32).toInt = 5 := by decide
  have lit6 : (6 : Int32).toInt = 6 := by decide
  have lit200 : (200 : Int32).toInt = 200 := by decide
  have f0 : fd_fr [0, 1, 6, 7, 101, 102, 103] σ σ := fd_fr_rf
  unfold f_X11_gate_0
  refine fd_ok_ite (fun c_1 => ?_) (fun c_1 => ?_)
  ·
    have d_2 := congrArg Int32.toInt c_1
    try unfold f_X11_gate_0_J11
    try unfold f_X11_gate_0_J16
    refine fd_ok_bd ?_
    try unfold f_X11_isIn
    refine fd_ok_ite (fun c_3 => ?_) (fun c_3 => ?_)
    ·
      have d_4 := Int32.lt_iff_toInt_lt.mp c_3
      refine fd_ok_pb ?_
      refine fd_ok_itp (by decide) ?_
      try unfold f_X11_gate_0_J49
      try unfold f_X11_gate_0_J50
      refine fd_ok_itp (by decide) ?_
      try unfold f_X11_gate_0_J91
      refine fd_ok_lt (fun σ11_5 eσ11_5 => ?_)
      have i_6 : fd_InvM σ11_5 := fd_inv_sI eσ11_5 i0 (fd_rng _)
      have f_7 : fd_fr [0, 1, 6, 7, 101, 102, 103] σ σ11_5 := fd_fr_tr f0 (fd_fr_sI eσ11_5 (by decide))
      have t_8 : (σ11_5.1 0).toInt = (1 : Int32).toInt := congrArg Int32.toInt (fd_tI eσ11_5)
      have t_9 : (σ11_5.1 1).toInt = (σ.1 1).toInt := congrArg Int32.toInt (fd_tN eσ11_5 (by decide))
      have y_10 := fd_yIA (d := 1) eσ11_5 (rfl : σ.2.1 1 = _)
      have y_11 := fd_yIA (d := 2) eσ11_5 (rfl : σ.2.1 2 = _)
      have y_12 := fd_yIA (d := 3) eσ11_5 (rfl : σ.2.1 3 = _)
      have r_13 := fd_rng (σ11_5.1 0)
      refine fd_ok_itn (Int32.not_le.mpr (Int32.lt_iff_toInt_lt.mpr (by omega))) ?_
      have x_14 : ((¬ (0 ≤ p2.toInt ∧ p2.toInt < (σ.1 1).toInt ∧ (p1.toInt = 5 ∨ p1.toInt = 6 ∨ (0 ≤ p3.toInt ∧ p3.toInt < (σ.1 1).toInt)))) ∧ (σ11_5.1 0).toInt = 1 ∧ (σ11_5.1 1).toInt = (σ.1 1).toInt) ∨ (¬ (¬ (0 ≤ p2.toInt ∧ p2.toInt < (σ.1 1).toInt ∧ (p1.toInt = 5 ∨ p1.toInt = 6 ∨ (0 ≤ p3.toInt ∧ p3.toInt < (σ.1 1).toInt)))) ∧ ((σ.1 1).toInt = 200) ∧ (σ11_5.1 0).toInt = 2 ∧ (σ11_5.1 1).toInt = (σ.1 1).toInt) ∨ (¬ (¬ (0 ≤ p2.toInt ∧ p2.toInt < (σ.1 1).toInt ∧ (p1.toInt = 5 ∨ p1.toInt = 6 ∨ (0 ≤ p3.toInt ∧ p3.toInt < (σ.1 1).toInt)))) ∧ ¬ ((σ.1 1).toInt = 200) ∧ (p1.toInt < 0 ∨ 6 < p1.toInt) ∧ (σ11_5.1 0).toInt = 3 ∧ (σ11_5.1 1).toInt = (σ.1 1).toInt) ∨ (¬ (¬ (0 ≤ p2.toInt ∧ p2.toInt < (σ.1 1).toInt ∧ (p1.toInt = 5 ∨ p1.toInt = 6 ∨ (0 ≤ p3.toInt ∧ p3.toInt < (σ.1 1).toInt)))) ∧ ¬ ((σ.1 1).toInt = 200) ∧ ¬ (p1.toInt < 0 ∨ 6 < p1.toInt) ∧ (σ11_5.1 0).toInt = 0 ∧ (σ11_5.1 1).toInt = (σ.1 1).toInt + 1 ∧ (0 : Int32).toInt = (σ.1 1).toInt) := by omega
      have w_15 : fd_H (((¬ (σ11_5.1 0).toInt = 0 → σ11_5.2.1 1 = σ.2.1 1) ∧ ((σ11_5.1 0).toInt = 0 → ∃ j w : Int32, (j.toInt = (σ.1 1).toInt ∧ w.toInt = p1.toInt) ∧ σ11_5.2.1 1 = upd (σ.2.1 1) j.toNatClampNeg w))) := fd_hd (⟨fun _ => y_10, fun h => absurd h (by omega)⟩)
      have w_16 : fd_H (((¬ (σ11_5.1 0).toInt = 0 → σ11_5.2.1 2 = σ.2.1 2) ∧ ((σ11_5.1 0).toInt = 0 → ∃ j w : Int32, (j.toInt = (σ.1 1).toInt ∧ w.toInt = p2.toInt) ∧ σ11_5.2.1 2 = upd (σ.2.1 2) j.toNatClampNeg w))) := fd_hd (⟨fun _ => y_11, fun h => absurd h (by omega)⟩)
      have w_17 : fd_H (((¬ (σ11_5.1 0).toInt = 0 → σ11_5.2.1 3 = σ.2.1 3) ∧ ((σ11_5.1 0).toInt = 0 → ∃ j w : Int32, (j.toInt = (σ.1 1).toInt ∧ ((p1.toInt = 5 ∨ p1.toInt = 6) → w.toInt = p2.toInt) ∧ (¬ (p1.toInt = 5 ∨ p1.toInt = 6) → w.toInt = p3.toInt)) ∧ σ11_5.2.1 3 = upd (σ.2.1 3) j.toNatClampNeg w))) := fd_hd (⟨fun _ => y_12, fun h => absurd h (by omega)⟩)
      exact fd_ok_some ⟨i_6, f_7, x_14, w_15, w_16, w_17⟩
    ·
      have d_18 := Int32.le_iff_toInt_le.mp (Int32.not_lt.mp c_3)
      have r_19 : (0 : Int) ≤ (σ.1 1).toInt ∧ (σ.1 1).toInt ≤ 200 := i0.1 1
      refine fd_ok_ite (fun c_20 => ?_) (fun c_20 => ?_)
      ·
        have d_21 := Int32.le_iff_toInt_le.mp c_20
        refine fd_ok_pb ?_
        refine fd_ok_itp (by decide) ?_
        try unfold f_X11_gate_0_J49
        try unfold f_X11_gate_0_J50
        refine fd_ok_itp (by decide) ?_
        try unfold f_X11_gate_0_J91
        refine fd_ok_lt (fun σ11_22 eσ11_22 => ?_)
        have i_23 : fd_InvM σ11_22 := fd_inv_sI eσ11_22 i0 (fd_rng _)
        have f_24 : fd_fr [0, 1, 6, 7, 101, 102, 103] σ σ11_22 := fd_fr_tr f0 (fd_fr_sI eσ11_22 (by decide))
        have t_25 : (σ11_22.1 0).toInt = (1 : Int32).toInt := congrArg Int32.toInt (fd_tI eσ11_22)
        have t_26 : (σ11_22.1 1).toInt = (σ.1 1).toInt := congrArg Int32.toInt (fd_tN eσ11_22 (by decide))
        have y_27 := fd_yIA (d := 1) eσ11_22 (rfl : σ.2.1 1 = _)
        have y_28 := fd_yIA (d := 2) eσ11_22 (rfl : σ.2.1 2 = _)
        have y_29 := fd_yIA (d := 3) eσ11_22 (rfl : σ.2.1 3 = _)
        have r_30 := fd_rng (σ11_22.1 0)
        refine fd_ok_itn (Int32.not_le.mpr (Int32.lt_iff_toInt_lt.mpr (by omega))) ?_
        have x_31 : ((¬ (0 ≤ p2.toInt ∧ p2.toInt < (σ.1 1).toInt ∧ (p1.toInt = 5 ∨ p1.toInt = 6 ∨ (0 ≤ p3.toInt ∧ p3.toInt < (σ.1 1).toInt)))) ∧ (σ11_22.1 0).toInt = 1 ∧ (σ11_22.1 1).toInt = (σ.1 1).toInt) ∨ (¬ (¬ (0 ≤ p2.toInt ∧ p2.toInt < (σ.1 1).toInt ∧ (p1.toInt = 5 ∨ p1.toInt = 6 ∨ (0 ≤ p3.toInt ∧ p3.toInt < (σ.1 1).toInt)))) ∧ ((σ.1 1).toInt = 200) ∧ (σ11_22.1 0).toInt = 2 ∧ (σ11_22.1 1).toInt = (σ.1 1).toInt) ∨ (¬ (¬ (0 ≤ p2.toInt ∧ p2.toInt < (σ.1 1).toInt ∧ (p1.toInt = 5 ∨ p1.toInt = 6 ∨ (0 ≤ p3.toInt ∧ p3.toInt < (σ.1 1).toInt)))) ∧ ¬ ((σ.1 1).toInt = 200) ∧ (p1.toInt < 0 ∨ 6 < p1.toInt) ∧ (σ11_22.1 0).toInt = 3 ∧ (σ11_22.1 1).toInt = (σ.1 1).toInt) ∨ (¬ (¬ (0 ≤ p2.toInt ∧ p2.toInt < (σ.1 1).toInt ∧ (p1.toInt = 5 ∨ p1.toInt = 6 ∨ (0 ≤ p3.toInt ∧ p3.toInt < (σ.1 1).toInt)))) ∧ ¬ ((σ.1 1).toInt = 200) ∧ ¬ (p1.toInt < 0 ∨ 6 < p1.toInt) ∧ (σ11_22.1 0).toInt = 0 ∧ (σ11_22.1 1).toInt = (σ.1 1).toInt + 1 ∧ (0 : Int32).toInt = (σ.1 1).toInt) := by omega
        have w_32 : fd_H (((¬ (σ11_22.1 0).toInt = 0 → σ11_22.2.1 1 = σ.2.1 1) ∧ ((σ11_22.1 0).toInt = 0 → ∃ j w : Int32, (j.toInt = (σ.1 1).toInt ∧ w.toInt = p1.toInt) ∧ σ11_22.2.1 1 = upd (σ.2.1 1) j.toNatClampNeg w))) := fd_hd (⟨fun _ => y_27, fun h => absurd h (by omega)⟩)
        have w_33 : fd_H (((¬ (σ11_22.1 0).toInt = 0 → σ11_22.2.1 2 = σ.2.1 2) ∧ ((σ11_22.1 0).toInt = 0 → ∃ j w : Int32, (j.toInt = (σ.1 1).toInt ∧ w.toInt = p2.toInt) ∧ σ11_22.2.1 2 = upd (σ.2.1 2) j.toNatClampNeg w))) := fd_hd (⟨fun _ => y_28, fun h => absurd h (by omega)⟩)
        have w_34 : fd_H (((¬ (σ11_22.1 0).toInt = 0 → σ11_22.2.1 3 = σ.2.1 3) ∧ ((σ11_22.1 0).toInt = 0 → ∃ j w : Int32, (j.toInt = (σ.1 1).toInt ∧ ((p1.toInt = 5 ∨ p1.toInt = 6) → w.toInt = p2.toInt) ∧ (¬ (p1.toInt = 5 ∨ p1.toInt = 6) → w.toInt = p3.toInt)) ∧ σ11_22.2.1 3 = upd (σ.2.1 3) j.toNatClampNeg w))) := fd_hd (⟨fun _ => y_29, fun h => absurd h (by omega)⟩)
        exact fd_ok_some ⟨i_23, f_24, x_31, w_32, w_33, w_34⟩
      ·
        have d_35 := Int32.lt_iff_toInt_lt.mp (Int32.not_le.mp c_20)
        refine fd_ok_pb ?_
        refine fd_ok_itn (by decide) ?_
        refine fd_ok_itn (by decide) ?_
        try unfold f_X11_gate_0_J45
        try unfold f_X11_gate_0_J50
        refine fd_ok_itn (by decide) ?_
        refine fd_ok_ite (fun c_36 => ?_) (fun c_36 => ?_)
        ·
          have d_37 := congrArg Int32.toInt c_36
          try unfold f_X11_gate_0_J91
          refine fd_ok_lt (fun σ11_38 eσ11_38 => ?_)
          have i_39 : fd_InvM σ11_38 := fd_inv_sI eσ11_38 i0 (fd_rng _)
          have f_40 : fd_fr [0, 1, 6, 7, 101, 102, 103] σ σ11_38 := fd_fr_tr f0 (fd_fr_sI eσ11_38 (by decide))
          have t_41 : (σ11_38.1 0).toInt = (2 : Int32).toInt := congrArg Int32.toInt (fd_tI eσ11_38)
          have t_42 : (σ11_38.1 1).toInt = (σ.1 1).toInt := congrArg Int32.toInt (fd_tN eσ11_38 (by decide))
          have y_43 := fd_yIA (d := 1) eσ11_38 (rfl : σ.2.1 1 = _)
          have y_44 := fd_yIA (d := 2) eσ11_38 (rfl : σ.2.1 2 = _)
          have y_45 := fd_yIA (d := 3) eσ11_38 (rfl : σ.2.1 3 = _)
          have r_46 := fd_rng (σ11_38.1 0)
          refine fd_ok_itn (Int32.not_le.mpr (Int32.lt_iff_toInt_lt.mpr (by omega))) ?_
          have x_47 : ((¬ (0 ≤ p2.toInt ∧ p2.toInt < (σ.1 1).toInt ∧ (p1.toInt = 5 ∨ p1.toInt = 6 ∨ (0 ≤ p3.toInt ∧ p3.toInt < (σ.1 1).toInt)))) ∧ (σ11_38.1 0).toInt = 1 ∧ (σ11_38.1 1).toInt = (σ.1 1).toInt) ∨ (¬ (¬ (0 ≤ p2.toInt ∧ p2.toInt < (σ.1 1).toInt ∧ (p1.toInt = 5 ∨ p1.toInt = 6 ∨ (0 ≤ p3.toInt ∧ p3.toInt < (σ.1 1).toInt)))) ∧ ((σ.1 1).toInt = 200) ∧ (σ11_38.1 0).toInt = 2 ∧ (σ11_38.1 1).toInt = (σ.1 1).toInt) ∨ (¬ (¬ (0 ≤ p2.toInt ∧ p2.toInt < (σ.1 1).toInt ∧ (p1.toInt = 5 ∨ p1.toInt = 6 ∨ (0 ≤ p3.toInt ∧ p3.toInt < (σ.1 1).toInt)))) ∧ ¬ ((σ.1 1).toInt = 200) ∧ (p1.toInt < 0 ∨ 6 < p1.toInt) ∧ (σ11_38.1 0).toInt = 3 ∧ (σ11_38.1 1).toInt = (σ.1 1).toInt) ∨ (¬ (¬ (0 ≤ p2.toInt ∧ p2.toInt < (σ.1 1).toInt ∧ (p1.toInt = 5 ∨ p1.toInt = 6 ∨ (0 ≤ p3.toInt ∧ p3.toInt < (σ.1 1).toInt)))) ∧ ¬ ((σ.1 1).toInt = 200) ∧ ¬ (p1.toInt < 0 ∨ 6 < p1.toInt) ∧ (σ11_38.1 0).toInt = 0 ∧ (σ11_38.1 1).toInt = (σ.1 1).toInt + 1 ∧ (0 : Int32).toInt = (σ.1 1).toInt) := by omega
          have w_48 : fd_H (((¬ (σ11_38.1 0).toInt = 0 → σ11_38.2.1 1 = σ.2.1 1) ∧ ((σ11_38.1 0).toInt = 0 → ∃ j w : Int32, (j.toInt = (σ.1 1).toInt ∧ w.toInt = p1.toInt) ∧ σ11_38.2.1 1 = upd (σ.2.1 1) j.toNatClampNeg w))) := fd_hd (⟨fun _ => y_43, fun h => absurd h (by omega)⟩)
          have w_49 : fd_H (((¬ (σ11_38.1 0).toInt = 0 → σ11_38.2.1 2 = σ.2.1 2) ∧ ((σ11_38.1 0).toInt = 0 → ∃ j w : Int32, (j.toInt = (σ.1 1).toInt ∧ w.toInt = p2.toInt) ∧ σ11_38.2.1 2 = upd (σ.2.1 2) j.toNatClampNeg w))) := fd_hd (⟨fun _ => y_44, fun h => absurd h (by omega)⟩)
          have w_50 : fd_H (((¬ (σ11_38.1 0).toInt = 0 → σ11_38.2.1 3 = σ.2.1 3) ∧ ((σ11_38.1 0).toInt = 0 → ∃ j w : Int32, (j.toInt = (σ.1 1).toInt ∧ ((p1.toInt = 5 ∨ p1.toInt = 6) → w.toInt = p2.toInt) ∧ (¬ (p1.toInt = 5 ∨ p1.toInt = 6) → w.toInt = p3.toInt)) ∧ σ11_38.2.1 3 = upd (σ.2.1 3) j.toNatClampNeg w))) := fd_hd (⟨fun _ => y_45, fun h => absurd h (by omega)⟩)
          exact fd_ok_some ⟨i_39, f_40, x_47, w_48, w_49, w_50⟩
        ·
          have d_51 : ¬ (σ.1 1).toInt = (200 : Int32).toInt := fun q => c_36 (Int32.toInt_inj.mp q)
          refine fd_ok_ite (fun c_52 => ?_) (fun c_52 => ?_)
          ·
            have d_53 := Int32.lt_iff_toInt_lt.mp c_52
            try unfold f_X11_gate_0_J86
            try unfold f_X11_gate_0_J91
            refine fd_ok_lt (fun σ11_54 eσ11_54 => ?_)
            have i_55 : fd_InvM σ11_54 := fd_inv_sI eσ11_54 i0 (fd_rng _)
            have f_56 : fd_fr [0, 1, 6, 7, 101, 102, 103] σ σ11_54 := fd_fr_tr f0 (fd_fr_sI eσ11_54 (by decide))
            have t_57 : (σ11_54.1 0).toInt = (3 : Int32).toInt := congrArg Int32.toInt (fd_tI eσ11_54)
            have t_58 : (σ11_54.1 1).toInt = (σ.1 1).toInt := congrArg Int32.toInt (fd_tN eσ11_54 (by decide))
            have y_59 := fd_yIA (d := 1) eσ11_54 (rfl : σ.2.1 1 = _)
            have y_60 := fd_yIA (d := 2) eσ11_54 (rfl : σ.2.1 2 = _)
            have y_61 := fd_yIA (d := 3) eσ11_54 (rfl : σ.2.1 3 = _)
            have r_62 := fd_rng (σ11_54.1 0)
            refine fd_ok_itn (Int32.not_le.mpr (Int32.lt_iff_toInt_lt.mpr (by omega))) ?_
            have x_63 : ((¬ (0 ≤ p2.toInt ∧ p2.toInt < (σ.1 1).toInt ∧ (p1.toInt = 5 ∨ p1.toInt = 6 ∨ (0 ≤ p3.toInt ∧ p3.toInt < (σ.1 1).toInt)))) ∧ (σ11_54.1 0).toInt = 1 ∧ (σ11_54.1 1).toInt = (σ.1 1).toInt) ∨ (¬ (¬ (0 ≤ p2.toInt ∧ p2.toInt < (σ.1 1).toInt ∧ (p1.toInt = 5 ∨ p1.toInt = 6 ∨ (0 ≤ p3.toInt ∧ p3.toInt < (σ.1 1).toInt)))) ∧ ((σ.1 1).toInt = 200) ∧ (σ11_54.1 0).toInt = 2 ∧ (σ11_54.1 1).toInt = (σ.1 1).toInt) ∨ (¬ (¬ (0 ≤ p2.toInt ∧ p2.toInt < (σ.1 1).toInt ∧ (p1.toInt = 5 ∨ p1.toInt = 6 ∨ (0 ≤ p3.toInt ∧ p3.toInt < (σ.1 1).toInt)))) ∧ ¬ ((σ.1 1).toInt = 200) ∧ (p1.toInt < 0 ∨ 6 < p1.toInt) ∧ (σ11_54.1 0).toInt = 3 ∧ (σ11_54.1 1).toInt = (σ.1 1).toInt) ∨ (¬ (¬ (0 ≤ p2.toInt ∧ p2.toInt < (σ.1 1).toInt ∧ (p1.toInt = 5 ∨ p1.toInt = 6 ∨ (0 ≤ p3.toInt ∧ p3.toInt < (σ.1 1).toInt)))) ∧ ¬ ((σ.1 1).toInt = 200) ∧ ¬ (p1.toInt < 0 ∨ 6 < p1.toInt) ∧ (σ11_54.1 0).toInt = 0 ∧ (σ11_54.1 1).toInt = (σ.1 1).toInt + 1 ∧ (0 : Int32).toInt = (σ.1 1).toInt) := by omega
            have w_64 : fd_H (((¬ (σ11_54.1 0).toInt = 0 → σ11_54.2.1 1 = σ.2.1 1) ∧ ((σ11_54.1 0).toInt = 0 → ∃ j w : Int32, (j.toInt = (σ.1 1).toInt ∧ w.toInt = p1.toInt) ∧ σ11_54.2.1 1 = upd (σ.2.1 1) j.toNatClampNeg w))) := fd_hd (⟨fun _ => y_59, fun h => absurd h (by omega)⟩)
            have w_65 : fd_H (((¬ (σ11_54.1 0).toInt = 0 → σ11_54.2.1 2 = σ.2.1 2) ∧ ((σ11_54.1 0).toInt = 0 → ∃ j w : Int32, (j.toInt = (σ.1 1).toInt ∧ w.toInt = p2.toInt) ∧ σ11_54.2.1 2 = upd (σ.2.1 2) j.toNatClampNeg w))) := fd_hd (⟨fun _ => y_60, fun h => absurd h (by omega)⟩)
            have w_66 : fd_H (((¬ (σ11_54.1 0).toInt = 0 → σ11_54.2.1 3 = σ.2.1 3) ∧ ((σ11_54.1 0).toInt = 0 → ∃ j w : Int32, (j.toInt = (σ.1 1).toInt ∧ ((p1.toInt = 5 ∨ p1.toInt = 6) → w.toInt = p2.toInt) ∧ (¬ (p1.toInt = 5 ∨ p1.toInt = 6) → w.toInt = p3.toInt)) ∧ σ11_54.2.1 3 = upd (σ.2.1 3) j.toNatClampNeg w))) := fd_hd (⟨fun _ => y_61, fun h => absurd h (by omega)⟩)
            exact fd_ok_some ⟨i_55, f_56, x_63, w_64, w_65, w_66⟩
          ·
            have d_67 := Int32.le_iff_toInt_le.mp (Int32.not_lt.mp c_52)
            refine fd_ok_ite (fun c_68 => ?_) (fun c_68 => ?_)
            ·
              have d_69 := Int32.le_iff_toInt_le.mp c_68
              try unfold f_X11_gate_0_J91
              refine fd_ok_lt (fun σ11_70 eσ11_70 => ?_)
              have i_71 : fd_InvM σ11_70 := fd_inv_sI eσ11_70 i0 (fd_rng _)
              have f_72 : fd_fr [0, 1, 6, 7, 101, 102, 103] σ σ11_70 := fd_fr_tr f0 (fd_fr_sI eσ11_70 (by decide))
              have t_73 : (σ11_70.1 0).toInt = (0 : Int32).toInt := congrArg Int32.toInt (fd_tI eσ11_70)
              have t_74 : (σ11_70.1 1).toInt = (σ.1 1).toInt := congrArg Int32.toInt (fd_tN eσ11_70 (by decide))
              have y_75 := fd_yIA (d := 1) eσ11_70 (rfl : σ.2.1 1 = _)
              have y_76 := fd_yIA (d := 2) eσ11_70 (rfl : σ.2.1 2 = _)
              have y_77 := fd_yIA (d := 3) eσ11_70 (rfl : σ.2.1 3 = _)
              have r_78 := fd_rng (σ11_70.1 0)
              refine fd_ok_itp (Int32.le_iff_toInt_le.mpr (by omega)) ?_
              have r_79 : (0 : Int) ≤ (σ11_70.1 1).toInt ∧ (σ11_70.1 1).toInt ≤ 200 := i_71.1 1
              refine fd_ok_gd (vp_in_iff.mpr ⟨by omega, by omega⟩) ?_
              refine fd_ok_lt (fun σ14_80 eσ14_80 => ?_)
              have i_81 : fd_InvM σ14_80 := fd_inv_sA eσ14_80 i_71 (by decide) (by decide) (fd_rng _)
              have f_82 : fd_fr [0, 1, 6, 7, 101, 102, 103] σ σ14_80 := fd_fr_tr f_72 (fd_fr_sA eσ14_80 (by decide))
              have t_83 : (σ14_80.1 0).toInt = (σ11_70.1 0).toInt := by subst eσ14_80; rfl
              have t_84 : (σ14_80.1 1).toInt = (σ11_70.1 1).toInt := by subst eσ14_80; rfl
              have y_85 := fd_yA eσ14_80 y_75
              have y_86 := fd_yAn (d := 2) eσ14_80 (by decide) y_76
              have y_87 := fd_yAn (d := 3) eσ14_80 (by decide) y_77
              have r_88 : (0 : Int) ≤ (σ14_80.1 1).toInt ∧ (σ14_80.1 1).toInt ≤ 200 := i_81.1 1
              refine fd_ok_gd (vp_in_iff.mpr ⟨by omega, by omega⟩) ?_
              refine fd_ok_lt (fun σ16_89 eσ16_89 => ?_)
              have i_90 : fd_InvM σ16_89 := fd_inv_sA eσ16_89 i_81 (by decide) (by decide) ⟨(by omega : (0 : Int) ≤ p2.toInt), (by omega : p2.toInt ≤ 199)⟩
              have f_91 : fd_fr [0, 1, 6, 7, 101, 102, 103] σ σ16_89 := fd_fr_tr f_82 (fd_fr_sA eσ16_89 (by decide))
              have t_92 : (σ16_89.1 0).toInt = (σ14_80.1 0).toInt := by subst eσ16_89; rfl
              have t_93 : (σ16_89.1 1).toInt = (σ14_80.1 1).toInt := by subst eσ16_89; rfl
              have y_94 := fd_yAn (d := 1) eσ16_89 (by decide) y_85
              have y_95 := fd_yA eσ16_89 y_86
              have y_96 := fd_yAn (d := 3) eσ16_89 (by decide) y_87
              refine fd_ok_itn (by decide) ?_
              try unfold f_X11_gate_0_J141
              have r_97 : (0 : Int) ≤ (σ16_89.1 1).toInt ∧ (σ16_89.1 1).toInt ≤ 200 := i_90.1 1
              refine fd_ok_gd (vp_in_iff.mpr ⟨by omega, by omega⟩) ?_
              refine fd_ok_lt (fun σ19_98 eσ19_98 => ?_)
              have i_99 : fd_InvM σ19_98 := fd_inv_sA eσ19_98 i_90 (by decide) (by decide) ⟨(by omega : (0 : Int) ≤ p2.toInt), (by omega : p2.toInt ≤ 199)⟩
              have f_100 : fd_fr [0, 1, 6, 7, 101, 102, 103] σ σ19_98 := fd_fr_tr f_91 (fd_fr_sA eσ19_98 (by decide))
              have t_101 : (σ19_98.1 0).toInt = (σ16_89.1 0).toInt := by subst eσ19_98; rfl
              have t_102 : (σ19_98.1 1).toInt = (σ16_89.1 1).toInt := by subst eσ19_98; rfl
              have y_103 := fd_yAn (d := 1) eσ19_98 (by decide) y_94
              have y_104 := fd_yAn (d := 2) eσ19_98 (by decide) y_95
              have y_105 := fd_yA eσ19_98 y_96
              refine fd_ok_lt (fun σ20_106 eσ20_106 => ?_)
              have r_109 : (0 : Int) ≤ (σ19_98.1 1).toInt ∧ (σ19_98.1 1).toInt ≤ 200 := i_99.1 1
              have u_110 := Jvm.Kit.i32_add (x := (σ19_98.1 1)) (y := (1 : Int32)) (by omega) (by omega)
              have i_107 : fd_InvM σ20_106 := fd_inv_sI eσ20_106 i_99 ⟨(by omega : (0 : Int) ≤ ((σ19_98.1 1) + (1 : Int32)).toInt), (by omega : ((σ19_98.1 1) + (1 : Int32)).toInt ≤ 200)⟩
              have f_108 : fd_fr [0, 1, 6, 7, 101, 102, 103] σ σ20_106 := fd_fr_tr f_100 (fd_fr_sI eσ20_106 (by decide))
              have t_111 : (σ20_106.1 0).toInt = (σ19_98.1 0).toInt := congrArg Int32.toInt (fd_tN eσ20_106 (by decide))
              have t_112 : (σ20_106.1 1).toInt = ((σ19_98.1 1) + (1 : Int32)).toInt := congrArg Int32.toInt (fd_tI eσ20_106)
              have y_113 := fd_yIA (d := 1) eσ20_106 y_103
              have y_114 := fd_yIA (d := 2) eσ20_106 y_104
              have y_115 := fd_yIA (d := 3) eσ20_106 y_105
              refine fd_ok_bd ?_
              try unfold f_X11_changed_0
              refine fd_ok_lt (fun σ1_116 eσ1_116 => ?_)
              have i_117 : fd_InvM σ1_116 := fd_inv_sI eσ1_116 i_107 ⟨(by omega : (0 : Int) ≤ (0 : Int32).toInt), (by omega : (0 : Int32).toInt ≤ 1)⟩
              have f_118 : fd_fr [0, 1, 6, 7, 101, 102, 103] σ σ1_116 := fd_fr_tr f_108 (fd_fr_sI eσ1_116 (by decide))
              have t_119 : (σ1_116.1 0).toInt = (σ20_106.1 0).toInt := congrArg Int32.toInt (fd_tN eσ1_116 (by decide))
              have t_120 : (σ1_116.1 1).toInt = (σ20_106.1 1).toInt := congrArg Int32.toInt (fd_tN eσ1_116 (by decide))
              have y_121 := fd_yIA (d := 1) eσ1_116 y_113
              have y_122 := fd_yIA (d := 2) eσ1_116 y_114
              have y_123 := fd_yIA (d := 3) eσ1_116 y_115
              refine fd_ok_lt (fun σ2_124 eσ2_124 => ?_)
              have i_125 : fd_InvM σ2_124 := fd_inv_sI eσ2_124 i_117 ⟨(by omega : (0 : Int) ≤ (0 : Int32).toInt), (by omega : (0 : Int32).toInt ≤ 480)⟩
              have f_126 : fd_fr [0, 1, 6, 7, 101, 102, 103] σ σ2_124 := fd_fr_tr f_118 (fd_fr_sI eσ2_124 (by decide))
              have t_127 : (σ2_124.1 0).toInt = (σ1_116.1 0).toInt := congrArg Int32.toInt (fd_tN eσ2_124 (by decide))
              have t_128 : (σ2_124.1 1).toInt = (σ1_116.1 1).toInt := congrArg Int32.toInt (fd_tN eσ2_124 (by decide))
              have y_129 := fd_yIA (d := 1) eσ2_124 y_121
              have y_130 := fd_yIA (d := 2) eσ2_124 y_122
              have y_131 := fd_yIA (d := 3) eσ2_124 y_123
              refine fd_ok_pb ?_
              have r_132 : (0 : Int) ≤ (σ2_124.1 1).toInt ∧ (σ2_124.1 1).toInt ≤ 200 := i_125.1 1
              have u_133 := Jvm.Kit.i32_sub (x := (σ2_124.1 1)) (y := (1 : Int32)) (by omega) (by omega)
              have x_134 : ((¬ (0 ≤ p2.toInt ∧ p2.toInt < (σ.1 1).toInt ∧ (p1.toInt = 5 ∨ p1.toInt = 6 ∨ (0 ≤ p3.toInt ∧ p3.toInt < (σ.1 1).toInt)))) ∧ (σ2_124.1 0).toInt = 1 ∧ (σ2_124.1 1).toInt = (σ.1 1).toInt) ∨ (¬ (¬ (0 ≤ p2.toInt ∧ p2.toInt < (σ.1 1).toInt ∧ (p1.toInt = 5 ∨ p1.toInt = 6 ∨ (0 ≤ p3.toInt ∧ p3.toInt < (σ.1 1).toInt)))) ∧ ((σ.1 1).toInt = 200) ∧ (σ2_124.1 0).toInt = 2 ∧ (σ2_124.1 1).toInt = (σ.1 1).toInt) ∨ (¬ (¬ (0 ≤ p2.toInt ∧ p2.toInt < (σ.1 1).toInt ∧ (p1.toInt = 5 ∨ p1.toInt = 6 ∨ (0 ≤ p3.toInt ∧ p3.toInt < (σ.1 1).toInt)))) ∧ ¬ ((σ.1 1).toInt = 200) ∧ (p1.toInt < 0 ∨ 6 < p1.toInt) ∧ (σ2_124.1 0).toInt = 3 ∧ (σ2_124.1 1).toInt = (σ.1 1).toInt) ∨ (¬ (¬ (0 ≤ p2.toInt ∧ p2.toInt < (σ.1 1).toInt ∧ (p1.toInt = 5 ∨ p1.toInt = 6 ∨ (0 ≤ p3.toInt ∧ p3.toInt < (σ.1 1).toInt)))) ∧ ¬ ((σ.1 1).toInt = 200) ∧ ¬ (p1.toInt < 0 ∨ 6 < p1.toInt) ∧ (σ2_124.1 0).toInt = 0 ∧ (σ2_124.1 1).toInt = (σ.1 1).toInt + 1 ∧ ((σ2_124.1 1) - (1 : Int32)).toInt = (σ.1 1).toInt) := by omega
              have w_135 : fd_H (((¬ (σ2_124.1 0).toInt = 0 → σ2_124.2.1 1 = σ.2.1 1) ∧ ((σ2_124.1 0).toInt = 0 → ∃ j w : Int32, (j.toInt = (σ.1 1).toInt ∧ w.toInt = p1.toInt) ∧ σ2_124.2.1 1 = upd (σ.2.1 1) j.toNatClampNeg w))) := fd_hd (⟨fun h => absurd (by omega) h, fun _ => ⟨_, _, by omega, y_129⟩⟩)
              have w_136 : fd_H (((¬ (σ2_124.1 0).toInt = 0 → σ2_124.2.1 2 = σ.2.1 2) ∧ ((σ2_124.1 0).toInt = 0 → ∃ j w : Int32, (j.toInt = (σ.1 1).toInt ∧ w.toInt = p2.toInt) ∧ σ2_124.2.1 2 = upd (σ.2.1 2) j.toNatClampNeg w))) := fd_hd (⟨fun h => absurd (by omega) h, fun _ => ⟨_, _, by omega, y_130⟩⟩)
              have w_137 : fd_H (((¬ (σ2_124.1 0).toInt = 0 → σ2_124.2.1 3 = σ.2.1 3) ∧ ((σ2_124.1 0).toInt = 0 → ∃ j w : Int32, (j.toInt = (σ.1 1).toInt ∧ ((p1.toInt = 5 ∨ p1.toInt = 6) → w.toInt = p2.toInt) ∧ (¬ (p1.toInt = 5 ∨ p1.toInt = 6) → w.toInt = p3.toInt)) ∧ σ2_124.2.1 3 = upd (σ.2.1 3) j.toNatClampNeg w))) := fd_hd (⟨fun h => absurd (by omega) h, fun _ => ⟨_, _, by omega, y_131⟩⟩)
              exact fd_ok_some ⟨i_125, f_126, x_134, w_135, w_136, w_137⟩
            ·
              have d_138 := Int32.lt_iff_toInt_lt.mp (Int32.not_le.mp c_68)
              try unfold f_X11_gate_0_J86
              try unfold f_X11_gate_0_J91
              refine fd_ok_lt (fun σ11_139 eσ11_139 => ?_)
              have i_140 : fd_InvM σ11_139 := fd_inv_sI eσ11_139 i0 (fd_rng _)
              have f_141 : fd_fr [0, 1, 6, 7, 101, 102, 103] σ σ11_139 := fd_fr_tr f0 (fd_fr_sI eσ11_139 (by decide))
              have t_142 : (σ11_139.1 0).toInt = (3 : Int32).toInt := congrArg Int32.toInt (fd_tI eσ11_139)
              have t_143 : (σ11_139.1 1).toInt = (σ.1 1).toInt := congrArg Int32.toInt (fd_tN eσ11_139 (by decide))
              have y_144 := fd_yIA (d := 1) eσ11_139 (rfl : σ.2.1 1 = _)
              have y_145 := fd_yIA (d := 2) eσ11_139 (rfl : σ.2.1 2 = _)
              have y_146 := fd_yIA (d := 3) eσ11_139 (rfl : σ.2.1 3 = _)
              have r_147 := fd_rng (σ11_139.1 0)
              refine fd_ok_itn (Int32.not_le.mpr (Int32.lt_iff_toInt_lt.mpr (by omega))) ?_
              have x_148 : ((¬ (0 ≤ p2.toInt ∧ p2.toInt < (σ.1 1).toInt ∧ (p1.toInt = 5 ∨ p1.toInt = 6 ∨ (0 ≤ p3.toInt ∧ p3.toInt < (σ.1 1).toInt)))) ∧ (σ11_139.1 0).toInt = 1 ∧ (σ11_139.1 1).toInt = (σ.1 1).toInt) ∨ (¬ (¬ (0 ≤ p2.toInt ∧ p2.toInt < (σ.1 1).toInt ∧ (p1.toInt = 5 ∨ p1.toInt = 6 ∨ (0 ≤ p3.toInt ∧ p3.toInt < (σ.1 1).toInt)))) ∧ ((σ.1 1).toInt = 200) ∧ (σ11_139.1 0).toInt = 2 ∧ (σ11_139.1 1).toInt = (σ.1 1).toInt) ∨ (¬ (¬ (0 ≤ p2.toInt ∧ p2.toInt < (σ.1 1).toInt ∧ (p1.toInt = 5 ∨ p1.toInt = 6 ∨ (0 ≤ p3.toInt ∧ p3.toInt < (σ.1 1).toInt)))) ∧ ¬ ((σ.1 1).toInt = 200) ∧ (p1.toInt < 0 ∨ 6 < p1.toInt) ∧ (σ11_139.1 0).toInt = 3 ∧ (σ11_139.1 1).toInt = (σ.1 1).toInt) ∨ (¬ (¬ (0 ≤ p2.toInt ∧ p2.toInt < (σ.1 1).toInt ∧ (p1.toInt = 5 ∨ p1.toInt = 6 ∨ (0 ≤ p3.toInt ∧ p3.toInt < (σ.1 1).toInt)))) ∧ ¬ ((σ.1 1).toInt = 200) ∧ ¬ (p1.toInt < 0 ∨ 6 < p1.toInt) ∧ (σ11_139.1 0).toInt = 0 ∧ (σ11_139.1 1).toInt = (σ.1 1).toInt + 1 ∧ (0 : Int32).toInt = (σ.1 1).toInt) := by omega
              have w_149 : fd_H (((¬ (σ11_139.1 0).toInt = 0 → σ11_139.2.1 1 = σ.2.1 1) ∧ ((σ11_139.1 0).toInt = 0 → ∃ j w : Int32, (j.toInt = (σ.1 1).toInt ∧ w.toInt = p1.toInt) ∧ σ11_139.2.1 1 = upd (σ.2.1 1) j.toNatClampNeg w))) := fd_hd (⟨fun _ => y_144, fun h => absurd h (by omega)⟩)
              have w_150 : fd_H (((¬ (σ11_139.1 0).toInt = 0 → σ11_139.2.1 2 = σ.2.1 2) ∧ ((σ11_139.1 0).toInt = 0 → ∃ j w : Int32, (j.toInt = (σ.1 1).toInt ∧ w.toInt = p2.toInt) ∧ σ11_139.2.1 2 = upd (σ.2.1 2) j.toNatClampNeg w))) := fd_hd (⟨fun _ => y_145, fun h => absurd h (by omega)⟩)
              have w_151 : fd_H (((¬ (σ11_139.1 0).toInt = 0 → σ11_139.2.1 3 = σ.2.1 3) ∧ ((σ11_139.1 0).toInt = 0 → ∃ j w : Int32, (j.toInt = (σ.1 1).toInt ∧ ((p1.toInt = 5 ∨ p1.toInt = 6) → w.toInt = p2.toInt) ∧ (¬ (p1.toInt = 5 ∨ p1.toInt = 6) → w.toInt = p3.toInt)) ∧ σ11_139.2.1 3 = upd (σ.2.1 3) j.toNatClampNeg w))) := fd_hd (⟨fun _ => y_146, fun h => absurd h (by omega)⟩)
              exact fd_ok_some ⟨i_140, f_141, x_148, w_149, w_150, w_151⟩
  ·
    have d_152 : ¬ p1.toInt = (5 : Int32).toInt := fun q => c_1 (Int32.toInt_inj.mp q)
    refine fd_ok_ite (fun c_153 => ?_) (fun c_153 => ?_)
    ·
      have d_154 := congrArg Int32.toInt c_153
      try unfold f_X11_gate_0_J11
      try unfold f_X11_gate_0_J16
      refine fd_ok_bd ?_
      try unfold f_X11_isIn
      refine fd_ok_ite (fun c_155 => ?_) (fun c_155 => ?_)
      ·
        have d_156 := Int32.lt_iff_toInt_lt.mp c_155
        refine fd_ok_pb ?_
        refine fd_ok_itp (by decide) ?_
        try unfold f_X11_gate_0_J49
        try unfold f_X11_gate_0_J50
        refine fd_ok_itp (by decide) ?_
        try unfold f_X11_gate_0_J91
        refine fd_ok_lt (fun σ11_157 eσ11_157 => ?_)
        have i_158 : fd_InvM σ11_157 := fd_inv_sI eσ11_157 i0 (fd_rng _)
        have f_159 : fd_fr [0, 1, 6, 7, 101, 102, 103] σ σ11_157 := fd_fr_tr f0 (fd_fr_sI eσ11_157 (by decide))
        have t_160 : (σ11_157.1 0).toInt = (1 : Int32).toInt := congrArg Int32.toInt (fd_tI eσ11_157)
        have t_161 : (σ11_157.1 1).toInt = (σ.1 1).toInt := congrArg Int32.toInt (fd_tN eσ11_157 (by decide))
        have y_162 := fd_yIA (d := 1) eσ11_157 (rfl : σ.2.1 1 = _)
        have y_163 := fd_yIA (d := 2) eσ11_157 (rfl : σ.2.1 2 = _)
        have y_164 := fd_yIA (d := 3) eσ11_157 (rfl : σ.2.1 3 = _)
        have r_165 := fd_rng (σ11_157.1 0)
        refine fd_ok_itn (Int32.not_le.mpr (Int32.lt_iff_toInt_lt.mpr (by omega))) ?_
        have x_166 : ((¬ (0 ≤ p2.toInt ∧ p2.toInt < (σ.1 1).toInt ∧ (p1.toInt = 5 ∨ p1.toInt = 6 ∨ (0 ≤ p3.toInt ∧ p3.toInt < (σ.1 1).toInt)))) ∧ (σ11_157.1 0).toInt = 1 ∧ (σ11_157.1 1).toInt = (σ.1 1).toInt) ∨ (¬ (¬ (0 ≤ p2.toInt ∧ p2.toInt < (σ.1 1).toInt ∧ (p1.toInt = 5 ∨ p1.toInt = 6 ∨ (0 ≤ p3.toInt ∧ p3.toInt < (σ.1 1).toInt)))) ∧ ((σ.1 1).toInt = 200) ∧ (σ11_157.1 0).toInt = 2 ∧ (σ11_157.1 1).toInt = (σ.1 1).toInt) ∨ (¬ (¬ (0 ≤ p2.toInt ∧ p2.toInt < (σ.1 1).toInt ∧ (p1.toInt = 5 ∨ p1.toInt = 6 ∨ (0 ≤ p3.toInt ∧ p3.toInt < (σ.1 1).toInt)))) ∧ ¬ ((σ.1 1).toInt = 200) ∧ (p1.toInt < 0 ∨ 6 < p1.toInt) ∧ (σ11_157.1 0).toInt = 3 ∧ (σ11_157.1 1).toInt = (σ.1 1).toInt) ∨ (¬ (¬ (0 ≤ p2.toInt ∧ p2.toInt < (σ.1 1).toInt ∧ (p1.toInt = 5 ∨ p1.toInt = 6 ∨ (0 ≤ p3.toInt ∧ p3.toInt < (σ.1 1).toInt)))) ∧ ¬ ((σ.1 1).toInt = 200) ∧ ¬ (p1.toInt < 0 ∨ 6 < p1.toInt) ∧ (σ11_157.1 0).toInt = 0 ∧ (σ11_157.1 1).toInt = (σ.1 1).toInt + 1 ∧ (0 : Int32).toInt = (σ.1 1).toInt) := by omega
        have w_167 : fd_H (((¬ (σ11_157.1 0).toInt = 0 → σ11_157.2.1 1 = σ.2.1 1) ∧ ((σ11_157.1 0).toInt = 0 → ∃ j w : Int32, (j.toInt = (σ.1 1).toInt ∧ w.toInt = p1.toInt) ∧ σ11_157.2.1 1 = upd (σ.2.1 1) j.toNatClampNeg w))) := fd_hd (⟨fun _ => y_162, fun h => absurd h (by omega)⟩)
        have w_168 : fd_H (((¬ (σ11_157.1 0).toInt = 0 → σ11_157.2.1 2 = σ.2.1 2) ∧ ((σ11_157.1 0).toInt = 0 → ∃ j w : Int32, (j.toInt = (σ.1 1).toInt ∧ w.toInt = p2.toInt) ∧ σ11_157.2.1 2 = upd (σ.2.1 2) j.toNatClampNeg w))) := fd_hd (⟨fun _ => y_163, fun h => absurd h (by omega)⟩)
        have w_169 : fd_H (((¬ (σ11_157.1 0).toInt = 0 → σ11_157.2.1 3 = σ.2.1 3) ∧ ((σ11_157.1 0).toInt = 0 → ∃ j w : Int32, (j.toInt = (σ.1 1).toInt ∧ ((p1.toInt = 5 ∨ p1.toInt = 6) → w.toInt = p2.toInt) ∧ (¬ (p1.toInt = 5 ∨ p1.toInt = 6) → w.toInt = p3.toInt)) ∧ σ11_157.2.1 3 = upd (σ.2.1 3) j.toNatClampNeg w))) := fd_hd (⟨fun _ => y_164, fun h => absurd h (by omega)⟩)
        exact fd_ok_some ⟨i_158, f_159, x_166, w_167, w_168, w_169⟩
      ·
        have d_170 := Int32.le_iff_toInt_le.mp (Int32.not_lt.mp c_155)
        have r_171 : (0 : Int) ≤ (σ.1 1).toInt ∧ (σ.1 1).toInt ≤ 200 := i0.1 1
        refine fd_ok_ite (fun c_172 => ?_) (fun c_172 => ?_)
        ·
          have d_173 := Int32.le_iff_toInt_le.mp c_172
          refine fd_ok_pb ?_
          refine fd_ok_itp (by decide) ?_
          try unfold f_X11_gate_0_J49
          try unfold f_X11_gate_0_J50
          refine fd_ok_itp (by decide) ?_
          try unfold f_X11_gate_0_J91
          refine fd_ok_lt (fun σ11_174 eσ11_174 => ?_)
          have i_175 : fd_InvM σ11_174 := fd_inv_sI eσ11_174 i0 (fd_rng _)
          have f_176 : fd_fr [0, 1, 6, 7, 101, 102, 103] σ σ11_174 := fd_fr_tr f0 (fd_fr_sI eσ11_174 (by decide))
          have t_177 : (σ11_174.1 0).toInt = (1 : Int32).toInt := congrArg Int32.toInt (fd_tI eσ11_174)
          have t_178 : (σ11_174.1 1).toInt = (σ.1 1).toInt := congrArg Int32.toInt (fd_tN eσ11_174 (by decide))
          have y_179 := fd_yIA (d := 1) eσ11_174 (rfl : σ.2.1 1 = _)
          have y_180 := fd_yIA (d := 2) eσ11_174 (rfl : σ.2.1 2 = _)
          have y_181 := fd_yIA (d := 3) eσ11_174 (rfl : σ.2.1 3 = _)
          have r_182 := fd_rng (σ11_174.1 0)
          refine fd_ok_itn (Int32.not_le.mpr (Int32.lt_iff_toInt_lt.mpr (by omega))) ?_
          have x_183 : ((¬ (0 ≤ p2.toInt ∧ p2.toInt < (σ.1 1).toInt ∧ (p1.toInt = 5 ∨ p1.toInt = 6 ∨ (0 ≤ p3.toInt ∧ p3.toInt < (σ.1 1).toInt)))) ∧ (σ11_174.1 0).toInt = 1 ∧ (σ11_174.1 1).toInt = (σ.1 1).toInt) ∨ (¬ (¬ (0 ≤ p2.toInt ∧ p2.toInt < (σ.1 1).toInt ∧ (p1.toInt = 5 ∨ p1.toInt = 6 ∨ (0 ≤ p3.toInt ∧ p3.toInt < (σ.1 1).toInt)))) ∧ ((σ.1 1).toInt = 200) ∧ (σ11_174.1 0).toInt = 2 ∧ (σ11_174.1 1).toInt = (σ.1 1).toInt) ∨ (¬ (¬ (0 ≤ p2.toInt ∧ p2.toInt < (σ.1 1).toInt ∧ (p1.toInt = 5 ∨ p1.toInt = 6 ∨ (0 ≤ p3.toInt ∧ p3.toInt < (σ.1 1).toInt)))) ∧ ¬ ((σ.1 1).toInt = 200) ∧ (p1.toInt < 0 ∨ 6 < p1.toInt) ∧ (σ11_174.1 0).toInt = 3 ∧ (σ11_174.1 1).toInt = (σ.1 1).toInt) ∨ (¬ (¬ (0 ≤ p2.toInt ∧ p2.toInt < (σ.1 1).toInt ∧ (p1.toInt = 5 ∨ p1.toInt = 6 ∨ (0 ≤ p3.toInt ∧ p3.toInt < (σ.1 1).toInt)))) ∧ ¬ ((σ.1 1).toInt = 200) ∧ ¬ (p1.toInt < 0 ∨ 6 < p1.toInt) ∧ (σ11_174.1 0).toInt = 0 ∧ (σ11_174.1 1).toInt = (σ.1 1).toInt + 1 ∧ (0 : Int32).toInt = (σ.1 1).toInt) := by omega
          have w_184 : fd_H (((¬ (σ11_174.1 0).toInt = 0 → σ11_174.2.1 1 = σ.2.1 1) ∧ ((σ11_174.1 0).toInt = 0 → ∃ j w : Int32, (j.toInt = (σ.1 1).toInt ∧ w.toInt = p1.toInt) ∧ σ11_174.2.1 1 = upd (σ.2.1 1) j.toNatClampNeg w))) := fd_hd (⟨fun _ => y_179, fun h => absurd h (by omega)⟩)
          have w_185 : fd_H (((¬ (σ11_174.1 0).toInt = 0 → σ11_174.2.1 2 = σ.2.1 2) ∧ ((σ11_174.1 0).toInt = 0 → ∃ j w : Int32, (j.toInt = (σ.1 1).toInt ∧ w.toInt = p2.toInt) ∧ σ11_174.2.1 2 = upd (σ.2.1 2) j.toNatClampNeg w))) := fd_hd (⟨fun _ => y_180, fun h => absurd h (by omega)⟩)
          have w_186 : fd_H (((¬ (σ11_174.1 0).toInt = 0 → σ11_174.2.1 3 = σ.2.1 3) ∧ ((σ11_174.1 0).toInt = 0 → ∃ j w : Int32, (j.toInt = (σ.1 1).toInt ∧ ((p1.toInt = 5 ∨ p1.toInt = 6) → w.toInt = p2.toInt) ∧ (¬ (p1.toInt = 5 ∨ p1.toInt = 6) → w.toInt = p3.toInt)) ∧ σ11_174.2.1 3 = upd (σ.2.1 3) j.toNatClampNeg w))) := fd_hd (⟨fun _ => y_181, fun h => absurd h (by omega)⟩)
          exact fd_ok_some ⟨i_175, f_176, x_183, w_184, w_185, w_186⟩
        ·
          have d_187 := Int32.lt_iff_toInt_lt.mp (Int32.not_le.mp c_172)
          refine fd_ok_pb ?_
          refine fd_ok_itn (by decide) ?_
          refine fd_ok_itn (by decide) ?_
          try unfold f_X11_gate_0_J45
          try unfold f_X11_gate_0_J50
          refine fd_ok_itn (by decide) ?_
          refine fd_ok_ite (fun c_188 => ?_) (fun c_188 => ?_)
          ·
            have d_189 := congrArg Int32.toInt c_188
            try unfold f_X11_gate_0_J91
            refine fd_ok_lt (fun σ11_190 eσ11_190 => ?_)
            have i_191 : fd_InvM σ11_190 := fd_inv_sI eσ11_190 i0 (fd_rng _)
            have f_192 : fd_fr [0, 1, 6, 7, 101, 102, 103] σ σ11_190 := fd_fr_tr f0 (fd_fr_sI eσ11_190 (by decide))
            have t_193 : (σ11_190.1 0).toInt = (2 : Int32).toInt := congrArg Int32.toInt (fd_tI eσ11_190)
            have t_194 : (σ11_190.1 1).toInt = (σ.1 1).toInt := congrArg Int32.toInt (fd_tN eσ11_190 (by decide))
            have y_195 := fd_yIA (d := 1) eσ11_190 (rfl : σ.2.1 1 = _)
            have y_196 := fd_yIA (d := 2) eσ11_190 (rfl : σ.2.1 2 = _)
            have y_197 := fd_yIA (d := 3) eσ11_190 (rfl : σ.2.1 3 = _)
            have r_198 := fd_rng (σ11_190.1 0)
            refine fd_ok_itn (Int32.not_le.mpr (Int32.lt_iff_toInt_lt.mpr (by omega))) ?_
            have x_199 : ((¬ (0 ≤ p2.toInt ∧ p2.toInt < (σ.1 1).toInt ∧ (p1.toInt = 5 ∨ p1.toInt = 6 ∨ (0 ≤ p3.toInt ∧ p3.toInt < (σ.1 1).toInt)))) ∧ (σ11_190.1 0).toInt = 1 ∧ (σ11_190.1 1).toInt = (σ.1 1).toInt) ∨ (¬ (¬ (0 ≤ p2.toInt ∧ p2.toInt < (σ.1 1).toInt ∧ (p1.toInt = 5 ∨ p1.toInt = 6 ∨ (0 ≤ p3.toInt ∧ p3.toInt < (σ.1 1).toInt)))) ∧ ((σ.1 1).toInt = 200) ∧ (σ11_190.1 0).toInt = 2 ∧ (σ11_190.1 1).toInt = (σ.1 1).toInt) ∨ (¬ (¬ (0 ≤ p2.toInt ∧ p2.toInt < (σ.1 1).toInt ∧ (p1.toInt = 5 ∨ p1.toInt = 6 ∨ (0 ≤ p3.toInt ∧ p3.toInt < (σ.1 1).toInt)))) ∧ ¬ ((σ.1 1).toInt = 200) ∧ (p1.toInt < 0 ∨ 6 < p1.toInt) ∧ (σ11_190.1 0).toInt = 3 ∧ (σ11_190.1 1).toInt = (σ.1 1).toInt) ∨ (¬ (¬ (0 ≤ p2.toInt ∧ p2.toInt < (σ.1 1).toInt ∧ (p1.toInt = 5 ∨ p1.toInt = 6 ∨ (0 ≤ p3.toInt ∧ p3.toInt < (σ.1 1).toInt)))) ∧ ¬ ((σ.1 1).toInt = 200) ∧ ¬ (p1.toInt < 0 ∨ 6 < p1.toInt) ∧ (σ11_190.1 0).toInt = 0 ∧ (σ11_190.1 1).toInt = (σ.1 1).toInt + 1 ∧ (0 : Int32).toInt = (σ.1 1).toInt) := by omega
            have w_200 : fd_H (((¬ (σ11_190.1 0).toInt = 0 → σ11_190.2.1 1 = σ.2.1 1) ∧ ((σ11_190.1 0).toInt = 0 → ∃ j w : Int32, (j.toInt = (σ.1 1).toInt ∧ w.toInt = p1.toInt) ∧ σ11_190.2.1 1 = upd (σ.2.1 1) j.toNatClampNeg w))) := fd_hd (⟨fun _ => y_195, fun h => absurd h (by omega)⟩)
            have w_201 : fd_H (((¬ (σ11_190.1 0).toInt = 0 → σ11_190.2.1 2 = σ.2.1 2) ∧ ((σ11_190.1 0).toInt = 0 → ∃ j w : Int32, (j.toInt = (σ.1 1).toInt ∧ w.toInt = p2.toInt) ∧ σ11_190.2.1 2 = upd (σ.2.1 2) j.toNatClampNeg w))) := fd_hd (⟨fun _ => y_196, fun h => absurd h (by omega)⟩)
            have w_202 : fd_H (((¬ (σ11_190.1 0).toInt = 0 → σ11_190.2.1 3 = σ.2.1 3) ∧ ((σ11_190.1 0).toInt = 0 → ∃ j w : Int32, (j.toInt = (σ.1 1).toInt ∧ ((p1.toInt = 5 ∨ p1.toInt = 6) → w.toInt = p2.toInt) ∧ (¬ (p1.toInt = 5 ∨ p1.toInt = 6) → w.toInt = p3.toInt)) ∧ σ11_190.2.1 3 = upd (σ.2.1 3) j.toNatClampNeg w))) := fd_hd (⟨fun _ => y_197, fun h => absurd h (by omega)⟩)
            exact fd_ok_some ⟨i_191, f_192, x_199, w_200, w_201, w_202⟩
          ·
            have d_203 : ¬ (σ.1 1).toInt = (200 : Int32).toInt := fun q => c_188 (Int32.toInt_inj.mp q)
            refine fd_ok_ite (fun c_204 => ?_) (fun c_204 => ?_)
            ·
              have d_205 := Int32.lt_iff_toInt_lt.mp c_204
              try unfold f_X11_gate_0_J86
              try unfold f_X11_gate_0_J91
              refine fd_ok_lt (fun σ11_206 eσ11_206 => ?_)
              have i_207 : fd_InvM σ11_206 := fd_inv_sI eσ11_206 i0 (fd_rng _)
              have f_208 : fd_fr [0, 1, 6, 7, 101, 102, 103] σ σ11_206 := fd_fr_tr f0 (fd_fr_sI eσ11_206 (by decide))
              have t_209 : (σ11_206.1 0).toInt = (3 : Int32).toInt := congrArg Int32.toInt (fd_tI eσ11_206)
              have t_210 : (σ11_206.1 1).toInt = (σ.1 1).toInt := congrArg Int32.toInt (fd_tN eσ11_206 (by decide))
              have y_211 := fd_yIA (d := 1) eσ11_206 (rfl : σ.2.1 1 = _)
              have y_212 := fd_yIA (d := 2) eσ11_206 (rfl : σ.2.1 2 = _)
              have y_213 := fd_yIA (d := 3) eσ11_206 (rfl : σ.2.1 3 = _)
              have r_214 := fd_rng (σ11_206.1 0)
              refine fd_ok_itn (Int32.not_le.mpr (Int32.lt_iff_toInt_lt.mpr (by omega))) ?_
              have x_215 : ((¬ (0 ≤ p2.toInt ∧ p2.toInt < (σ.1 1).toInt ∧ (p1.toInt = 5 ∨ p1.toInt = 6 ∨ (0 ≤ p3.toInt ∧ p3.toInt < (σ.1 1).toInt)))) ∧ (σ11_206.1 0).toInt = 1 ∧ (σ11_206.1 1).toInt = (σ.1 1).toInt) ∨ (¬ (¬ (0 ≤ p2.toInt ∧ p2.toInt < (σ.1 1).toInt ∧ (p1.toInt = 5 ∨ p1.toInt = 6 ∨ (0 ≤ p3.toInt ∧ p3.toInt < (σ.1 1).toInt)))) ∧ ((σ.1 1).toInt = 200) ∧ (σ11_206.1 0).toInt = 2 ∧ (σ11_206.1 1).toInt = (σ.1 1).toInt) ∨ (¬ (¬ (0 ≤ p2.toInt ∧ p2.toInt < (σ.1 1).toInt ∧ (p1.toInt = 5 ∨ p1.toInt = 6 ∨ (0 ≤ p3.toInt ∧ p3.toInt < (σ.1 1).toInt)))) ∧ ¬ ((σ.1 1).toInt = 200) ∧ (p1.toInt < 0 ∨ 6 < p1.toInt) ∧ (σ11_206.1 0).toInt = 3 ∧ (σ11_206.1 1).toInt = (σ.1 1).toInt) ∨ (¬ (¬ (0 ≤ p2.toInt ∧ p2.toInt < (σ.1 1).toInt ∧ (p1.toInt = 5 ∨ p1.toInt = 6 ∨ (0 ≤ p3.toInt ∧ p3.toInt < (σ.1 1).toInt)))) ∧ ¬ ((σ.1 1).toInt = 200) ∧ ¬ (p1.toInt < 0 ∨ 6 < p1.toInt) ∧ (σ11_206.1 0).toInt = 0 ∧ (σ11_206.1 1).toInt = (σ.1 1).toInt + 1 ∧ (0 : Int32).toInt = (σ.1 1).toInt) := by omega
              have w_216 : fd_H (((¬ (σ11_206.1 0).toInt = 0 → σ11_206.2.1 1 = σ.2.1 1) ∧ ((σ11_206.1 0).toInt = 0 → ∃ j w : Int32, (j.toInt = (σ.1 1).toInt ∧ w.toInt = p1.toInt) ∧ σ11_206.2.1 1 = upd (σ.2.1 1) j.toNatClampNeg w))) := fd_hd (⟨fun _ => y_211, fun h => absurd h (by omega)⟩)
              have w_217 : fd_H (((¬ (σ11_206.1 0).toInt = 0 → σ11_206.2.1 2 = σ.2.1 2) ∧ ((σ11_206.1 0).toInt = 0 → ∃ j w : Int32, (j.toInt = (σ.1 1).toInt ∧ w.toInt = p2.toInt) ∧ σ11_206.2.1 2 = upd (σ.2.1 2) j.toNatClampNeg w))) := fd_hd (⟨fun _ => y_212, fun h => absurd h (by omega)⟩)
              have w_218 : fd_H (((¬ (σ11_206.1 0).toInt = 0 → σ11_206.2.1 3 = σ.2.1 3) ∧ ((σ11_206.1 0).toInt = 0 → ∃ j w : Int32, (j.toInt = (σ.1 1).toInt ∧ ((p1.toInt = 5 ∨ p1.toInt = 6) → w.toInt = p2.toInt) ∧ (¬ (p1.toInt = 5 ∨ p1.toInt = 6) → w.toInt = p3.toInt)) ∧ σ11_206.2.1 3 = upd (σ.2.1 3) j.toNatClampNeg w))) := fd_hd (⟨fun _ => y_213, fun h => absurd h (by omega)⟩)
              exact fd_ok_some ⟨i_207, f_208, x_215, w_216, w_217, w_218⟩
            ·
              have d_219 := Int32.le_iff_toInt_le.mp (Int32.not_lt.mp c_204)
              refine fd_ok_ite (fun c_220 => ?_) (fun c_220 => ?_)
              ·
                have d_221 := Int32.le_iff_toInt_le.mp c_220
                try unfold f_X11_gate_0_J91
                refine fd_ok_lt (fun σ11_222 eσ11_222 => ?_)
                have i_223 : fd_InvM σ11_222 := fd_inv_sI eσ11_222 i0 (fd_rng _)
                have f_224 : fd_fr [0, 1, 6, 7, 101, 102, 103] σ σ11_222 := fd_fr_tr f0 (fd_fr_sI eσ11_222 (by decide))
                have t_225 : (σ11_222.1 0).toInt = (0 : Int32).toInt := congrArg Int32.toInt (fd_tI eσ11_222)
                have t_226 : (σ11_222.1 1).toInt = (σ.1 1).toInt := congrArg Int32.toInt (fd_tN eσ11_222 (by decide))
                have y_227 := fd_yIA (d := 1) eσ11_222 (rfl : σ.2.1 1 = _)
                have y_228 := fd_yIA (d := 2) eσ11_222 (rfl : σ.2.1 2 = _)
                have y_229 := fd_yIA (d := 3) eσ11_222 (rfl : σ.2.1 3 = _)
                have r_230 := fd_rng (σ11_222.1 0)
                refine fd_ok_itp (Int32.le_iff_toInt_le.mpr (by omega)) ?_
                have r_231 : (0 : Int) ≤ (σ11_222.1 1).toInt ∧ (σ11_222.1 1).toInt ≤ 200 := i_223.1 1
                refine fd_ok_gd (vp_in_iff.mpr ⟨by omega, by omega⟩) ?_
                refine fd_ok_lt (fun σ14_232 eσ14_232 => ?_)
                have i_233 : fd_InvM σ14_232 := fd_inv_sA eσ14_232 i_223 (by decide) (by decide) (fd_rng _)
                have f_234 : fd_fr [0, 1, 6, 7, 101, 102, 103] σ σ14_232 := fd_fr_tr f_224 (fd_fr_sA eσ14_232 (by decide))
                have t_235 : (σ14_232.1 0).toInt = (σ11_222.1 0).toInt := by subst eσ14_232; rfl
                have t_236 : (σ14_232.1 1).toInt = (σ11_222.1 1).toInt := by subst eσ14_232; rfl
                have y_237 := fd_yA eσ14_232 y_227
                have y_238 := fd_yAn (d := 2) eσ14_232 (by decide) y_228
                have y_239 := fd_yAn (d := 3) eσ14_232 (by decide) y_229
                have r_240 : (0 : Int) ≤ (σ14_232.1 1).toInt ∧ (σ14_232.1 1).toInt ≤ 200 := i_233.1 1
                refine fd_ok_gd (vp_in_iff.mpr ⟨by omega, by omega⟩) ?_
                refine fd_ok_lt (fun σ16_241 eσ16_241 => ?_)
                have i_242 : fd_InvM σ16_241 := fd_inv_sA eσ16_241 i_233 (by decide) (by decide) ⟨(by omega : (0 : Int) ≤ p2.toInt), (by omega : p2.toInt ≤ 199)⟩
                have f_243 : fd_fr [0, 1, 6, 7, 101, 102, 103] σ σ16_241 := fd_fr_tr f_234 (fd_fr_sA eσ16_241 (by decide))
                have t_244 : (σ16_241.1 0).toInt = (σ14_232.1 0).toInt := by subst eσ16_241; rfl
                have t_245 : (σ16_241.1 1).toInt = (σ14_232.1 1).toInt := by subst eσ16_241; rfl
                have y_246 := fd_yAn (d := 1) eσ16_241 (by decide) y_237
                have y_247 := fd_yA eσ16_241 y_238
                have y_248 := fd_yAn (d := 3) eσ16_241 (by decide) y_239
                refine fd_ok_itn (by decide) ?_
                try unfold f_X11_gate_0_J141
                have r_249 : (0 : Int) ≤ (σ16_241.1 1).toInt ∧ (σ16_241.1 1).toInt ≤ 200 := i_242.1 1
                refine fd_ok_gd (vp_in_iff.mpr ⟨by omega, by omega⟩) ?_
                refine fd_ok_lt (fun σ19_250 eσ19_250 => ?_)
                have i_251 : fd_InvM σ19_250 := fd_inv_sA eσ19_250 i_242 (by decide) (by decide) ⟨(by omega : (0 : Int) ≤ p2.toInt), (by omega : p2.toInt ≤ 199)⟩
                have f_252 : fd_fr [0, 1, 6, 7, 101, 102, 103] σ σ19_250 := fd_fr_tr f_243 (fd_fr_sA eσ19_250 (by decide))
                have t_253 : (σ19_250.1 0).toInt = (σ16_241.1 0).toInt := by subst eσ19_250; rfl
                have t_254 : (σ19_250.1 1).toInt = (σ16_241.1 1).toInt := by subst eσ19_250; rfl
                have y_255 := fd_yAn (d := 1) eσ19_250 (by decide) y_246
                have y_256 := fd_yAn (d := 2) eσ19_250 (by decide) y_247
                have y_257 := fd_yA eσ19_250 y_248
                refine fd_ok_lt (fun σ20_258 eσ20_258 => ?_)
                have r_261 : (0 : Int) ≤ (σ19_250.1 1).toInt ∧ (σ19_250.1 1).toInt ≤ 200 := i_251.1 1
                have u_262 := Jvm.Kit.i32_add (x := (σ19_250.1 1)) (y := (1 : Int32)) (by omega) (by omega)
                have i_259 : fd_InvM σ20_258 := fd_inv_sI eσ20_258 i_251 ⟨(by omega : (0 : Int) ≤ ((σ19_250.1 1) + (1 : Int32)).toInt), (by omega : ((σ19_250.1 1) + (1 : Int32)).toInt ≤ 200)⟩
                have f_260 : fd_fr [0, 1, 6, 7, 101, 102, 103] σ σ20_258 := fd_fr_tr f_252 (fd_fr_sI eσ20_258 (by decide))
                have t_263 : (σ20_258.1 0).toInt = (σ19_250.1 0).toInt := congrArg Int32.toInt (fd_tN eσ20_258 (by decide))
                have t_264 : (σ20_258.1 1).toInt = ((σ19_250.1 1) + (1 : Int32)).toInt := congrArg Int32.toInt (fd_tI eσ20_258)
                have y_265 := fd_yIA (d := 1) eσ20_258 y_255
                have y_266 := fd_yIA (d := 2) eσ20_258 y_256
                have y_267 := fd_yIA (d := 3) eσ20_258 y_257
                refine fd_ok_bd ?_
                try unfold f_X11_changed_0
                refine fd_ok_lt (fun σ1_268 eσ1_268 => ?_)
                have i_269 : fd_InvM σ1_268 := fd_inv_sI eσ1_268 i_259 ⟨(by omega : (0 : Int) ≤ (0 : Int32).toInt), (by omega : (0 : Int32).toInt ≤ 1)⟩
                have f_270 : fd_fr [0, 1, 6, 7, 101, 102, 103] σ σ1_268 := fd_fr_tr f_260 (fd_fr_sI eσ1_268 (by decide))
                have t_271 : (σ1_268.1 0).toInt = (σ20_258.1 0).toInt := congrArg Int32.toInt (fd_tN eσ1_268 (by decide))
                have t_272 : (σ1_268.1 1).toInt = (σ20_258.1 1).toInt := congrArg Int32.toInt (fd_tN eσ1_268 (by decide))
                have y_273 := fd_yIA (d := 1) eσ1_268 y_265
                have y_274 := fd_yIA (d := 2) eσ1_268 y_266
                have y_275 := fd_yIA (d := 3) eσ1_268 y_267
                refine fd_ok_lt (fun σ2_276 eσ2_276 => ?_)
                have i_277 : fd_InvM σ2_276 := fd_inv_sI eσ2_276 i_269 ⟨(by omega : (0 : Int) ≤ (0 : Int32).toInt), (by omega : (0 : Int32).toInt ≤ 480)⟩
                have f_278 : fd_fr [0, 1, 6, 7, 101, 102, 103] σ σ2_276 := fd_fr_tr f_270 (fd_fr_sI eσ2_276 (by decide))
                have t_279 : (σ2_276.1 0).toInt = (σ1_268.1 0).toInt := congrArg Int32.toInt (fd_tN eσ2_276 (by decide))
                have t_280 : (σ2_276.1 1).toInt = (σ1_268.1 1).toInt := congrArg Int32.toInt (fd_tN eσ2_276 (by decide))
                have y_281 := fd_yIA (d := 1) eσ2_276 y_273
                have y_282 := fd_yIA (d := 2) eσ2_276 y_274
                have y_283 := fd_yIA (d := 3) eσ2_276 y_275
                refine fd_ok_pb ?_
                have r_284 : (0 : Int) ≤ (σ2_276.1 1).toInt ∧ (σ2_276.1 1).toInt ≤ 200 := i_277.1 1
                have u_285 := Jvm.Kit.i32_sub (x := (σ2_276.1 1)) (y := (1 : Int32)) (by omega) (by omega)
                have x_286 : ((¬ (0 ≤ p2.toInt ∧ p2.toInt < (σ.1 1).toInt ∧ (p1.toInt = 5 ∨ p1.toInt = 6 ∨ (0 ≤ p3.toInt ∧ p3.toInt < (σ.1 1).toInt)))) ∧ (σ2_276.1 0).toInt = 1 ∧ (σ2_276.1 1).toInt = (σ.1 1).toInt) ∨ (¬ (¬ (0 ≤ p2.toInt ∧ p2.toInt < (σ.1 1).toInt ∧ (p1.toInt = 5 ∨ p1.toInt = 6 ∨ (0 ≤ p3.toInt ∧ p3.toInt < (σ.1 1).toInt)))) ∧ ((σ.1 1).toInt = 200) ∧ (σ2_276.1 0).toInt = 2 ∧ (σ2_276.1 1).toInt = (σ.1 1).toInt) ∨ (¬ (¬ (0 ≤ p2.toInt ∧ p2.toInt < (σ.1 1).toInt ∧ (p1.toInt = 5 ∨ p1.toInt = 6 ∨ (0 ≤ p3.toInt ∧ p3.toInt < (σ.1 1).toInt)))) ∧ ¬ ((σ.1 1).toInt = 200) ∧ (p1.toInt < 0 ∨ 6 < p1.toInt) ∧ (σ2_276.1 0).toInt = 3 ∧ (σ2_276.1 1).toInt = (σ.1 1).toInt) ∨ (¬ (¬ (0 ≤ p2.toInt ∧ p2.toInt < (σ.1 1).toInt ∧ (p1.toInt = 5 ∨ p1.toInt = 6 ∨ (0 ≤ p3.toInt ∧ p3.toInt < (σ.1 1).toInt)))) ∧ ¬ ((σ.1 1).toInt = 200) ∧ ¬ (p1.toInt < 0 ∨ 6 < p1.toInt) ∧ (σ2_276.1 0).toInt = 0 ∧ (σ2_276.1 1).toInt = (σ.1 1).toInt + 1 ∧ ((σ2_276.1 1) - (1 : Int32)).toInt = (σ.1 1).toInt) := by omega
                have w_287 : fd_H (((¬ (σ2_276.1 0).toInt = 0 → σ2_276.2.1 1 = σ.2.1 1) ∧ ((σ2_276.1 0).toInt = 0 → ∃ j w : Int32, (j.toInt = (σ.1 1).toInt ∧ w.toInt = p1.toInt) ∧ σ2_276.2.1 1 = upd (σ.2.1 1) j.toNatClampNeg w))) := fd_hd (⟨fun h => absurd (by omega) h, fun _ => ⟨_, _, by omega, y_281⟩⟩)
                have w_288 : fd_H (((¬ (σ2_276.1 0).toInt = 0 → σ2_276.2.1 2 = σ.2.1 2) ∧ ((σ2_276.1 0).toInt = 0 → ∃ j w : Int32, (j.toInt = (σ.1 1).toInt ∧ w.toInt = p2.toInt) ∧ σ2_276.2.1 2 = upd (σ.2.1 2) j.toNatClampNeg w))) := fd_hd (⟨fun h => absurd (by omega) h, fun _ => ⟨_, _, by omega, y_282⟩⟩)
                have w_289 : fd_H (((¬ (σ2_276.1 0).toInt = 0 → σ2_276.2.1 3 = σ.2.1 3) ∧ ((σ2_276.1 0).toInt = 0 → ∃ j w : Int32, (j.toInt = (σ.1 1).toInt ∧ ((p1.toInt = 5 ∨ p1.toInt = 6) → w.toInt = p2.toInt) ∧ (¬ (p1.toInt = 5 ∨ p1.toInt = 6) → w.toInt = p3.toInt)) ∧ σ2_276.2.1 3 = upd (σ.2.1 3) j.toNatClampNeg w))) := fd_hd (⟨fun h => absurd (by omega) h, fun _ => ⟨_, _, by omega, y_283⟩⟩)
                exact fd_ok_some ⟨i_277, f_278, x_286, w_287, w_288, w_289⟩
              ·
                have d_290 := Int32.lt_iff_toInt_lt.mp (Int32.not_le.mp c_220)
                try unfold f_X11_gate_0_J86
                try unfold f_X11_gate_0_J91
                refine fd_ok_lt (fun σ11_291 eσ11_291 => ?_)
                have i_292 : fd_InvM σ11_291 := fd_inv_sI eσ11_291 i0 (fd_rng _)
                have f_293 : fd_fr [0, 1, 6, 7, 101, 102, 103] σ σ11_291 := fd_fr_tr f0 (fd_fr_sI eσ11_291 (by decide))
                have t_294 : (σ11_291.1 0).toInt = (3 : Int32).toInt := congrArg Int32.toInt (fd_tI eσ11_291)
                have t_295 : (σ11_291.1 1).toInt = (σ.1 1).toInt := congrArg Int32.toInt (fd_tN eσ11_291 (by decide))
                have y_296 := fd_yIA (d := 1) eσ11_291 (rfl : σ.2.1 1 = _)
                have y_297 := fd_yIA (d := 2) eσ11_291 (rfl : σ.2.1 2 = _)
                have y_298 := fd_yIA (d := 3) eσ11_291 (rfl : σ.2.1 3 = _)
                have r_299 := fd_rng (σ11_291.1 0)
                refine fd_ok_itn (Int32.not_le.mpr (Int32.lt_iff_toInt_lt.mpr (by omega))) ?_
                have x_300 : ((¬ (0 ≤ p2.toInt ∧ p2.toInt < (σ.1 1).toInt ∧ (p1.toInt = 5 ∨ p1.toInt = 6 ∨ (0 ≤ p3.toInt ∧ p3.toInt < (σ.1 1).toInt)))) ∧ (σ11_291.1 0).toInt = 1 ∧ (σ11_291.1 1).toInt = (σ.1 1).toInt) ∨ (¬ (¬ (0 ≤ p2.toInt ∧ p2.toInt < (σ.1 1).toInt ∧ (p1.toInt = 5 ∨ p1.toInt = 6 ∨ (0 ≤ p3.toInt ∧ p3.toInt < (σ.1 1).toInt)))) ∧ ((σ.1 1).toInt = 200) ∧ (σ11_291.1 0).toInt = 2 ∧ (σ11_291.1 1).toInt = (σ.1 1).toInt) ∨ (¬ (¬ (0 ≤ p2.toInt ∧ p2.toInt < (σ.1 1).toInt ∧ (p1.toInt = 5 ∨ p1.toInt = 6 ∨ (0 ≤ p3.toInt ∧ p3.toInt < (σ.1 1).toInt)))) ∧ ¬ ((σ.1 1).toInt = 200) ∧ (p1.toInt < 0 ∨ 6 < p1.toInt) ∧ (σ11_291.1 0).toInt = 3 ∧ (σ11_291.1 1).toInt = (σ.1 1).toInt) ∨ (¬ (¬ (0 ≤ p2.toInt ∧ p2.toInt < (σ.1 1).toInt ∧ (p1.toInt = 5 ∨ p1.toInt = 6 ∨ (0 ≤ p3.toInt ∧ p3.toInt < (σ.1 1).toInt)))) ∧ ¬ ((σ.1 1).toInt = 200) ∧ ¬ (p1.toInt < 0 ∨ 6 < p1.toInt) ∧ (σ11_291.1 0).toInt = 0 ∧ (σ11_291.1 1).toInt = (σ.1 1).toInt + 1 ∧ (0 : Int32).toInt = (σ.1 1).toInt) := by omega
                have w_301 : fd_H (((¬ (σ11_291.1 0).toInt = 0 → σ11_291.2.1 1 = σ.2.1 1) ∧ ((σ11_291.1 0).toInt = 0 → ∃ j w : Int32, (j.toInt = (σ.1 1).toInt ∧ w.toInt = p1.toInt) ∧ σ11_291.2.1 1 = upd (σ.2.1 1) j.toNatClampNeg w))) := fd_hd (⟨fun _ => y_296, fun h => absurd h (by omega)⟩)
                have w_302 : fd_H (((¬ (σ11_291.1 0).toInt = 0 → σ11_291.2.1 2 = σ.2.1 2) ∧ ((σ11_291.1 0).toInt = 0 → ∃ j w : Int32, (j.toInt = (σ.1 1).toInt ∧ w.toInt = p2.toInt) ∧ σ11_291.2.1 2 = upd (σ.2.1 2) j.toNatClampNeg w))) := fd_hd (⟨fun _ => y_297, fun h => absurd h (by omega)⟩)
                have w_303 : fd_H (((¬ (σ11_291.1 0).toInt = 0 → σ11_291.2.1 3 = σ.2.1 3) ∧ ((σ11_291.1 0).toInt = 0 → ∃ j w : Int32, (j.toInt = (σ.1 1).toInt ∧ ((p1.toInt = 5 ∨ p1.toInt = 6) → w.toInt = p2.toInt) ∧ (¬ (p1.toInt = 5 ∨ p1.toInt = 6) → w.toInt = p3.toInt)) ∧ σ11_291.2.1 3 = upd (σ.2.1 3) j.toNatClampNeg w))) := fd_hd (⟨fun _ => y_298, fun h => absurd h (by omega)⟩)
                exact fd_ok_some ⟨i_292, f_293, x_300, w_301, w_302, w_303⟩
    ·
      have d_304 : ¬ p1.toInt = (6 : Int32).toInt := fun q => c_153 (Int32.toInt_inj.mp q)
      try unfold f_X11_gate_0_J16
      refine fd_ok_bd ?_
      try unfold f_X11_isIn
      refine fd_ok_ite (fun c_305 => ?_) (fun c_305 => ?_)
      ·
        have d_306 := Int32.lt_iff_toInt_lt.mp c_305
        refine fd_ok_pb ?_
        refine fd_ok_itp (by decide) ?_
        try unfold f_X11_gate_0_J49
        try unfold f_X11_gate_0_J50
        refine fd_ok_itp (by decide) ?_
        try unfold f_X11_gate_0_J91
        refine fd_ok_lt (fun σ11_307 eσ11_307 => ?_)
        have i_308 : fd_InvM σ11_307 := fd_inv_sI eσ11_307 i0 (fd_rng _)
        have f_309 : fd_fr [0, 1, 6, 7, 101, 102, 103] σ σ11_307 := fd_fr_tr f0 (fd_fr_sI eσ11_307 (by decide))
        have t_310 : (σ11_307.1 0).toInt = (1 : Int32).toInt := congrArg Int32.toInt (fd_tI eσ11_307)
        have t_311 : (σ11_307.1 1).toInt = (σ.1 1).toInt := congrArg Int32.toInt (fd_tN eσ11_307 (by decide))
        have y_312 := fd_yIA (d := 1) eσ11_307 (rfl : σ.2.1 1 = _)
        have y_313 := fd_yIA (d := 2) eσ11_307 (rfl : σ.2.1 2 = _)
        have y_314 := fd_yIA (d := 3) eσ11_307 (rfl : σ.2.1 3 = _)
        have r_315 := fd_rng (σ11_307.1 0)
        refine fd_ok_itn (Int32.not_le.mpr (Int32.lt_iff_toInt_lt.mpr (by omega))) ?_
        have x_316 : ((¬ (0 ≤ p2.toInt ∧ p2.toInt < (σ.1 1).toInt ∧ (p1.toInt = 5 ∨ p1.toInt = 6 ∨ (0 ≤ p3.toInt ∧ p3.toInt < (σ.1 1).toInt)))) ∧ (σ11_307.1 0).toInt = 1 ∧ (σ11_307.1 1).toInt = (σ.1 1).toInt) ∨ (¬ (¬ (0 ≤ p2.toInt ∧ p2.toInt < (σ.1 1).toInt ∧ (p1.toInt = 5 ∨ p1.toInt = 6 ∨ (0 ≤ p3.toInt ∧ p3.toInt < (σ.1 1).toInt)))) ∧ ((σ.1 1).toInt = 200) ∧ (σ11_307.1 0).toInt = 2 ∧ (σ11_307.1 1).toInt = (σ.1 1).toInt) ∨ (¬ (¬ (0 ≤ p2.toInt ∧ p2.toInt < (σ.1 1).toInt ∧ (p1.toInt = 5 ∨ p1.toInt = 6 ∨ (0 ≤ p3.toInt ∧ p3.toInt < (σ.1 1).toInt)))) ∧ ¬ ((σ.1 1).toInt = 200) ∧ (p1.toInt < 0 ∨ 6 < p1.toInt) ∧ (σ11_307.1 0).toInt = 3 ∧ (σ11_307.1 1).toInt = (σ.1 1).toInt) ∨ (¬ (¬ (0 ≤ p2.toInt ∧ p2.toInt < (σ.1 1).toInt ∧ (p1.toInt = 5 ∨ p1.toInt = 6 ∨ (0 ≤ p3.toInt ∧ p3.toInt < (σ.1 1).toInt)))) ∧ ¬ ((σ.1 1).toInt = 200) ∧ ¬ (p1.toInt < 0 ∨ 6 < p1.toInt) ∧ (σ11_307.1 0).toInt = 0 ∧ (σ11_307.1 1).toInt = (σ.1 1).toInt + 1 ∧ (0 : Int32).toInt = (σ.1 1).toInt) := by omega
        have w_317 : fd_H (((¬ (σ11_307.1 0).toInt = 0 → σ11_307.2.1 1 = σ.2.1 1) ∧ ((σ11_307.1 0).toInt = 0 → ∃ j w : Int32, (j.toInt = (σ.1 1).toInt ∧ w.toInt = p1.toInt) ∧ σ11_307.2.1 1 = upd (σ.2.1 1) j.toNatClampNeg w))) := fd_hd (⟨fun _ => y_312, fun h => absurd h (by omega)⟩)
        have w_318 : fd_H (((¬ (σ11_307.1 0).toInt = 0 → σ11_307.2.1 2 = σ.2.1 2) ∧ ((σ11_307.1 0).toInt = 0 → ∃ j w : Int32, (j.toInt = (σ.1 1).toInt ∧ w.toInt = p2.toInt) ∧ σ11_307.2.1 2 = upd (σ.2.1 2) j.toNatClampNeg w))) := fd_hd (⟨fun _ => y_313, fun h => absurd h (by omega)⟩)
        have w_319 : fd_H (((¬ (σ11_307.1 0).toInt = 0 → σ11_307.2.1 3 = σ.2.1 3) ∧ ((σ11_307.1 0).toInt = 0 → ∃ j w : Int32, (j.toInt = (σ.1 1).toInt ∧ ((p1.toInt = 5 ∨ p1.toInt = 6) → w.toInt = p2.toInt) ∧ (¬ (p1.toInt = 5 ∨ p1.toInt = 6) → w.toInt = p3.toInt)) ∧ σ11_307.2.1 3 = upd (σ.2.1 3) j.toNatClampNeg w))) := fd_hd (⟨fun _ => y_314, fun h => absurd h (by omega)⟩)
        exact fd_ok_some ⟨i_308, f_309, x_316, w_317, w_318, w_319⟩
      ·
        have d_320 := Int32.le_iff_toInt_le.mp (Int32.not_lt.mp c_305)
        have r_321 : (0 : Int) ≤ (σ.1 1).toInt ∧ (σ.1 1).toInt ≤ 200 := i0.1 1
        refine fd_ok_ite (fun c_322 => ?_) (fun c_322 => ?_)
        ·
          have d_323 := Int32.le_iff_toInt_le.mp c_322
          refine fd_ok_pb ?_
          refine fd_ok_itp (by decide) ?_
          try unfold f_X11_gate_0_J49
          try unfold f_X11_gate_0_J50
          refine fd_ok_itp (by decide) ?_
          try unfold f_X11_gate_0_J91
          refine fd_ok_lt (fun σ11_324 eσ11_324 => ?_)
          have i_325 : fd_InvM σ11_324 := fd_inv_sI eσ11_324 i0 (fd_rng _)
          have f_326 : fd_fr [0, 1, 6, 7, 101, 102, 103] σ σ11_324 := fd_fr_tr f0 (fd_fr_sI eσ11_324 (by decide))
          have t_327 : (σ11_324.1 0).toInt = (1 : Int32).toInt := congrArg Int32.toInt (fd_tI eσ11_324)
          have t_328 : (σ11_324.1 1).toInt = (σ.1 1).toInt := congrArg Int32.toInt (fd_tN eσ11_324 (by decide))
          have y_329 := fd_yIA (d := 1) eσ11_324 (rfl : σ.2.1 1 = _)
          have y_330 := fd_yIA (d := 2) eσ11_324 (rfl : σ.2.1 2 = _)
          have y_331 := fd_yIA (d := 3) eσ11_324 (rfl : σ.2.1 3 = _)
          have r_332 := fd_rng (σ11_324.1 0)
          refine fd_ok_itn (Int32.not_le.mpr (Int32.lt_iff_toInt_lt.mpr (by omega))) ?_
          have x_333 : ((¬ (0 ≤ p2.toInt ∧ p2.toInt < (σ.1 1).toInt ∧ (p1.toInt = 5 ∨ p1.toInt = 6 ∨ (0 ≤ p3.toInt ∧ p3.toInt < (σ.1 1).toInt)))) ∧ (σ11_324.1 0).toInt = 1 ∧ (σ11_324.1 1).toInt = (σ.1 1).toInt) ∨ (¬ (¬ (0 ≤ p2.toInt ∧ p2.toInt < (σ.1 1).toInt ∧ (p1.toInt = 5 ∨ p1.toInt = 6 ∨ (0 ≤ p3.toInt ∧ p3.toInt < (σ.1 1).toInt)))) ∧ ((σ.1 1).toInt = 200) ∧ (σ11_324.1 0).toInt = 2 ∧ (σ11_324.1 1).toInt = (σ.1 1).toInt) ∨ (¬ (¬ (0 ≤ p2.toInt ∧ p2.toInt < (σ.1 1).toInt ∧ (p1.toInt = 5 ∨ p1.toInt = 6 ∨ (0 ≤ p3.toInt ∧ p3.toInt < (σ.1 1).toInt)))) ∧ ¬ ((σ.1 1).toInt = 200) ∧ (p1.toInt < 0 ∨ 6 < p1.toInt) ∧ (σ11_324.1 0).toInt = 3 ∧ (σ11_324.1 1).toInt = (σ.1 1).toInt) ∨ (¬ (¬ (0 ≤ p2.toInt ∧ p2.toInt < (σ.1 1).toInt ∧ (p1.toInt = 5 ∨ p1.toInt = 6 ∨ (0 ≤ p3.toInt ∧ p3.toInt < (σ.1 1).toInt)))) ∧ ¬ ((σ.1 1).toInt = 200) ∧ ¬ (p1.toInt < 0 ∨ 6 < p1.toInt) ∧ (σ11_324.1 0).toInt = 0 ∧ (σ11_324.1 1).toInt = (σ.1 1).toInt + 1 ∧ (0 : Int32).toInt = (σ.1 1).toInt) := by omega
          have w_334 : fd_H (((¬ (σ11_324.1 0).toInt = 0 → σ11_324.2.1 1 = σ.2.1 1) ∧ ((σ11_324.1 0).toInt = 0 → ∃ j w : Int32, (j.toInt = (σ.1 1).toInt ∧ w.toInt = p1.toInt) ∧ σ11_324.2.1 1 = upd (σ.2.1 1) j.toNatClampNeg w))) := fd_hd (⟨fun _ => y_329, fun h => absurd h (by omega)⟩)
          have w_335 : fd_H (((¬ (σ11_324.1 0).toInt = 0 → σ11_324.2.1 2 = σ.2.1 2) ∧ ((σ11_324.1 0).toInt = 0 → ∃ j w : Int32, (j.toInt = (σ.1 1).toInt ∧ w.toInt = p2.toInt) ∧ σ11_324.2.1 2 = upd (σ.2.1 2) j.toNatClampNeg w))) := fd_hd (⟨fun _ => y_330, fun h => absurd h (by omega)⟩)
          have w_336 : fd_H (((¬ (σ11_324.1 0).toInt = 0 → σ11_324.2.1 3 = σ.2.1 3) ∧ ((σ11_324.1 0).toInt = 0 → ∃ j w : Int32, (j.toInt = (σ.1 1).toInt ∧ ((p1.toInt = 5 ∨ p1.toInt = 6) → w.toInt = p2.toInt) ∧ (¬ (p1.toInt = 5 ∨ p1.toInt = 6) → w.toInt = p3.toInt)) ∧ σ11_324.2.1 3 = upd (σ.2.1 3) j.toNatClampNeg w))) := fd_hd (⟨fun _ => y_331, fun h => absurd h (by omega)⟩)
          exact fd_ok_some ⟨i_325, f_326, x_333, w_334, w_335, w_336⟩
        ·
          have d_337 := Int32.lt_iff_toInt_lt.mp (Int32.not_le.mp c_322)
          refine fd_ok_pb ?_
          refine fd_ok_itn (by decide) ?_
          refine fd_ok_itp (by decide) ?_
          refine fd_ok_bd ?_
          try unfold f_X11_isIn
          refine fd_ok_ite (fun c_338 => ?_) (fun c_338 => ?_)
          ·
            have d_339 := Int32.lt_iff_toInt_lt.mp c_338
            refine fd_ok_pb ?_
            refine fd_ok_itp (by decide) ?_
            try unfold f_X11_gate_0_J49
            try unfold f_X11_gate_0_J50
            refine fd_ok_itp (by decide) ?_
            try unfold f_X11_gate_0_J91
            refine fd_ok_lt (fun σ11_340 eσ11_340 => ?_)
            have i_341 : fd_InvM σ11_340 := fd_inv_sI eσ11_340 i0 (fd_rng _)
            have f_342 : fd_fr [0, 1, 6, 7, 101, 102, 103] σ σ11_340 := fd_fr_tr f0 (fd_fr_sI eσ11_340 (by decide))
            have t_343 : (σ11_340.1 0).toInt = (1 : Int32).toInt := congrArg Int32.toInt (fd_tI eσ11_340)
            have t_344 : (σ11_340.1 1).toInt = (σ.1 1).toInt := congrArg Int32.toInt (fd_tN eσ11_340 (by decide))
            have y_345 := fd_yIA (d := 1) eσ11_340 (rfl : σ.2.1 1 = _)
            have y_346 := fd_yIA (d := 2) eσ11_340 (rfl : σ.2.1 2 = _)
            have y_347 := fd_yIA (d := 3) eσ11_340 (rfl : σ.2.1 3 = _)
            have r_348 := fd_rng (σ11_340.1 0)
            refine fd_ok_itn (Int32.not_le.mpr (Int32.lt_iff_toInt_lt.mpr (by omega))) ?_
            have x_349 : ((¬ (0 ≤ p2.toInt ∧ p2.toInt < (σ.1 1).toInt ∧ (p1.toInt = 5 ∨ p1.toInt = 6 ∨ (0 ≤ p3.toInt ∧ p3.toInt < (σ.1 1).toInt)))) ∧ (σ11_340.1 0).toInt = 1 ∧ (σ11_340.1 1).toInt = (σ.1 1).toInt) ∨ (¬ (¬ (0 ≤ p2.toInt ∧ p2.toInt < (σ.1 1).toInt ∧ (p1.toInt = 5 ∨ p1.toInt = 6 ∨ (0 ≤ p3.toInt ∧ p3.toInt < (σ.1 1).toInt)))) ∧ ((σ.1 1).toInt = 200) ∧ (σ11_340.1 0).toInt = 2 ∧ (σ11_340.1 1).toInt = (σ.1 1).toInt) ∨ (¬ (¬ (0 ≤ p2.toInt ∧ p2.toInt < (σ.1 1).toInt ∧ (p1.toInt = 5 ∨ p1.toInt = 6 ∨ (0 ≤ p3.toInt ∧ p3.toInt < (σ.1 1).toInt)))) ∧ ¬ ((σ.1 1).toInt = 200) ∧ (p1.toInt < 0 ∨ 6 < p1.toInt) ∧ (σ11_340.1 0).toInt = 3 ∧ (σ11_340.1 1).toInt = (σ.1 1).toInt) ∨ (¬ (¬ (0 ≤ p2.toInt ∧ p2.toInt < (σ.1 1).toInt ∧ (p1.toInt = 5 ∨ p1.toInt = 6 ∨ (0 ≤ p3.toInt ∧ p3.toInt < (σ.1 1).toInt)))) ∧ ¬ ((σ.1 1).toInt = 200) ∧ ¬ (p1.toInt < 0 ∨ 6 < p1.toInt) ∧ (σ11_340.1 0).toInt = 0 ∧ (σ11_340.1 1).toInt = (σ.1 1).toInt + 1 ∧ (0 : Int32).toInt = (σ.1 1).toInt) := by omega
            have w_350 : fd_H (((¬ (σ11_340.1 0).toInt = 0 → σ11_340.2.1 1 = σ.2.1 1) ∧ ((σ11_340.1 0).toInt = 0 → ∃ j w : Int32, (j.toInt = (σ.1 1).toInt ∧ w.toInt = p1.toInt) ∧ σ11_340.2.1 1 = upd (σ.2.1 1) j.toNatClampNeg w))) := fd_hd (⟨fun _ => y_345, fun h => absurd h (by omega)⟩)
            have w_351 : fd_H (((¬ (σ11_340.1 0).toInt = 0 → σ11_340.2.1 2 = σ.2.1 2) ∧ ((σ11_340.1 0).toInt = 0 → ∃ j w : Int32, (j.toInt = (σ.1 1).toInt ∧ w.toInt = p2.toInt) ∧ σ11_340.2.1 2 = upd (σ.2.1 2) j.toNatClampNeg w))) := fd_hd (⟨fun _ => y_346, fun h => absurd h (by omega)⟩)
            have w_352 : fd_H (((¬ (σ11_340.1 0).toInt = 0 → σ11_340.2.1 3 = σ.2.1 3) ∧ ((σ11_340.1 0).toInt = 0 → ∃ j w : Int32, (j.toInt = (σ.1 1).toInt ∧ ((p1.toInt = 5 ∨ p1.toInt = 6) → w.toInt = p2.toInt) ∧ (¬ (p1.toInt = 5 ∨ p1.toInt = 6) → w.toInt = p3.toInt)) ∧ σ11_340.2.1 3 = upd (σ.2.1 3) j.toNatClampNeg w))) := fd_hd (⟨fun _ => y_347, fun h => absurd h (by omega)⟩)
            exact fd_ok_some ⟨i_341, f_342, x_349, w_350, w_351, w_352⟩
          ·
            have d_353 := Int32.le_iff_toInt_le.mp (Int32.not_lt.mp c_338)
            refine fd_ok_ite (fun c_354 => ?_) (fun c_354 => ?_)
            ·
              have d_355 := Int32.le_iff_toInt_le.mp c_354
              refine fd_ok_pb ?_
              refine fd_ok_itp (by decide) ?_
              try unfold f_X11_gate_0_J49
              try unfold f_X11_gate_0_J50
              refine fd_ok_itp (by decide) ?_
              try unfold f_X11_gate_0_J91
              refine fd_ok_lt (fun σ11_356 eσ11_356 => ?_)
              have i_357 : fd_InvM σ11_356 := fd_inv_sI eσ11_356 i0 (fd_rng _)
              have f_358 : fd_fr [0, 1, 6, 7, 101, 102, 103] σ σ11_356 := fd_fr_tr f0 (fd_fr_sI eσ11_356 (by decide))
              have t_359 : (σ11_356.1 0).toInt = (1 : Int32).toInt := congrArg Int32.toInt (fd_tI eσ11_356)
              have t_360 : (σ11_356.1 1).toInt = (σ.1 1).toInt := congrArg Int32.toInt (fd_tN eσ11_356 (by decide))
              have y_361 := fd_yIA (d := 1) eσ11_356 (rfl : σ.2.1 1 = _)
              have y_362 := fd_yIA (d := 2) eσ11_356 (rfl : σ.2.1 2 = _)
              have y_363 := fd_yIA (d := 3) eσ11_356 (rfl : σ.2.1 3 = _)
              have r_364 := fd_rng (σ11_356.1 0)
              refine fd_ok_itn (Int32.not_le.mpr (Int32.lt_iff_toInt_lt.mpr (by omega))) ?_
              have x_365 : ((¬ (0 ≤ p2.toInt ∧ p2.toInt < (σ.1 1).toInt ∧ (p1.toInt = 5 ∨ p1.toInt = 6 ∨ (0 ≤ p3.toInt ∧ p3.toInt < (σ.1 1).toInt)))) ∧ (σ11_356.1 0).toInt = 1 ∧ (σ11_356.1 1).toInt = (σ.1 1).toInt) ∨ (¬ (¬ (0 ≤ p2.toInt ∧ p2.toInt < (σ.1 1).toInt ∧ (p1.toInt = 5 ∨ p1.toInt = 6 ∨ (0 ≤ p3.toInt ∧ p3.toInt < (σ.1 1).toInt)))) ∧ ((σ.1 1).toInt = 200) ∧ (σ11_356.1 0).toInt = 2 ∧ (σ11_356.1 1).toInt = (σ.1 1).toInt) ∨ (¬ (¬ (0 ≤ p2.toInt ∧ p2.toInt < (σ.1 1).toInt ∧ (p1.toInt = 5 ∨ p1.toInt = 6 ∨ (0 ≤ p3.toInt ∧ p3.toInt < (σ.1 1).toInt)))) ∧ ¬ ((σ.1 1).toInt = 200) ∧ (p1.toInt < 0 ∨ 6 < p1.toInt) ∧ (σ11_356.1 0).toInt = 3 ∧ (σ11_356.1 1).toInt = (σ.1 1).toInt) ∨ (¬ (¬ (0 ≤ p2.toInt ∧ p2.toInt < (σ.1 1).toInt ∧ (p1.toInt = 5 ∨ p1.toInt = 6 ∨ (0 ≤ p3.toInt ∧ p3.toInt < (σ.1 1).toInt)))) ∧ ¬ ((σ.1 1).toInt = 200) ∧ ¬ (p1.toInt < 0 ∨ 6 < p1.toInt) ∧ (σ11_356.1 0).toInt = 0 ∧ (σ11_356.1 1).toInt = (σ.1 1).toInt + 1 ∧ (0 : Int32).toInt = (σ.1 1).toInt) := by omega
              have w_366 : fd_H (((¬ (σ11_356.1 0).toInt = 0 → σ11_356.2.1 1 = σ.2.1 1) ∧ ((σ11_356.1 0).toInt = 0 → ∃ j w : Int32, (j.toInt = (σ.1 1).toInt ∧ w.toInt = p1.toInt) ∧ σ11_356.2.1 1 = upd (σ.2.1 1) j.toNatClampNeg w))) := fd_hd (⟨fun _ => y_361, fun h => absurd h (by omega)⟩)
              have w_367 : fd_H (((¬ (σ11_356.1 0).toInt = 0 → σ11_356.2.1 2 = σ.2.1 2) ∧ ((σ11_356.1 0).toInt = 0 → ∃ j w : Int32, (j.toInt = (σ.1 1).toInt ∧ w.toInt = p2.toInt) ∧ σ11_356.2.1 2 = upd (σ.2.1 2) j.toNatClampNeg w))) := fd_hd (⟨fun _ => y_362, fun h => absurd h (by omega)⟩)
              have w_368 : fd_H (((¬ (σ11_356.1 0).toInt = 0 → σ11_356.2.1 3 = σ.2.1 3) ∧ ((σ11_356.1 0).toInt = 0 → ∃ j w : Int32, (j.toInt = (σ.1 1).toInt ∧ ((p1.toInt = 5 ∨ p1.toInt = 6) → w.toInt = p2.toInt) ∧ (¬ (p1.toInt = 5 ∨ p1.toInt = 6) → w.toInt = p3.toInt)) ∧ σ11_356.2.1 3 = upd (σ.2.1 3) j.toNatClampNeg w))) := fd_hd (⟨fun _ => y_363, fun h => absurd h (by omega)⟩)
              exact fd_ok_some ⟨i_357, f_358, x_365, w_366, w_367, w_368⟩
            ·
              have d_369 := Int32.lt_iff_toInt_lt.mp (Int32.not_le.mp c_354)
              refine fd_ok_pb ?_
              refine fd_ok_itn (by decide) ?_
              try unfold f_X11_gate_0_J45
              try unfold f_X11_gate_0_J50
              refine fd_ok_itn (by decide) ?_
              refine fd_ok_ite (fun c_370 => ?_) (fun c_370 => ?_)
              ·
                have d_371 := congrArg Int32.toInt c_370
                try unfold f_X11_gate_0_J91
                refine fd_ok_lt (fun σ11_372 eσ11_372 => ?_)
                have i_373 : fd_InvM σ11_372 := fd_inv_sI eσ11_372 i0 (fd_rng _)
                have f_374 : fd_fr [0, 1, 6, 7, 101, 102, 103] σ σ11_372 := fd_fr_tr f0 (fd_fr_sI eσ11_372 (by decide))
                have t_375 : (σ11_372.1 0).toInt = (2 : Int32).toInt := congrArg Int32.toInt (fd_tI eσ11_372)
                have t_376 : (σ11_372.1 1).toInt = (σ.1 1).toInt := congrArg Int32.toInt (fd_tN eσ11_372 (by decide))
                have y_377 := fd_yIA (d := 1) eσ11_372 (rfl : σ.2.1 1 = _)
                have y_378 := fd_yIA (d := 2) eσ11_372 (rfl : σ.2.1 2 = _)
                have y_379 := fd_yIA (d := 3) eσ11_372 (rfl : σ.2.1 3 = _)
                have r_380 := fd_rng (σ11_372.1 0)
                refine fd_ok_itn (Int32.not_le.mpr (Int32.lt_iff_toInt_lt.mpr (by omega))) ?_
                have x_381 : ((¬ (0 ≤ p2.toInt ∧ p2.toInt < (σ.1 1).toInt ∧ (p1.toInt = 5 ∨ p1.toInt = 6 ∨ (0 ≤ p3.toInt ∧ p3.toInt < (σ.1 1).toInt)))) ∧ (σ11_372.1 0).toInt = 1 ∧ (σ11_372.1 1).toInt = (σ.1 1).toInt) ∨ (¬ (¬ (0 ≤ p2.toInt ∧ p2.toInt < (σ.1 1).toInt ∧ (p1.toInt = 5 ∨ p1.toInt = 6 ∨ (0 ≤ p3.toInt ∧ p3.toInt < (σ.1 1).toInt)))) ∧ ((σ.1 1).toInt = 200) ∧ (σ11_372.1 0).toInt = 2 ∧ (σ11_372.1 1).toInt = (σ.1 1).toInt) ∨ (¬ (¬ (0 ≤ p2.toInt ∧ p2.toInt < (σ.1 1).toInt ∧ (p1.toInt = 5 ∨ p1.toInt = 6 ∨ (0 ≤ p3.toInt ∧ p3.toInt < (σ.1 1).toInt)))) ∧ ¬ ((σ.1 1).toInt = 200) ∧ (p1.toInt < 0 ∨ 6 < p1.toInt) ∧ (σ11_372.1 0).toInt = 3 ∧ (σ11_372.1 1).toInt = (σ.1 1).toInt) ∨ (¬ (¬ (0 ≤ p2.toInt ∧ p2.toInt < (σ.1 1).toInt ∧ (p1.toInt = 5 ∨ p1.toInt = 6 ∨ (0 ≤ p3.toInt ∧ p3.toInt < (σ.1 1).toInt)))) ∧ ¬ ((σ.1 1).toInt = 200) ∧ ¬ (p1.toInt < 0 ∨ 6 < p1.toInt) ∧ (σ11_372.1 0).toInt = 0 ∧ (σ11_372.1 1).toInt = (σ.1 1).toInt + 1 ∧ (0 : Int32).toInt = (σ.1 1).toInt) := by omega
                have w_382 : fd_H (((¬ (σ11_372.1 0).toInt = 0 → σ11_372.2.1 1 = σ.2.1 1) ∧ ((σ11_372.1 0).toInt = 0 → ∃ j w : Int32, (j.toInt = (σ.1 1).toInt ∧ w.toInt = p1.toInt) ∧ σ11_372.2.1 1 = upd (σ.2.1 1) j.toNatClampNeg w))) := fd_hd (⟨fun _ => y_377, fun h => absurd h (by omega)⟩)
                have w_383 : fd_H (((¬ (σ11_372.1 0).toInt = 0 → σ11_372.2.1 2 = σ.2.1 2) ∧ ((σ11_372.1 0).toInt = 0 → ∃ j w : Int32, (j.toInt = (σ.1 1).toInt ∧ w.toInt = p2.toInt) ∧ σ11_372.2.1 2 = upd (σ.2.1 2) j.toNatClampNeg w))) := fd_hd (⟨fun _ => y_378, fun h => absurd h (by omega)⟩)
                have w_384 : fd_H (((¬ (σ11_372.1 0).toInt = 0 → σ11_372.2.1 3 = σ.2.1 3) ∧ ((σ11_372.1 0).toInt = 0 → ∃ j w : Int32, (j.toInt = (σ.1 1).toInt ∧ ((p1.toInt = 5 ∨ p1.toInt = 6) → w.toInt = p2.toInt) ∧ (¬ (p1.toInt = 5 ∨ p1.toInt = 6) → w.toInt = p3.toInt)) ∧ σ11_372.2.1 3 = upd (σ.2.1 3) j.toNatClampNeg w))) := fd_hd (⟨fun _ => y_379, fun h => absurd h (by omega)⟩)
                exact fd_ok_some ⟨i_373, f_374, x_381, w_382, w_383, w_384⟩
              ·
                have d_385 : ¬ (σ.1 1).toInt = (200 : Int32).toInt := fun q => c_370 (Int32.toInt_inj.mp q)
                refine fd_ok_ite (fun c_386 => ?_) (fun c_386 => ?_)
                ·
                  have d_387 := Int32.lt_iff_toInt_lt.mp c_386
                  try unfold f_X11_gate_0_J86
                  try unfold f_X11_gate_0_J91
                  refine fd_ok_lt (fun σ11_388 eσ11_388 => ?_)
                  have i_389 : fd_InvM σ11_388 := fd_inv_sI eσ11_388 i0 (fd_rng _)
                  have f_390 : fd_fr [0, 1, 6, 7, 101, 102, 103] σ σ11_388 := fd_fr_tr f0 (fd_fr_sI eσ11_388 (by decide))
                  have t_391 : (σ11_388.1 0).toInt = (3 : Int32).toInt := congrArg Int32.toInt (fd_tI eσ11_388)
                  have t_392 : (σ11_388.1 1).toInt = (σ.1 1).toInt := congrArg Int32.toInt (fd_tN eσ11_388 (by decide))
                  have y_393 := fd_yIA (d := 1) eσ11_388 (rfl : σ.2.1 1 = _)
                  have y_394 := fd_yIA (d := 2) eσ11_388 (rfl : σ.2.1 2 = _)
                  have y_395 := fd_yIA (d := 3) eσ11_388 (rfl : σ.2.1 3 = _)
                  have r_396 := fd_rng (σ11_388.1 0)
                  refine fd_ok_itn (Int32.not_le.mpr (Int32.lt_iff_toInt_lt.mpr (by omega))) ?_
                  have x_397 : ((¬ (0 ≤ p2.toInt ∧ p2.toInt < (σ.1 1).toInt ∧ (p1.toInt = 5 ∨ p1.toInt = 6 ∨ (0 ≤ p3.toInt ∧ p3.toInt < (σ.1 1).toInt)))) ∧ (σ11_388.1 0).toInt = 1 ∧ (σ11_388.1 1).toInt = (σ.1 1).toInt) ∨ (¬ (¬ (0 ≤ p2.toInt ∧ p2.toInt < (σ.1 1).toInt ∧ (p1.toInt = 5 ∨ p1.toInt = 6 ∨ (0 ≤ p3.toInt ∧ p3.toInt < (σ.1 1).toInt)))) ∧ ((σ.1 1).toInt = 200) ∧ (σ11_388.1 0).toInt = 2 ∧ (σ11_388.1 1).toInt = (σ.1 1).toInt) ∨ (¬ (¬ (0 ≤ p2.toInt ∧ p2.toInt < (σ.1 1).toInt ∧ (p1.toInt = 5 ∨ p1.toInt = 6 ∨ (0 ≤ p3.toInt ∧ p3.toInt < (σ.1 1).toInt)))) ∧ ¬ ((σ.1 1).toInt = 200) ∧ (p1.toInt < 0 ∨ 6 < p1.toInt) ∧ (σ11_388.1 0).toInt = 3 ∧ (σ11_388.1 1).toInt = (σ.1 1).toInt) ∨ (¬ (¬ (0 ≤ p2.toInt ∧ p2.toInt < (σ.1 1).toInt ∧ (p1.toInt = 5 ∨ p1.toInt = 6 ∨ (0 ≤ p3.toInt ∧ p3.toInt < (σ.1 1).toInt)))) ∧ ¬ ((σ.1 1).toInt = 200) ∧ ¬ (p1.toInt < 0 ∨ 6 < p1.toInt) ∧ (σ11_388.1 0).toInt = 0 ∧ (σ11_388.1 1).toInt = (σ.1 1).toInt + 1 ∧ (0 : Int32).toInt = (σ.1 1).toInt) := by omega
                  have w_398 : fd_H (((¬ (σ11_388.1 0).toInt = 0 → σ11_388.2.1 1 = σ.2.1 1) ∧ ((σ11_388.1 0).toInt = 0 → ∃ j w : Int32, (j.toInt = (σ.1 1).toInt ∧ w.toInt = p1.toInt) ∧ σ11_388.2.1 1 = upd (σ.2.1 1) j.toNatClampNeg w))) := fd_hd (⟨fun _ => y_393, fun h => absurd h (by omega)⟩)
                  have w_399 : fd_H (((¬ (σ11_388.1 0).toInt = 0 → σ11_388.2.1 2 = σ.2.1 2) ∧ ((σ11_388.1 0).toInt = 0 → ∃ j w : Int32, (j.toInt = (σ.1 1).toInt ∧ w.toInt = p2.toInt) ∧ σ11_388.2.1 2 = upd (σ.2.1 2) j.toNatClampNeg w))) := fd_hd (⟨fun _ => y_394, fun h => absurd h (by omega)⟩)
                  have w_400 : fd_H (((¬ (σ11_388.1 0).toInt = 0 → σ11_388.2.1 3 = σ.2.1 3) ∧ ((σ11_388.1 0).toInt = 0 → ∃ j w : Int32, (j.toInt = (σ.1 1).toInt ∧ ((p1.toInt = 5 ∨ p1.toInt = 6) → w.toInt = p2.toInt) ∧ (¬ (p1.toInt = 5 ∨ p1.toInt = 6) → w.toInt = p3.toInt)) ∧ σ11_388.2.1 3 = upd (σ.2.1 3) j.toNatClampNeg w))) := fd_hd (⟨fun _ => y_395, fun h => absurd h (by omega)⟩)
                  exact fd_ok_some ⟨i_389, f_390, x_397, w_398, w_399, w_400⟩
                ·
                  have d_401 := Int32.le_iff_toInt_le.mp (Int32.not_lt.mp c_386)
                  refine fd_ok_ite (fun c_402 => ?_) (fun c_402 => ?_)
                  ·
                    have d_403 := Int32.le_iff_toInt_le.mp c_402
                    try unfold f_X11_gate_0_J91
                    refine fd_ok_lt (fun σ11_404 eσ11_404 => ?_)
                    have i_405 : fd_InvM σ11_404 := fd_inv_sI eσ11_404 i0 (fd_rng _)
                    have f_406 : fd_fr [0, 1, 6, 7, 101, 102, 103] σ σ11_404 := fd_fr_tr f0 (fd_fr_sI eσ11_404 (by decide))
                    have t_407 : (σ11_404.1 0).toInt = (0 : Int32).toInt := congrArg Int32.toInt (fd_tI eσ11_404)
                    have t_408 : (σ11_404.1 1).toInt = (σ.1 1).toInt := congrArg Int32.toInt (fd_tN eσ11_404 (by decide))
                    have y_409 := fd_yIA (d := 1) eσ11_404 (rfl : σ.2.1 1 = _)
                    have y_410 := fd_yIA (d := 2) eσ11_404 (rfl : σ.2.1 2 = _)
                    have y_411 := fd_yIA (d := 3) eσ11_404 (rfl : σ.2.1 3 = _)
                    have r_412 := fd_rng (σ11_404.1 0)
                    refine fd_ok_itp (Int32.le_iff_toInt_le.mpr (by omega)) ?_
                    have r_413 : (0 : Int) ≤ (σ11_404.1 1).toInt ∧ (σ11_404.1 1).toInt ≤ 200 := i_405.1 1
                    refine fd_ok_gd (vp_in_iff.mpr ⟨by omega, by omega⟩) ?_
                    refine fd_ok_lt (fun σ14_414 eσ14_414 => ?_)
                    have i_415 : fd_InvM σ14_414 := fd_inv_sA eσ14_414 i_405 (by decide) (by decide) (fd_rng _)
                    have f_416 : fd_fr [0, 1, 6, 7, 101, 102, 103] σ σ14_414 := fd_fr_tr f_406 (fd_fr_sA eσ14_414 (by decide))
                    have t_417 : (σ14_414.1 0).toInt = (σ11_404.1 0).toInt := by subst eσ14_414; rfl
                    have t_418 : (σ14_414.1 1).toInt = (σ11_404.1 1).toInt := by subst eσ14_414; rfl
                    have y_419 := fd_yA eσ14_414 y_409
                    have y_420 := fd_yAn (d := 2) eσ14_414 (by decide) y_410
                    have y_421 := fd_yAn (d := 3) eσ14_414 (by decide) y_411
                    have r_422 : (0 : Int) ≤ (σ14_414.1 1).toInt ∧ (σ14_414.1 1).toInt ≤ 200 := i_415.1 1
                    refine fd_ok_gd (vp_in_iff.mpr ⟨by omega, by omega⟩) ?_
                    refine fd_ok_lt (fun σ16_423 eσ16_423 => ?_)
                    have i_424 : fd_InvM σ16_423 := fd_inv_sA eσ16_423 i_415 (by decide) (by decide) ⟨(by omega : (0 : Int) ≤ p2.toInt), (by omega : p2.toInt ≤ 199)⟩
                    have f_425 : fd_fr [0, 1, 6, 7, 101, 102, 103] σ σ16_423 := fd_fr_tr f_416 (fd_fr_sA eσ16_423 (by decide))
                    have t_426 : (σ16_423.1 0).toInt = (σ14_414.1 0).toInt := by subst eσ16_423; rfl
                    have t_427 : (σ16_423.1 1).toInt = (σ14_414.1 1).toInt := by subst eσ16_423; rfl
                    have y_428 := fd_yAn (d := 1) eσ16_423 (by decide) y_419
                    have y_429 := fd_yA eσ16_423 y_420
                    have y_430 := fd_yAn (d := 3) eσ16_423 (by decide) y_421
                    refine fd_ok_itp (by decide) ?_
                    try unfold f_X11_gate_0_J141
                    have r_431 : (0 : Int) ≤ (σ16_423.1 1).toInt ∧ (σ16_423.1 1).toInt ≤ 200 := i_424.1 1
                    refine fd_ok_gd (vp_in_iff.mpr ⟨by omega, by omega⟩) ?_
                    refine fd_ok_lt (fun σ19_432 eσ19_432 => ?_)
                    have i_433 : fd_InvM σ19_432 := fd_inv_sA eσ19_432 i_424 (by decide) (by decide) ⟨(by omega : (0 : Int) ≤ p3.toInt), (by omega : p3.toInt ≤ 199)⟩
                    have f_434 : fd_fr [0, 1, 6, 7, 101, 102, 103] σ σ19_432 := fd_fr_tr f_425 (fd_fr_sA eσ19_432 (by decide))
                    have t_435 : (σ19_432.1 0).toInt = (σ16_423.1 0).toInt := by subst eσ19_432; rfl
                    have t_436 : (σ19_432.1 1).toInt = (σ16_423.1 1).toInt := by subst eσ19_432; rfl
                    have y_437 := fd_yAn (d := 1) eσ19_432 (by decide) y_428
                    have y_438 := fd_yAn (d := 2) eσ19_432 (by decide) y_429
                    have y_439 := fd_yA eσ19_432 y_430
                    refine fd_ok_lt (fun σ20_440 eσ20_440 => ?_)
                    have r_443 : (0 : Int) ≤ (σ19_432.1 1).toInt ∧ (σ19_432.1 1).toInt ≤ 200 := i_433.1 1
                    have u_444 := Jvm.Kit.i32_add (x := (σ19_432.1 1)) (y := (1 : Int32)) (by omega) (by omega)
                    have i_441 : fd_InvM σ20_440 := fd_inv_sI eσ20_440 i_433 ⟨(by omega : (0 : Int) ≤ ((σ19_432.1 1) + (1 : Int32)).toInt), (by omega : ((σ19_432.1 1) + (1 : Int32)).toInt ≤ 200)⟩
                    have f_442 : fd_fr [0, 1, 6, 7, 101, 102, 103] σ σ20_440 := fd_fr_tr f_434 (fd_fr_sI eσ20_440 (by decide))
                    have t_445 : (σ20_440.1 0).toInt = (σ19_432.1 0).toInt := congrArg Int32.toInt (fd_tN eσ20_440 (by decide))
                    have t_446 : (σ20_440.1 1).toInt = ((σ19_432.1 1) + (1 : Int32)).toInt := congrArg Int32.toInt (fd_tI eσ20_440)
                    have y_447 := fd_yIA (d := 1) eσ20_440 y_437
                    have y_448 := fd_yIA (d := 2) eσ20_440 y_438
                    have y_449 := fd_yIA (d := 3) eσ20_440 y_439
                    refine fd_ok_bd ?_
                    try unfold f_X11_changed_0
                    refine fd_ok_lt (fun σ1_450 eσ1_450 => ?_)
                    have i_451 : fd_InvM σ1_450 := fd_inv_sI eσ1_450 i_441 ⟨(by omega : (0 : Int) ≤ (0 : Int32).toInt), (by omega : (0 : Int32).toInt ≤ 1)⟩
                    have f_452 : fd_fr [0, 1, 6, 7, 101, 102, 103] σ σ1_450 := fd_fr_tr f_442 (fd_fr_sI eσ1_450 (by decide))
                    have t_453 : (σ1_450.1 0).toInt = (σ20_440.1 0).toInt := congrArg Int32.toInt (fd_tN eσ1_450 (by decide))
                    have t_454 : (σ1_450.1 1).toInt = (σ20_440.1 1).toInt := congrArg Int32.toInt (fd_tN eσ1_450 (by decide))
                    have y_455 := fd_yIA (d := 1) eσ1_450 y_447
                    have y_456 := fd_yIA (d := 2) eσ1_450 y_448
                    have y_457 := fd_yIA (d := 3) eσ1_450 y_449
                    refine fd_ok_lt (fun σ2_458 eσ2_458 => ?_)
                    have i_459 : fd_InvM σ2_458 := fd_inv_sI eσ2_458 i_451 ⟨(by omega : (0 : Int) ≤ (0 : Int32).toInt), (by omega : (0 : Int32).toInt ≤ 480)⟩
                    have f_460 : fd_fr [0, 1, 6, 7, 101, 102, 103] σ σ2_458 := fd_fr_tr f_452 (fd_fr_sI eσ2_458 (by decide))
                    have t_461 : (σ2_458.1 0).toInt = (σ1_450.1 0).toInt := congrArg Int32.toInt (fd_tN eσ2_458 (by decide))
                    have t_462 : (σ2_458.1 1).toInt = (σ1_450.1 1).toInt := congrArg Int32.toInt (fd_tN eσ2_458 (by decide))
                    have y_463 := fd_yIA (d := 1) eσ2_458 y_455
                    have y_464 := fd_yIA (d := 2) eσ2_458 y_456
                    have y_465 := fd_yIA (d := 3) eσ2_458 y_457
                    refine fd_ok_pb ?_
                    have r_466 : (0 : Int) ≤ (σ2_458.1 1).toInt ∧ (σ2_458.1 1).toInt ≤ 200 := i_459.1 1
                    have u_467 := Jvm.Kit.i32_sub (x := (σ2_458.1 1)) (y := (1 : Int32)) (by omega) (by omega)
                    have x_468 : ((¬ (0 ≤ p2.toInt ∧ p2.toInt < (σ.1 1).toInt ∧ (p1.toInt = 5 ∨ p1.toInt = 6 ∨ (0 ≤ p3.toInt ∧ p3.toInt < (σ.1 1).toInt)))) ∧ (σ2_458.1 0).toInt = 1 ∧ (σ2_458.1 1).toInt = (σ.1 1).toInt) ∨ (¬ (¬ (0 ≤ p2.toInt ∧ p2.toInt < (σ.1 1).toInt ∧ (p1.toInt = 5 ∨ p1.toInt = 6 ∨ (0 ≤ p3.toInt ∧ p3.toInt < (σ.1 1).toInt)))) ∧ ((σ.1 1).toInt = 200) ∧ (σ2_458.1 0).toInt = 2 ∧ (σ2_458.1 1).toInt = (σ.1 1).toInt) ∨ (¬ (¬ (0 ≤ p2.toInt ∧ p2.toInt < (σ.1 1).toInt ∧ (p1.toInt = 5 ∨ p1.toInt = 6 ∨ (0 ≤ p3.toInt ∧ p3.toInt < (σ.1 1).toInt)))) ∧ ¬ ((σ.1 1).toInt = 200) ∧ (p1.toInt < 0 ∨ 6 < p1.toInt) ∧ (σ2_458.1 0).toInt = 3 ∧ (σ2_458.1 1).toInt = (σ.1 1).toInt) ∨ (¬ (¬ (0 ≤ p2.toInt ∧ p2.toInt < (σ.1 1).toInt ∧ (p1.toInt = 5 ∨ p1.toInt = 6 ∨ (0 ≤ p3.toInt ∧ p3.toInt < (σ.1 1).toInt)))) ∧ ¬ ((σ.1 1).toInt = 200) ∧ ¬ (p1.toInt < 0 ∨ 6 < p1.toInt) ∧ (σ2_458.1 0).toInt = 0 ∧ (σ2_458.1 1).toInt = (σ.1 1).toInt + 1 ∧ ((σ2_458.1 1) - (1 : Int32)).toInt = (σ.1 1).toInt) := by omega
                    have w_469 : fd_H (((¬ (σ2_458.1 0).toInt = 0 → σ2_458.2.1 1 = σ.2.1 1) ∧ ((σ2_458.1 0).toInt = 0 → ∃ j w : Int32, (j.toInt = (σ.1 1).toInt ∧ w.toInt = p1.toInt) ∧ σ2_458.2.1 1 = upd (σ.2.1 1) j.toNatClampNeg w))) := fd_hd (⟨fun h => absurd (by omega) h, fun _ => ⟨_, _, by omega, y_463⟩⟩)
                    have w_470 : fd_H (((¬ (σ2_458.1 0).toInt = 0 → σ2_458.2.1 2 = σ.2.1 2) ∧ ((σ2_458.1 0).toInt = 0 → ∃ j w : Int32, (j.toInt = (σ.1 1).toInt ∧ w.toInt = p2.toInt) ∧ σ2_458.2.1 2 = upd (σ.2.1 2) j.toNatClampNeg w))) := fd_hd (⟨fun h => absurd (by omega) h, fun _ => ⟨_, _, by omega, y_464⟩⟩)
                    have w_471 : fd_H (((¬ (σ2_458.1 0).toInt = 0 → σ2_458.2.1 3 = σ.2.1 3) ∧ ((σ2_458.1 0).toInt = 0 → ∃ j w : Int32, (j.toInt = (σ.1 1).toInt ∧ ((p1.toInt = 5 ∨ p1.toInt = 6) → w.toInt = p2.toInt) ∧ (¬ (p1.toInt = 5 ∨ p1.toInt = 6) → w.toInt = p3.toInt)) ∧ σ2_458.2.1 3 = upd (σ.2.1 3) j.toNatClampNeg w))) := fd_hd (⟨fun h => absurd (by omega) h, fun _ => ⟨_, _, by omega, y_465⟩⟩)
                    exact fd_ok_some ⟨i_459, f_460, x_468, w_469, w_470, w_471⟩
                  ·
                    have d_472 := Int32.lt_iff_toInt_lt.mp (Int32.not_le.mp c_402)
                    try unfold f_X11_gate_0_J86
                    try unfold f_X11_gate_0_J91
                    refine fd_ok_lt (fun σ11_473 eσ11_473 => ?_)
                    have i_474 : fd_InvM σ11_473 := fd_inv_sI eσ11_473 i0 (fd_rng _)
                    have f_475 : fd_fr [0, 1, 6, 7, 101, 102, 103] σ σ11_473 := fd_fr_tr f0 (fd_fr_sI eσ11_473 (by decide))
                    have t_476 : (σ11_473.1 0).toInt = (3 : Int32).toInt := congrArg Int32.toInt (fd_tI eσ11_473)
                    have t_477 : (σ11_473.1 1).toInt = (σ.1 1).toInt := congrArg Int32.toInt (fd_tN eσ11_473 (by decide))
                    have y_478 := fd_yIA (d := 1) eσ11_473 (rfl : σ.2.1 1 = _)
                    have y_479 := fd_yIA (d := 2) eσ11_473 (rfl : σ.2.1 2 = _)
                    have y_480 := fd_yIA (d := 3) eσ11_473 (rfl : σ.2.1 3 = _)
                    have r_481 := fd_rng (σ11_473.1 0)
                    refine fd_ok_itn (Int32.not_le.mpr (Int32.lt_iff_toInt_lt.mpr (by omega))) ?_
                    have x_482 : ((¬ (0 ≤ p2.toInt ∧ p2.toInt < (σ.1 1).toInt ∧ (p1.toInt = 5 ∨ p1.toInt = 6 ∨ (0 ≤ p3.toInt ∧ p3.toInt < (σ.1 1).toInt)))) ∧ (σ11_473.1 0).toInt = 1 ∧ (σ11_473.1 1).toInt = (σ.1 1).toInt) ∨ (¬ (¬ (0 ≤ p2.toInt ∧ p2.toInt < (σ.1 1).toInt ∧ (p1.toInt = 5 ∨ p1.toInt = 6 ∨ (0 ≤ p3.toInt ∧ p3.toInt < (σ.1 1).toInt)))) ∧ ((σ.1 1).toInt = 200) ∧ (σ11_473.1 0).toInt = 2 ∧ (σ11_473.1 1).toInt = (σ.1 1).toInt) ∨ (¬ (¬ (0 ≤ p2.toInt ∧ p2.toInt < (σ.1 1).toInt ∧ (p1.toInt = 5 ∨ p1.toInt = 6 ∨ (0 ≤ p3.toInt ∧ p3.toInt < (σ.1 1).toInt)))) ∧ ¬ ((σ.1 1).toInt = 200) ∧ (p1.toInt < 0 ∨ 6 < p1.toInt) ∧ (σ11_473.1 0).toInt = 3 ∧ (σ11_473.1 1).toInt = (σ.1 1).toInt) ∨ (¬ (¬ (0 ≤ p2.toInt ∧ p2.toInt < (σ.1 1).toInt ∧ (p1.toInt = 5 ∨ p1.toInt = 6 ∨ (0 ≤ p3.toInt ∧ p3.toInt < (σ.1 1).toInt)))) ∧ ¬ ((σ.1 1).toInt = 200) ∧ ¬ (p1.toInt < 0 ∨ 6 < p1.toInt) ∧ (σ11_473.1 0).toInt = 0 ∧ (σ11_473.1 1).toInt = (σ.1 1).toInt + 1 ∧ (0 : Int32).toInt = (σ.1 1).toInt) := by omega
                    have w_483 : fd_H (((¬ (σ11_473.1 0).toInt = 0 → σ11_473.2.1 1 = σ.2.1 1) ∧ ((σ11_473.1 0).toInt = 0 → ∃ j w : Int32, (j.toInt = (σ.1 1).toInt ∧ w.toInt = p1.toInt) ∧ σ11_473.2.1 1 = upd (σ.2.1 1) j.toNatClampNeg w))) := fd_hd (⟨fun _ => y_478, fun h => absurd h (by omega)⟩)
                    have w_484 : fd_H (((¬ (σ11_473.1 0).toInt = 0 → σ11_473.2.1 2 = σ.2.1 2) ∧ ((σ11_473.1 0).toInt = 0 → ∃ j w : Int32, (j.toInt = (σ.1 1).toInt ∧ w.toInt = p2.toInt) ∧ σ11_473.2.1 2 = upd (σ.2.1 2) j.toNatClampNeg w))) := fd_hd (⟨fun _ => y_479, fun h => absurd h (by omega)⟩)
                    have w_485 : fd_H (((¬ (σ11_473.1 0).toInt = 0 → σ11_473.2.1 3 = σ.2.1 3) ∧ ((σ11_473.1 0).toInt = 0 → ∃ j w : Int32, (j.toInt = (σ.1 1).toInt ∧ ((p1.toInt = 5 ∨ p1.toInt = 6) → w.toInt = p2.toInt) ∧ (¬ (p1.toInt = 5 ∨ p1.toInt = 6) → w.toInt = p3.toInt)) ∧ σ11_473.2.1 3 = upd (σ.2.1 3) j.toNatClampNeg w))) := fd_hd (⟨fun _ => y_480, fun h => absurd h (by omega)⟩)
                    exact fd_ok_some ⟨i_474, f_475, x_482, w_483, w_484, w_485⟩
