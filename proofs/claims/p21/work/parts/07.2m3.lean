set_option maxHeartbeats 4000000 in
theorem s0_X11_span_0_L54 (N : Nat) (hN : 1000 ≤ N) : ∀ (n : Nat) (y1 : Int32) (y2 : Int32) (y4 : Int32) (y5 : Int32) (σ : fd_St), fd_InvM σ → (0 ≤ y5.toInt) → (y5.toInt ≤ 64) → 64 - y5.toInt < (n : Int) → fd_ok (f_X11_span_0_L54 N n y1 y2 y4 y5 σ) (fun v s => fd_InvM s ∧ fd_fr [] σ s ∧ (True)) := by
  have litm1 : (-1 : Int32).toInt = -1 := by decide
  have lit0 : (0 : Int32).toInt = 0 := by decide
  have lit1 : (1 : Int32).toInt = 1 := by decide
  intro n
  induction n with
  | zero =>
    intro y1 y2 y4 y5 σ i0 h0 h1 hm
    omega
  | succ n ih =>
    intro y1 y2 y4 y5 σ i0 h0 h1 hm
    have f0 : fd_fr [] σ σ := fd_fr_rf
    unfold f_X11_span_0_L54
    have r_1 : (0 : Int) ≤ (σ.1 12).toInt ∧ (σ.1 12).toInt ≤ 64 := i0.1 12
    refine fd_ok_ite (fun c_2 => ?_) (fun c_2 => ?_)
    ·
      have d_3 := Int32.le_iff_toInt_le.mp c_2
      try unfold f_X11_span_0_J102
      have r_4 := fd_rng (σ.1 0)
      refine fd_ok_ite (fun c_5 => ?_) (fun c_5 => ?_)
      ·
        have d_6 := Int32.le_iff_toInt_le.mp c_5
        exact fd_ok_some ⟨i0, f0, trivial⟩
      ·
        have d_7 := Int32.lt_iff_toInt_lt.mp (Int32.not_le.mp c_5)
        exact fd_ok_some ⟨i0, f0, trivial⟩
    ·
      have d_8 := Int32.lt_iff_toInt_lt.mp (Int32.not_le.mp c_2)
      have r_9 := fd_rng (σ.1 0)
      refine fd_ok_ite (fun c_10 => ?_) (fun c_10 => ?_)
      ·
        have d_11 := congrArg Int32.toInt c_10
        refine fd_ok_bd ?_
        try unfold f_X11_mayBe_0
        refine fd_ok_cl (s_X11_mayBe_0_L3 N hN N _ _ _ _ i0 (by omega) (by omega) (by omega)) ?_
        rintro v_12 σ_13 ⟨i_14, g_15, x_16⟩
        have f_17 : fd_fr [] σ σ_13 := fd_fr_tr f0 (fd_fr_mono g_15 (by decide))
        have t_18 : (σ_13.1 0).toInt = (σ.1 0).toInt := congrArg Int32.toInt (g_15.1 0 (by decide))
        have t_19 : (σ_13.1 12).toInt = (σ.1 12).toInt := congrArg Int32.toInt (g_15.1 12 (by decide))
        refine fd_ok_ite (fun c_20 => ?_) (fun c_20 => ?_)
        ·
          have d_21 := congrArg Int32.toInt c_20
          try unfold f_X11_span_0_J96
          refine fd_ok_lt (fun x15_22 ex15_22 => ?_)
          have t_23 := fd_la ex15_22 (by omega) (by omega)
          refine fd_ok_mono (ih _ _ _ _ _ i_14 (by omega) (by omega) (by omega)) ?_
          rintro v s ⟨hi, hf, hx⟩
          exact ⟨hi, fd_fr_tr f_17 hf, trivial⟩
        ·
          have d_24 : ¬ v_12.toInt = (0 : Int32).toInt := fun q => c_20 (Int32.toInt_inj.mp q)
          refine fd_ok_ite (fun c_25 => ?_) (fun c_25 => ?_)
          ·
            have d_26 := congrArg Int32.toInt c_25
            try unfold f_X11_span_0_J92
            try unfold f_X11_span_0_J96
            refine fd_ok_lt (fun x15_27 ex15_27 => ?_)
            have t_28 := fd_la ex15_27 (by omega) (by omega)
            refine fd_ok_mono (ih _ _ _ _ _ i_14 (by omega) (by omega) (by omega)) ?_
            rintro v s ⟨hi, hf, hx⟩
            exact ⟨hi, fd_fr_tr f_17 hf, trivial⟩
          ·
            refine fd_ok_ite (fun c_30 => ?_) (fun c_30 => ?_)
            ·
              have d_31 := congrArg Int32.toInt c_30
              try unfold f_X11_span_0_J92
              try unfold f_X11_span_0_J96
              refine fd_ok_lt (fun x15_32 ex15_32 => ?_)
              have t_33 := fd_la ex15_32 (by omega) (by omega)
              refine fd_ok_mono (ih _ _ _ _ _ i_14 (by omega) (by omega) (by omega)) ?_
              rintro v s ⟨hi, hf, hx⟩
              exact ⟨hi, fd_fr_tr f_17 hf, trivial⟩
            ·
              have d_34 : ¬ y4.toInt = (-1 : Int32).toInt := fun q => c_30 (Int32.toInt_inj.mp q)
              try unfold f_X11_span_0_J96
              refine fd_ok_lt (fun x15_35 ex15_35 => ?_)
              have t_36 := fd_la ex15_35 (by omega) (by omega)
              refine fd_ok_mono (ih _ _ _ _ _ i_14 (by omega) (by omega) (by omega)) ?_
              rintro v s ⟨hi, hf, hx⟩
              exact ⟨hi, fd_fr_tr f_17 hf, trivial⟩
      ·
        try unfold f_X11_span_0_J102
        refine fd_ok_ite (fun c_38 => ?_) (fun c_38 => ?_)
        ·
          have d_39 := Int32.le_iff_toInt_le.mp c_38
          exact fd_ok_some ⟨i0, f0, trivial⟩
        ·
          have d_40 := Int32.lt_iff_toInt_lt.mp (Int32.not_le.mp c_38)
          exact fd_ok_some ⟨i0, f0, trivial⟩
theorem s_X11_span_0_L54 (N : Nat) (hN : 1000 ≤ N) : ∀ (n : Nat) (y1 : Int32) (y2 : Int32) (y4 : Int32) (y5 : Int32) (σ : fd_St), fd_InvM σ → (0 ≤ y5.toInt) → (y5.toInt ≤ 64) → 64 - y5.toInt < (n : Int) → fd_ok (f_X11_span_0_L54 N n y1 y2 y4 y5 σ) (fun v s => fd_InvM s ∧ fd_fr [] σ s ∧ (σ.1 0 = 0 → 0 ≤ y5.toInt → y5.toInt ≤ (σ.1 12).toInt → (σ.1 12).toInt ≤ 64 → (σ.1 13).toInt ≤ 30 → 0 ≤ y1.toInt → y1.toInt ≤ 1 → fd_sp (fd_mM σ (decide (y1 ≠ 0))) y5.toNatClampNeg (decide (y2 = 1)) y4.toInt → fd_sp (fd_mM σ (decide (y1 ≠ 0))) (σ.1 12).toNatClampNeg (decide (y2 = 1)) v.toInt)) := fun n y1 y2 y4 y5 σ i0 h0 h1 hm => fd_ok_x (s0_X11_span_0_L54 N hN n y1 y2 y4 y5 σ i0 h0 h1 hm) (fun v s h => q_X11_span_0_L54 n y1 y2 y4 y5 σ v s h)
set_option maxHeartbeats 4000000 in
theorem s0_X11_shape_0_L162 (N : Nat) (hN : 1000 ≤ N) : ∀ (n : Nat) (y1 : Int32) (y7 : Int32) (y8 : Int32) (σ : fd_St), fd_InvM σ → (0 ≤ y8.toInt) → (y8.toInt ≤ 60) → 60 - y8.toInt < (n : Int) → fd_ok (f_X11_shape_0_L162 N n y1 y7 y8 σ) (fun v s => fd_InvM s ∧ fd_fr [] σ s ∧ (True)) := by
  have lit0 : (0 : Int32).toInt = 0 := by decide
  have lit1 : (1 : Int32).toInt = 1 := by decide
  intro n
  induction n with
  | zero =>
    intro y1 y7 y8 σ i0 h0 h1 hm
    omega
  | succ n ih =>
    intro y1 y7 y8 σ i0 h0 h1 hm
    have f0 : fd_fr [] σ σ := fd_fr_rf
    unfold f_X11_shape_0_L162
    have r_1 : (0 : Int) ≤ (σ.1 14).toInt ∧ (σ.1 14).toInt ≤ 60 := i0.1 14
    refine fd_ok_ite (fun c_2 => ?_) (fun c_2 => ?_)
    ·
      have d_3 := Int32.le_iff_toInt_le.mp c_2
      exact fd_ok_some ⟨i0, f0, trivial⟩
    ·
      have d_4 := Int32.lt_iff_toInt_lt.mp (Int32.not_le.mp c_2)
      refine fd_ok_gd (vp_in_iff.mpr ⟨by omega, by omega⟩) ?_
      refine fd_ok_ite (fun c_5 => ?_) (fun c_5 => ?_)
      ·
        have d_6 := congrArg Int32.toInt c_5
        try unfold f_X11_shape_0_J191
        refine fd_ok_lt (fun x26_7 ex26_7 => ?_)
        have t_8 := fd_la ex26_7 (by omega) (by omega)
        refine fd_ok_mono (ih _ _ _ _ i0 (by omega) (by omega) (by omega)) ?_
        rintro v s ⟨hi, hf, hx⟩
        exact ⟨hi, fd_fr_tr f0 hf, trivial⟩
      ·
        try unfold f_X11_shape_0_J191
        refine fd_ok_lt (fun x26_10 ex26_10 => ?_)
        have t_11 := fd_la ex26_10 (by omega) (by omega)
        refine fd_ok_mono (ih _ _ _ _ i0 (by omega) (by omega) (by omega)) ?_
        rintro v s ⟨hi, hf, hx⟩
        exact ⟨hi, fd_fr_tr f0 hf, trivial⟩
theorem s_X11_shape_0_L162 (N : Nat) (hN : 1000 ≤ N) : ∀ (n : Nat) (y1 : Int32) (y7 : Int32) (y8 : Int32) (σ : fd_St), fd_InvM σ → (0 ≤ y8.toInt) → (y8.toInt ≤ 60) → 60 - y8.toInt < (n : Int) → fd_ok (f_X11_shape_0_L162 N n y1 y7 y8 σ) (fun v s => fd_InvM s ∧ fd_fr [] σ s ∧ (v = fd_cl (σ.1 14) (σ.2.1 22) y1 n y7 y8)) := fun n y1 y7 y8 σ i0 h0 h1 hm => fd_ok_x (s0_X11_shape_0_L162 N hN n y1 y7 y8 σ i0 h0 h1 hm) (fun v s h => q_X11_shape_0_L162 n y1 y7 y8 σ v s h)
set_option maxHeartbeats 4000000 in
theorem s_X11_covers_0_L3 (N : Nat) (hN : 1000 ≤ N) : ∀ (n : Nat) (y1 : Int32) (y2 : Int32) (y3 : Int32) (y4 : Int32) (y5 : Int32) (σ : fd_St), fd_InvM σ → (0 ≤ y5.toInt) → (y5.toInt ≤ 60) → 60 - y5.toInt < (n : Int) → fd_ok (f_X11_covers_0_L3 N n y1 y2 y3 y4 y5 σ) (fun v s => fd_InvM s ∧ fd_fr [] σ s ∧ (True)) := by
  have lit0 : (0 : Int32).toInt = 0 := by decide
  have lit1 : (1 : Int32).toInt = 1 := by decide
  intro n
  induction n with
  | zero =>
    intro y1 y2 y3 y4 y5 σ i0 h0 h1 hm
    omega
  | succ n ih =>
    intro y1 y2 y3 y4 y5 σ i0 h0 h1 hm
    have f0 : fd_fr [] σ σ := fd_fr_rf
    unfold f_X11_covers_0_L3
    have r_1 : (0 : Int) ≤ (σ.1 14).toInt ∧ (σ.1 14).toInt ≤ 60 := i0.1 14
    refine fd_ok_ite (fun c_2 => ?_) (fun c_2 => ?_)
    ·
      have d_3 := Int32.le_iff_toInt_le.mp c_2
      exact fd_ok_some ⟨i0, f0, trivial⟩
    ·
      have d_4 := Int32.lt_iff_toInt_lt.mp (Int32.not_le.mp c_2)
      refine fd_ok_gd (vp_in_iff.mpr ⟨by omega, by omega⟩) ?_
      refine fd_ok_ite (fun c_5 => ?_) (fun c_5 => ?_)
      ·
        have d_6 := congrArg Int32.toInt c_5
        refine fd_ok_gd (vp_in_iff.mpr ⟨by omega, by omega⟩) ?_
        refine fd_ok_ite (fun c_7 => ?_) (fun c_7 => ?_)
        ·
          try unfold f_X11_covers_0_J81
          refine fd_ok_lt (fun x4_9 ex4_9 => ?_)
          have t_10 := fd_la ex4_9 (by omega) (by omega)
          refine fd_ok_mono (ih _ _ _ _ _ _ i0 (by omega) (by omega) (by omega)) ?_
          rintro v s ⟨hi, hf, hx⟩
          exact ⟨hi, fd_fr_tr f0 hf, trivial⟩
        ·
          refine fd_ok_gd (vp_in_iff.mpr ⟨by omega, by omega⟩) ?_
          refine fd_ok_ite (fun c_12 => ?_) (fun c_12 => ?_)
          ·
            try unfold f_X11_covers_0_J81
            refine fd_ok_lt (fun x4_14 ex4_14 => ?_)
            have t_15 := fd_la ex4_14 (by omega) (by omega)
            refine fd_ok_mono (ih _ _ _ _ _ _ i0 (by omega) (by omega) (by omega)) ?_
            rintro v s ⟨hi, hf, hx⟩
            exact ⟨hi, fd_fr_tr f0 hf, trivial⟩
          ·
            refine fd_ok_gd (vp_in_iff.mpr ⟨by omega, by omega⟩) ?_
            refine fd_ok_ite (fun c_17 => ?_) (fun c_17 => ?_)
            ·
              try unfold f_X11_covers_0_J81
              refine fd_ok_lt (fun x4_19 ex4_19 => ?_)
              have t_20 := fd_la ex4_19 (by omega) (by omega)
              refine fd_ok_mono (ih _ _ _ _ _ _ i0 (by omega) (by omega) (by omega)) ?_
              rintro v s ⟨hi, hf, hx⟩
              exact ⟨hi, fd_fr_tr f0 hf, trivial⟩
            ·
              refine fd_ok_gd (vp_in_iff.mpr ⟨by omega, by omega⟩) ?_
              refine fd_ok_ite (fun c_22 => ?_) (fun c_22 => ?_)
              ·
                try unfold f_X11_covers_0_J81
                refine fd_ok_lt (fun x4_24 ex4_24 => ?_)
                have t_25 := fd_la ex4_24 (by omega) (by omega)
                refine fd_ok_mono (ih _ _ _ _ _ _ i0 (by omega) (by omega) (by omega)) ?_
                rintro v s ⟨hi, hf, hx⟩
                exact ⟨hi, fd_fr_tr f0 hf, trivial⟩
              ·
                exact fd_ok_some ⟨i0, f0, trivial⟩
      ·
        try unfold f_X11_covers_0_J81
        refine fd_ok_lt (fun x4_28 ex4_28 => ?_)
        have t_29 := fd_la ex4_28 (by omega) (by omega)
        refine fd_ok_mono (ih _ _ _ _ _ _ i0 (by omega) (by omega) (by omega)) ?_
        rintro v s ⟨hi, hf, hx⟩
        exact ⟨hi, fd_fr_tr f0 hf, trivial⟩
set_option maxHeartbeats 4000000 in
theorem s_X11_insert_27_L37 (N : Nat) (hN : 1000 ≤ N) : ∀ (n : Nat) (y1 : Int32) (y2 : Int32) (y3 : Int32) (y4 : Int32) (σ : fd_St), fd_InvM σ → (0 ≤ y1.toInt) → (y1.toInt ≤ 121) → (0 ≤ y3.toInt) → (y3.toInt ≤ 121) → (0 ≤ y4.toInt) → (y4.toInt ≤ 121) → (y3.toInt ≤ y4.toInt) → y4.toInt < (n : Int) → fd_ok (f_X11_insert_27_L37 N n y1 y2 y3 y4 σ) (fun v s => fd_InvM s ∧ fd_fr [127] σ s ∧ (v.toInt = y1.toInt + 1)) := by
  have litm1 : (-1 : Int32).toInt = -1 := by decide
  have lit0 : (0 : Int32).toInt = 0 := by decide
  have lit1 : (1 : Int32).toInt = 1 := by decide
  intro n
  induction n with
  | zero =>
    intro y1 y2 y3 y4 σ i0 h0 h1 h2 h3 h4 h5 h6 hm
    omega
  | succ n ih =>
    intro y1 y2 y3 y4 σ i0 h0 h1 h2 h3 h4 h5 h6 hm
    have f0 : fd_fr [127] σ σ := fd_fr_rf
    unfold f_X11_insert_27_L37
    refine fd_ok_ite (fun c_1 => ?_) (fun c_1 => ?_)
    ·
      have d_2 := Int32.le_iff_toInt_le.mp c_1
      refine fd_ok_gd (vp_in_iff.mpr ⟨by omega, by omega⟩) ?_
      refine fd_ok_lt (fun σ5_3 eσ5_3 => ?_)
      have i_4 : fd_InvM σ5_3 := fd_inv_sA eσ5_3 i0 (by decide) (by decide) (fd_rng _)
      have f_5 : fd_fr [127] σ σ5_3 := fd_fr_tr f0 (fd_fr_sA eσ5_3 (by decide))
      have u_6 := Jvm.Kit.i32_add (x := y1) (y := (1 : Int32)) (by omega) (by omega)
      have x_7 : (y1 + (1 : Int32)).toInt = y1.toInt + 1 := by omega
      exact fd_ok_some ⟨i_4, f_5, x_7⟩
    ·
      have d_8 := Int32.lt_iff_toInt_lt.mp (Int32.not_le.mp c_1)
      have u_9 := Jvm.Kit.i32_sub (x := y4) (y := (1 : Int32)) (by omega) (by omega)
      refine fd_ok_gd (vp_in_iff.mpr ⟨by omega, by omega⟩) ?_
      refine fd_ok_gd (vp_in_iff.mpr ⟨by omega, by omega⟩) ?_
      refine fd_ok_lt (fun σ8_10 eσ8_10 => ?_)
      have i_11 : fd_InvM σ8_10 := fd_inv_sA eσ8_10 i0 (by decide) (by decide) (fd_rng _)
      have f_12 : fd_fr [127] σ σ8_10 := fd_fr_tr f0 (fd_fr_sA eσ8_10 (by decide))
      refine fd_ok_lt (fun x9_13 ex9_13 => ?_)
      have t_14 := fd_la ex9_13 (by omega) (by omega)
      refine fd_ok_mono (ih _ _ _ _ _ i_11 (by omega) (by omega) (by omega) (by omega) (by omega) (by omega) (by omega) (by omega)) ?_
      rintro v s ⟨hi, hf, hx⟩
      have xx : v.toInt = y1.toInt + 1 := by omega
      exact ⟨hi, fd_fr_tr f_12 hf, xx⟩
set_option maxHeartbeats 4000000 in
theorem s_X11_insert_27_L2 (N : Nat) (hN : 1000 ≤ N) : ∀ (n : Nat) (y1 : Int32) (y2 : Int32) (y3 : Int32) (σ : fd_St), fd_InvM σ → (0 ≤ y1.toInt) → (y1.toInt ≤ 121) → (0 ≤ y3.toInt) → (y3.toInt ≤ 121) → (y3.toInt ≤ y1.toInt) → 121 - y3.toInt < (n : Int) → fd_ok (f_X11_insert_27_L2 N n y1 y2 y3 σ) (fun v s => fd_InvM s ∧ fd_fr [127] σ s ∧ (0 ≤ v.toInt ∧ v.toInt ≤ y1.toInt + 1)) := by
  have lit0 : (0 : Int32).toInt = 0 := by decide
  have lit1 : (1 : Int32).toInt = 1 := by decide
  intro n
  induction n with
  | zero =>
    intro y1 y2 y3 σ i0 h0 h1 h2 h3 h4 hm
    omega
  | succ n ih =>
    intro y1 y2 y3 σ i0 h0 h1 h2 h3 h4 hm
    have f0 : fd_fr [127] σ σ := fd_fr_rf
    unfold f_X11_insert_27_L2
    refine fd_ok_ite (fun c_1 => ?_) (fun c_1 => ?_)
    ·
      have d_2 := Int32.le_iff_toInt_le.mp c_1
      try unfold f_X11_insert_27_J20
      refine fd_ok_ite (fun c_3 => ?_) (fun c_3 => ?_)
      ·
        have d_4 := Int32.le_iff_toInt_le.mp c_3
        try unfold f_X11_insert_27_J34
        refine fd_ok_mono (s_X11_insert_27_L37 N hN N _ _ _ _ _ i0 (by omega) (by omega) (by omega) (by omega) (by omega) (by omega) (by omega) (by omega)) ?_
        rintro v s ⟨hi, hf, hx⟩
        have xx : 0 ≤ v.toInt ∧ v.toInt ≤ y1.toInt + 1 := by omega
        exact ⟨hi, fd_fr_tr f0 (fd_fr_mono hf (by decide)), xx⟩
      ·
        have d_5 := Int32.lt_iff_toInt_lt.mp (Int32.not_le.mp c_3)
        refine fd_ok_gd (vp_in_iff.mpr ⟨by omega, by omega⟩) ?_
        refine fd_ok_ite (fun c_6 => ?_) (fun c_6 => ?_)
        ·
          have d_7 := congrArg Int32.toInt c_6
          have x_8 : 0 ≤ y1.toInt ∧ y1.toInt ≤ y1.toInt + 1 := by omega
          exact fd_ok_some ⟨i0, f0, x_8⟩
        ·
          try unfold f_X11_insert_27_J34
          refine fd_ok_mono (s_X11_insert_27_L37 N hN N _ _ _ _ _ i0 (by omega) (by omega) (by omega) (by omega) (by omega) (by omega) (by omega) (by omega)) ?_
          rintro v s ⟨hi, hf, hx⟩
          have xx : 0 ≤ v.toInt ∧ v.toInt ≤ y1.toInt + 1 := by omega
          exact ⟨hi, fd_fr_tr f0 (fd_fr_mono hf (by decide)), xx⟩
    ·
      have d_10 := Int32.lt_iff_toInt_lt.mp (Int32.not_le.mp c_1)
      refine fd_ok_gd (vp_in_iff.mpr ⟨by omega, by omega⟩) ?_
      refine fd_ok_ite (fun c_11 => ?_) (fun c_11 => ?_)
      ·
        have d_12 := Int32.le_iff_toInt_le.mp c_11
        try unfold f_X11_insert_27_J20
        refine fd_ok_ite (fun c_13 => ?_) (fun c_13 => ?_)
        ·
          have d_14 := Int32.le_iff_toInt_le.mp c_13
          try unfold f_X11_insert_27_J34
          refine fd_ok_mono (s_X11_insert_27_L37 N hN N _ _ _ _ _ i0 (by omega) (by omega) (by omega) (by omega) (by omega) (by omega) (by omega) (by omega)) ?_
          rintro v s ⟨hi, hf, hx⟩
          have xx : 0 ≤ v.toInt ∧ v.toInt ≤ y1.toInt + 1 := by omega
          exact ⟨hi, fd_fr_tr f0 (fd_fr_mono hf (by decide)), xx⟩
        ·
          have d_15 := Int32.lt_iff_toInt_lt.mp (Int32.not_le.mp c_13)
          refine fd_ok_gd (vp_in_iff.mpr ⟨by omega, by omega⟩) ?_
          refine fd_ok_ite (fun c_16 => ?_) (fun c_16 => ?_)
          ·
            have d_17 := congrArg Int32.toInt c_16
            have x_18 : 0 ≤ y1.toInt ∧ y1.toInt ≤ y1.toInt + 1 := by omega
            exact fd_ok_some ⟨i0, f0, x_18⟩
          ·
            try unfold f_X11_insert_27_J34
            refine fd_ok_mono (s_X11_insert_27_L37 N hN N _ _ _ _ _ i0 (by omega) (by omega) (by omega) (by omega) (by omega) (by omega) (by omega) (by omega)) ?_
            rintro v s ⟨hi, hf, hx⟩
            have xx : 0 ≤ v.toInt ∧ v.toInt ≤ y1.toInt + 1 := by omega
            exact ⟨hi, fd_fr_tr f0 (fd_fr_mono hf (by decide)), xx⟩
      ·
        have d_20 := Int32.lt_iff_toInt_lt.mp (Int32.not_le.mp c_11)
        refine fd_ok_lt (fun x14_21 ex14_21 => ?_)
        have t_22 := fd_la ex14_21 (by omega) (by omega)
        refine fd_ok_mono (ih _ _ _ _ i0 (by omega) (by omega) (by omega) (by omega) (by omega) (by omega)) ?_
        rintro v s ⟨hi, hf, hx⟩
        have xx : 0 ≤ v.toInt ∧ v.toInt ≤ y1.toInt + 1 := by omega
        exact ⟨hi, fd_fr_tr f0 hf, xx⟩
set_option maxHeartbeats 4000000 in
theorem s_X11_insert_28_L37 (N : Nat) (hN : 1000 ≤ N) : ∀ (n : Nat) (y1 : Int32) (y2 : Int32) (y3 : Int32) (y4 : Int32) (σ : fd_St), fd_InvM σ → (0 ≤ y1.toInt) → (y1.toInt ≤ 121) → (0 ≤ y3.toInt) → (y3.toInt ≤ 121) → (0 ≤ y4.toInt) → (y4.toInt ≤ 121) → (y3.toInt ≤ y4.toInt) → y4.toInt < (n : Int) → fd_ok (f_X11_insert_28_L37 N n y1 y2 y3 y4 σ) (fun v s => fd_InvM s ∧ fd_fr [128] σ s ∧ (v.toInt = y1.toInt + 1)) := by
  have litm1 : (-1 : Int32).toInt = -1 := by decide
  have lit0 : (0 : Int32).toInt = 0 := by decide
  have lit1 : (1 : Int32).toInt = 1 := by decide
  intro n
  induction n with
  | zero =>
    intro y1 y2 y3 y4 σ i0 h0 h1 h2 h3 h4 h5 h6 hm
    omega
  | succ n ih =>
    intro y1 y2 y3 y4 σ i0 h0 h1 h2 h3 h4 h5 h6 hm
    have f0 : fd_fr [128] σ σ := fd_fr_rf
    unfold f_X11_insert_28_L37
    refine fd_ok_ite (fun c_1 => ?_) (fun c_1 => ?_)
    ·
      have d_2 := Int32.le_iff_toInt_le.mp c_1
      refine fd_ok_gd (vp_in_iff.mpr ⟨by omega, by omega⟩) ?_
      refine fd_ok_lt (fun σ5_3 eσ5_3 => ?_)
      have i_4 : fd_InvM σ5_3 := fd_inv_sA eσ5_3 i0 (by decide) (by decide) (fd_rng _)
      have f_5 : fd_fr [128] σ σ5_3 := fd_fr_tr f0 (fd_fr_sA eσ5_3 (by decide))
      have u_6 := Jvm.Kit.i32_add (x := y1) (y := (1 : Int32)) (by omega) (by omega)
      have x_7 : (y1 + (1 : Int32)).toInt = y1.toInt + 1 := by omega
      exact fd_ok_some ⟨i_4, f_5, x_7⟩
    ·
      have d_8 := Int32.lt_iff_toInt_lt.mp (Int32.not_le.mp c_1)
      have u_9 := Jvm.Kit.i32_sub (x := y4) (y := (1 : Int32)) (by omega) (by omega)
      refine fd_ok_gd (vp_in_iff.mpr ⟨by omega, by omega⟩) ?_
      refine fd_ok_gd (vp_in_iff.mpr ⟨by omega, by omega⟩) ?_
      refine fd_ok_lt (fun σ8_10 eσ8_10 => ?_)
      have i_11 : fd_InvM σ8_10 := fd_inv_sA eσ8_10 i0 (by decide) (by decide) (fd_rng _)
      have f_12 : fd_fr [128] σ σ8_10 := fd_fr_tr f0 (fd_fr_sA eσ8_10 (by decide))
      refine fd_ok_lt (fun x9_13 ex9_13 => ?_)
      have t_14 := fd_la ex9_13 (by omega) (by omega)
      refine fd_ok_mono (ih _ _ _ _ _ i_11 (by omega) (by omega) (by omega) (by omega) (by omega) (by omega) (by omega) (by omega)) ?_
      rintro v s ⟨hi, hf, hx⟩
      have xx : v.toInt = y1.toInt + 1 := by omega
      exact ⟨hi, fd_fr_tr f_12 hf, xx⟩
set_option maxHeartbeats 4000000 in
theorem s_X11_insert_28_L2 (N : Nat) (hN : 1000 ≤ N) : ∀ (n : Nat) (y1 : Int32) (y2 : Int32) (y3 : Int32) (σ : fd_St), fd_InvM σ → (0 ≤ y1.toInt) → (y1.toInt ≤ 121) → (0 ≤ y3.toInt) → (y3.toInt ≤ 121) → (y3.toInt ≤ y1.toInt) → 121 - y3.toInt < (n : Int) → fd_ok (f_X11_insert_28_L2 N n y1 y2 y3 σ) (fun v s => fd_InvM s ∧ fd_fr [128] σ s ∧ (0 ≤ v.toInt ∧ v.toInt ≤ y1.toInt + 1)) := by
  have lit0 : (0 : Int32).toInt = 0 := by decide
  have lit1 : (1 : Int32).toInt = 1 := by decide
  intro n
  induction n with
  | zero =>
    intro y1 y2 y3 σ i0 h0 h1 h2 h3 h4 hm
    omega
  | succ n ih =>
    intro y1 y2 y3 σ i0 h0 h1 h2 h3 h4 hm
    have f0 : fd_fr [128] σ σ := fd_fr_rf
    unfold f_X11_insert_28_L2
    refine fd_ok_ite (fun c_1 => ?_) (fun c_1 => ?_)
    ·
      have d_2 := Int32.le_iff_toInt_le.mp c_1
      try unfold f_X11_insert_28_J20
      refine fd_ok_ite (fun c_3 => ?_) (fun c_3 => ?_)
      ·
        have d_4 := Int32.le_iff_toInt_le.mp c_3
        try unfold f_X11_insert_28_J34
        refine fd_ok_mono (s_X11_insert_28_L37 N hN N _ _ _ _ _ i0 (by omega) (by omega) (by omega) (by omega) (by omega) (by omega) (by omega) (by omega)) ?_
        rintro v s ⟨hi, hf, hx⟩
        have xx : 0 ≤ v.toInt ∧ v.toInt ≤ y1.toInt + 1 := by omega
        exact ⟨hi, fd_fr_tr f0 (fd_fr_mono hf (by decide)), xx⟩
      ·
        have d_5 := Int32.lt_iff_toInt_lt.mp (Int32.not_le.mp c_3)
        refine fd_ok_gd (vp_in_iff.mpr ⟨by omega, by omega⟩) ?_
        refine fd_ok_ite (fun c_6 => ?_) (fun c_6 => ?_)
        ·
          have d_7 := congrArg Int32.toInt c_6
          have x_8 : 0 ≤ y1.toInt ∧ y1.toInt ≤ y1.toInt + 1 := by omega
          exact fd_ok_some ⟨i0, f0, x_8⟩
        ·
          try unfold f_X11_insert_28_J34
          refine fd_ok_mono (s_X11_insert_28_L37 N hN N _ _ _ _ _ i0 (by omega) (by omega) (by omega) (by omega) (by omega) (by omega) (by omega) (by omega)) ?_
          rintro v s ⟨hi, hf, hx⟩
          have xx : 0 ≤ v.toInt ∧ v.toInt ≤ y1.toInt + 1 := by omega
          exact ⟨hi, fd_fr_tr f0 (fd_fr_mono hf (by decide)), xx⟩
    ·
      have d_10 := Int32.lt_iff_toInt_lt.mp (Int32.not_le.mp c_1)
      refine fd_ok_gd (vp_in_iff.mpr ⟨by omega, by omega⟩) ?_
      refine fd_ok_ite (fun c_11 => ?_) (fun c_11 => ?_)
      ·
        have d_12 := Int32.le_iff_toInt_le.mp c_11
        try unfold f_X11_insert_28_J20
        refine fd_ok_ite (fun c_13 => ?_) (fun c_13 => ?_)
        ·
          have d_14 := Int32.le_iff_toInt_le.mp c_13
          try unfold f_X11_insert_28_J34
          refine fd_ok_mono (s_X11_insert_28_L37 N hN N _ _ _ _ _ i0 (by omega) (by omega) (by omega) (by omega) (by omega) (by omega) (by omega) (by omega)) ?_
          rintro v s ⟨hi, hf, hx⟩
          have xx : 0 ≤ v.toInt ∧ v.toInt ≤ y1.toInt + 1 := by omega
          exact ⟨hi, fd_fr_tr f0 (fd_fr_mono hf (by decide)), xx⟩
        ·
          have d_15 := Int32.lt_iff_toInt_lt.mp (Int32.not_le.mp c_13)
          refine fd_ok_gd (vp_in_iff.mpr ⟨by omega, by omega⟩) ?_
          refine fd_ok_ite (fun c_16 => ?_) (fun c_16 => ?_)
          ·
            have d_17 := congrArg Int32.toInt c_16
            have x_18 : 0 ≤ y1.toInt ∧ y1.toInt ≤ y1.toInt + 1 := by omega
            exact fd_ok_some ⟨i0, f0, x_18⟩
          ·
            try unfold f_X11_insert_28_J34
            refine fd_ok_mono (s_X11_insert_28_L37 N hN N _ _ _ _ _ i0 (by omega) (by omega) (by omega) (by omega) (by omega) (by omega) (by omega) (by omega)) ?_
            rintro v s ⟨hi, hf, hx⟩
            have xx : 0 ≤ v.toInt ∧ v.toInt ≤ y1.toInt + 1 := by omega
            exact ⟨hi, fd_fr_tr f0 (fd_fr_mono hf (by decide)), xx⟩
      ·
        have d_20 := Int32.lt_iff_toInt_lt.mp (Int32.not_le.mp c_11)
        refine fd_ok_lt (fun x14_21 ex14_21 => ?_)
        have t_22 := fd_la ex14_21 (by omega) (by omega)
        refine fd_ok_mono (ih _ _ _ _ i0 (by omega) (by omega) (by omega) (by omega) (by omega) (by omega)) ?_
        rintro v s ⟨hi, hf, hx⟩
        have xx : 0 ≤ v.toInt ∧ v.toInt ≤ y1.toInt + 1 := by omega
        exact ⟨hi, fd_fr_tr f0 hf, xx⟩
