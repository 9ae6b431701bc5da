set_option maxHeartbeats 4000000 in
theorem s_X8_add_5_8 (N : Nat) (hN : 1000 ≤ N) (p1 : Int32) (p2 : Int32) (σ : fd_St) (i0 : fd_InvC σ) (h0 : 0 ≤ p1.toInt) (h1 : p1.toInt ≤ 3) (h2 : 0 ≤ p2.toInt) (h3 : p2.toInt ≤ 199) (h4 : (σ.1 6).toInt ≤ 479) (h5 : 1 < p1.toInt → p2.toInt < 40) : fd_ok (f_X8_add_5_8 N p1 p2 σ) (fun v s => fd_InvC s ∧ fd_fr [6, 123, 124, 125, 126, 127, 128] σ s ∧ ((s.1 6).toInt = (σ.1 6).toInt + 1)) := by
  have lit0 : (0 : Int32).toInt = 0 := by decide
  have lit1 : (1 : Int32).toInt = 1 := by decide
  have f0 : fd_fr [6, 123, 124, 125, 126, 127, 128] σ σ := fd_fr_rf
  unfold f_X8_add_5_8
  have r_1 : (0 : Int) ≤ (σ.1 6).toInt ∧ (σ.1 6).toInt ≤ 480 := i0.1 6
  refine fd_ok_gd (vp_in_iff.mpr ⟨by omega, by omega⟩) ?_
  refine fd_ok_lt (fun σ2_2 eσ2_2 => ?_)
  have f_4 : fd_fr [6, 123, 124, 125, 126, 127, 128] σ σ2_2 := fd_fr_tr f0 (fd_fr_sA eσ2_2 (by decide))
  have t_5 : (σ2_2.1 6).toInt = (σ.1 6).toInt := by subst eσ2_2; rfl
  have i_6 : (∀ k, fd_loC k ≤ (σ2_2.1 k).toInt ∧ (σ2_2.1 k).toInt ≤ fd_hiC k) ∧ (∀ c i, fd_laC c ≤ (σ2_2.2.1 c i).toInt ∧ (σ2_2.2.1 c i).toInt ≤ fd_haC c) ∧ True := by rw [eσ2_2]; exact ⟨i0.1, fd_inv_u i0.2.1 ⟨(by omega : (0 : Int) ≤ p1.toInt), (by omega : p1.toInt ≤ 3)⟩, trivial⟩
  have r_7 : (0 : Int) ≤ (σ2_2.1 6).toInt ∧ (σ2_2.1 6).toInt ≤ 480 := i_6.1 6
  refine fd_ok_gd (vp_in_iff.mpr ⟨by omega, by omega⟩) ?_
  refine fd_ok_lt (fun σ4_8 eσ4_8 => ?_)
  have i_9 : fd_InvC σ4_8 := fd_inv_s2 eσ2_2 eσ4_8 i0 (by subst eσ2_2; rfl) (by decide) ⟨(by omega : (0 : Int) ≤ p1.toInt), (by omega : p1.toInt ≤ 3)⟩ ⟨(by omega : (0 : Int) ≤ p2.toInt), (by omega : p2.toInt ≤ 199)⟩ (by omega)
  have f_10 : fd_fr [6, 123, 124, 125, 126, 127, 128] σ σ4_8 := fd_fr_tr f_4 (fd_fr_sA eσ4_8 (by decide))
  have t_11 : (σ4_8.1 6).toInt = (σ2_2.1 6).toInt := by subst eσ4_8; rfl
  refine fd_ok_bd ?_
  try unfold f_X9_explained_8
  refine fd_ok_pb ?_
  have r_12 : (0 : Int) ≤ (σ4_8.1 6).toInt ∧ (σ4_8.1 6).toInt ≤ 480 := i_9.1 6
  refine fd_ok_gd (vp_in_iff.mpr ⟨by omega, by omega⟩) ?_
  refine fd_ok_lt (fun σ11_13 eσ11_13 => ?_)
  have i_14 : fd_InvC σ11_13 := fd_inv_sA eσ11_13 i_9 (by decide) (by decide) (fd_rng _)
  have f_15 : fd_fr [6, 123, 124, 125, 126, 127, 128] σ σ11_13 := fd_fr_tr f_10 (fd_fr_sA eσ11_13 (by decide))
  have t_16 : (σ11_13.1 6).toInt = (σ4_8.1 6).toInt := by subst eσ11_13; rfl
  refine fd_ok_bd ?_
  try unfold f_X9_missed_8
  refine fd_ok_pb ?_
  have r_17 : (0 : Int) ≤ (σ11_13.1 6).toInt ∧ (σ11_13.1 6).toInt ≤ 480 := i_14.1 6
  refine fd_ok_gd (vp_in_iff.mpr ⟨by omega, by omega⟩) ?_
  refine fd_ok_lt (fun σ18_18 eσ18_18 => ?_)
  have i_19 : fd_InvC σ18_18 := fd_inv_sA eσ18_18 i_14 (by decide) (by decide) (fd_rng _)
  have f_20 : fd_fr [6, 123, 124, 125, 126, 127, 128] σ σ18_18 := fd_fr_tr f_15 (fd_fr_sA eσ18_18 (by decide))
  have t_21 : (σ18_18.1 6).toInt = (σ11_13.1 6).toInt := by subst eσ18_18; rfl
  refine fd_ok_bd ?_
  try unfold f_X9_wrong_8
  refine fd_ok_pb ?_
  have r_22 : (0 : Int) ≤ (σ18_18.1 6).toInt ∧ (σ18_18.1 6).toInt ≤ 480 := i_19.1 6
  refine fd_ok_gd (vp_in_iff.mpr ⟨by omega, by omega⟩) ?_
  refine fd_ok_lt (fun σ25_23 eσ25_23 => ?_)
  have i_24 : fd_InvC σ25_23 := fd_inv_sA eσ25_23 i_19 (by decide) (by decide) (fd_rng _)
  have f_25 : fd_fr [6, 123, 124, 125, 126, 127, 128] σ σ25_23 := fd_fr_tr f_20 (fd_fr_sA eσ25_23 (by decide))
  have t_26 : (σ25_23.1 6).toInt = (σ18_18.1 6).toInt := by subst eσ25_23; rfl
  have r_28 : (0 : Int) ≤ (σ25_23.1 6).toInt ∧ (σ25_23.1 6).toInt ≤ 480 := i_24.1 6
  refine fd_ok_lt (fun x26_27 ex26_27 => ?_)
  have t_29 : x26_27.toInt = (σ25_23.1 6).toInt := congrArg Int32.toInt ex26_27
  refine fd_ok_mono (s_X8_add_5_8_L65 N hN N _ _ i_24 (by omega) (by omega) (by omega) (by omega)) ?_
  rintro v s ⟨hi, hf, hx⟩
  have xx : (s.1 6).toInt = (σ.1 6).toInt + 1 := by omega
  exact ⟨hi, fd_fr_tr f_25 (fd_fr_mono hf (by decide)), xx⟩
set_option maxHeartbeats 4000000 in
theorem s_X1_mayBeStuck_10_L30 (N : Nat) (hN : 1000 ≤ N) : ∀ (n : Nat) (y3 : Int64) (y5 : Int64) (y7 : Int64) (y9 : Int32) (σ : fd_St), fd_InvC σ → (0 ≤ y9.toInt) → (y9.toInt ≤ 30) → 30 - y9.toInt < (n : Int) → fd_ok (f_X1_mayBeStuck_10_L30 N n y3 y5 y7 y9 σ) (fun v s => fd_InvC s ∧ fd_fr [] σ s ∧ (True)) := by
  have lit0 : (0 : Int32).toInt = 0 := by decide
  have lit1 : (1 : Int32).toInt = 1 := by decide
  intro n
  induction n with
  | zero =>
    intro y3 y5 y7 y9 σ i0 h0 h1 hm
    omega
  | succ n ih =>
    intro y3 y5 y7 y9 σ i0 h0 h1 hm
    have f0 : fd_fr [] σ σ := fd_fr_rf
    unfold f_X1_mayBeStuck_10_L30
    have r_1 : (0 : Int) ≤ (σ.1 17).toInt ∧ (σ.1 17).toInt ≤ 30 := i0.1 17
    refine fd_ok_ite (fun c_2 => ?_) (fun c_2 => ?_)
    ·
      have d_3 := Int32.le_iff_toInt_le.mp c_2
      exact fd_ok_some ⟨i0, f0, trivial⟩
    ·
      have d_4 := Int32.lt_iff_toInt_lt.mp (Int32.not_le.mp c_2)
      refine fd_ok_gd (vp_in_iff.mpr ⟨by omega, by omega⟩) ?_
      refine fd_ok_lt (fun x14_5 ex14_5 => ?_)
      refine fd_ok_gd (vp_in_iff.mpr ⟨by omega, by omega⟩) ?_
      refine fd_ok_ite (fun c_6 => ?_) (fun c_6 => ?_)
      ·
        refine fd_ok_lt (fun x17_8 ex17_8 => ?_)
        have t_9 := fd_la ex17_8 (by omega) (by omega)
        refine fd_ok_mono (ih _ _ _ _ _ i0 (by omega) (by omega) (by omega)) ?_
        rintro v s ⟨hi, hf, hx⟩
        exact ⟨hi, fd_fr_tr f0 hf, trivial⟩
      ·
        exact fd_ok_some ⟨i0, f0, trivial⟩
set_option maxHeartbeats 4000000 in
theorem s_X1_mayBeStuck_10 (N : Nat) (hN : 1000 ≤ N) (p1 : Int32) (p2 : Int32) (σ : fd_St) (i0 : fd_InvC σ) : fd_ok (f_X1_mayBeStuck_10 N p1 p2 σ) (fun v s => fd_InvC s ∧ fd_fr [] σ s ∧ (True)) := by
  have lit0 : (0 : Int32).toInt = 0 := by decide
  have lit1 : (1 : Int32).toInt = 1 := by decide
  have f0 : fd_fr [] σ σ := fd_fr_rf
  unfold f_X1_mayBeStuck_10
  refine fd_ok_bd ?_
  try unfold f_X1_upTo
  refine fd_ok_pb ?_
  refine fd_ok_bd ?_
  try unfold f_X1_upTo
  refine fd_ok_pb ?_
  refine fd_ok_ite (fun c_1 => ?_) (fun c_1 => ?_)
  ·
    have d_2 := congrArg Int32.toInt c_1
    try unfold f_X1_mayBeStuck_10_J25
    refine fd_ok_mono (s_X1_mayBeStuck_10_L30 N hN N _ _ _ _ _ i0 (by omega) (by omega) (by omega)) ?_
    rintro v s ⟨hi, hf, hx⟩
    exact ⟨hi, fd_fr_tr f0 (fd_fr_mono hf (by decide)), trivial⟩
  ·
    have d_3 : ¬ p2.toInt = (0 : Int32).toInt := fun q => c_1 (Int32.toInt_inj.mp q)
    try unfold f_X1_mayBeStuck_10_J25
    refine fd_ok_mono (s_X1_mayBeStuck_10_L30 N hN N _ _ _ _ _ i0 (by omega) (by omega) (by omega)) ?_
    rintro v s ⟨hi, hf, hx⟩
    exact ⟨hi, fd_fr_tr f0 (fd_fr_mono hf (by decide)), trivial⟩
set_option maxHeartbeats 4000000 in
theorem s0_X1_greatestStuckAt_10_L7 (N : Nat) (hN : 1000 ≤ N) : ∀ (n : Nat) (y1 : Int32) (y2 : Int32) (σ : fd_St), fd_InvC σ → (-1 ≤ y2.toInt) → (y2.toInt ≤ 64) → y2.toInt + 1 < (n : Int) → fd_ok (f_X1_greatestStuckAt_10_L7 N n y1 y2 σ) (fun v s => fd_InvC s ∧ fd_fr [] σ s ∧ (True)) := by
  have litm1 : (-1 : Int32).toInt = -1 := by decide
  have lit0 : (0 : Int32).toInt = 0 := by decide
  have lit1 : (1 : Int32).toInt = 1 := by decide
  intro n
  induction n with
  | zero =>
    intro y1 y2 σ i0 h0 h1 hm
    omega
  | succ n ih =>
    intro y1 y2 σ i0 h0 h1 hm
    have f0 : fd_fr [] σ σ := fd_fr_rf
    unfold f_X1_greatestStuckAt_10_L7
    refine fd_ok_ite (fun c_1 => ?_) (fun c_1 => ?_)
    ·
      have d_2 := Int32.lt_iff_toInt_lt.mp c_1
      exact fd_ok_some ⟨i0, f0, trivial⟩
    ·
      have d_3 := Int32.le_iff_toInt_le.mp (Int32.not_lt.mp c_1)
      refine fd_ok_bd ?_
      refine fd_ok_cl (s_X1_mayBeStuck_10 N hN _ _ _ i0) ?_
      rintro v_4 σ_5 ⟨i_6, g_7, x_8⟩
      have f_9 : fd_fr [] σ σ_5 := fd_fr_tr f0 (fd_fr_mono g_7 (by decide))
      refine fd_ok_ite (fun c_10 => ?_) (fun c_10 => ?_)
      ·
        have d_11 := congrArg Int32.toInt c_10
        refine fd_ok_lt (fun x9_12 ex9_12 => ?_)
        have t_13 := fd_la ex9_12 (by omega) (by omega)
        refine fd_ok_mono (ih _ _ _ i_6 (by omega) (by omega) (by omega)) ?_
        rintro v s ⟨hi, hf, hx⟩
        exact ⟨hi, fd_fr_tr f_9 hf, trivial⟩
      ·
        have d_14 : ¬ v_4.toInt = (0 : Int32).toInt := fun q => c_10 (Int32.toInt_inj.mp q)
        exact fd_ok_some ⟨i_6, f_9, trivial⟩
theorem s_X1_greatestStuckAt_10_L7 (N : Nat) (hN : 1000 ≤ N) : ∀ (n : Nat) (y1 : Int32) (y2 : Int32) (σ : fd_St), fd_InvC σ → (-1 ≤ y2.toInt) → (y2.toInt ≤ 64) → y2.toInt + 1 < (n : Int) → fd_ok (f_X1_greatestStuckAt_10_L7 N n y1 y2 σ) (fun v s => fd_InvC s ∧ fd_fr [] σ s ∧ (y2.toInt < (σ.1 16).toInt → (σ.1 16).toInt ≤ 64 → (∀ c, c < (σ.1 16).toNatClampNeg → y2.toInt < (c : Int) → ¬ fd_mC σ (decide (y1 ≠ 0)) c) → fd_sp (fd_mC σ (decide (y1 ≠ 0))) (σ.1 16).toNatClampNeg true v.toInt)) := fun n y1 y2 σ i0 h0 h1 hm => fd_ok_x (s0_X1_greatestStuckAt_10_L7 N hN n y1 y2 σ i0 h0 h1 hm) (fun v s h => q_X1_greatestStuckAt_10_L7 n y1 y2 σ v s h)
set_option maxHeartbeats 4000000 in
theorem s0_X1_leastStuckAt_10_L2 (N : Nat) (hN : 1000 ≤ N) : ∀ (n : Nat) (y1 : Int32) (y2 : Int32) (σ : fd_St), fd_InvC σ → (0 ≤ y2.toInt) → (y2.toInt ≤ 64) → 64 - y2.toInt < (n : Int) → fd_ok (f_X1_leastStuckAt_10_L2 N n y1 y2 σ) (fun v s => fd_InvC s ∧ fd_fr [] σ s ∧ (True)) := by
  have lit0 : (0 : Int32).toInt = 0 := by decide
  have lit1 : (1 : Int32).toInt = 1 := by decide
  intro n
  induction n with
  | zero =>
    intro y1 y2 σ i0 h0 h1 hm
    omega
  | succ n ih =>
    intro y1 y2 σ i0 h0 h1 hm
    have f0 : fd_fr [] σ σ := fd_fr_rf
    unfold f_X1_leastStuckAt_10_L2
    have r_1 : (0 : Int) ≤ (σ.1 16).toInt ∧ (σ.1 16).toInt ≤ 64 := i0.1 16
    refine fd_ok_ite (fun c_2 => ?_) (fun c_2 => ?_)
    ·
      have d_3 := Int32.le_iff_toInt_le.mp c_2
      exact fd_ok_some ⟨i0, f0, trivial⟩
    ·
      have d_4 := Int32.lt_iff_toInt_lt.mp (Int32.not_le.mp c_2)
      refine fd_ok_bd ?_
      refine fd_ok_cl (s_X1_mayBeStuck_10 N hN _ _ _ i0) ?_
      rintro v_5 σ_6 ⟨i_7, g_8, x_9⟩
      have f_10 : fd_fr [] σ σ_6 := fd_fr_tr f0 (fd_fr_mono g_8 (by decide))
      have t_11 : (σ_6.1 16).toInt = (σ.1 16).toInt := congrArg Int32.toInt (g_8.1 16 (by decide))
      refine fd_ok_ite (fun c_12 => ?_) (fun c_12 => ?_)
      ·
        have d_13 := congrArg Int32.toInt c_12
        refine fd_ok_lt (fun x8_14 ex8_14 => ?_)
        have t_15 := fd_la ex8_14 (by omega) (by omega)
        refine fd_ok_mono (ih _ _ _ i_7 (by omega) (by omega) (by omega)) ?_
        rintro v s ⟨hi, hf, hx⟩
        exact ⟨hi, fd_fr_tr f_10 hf, trivial⟩
      ·
        have d_16 : ¬ v_5.toInt = (0 : Int32).toInt := fun q => c_12 (Int32.toInt_inj.mp q)
        exact fd_ok_some ⟨i_7, f_10, trivial⟩
theorem s_X1_leastStuckAt_10_L2 (N : Nat) (hN : 1000 ≤ N) : ∀ (n : Nat) (y1 : Int32) (y2 : Int32) (σ : fd_St), fd_InvC σ → (0 ≤ y2.toInt) → (y2.toInt ≤ 64) → 64 - y2.toInt < (n : Int) → fd_ok (f_X1_leastStuckAt_10_L2 N n y1 y2 σ) (fun v s => fd_InvC s ∧ fd_fr [] σ s ∧ (0 ≤ y2.toInt → (σ.1 16).toInt ≤ 64 → (∀ c, c < y2.toNatClampNeg → ¬ fd_mC σ (decide (y1 ≠ 0)) c) → fd_sp (fd_mC σ (decide (y1 ≠ 0))) (σ.1 16).toNatClampNeg false v.toInt)) := fun n y1 y2 σ i0 h0 h1 hm => fd_ok_x (s0_X1_leastStuckAt_10_L2 N hN n y1 y2 σ i0 h0 h1 hm) (fun v s h => q_X1_leastStuckAt_10_L2 n y1 y2 σ v s h)
set_option maxHeartbeats 4000000 in
theorem s0_X6_shapesOf_11_L4 (N : Nat) (hN : 1000 ≤ N) : ∀ (n : Nat) (y1 : Int32) (y2 : Int32) (y3 : Int32) (σ : fd_St), fd_InvC σ → (0 ≤ y3.toInt) → (y3.toInt ≤ 60) → 60 - y3.toInt < (n : Int) → fd_ok (f_X6_shapesOf_11_L4 N n y1 y2 y3 σ) (fun v s => fd_InvC s ∧ fd_fr [] σ s ∧ (True)) := by
  have lit0 : (0 : Int32).toInt = 0 := by decide
  have lit1 : (1 : Int32).toInt = 1 := by decide
  intro n
  induction n with
  | zero =>
    intro y1 y2 y3 σ i0 h0 h1 hm
    omega
  | succ n ih =>
    intro y1 y2 y3 σ i0 h0 h1 hm
    have f0 : fd_fr [] σ σ := fd_fr_rf
    unfold f_X6_shapesOf_11_L4
    have r_1 : (0 : Int) ≤ (σ.1 18).toInt ∧ (σ.1 18).toInt ≤ 60 := i0.1 18
    refine fd_ok_ite (fun c_2 => ?_) (fun c_2 => ?_)
    ·
      have d_3 := Int32.le_iff_toInt_le.mp c_2
      exact fd_ok_some ⟨i0, f0, trivial⟩
    ·
      have d_4 := Int32.lt_iff_toInt_lt.mp (Int32.not_le.mp c_2)
      refine fd_ok_gd (vp_in_iff.mpr ⟨by omega, by omega⟩) ?_
      refine fd_ok_ite (fun c_5 => ?_) (fun c_5 => ?_)
      ·
        have d_6 := congrArg Int32.toInt c_5
        refine fd_ok_lt (fun x5_7 ex5_7 => ?_)
        have t_8 : x5_7.toInt = (y2 + (1 : Int32)).toInt := congrArg Int32.toInt ex5_7
        try unfold f_X6_shapesOf_11_J25
        refine fd_ok_lt (fun x4_9 ex4_9 => ?_)
        have t_10 := fd_la ex4_9 (by omega) (by omega)
        refine fd_ok_mono (ih _ _ _ _ i0 (by omega) (by omega) (by omega)) ?_
        rintro v s ⟨hi, hf, hx⟩
        exact ⟨hi, fd_fr_tr f0 hf, trivial⟩
      ·
        try unfold f_X6_shapesOf_11_J25
        refine fd_ok_lt (fun x4_12 ex4_12 => ?_)
        have t_13 := fd_la ex4_12 (by omega) (by omega)
        refine fd_ok_mono (ih _ _ _ _ i0 (by omega) (by omega) (by omega)) ?_
        rintro v s ⟨hi, hf, hx⟩
        exact ⟨hi, fd_fr_tr f0 hf, trivial⟩
theorem s_X6_shapesOf_11_L4 (N : Nat) (hN : 1000 ≤ N) : ∀ (n : Nat) (y1 : Int32) (y2 : Int32) (y3 : Int32) (σ : fd_St), fd_InvC σ → (0 ≤ y3.toInt) → (y3.toInt ≤ 60) → 60 - y3.toInt < (n : Int) → fd_ok (f_X6_shapesOf_11_L4 N n y1 y2 y3 σ) (fun v s => fd_InvC s ∧ fd_fr [] σ s ∧ (v = fd_cl (σ.1 18) (σ.2.1 32) y1 n y2 y3)) := fun n y1 y2 y3 σ i0 h0 h1 hm => fd_ok_x (s0_X6_shapesOf_11_L4 N hN n y1 y2 y3 σ i0 h0 h1 hm) (fun v s h => q_X6_shapesOf_11_L4 n y1 y2 y3 σ v s h)
set_option maxHeartbeats 4000000 in
theorem s_X6_putEdge_11_L2 (N : Nat) (hN : 1000 ≤ N) : ∀ (n : Nat) (y1 : Int32) (y3 : Int32) (σ : fd_St), fd_InvC σ → (0 ≤ y3.toInt) → (y3.toInt ≤ 119) → y3.toInt < (n : Int) → fd_ok (f_X6_putEdge_11_L2 N n y1 y3 σ) (fun v s => fd_InvC s ∧ fd_fr [138] σ s ∧ (True)) := by
  have litm1 : (-1 : Int32).toInt = -1 := by decide
  have lit0 : (0 : Int32).toInt = 0 := by decide
  have lit1 : (1 : Int32).toInt = 1 := by decide
  intro n
  induction n with
  | zero =>
    intro y1 y3 σ i0 h0 h1 hm
    omega
  | succ n ih =>
    intro y1 y3 σ i0 h0 h1 hm
    have f0 : fd_fr [138] σ σ := fd_fr_rf
    unfold f_X6_putEdge_11_L2
    refine fd_ok_ite (fun c_1 => ?_) (fun c_1 => ?_)
    ·
      have d_2 := Int32.le_iff_toInt_le.mp c_1
      try unfold f_X6_putEdge_11_J38
      refine fd_ok_gd (vp_in_iff.mpr ⟨by omega, by omega⟩) ?_
      refine fd_ok_lt (fun σ3_3 eσ3_3 => ?_)
      have i_4 : fd_InvC σ3_3 := fd_inv_sA eσ3_3 i0 (by decide) (by decide) (fd_rng _)
      have f_5 : fd_fr [138] σ σ3_3 := fd_fr_tr f0 (fd_fr_sA eσ3_3 (by decide))
      exact fd_ok_some ⟨i_4, f_5, trivial⟩
    ·
      have d_6 := Int32.lt_iff_toInt_lt.mp (Int32.not_le.mp c_1)
      have u_7 := Jvm.Kit.i32_sub (x := y3) (y := (1 : Int32)) (by omega) (by omega)
      refine fd_ok_gd (vp_in_iff.mpr ⟨by omega, by omega⟩) ?_
      refine fd_ok_ite (fun c_8 => ?_) (fun c_8 => ?_)
      ·
        have d_9 := Int32.le_iff_toInt_le.mp c_8
        try unfold f_X6_putEdge_11_J38
        refine fd_ok_gd (vp_in_iff.mpr ⟨by omega, by omega⟩) ?_
        refine fd_ok_lt (fun σ3_10 eσ3_10 => ?_)
        have i_11 : fd_InvC σ3_10 := fd_inv_sA eσ3_10 i0 (by decide) (by decide) (fd_rng _)
        have f_12 : fd_fr [138] σ σ3_10 := fd_fr_tr f0 (fd_fr_sA eσ3_10 (by decide))
        exact fd_ok_some ⟨i_11, f_12, trivial⟩
      ·
        have d_13 := Int32.lt_iff_toInt_lt.mp (Int32.not_le.mp c_8)
        refine fd_ok_gd (vp_in_iff.mpr ⟨by omega, by omega⟩) ?_
        refine fd_ok_gd (vp_in_iff.mpr ⟨by omega, by omega⟩) ?_
        refine fd_ok_lt (fun σ8_14 eσ8_14 => ?_)
        have i_15 : fd_InvC σ8_14 := fd_inv_sA eσ8_14 i0 (by decide) (by decide) (fd_rng _)
        have f_16 : fd_fr [138] σ σ8_14 := fd_fr_tr f0 (fd_fr_sA eσ8_14 (by decide))
        refine fd_ok_lt (fun x9_17 ex9_17 => ?_)
        have t_18 := fd_la ex9_17 (by omega) (by omega)
        refine fd_ok_mono (ih _ _ _ i_15 (by omega) (by omega) (by omega)) ?_
        rintro v s ⟨hi, hf, hx⟩
        exact ⟨hi, fd_fr_tr f_16 hf, trivial⟩
