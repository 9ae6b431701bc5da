set_option maxHeartbeats 4000000 in
theorem s0_X2_counted_1 (N : Nat) (hN : 1000 ≤ N) (σ : fd_St) (i0 : fd_InvC σ) : fd_ok (f_X2_counted_1 N σ) (fun v s => fd_InvC s ∧ fd_fr [] σ s ∧ (True)) := by
  have lit0 : (0 : Int32).toInt = 0 := by decide
  have lit1 : (1 : Int32).toInt = 1 := by decide
  have f0 : fd_fr [] σ σ := fd_fr_rf
  unfold f_X2_counted_1
  have r_1 : (0 : Int) ≤ (σ.1 3).toInt ∧ (σ.1 3).toInt ≤ 64 := i0.1 3
  refine fd_ok_ite (fun c_2 => ?_) (fun c_2 => ?_)
  ·
    have d_3 := congrArg Int32.toInt c_2
    exact fd_ok_some ⟨i0, f0, trivial⟩
  ·
    have d_4 : ¬ (σ.1 3).toInt = (0 : Int32).toInt := fun q => c_2 (Int32.toInt_inj.mp q)
    exact fd_ok_some ⟨i0, f0, trivial⟩
theorem s_X2_counted_1 (N : Nat) (hN : 1000 ≤ N) (σ : fd_St) (i0 : fd_InvC σ) : fd_ok (f_X2_counted_1 N σ) (fun v s => fd_InvC s ∧ fd_fr [] σ s ∧ (v = fd_ct (σ.1 3))) := fd_ok_x (s0_X2_counted_1 N hN σ i0 ) (fun v s h => q_X2_counted_1 h)
set_option maxHeartbeats 4000000 in
theorem s0_X2_gateRow_1_15 (N : Nat) (hN : 1000 ≤ N) (p1 : Int32) (σ : fd_St) (i0 : fd_InvC σ) (h0 : 0 ≤ p1.toInt) (h1 : p1.toInt ≤ 199) : fd_ok (f_X2_gateRow_1_15 N p1 σ) (fun v s => fd_InvC s ∧ fd_fr [] σ s ∧ (True)) := by
  have lit0 : (0 : Int32).toInt = 0 := by decide
  have lit1 : (1 : Int32).toInt = 1 := by decide
  have lit2 : (2 : Int32).toInt = 2 := by decide
  have lit3 : (3 : Int32).toInt = 3 := by decide
  have lit4 : (4 : Int32).toInt = 4 := by decide
  have lit5 : (5 : Int32).toInt = 5 := by decide
  have f0 : fd_fr [] σ σ := fd_fr_rf
  unfold f_X2_gateRow_1_15
  refine fd_ok_gd (vp_in_iff.mpr ⟨by omega, by omega⟩) ?_
  have r_1 : (0 : Int) ≤ (σ.2.1 13 p1.toNatClampNeg).toInt ∧ (σ.2.1 13 p1.toNatClampNeg).toInt ≤ 199 := i0.2.1 13 _
  refine fd_ok_gd (vp_in_iff.mpr ⟨by omega, by omega⟩) ?_
  refine fd_ok_lt (fun x3_2 ex3_2 => ?_)
  refine fd_ok_gd (vp_in_iff.mpr ⟨by omega, by omega⟩) ?_
  have r_3 : (0 : Int) ≤ (σ.2.1 14 p1.toNatClampNeg).toInt ∧ (σ.2.1 14 p1.toNatClampNeg).toInt ≤ 199 := i0.2.1 14 _
  refine fd_ok_gd (vp_in_iff.mpr ⟨by omega, by omega⟩) ?_
  refine fd_ok_lt (fun x6_4 ex6_4 => ?_)
  refine fd_ok_gd (vp_in_iff.mpr ⟨by omega, by omega⟩) ?_
  refine fd_ok_lt (fun x8_5 ex8_5 => ?_)
  have t_6 : x8_5.toInt = (σ.2.1 12 p1.toNatClampNeg).toInt := congrArg Int32.toInt ex8_5
  refine fd_ok_ite (fun c_7 => ?_) (fun c_7 => ?_)
  ·
    have d_8 := congrArg Int32.toInt c_7
    exact fd_ok_some ⟨i0, f0, trivial⟩
  ·
    have d_9 : ¬ x8_5.toInt = (0 : Int32).toInt := fun q => c_7 (Int32.toInt_inj.mp q)
    refine fd_ok_ite (fun c_10 => ?_) (fun c_10 => ?_)
    ·
      have d_11 := congrArg Int32.toInt c_10
      exact fd_ok_some ⟨i0, f0, trivial⟩
    ·
      refine fd_ok_ite (fun c_13 => ?_) (fun c_13 => ?_)
      ·
        have d_14 := congrArg Int32.toInt c_13
        exact fd_ok_some ⟨i0, f0, trivial⟩
      ·
        refine fd_ok_ite (fun c_16 => ?_) (fun c_16 => ?_)
        ·
          have d_17 := congrArg Int32.toInt c_16
          exact fd_ok_some ⟨i0, f0, trivial⟩
        ·
          refine fd_ok_ite (fun c_19 => ?_) (fun c_19 => ?_)
          ·
            have d_20 := congrArg Int32.toInt c_19
            exact fd_ok_some ⟨i0, f0, trivial⟩
          ·
            refine fd_ok_ite (fun c_22 => ?_) (fun c_22 => ?_)
            ·
              have d_23 := congrArg Int32.toInt c_22
              exact fd_ok_some ⟨i0, f0, trivial⟩
            ·
              have d_24 : ¬ x8_5.toInt = (5 : Int32).toInt := fun q => c_22 (Int32.toInt_inj.mp q)
              exact fd_ok_some ⟨i0, f0, trivial⟩
theorem s_X2_gateRow_1_15 (N : Nat) (hN : 1000 ≤ N) (p1 : Int32) (σ : fd_St) (i0 : fd_InvC σ) (h0 : 0 ≤ p1.toInt) (h1 : p1.toInt ≤ 199) : fd_ok (f_X2_gateRow_1_15 N p1 σ) (fun v s => fd_InvC s ∧ fd_fr [] σ s ∧ (v = fd_tl (σ.2.1 12 p1.toNatClampNeg) (σ.2.2 15 (σ.2.1 13 p1.toNatClampNeg).toNatClampNeg) (σ.2.2 15 (σ.2.1 14 p1.toNatClampNeg).toNatClampNeg))) := fd_ok_x (s0_X2_gateRow_1_15 N hN p1 σ i0 h0 h1) (fun v s h => q_X2_gateRow_1_15 h)
set_option maxHeartbeats 4000000 in
theorem s_X2_gateRow_1_16 (N : Nat) (hN : 1000 ≤ N) (p1 : Int32) (σ : fd_St) (i0 : fd_InvC σ) (h0 : 0 ≤ p1.toInt) (h1 : p1.toInt ≤ 199) : fd_ok (f_X2_gateRow_1_16 N p1 σ) (fun v s => fd_InvC s ∧ fd_fr [] σ s ∧ (True)) := by
  have lit0 : (0 : Int32).toInt = 0 := by decide
  have lit1 : (1 : Int32).toInt = 1 := by decide
  have lit2 : (2 : Int32).toInt = 2 := by decide
  have lit3 : (3 : Int32).toInt = 3 := by decide
  have lit4 : (4 : Int32).toInt = 4 := by decide
  have lit5 : (5 : Int32).toInt = 5 := by decide
  have f0 : fd_fr [] σ σ := fd_fr_rf
  unfold f_X2_gateRow_1_16
  refine fd_ok_gd (vp_in_iff.mpr ⟨by omega, by omega⟩) ?_
  have r_1 : (0 : Int) ≤ (σ.2.1 13 p1.toNatClampNeg).toInt ∧ (σ.2.1 13 p1.toNatClampNeg).toInt ≤ 199 := i0.2.1 13 _
  refine fd_ok_gd (vp_in_iff.mpr ⟨by omega, by omega⟩) ?_
  refine fd_ok_lt (fun x3_2 ex3_2 => ?_)
  refine fd_ok_gd (vp_in_iff.mpr ⟨by omega, by omega⟩) ?_
  have r_3 : (0 : Int) ≤ (σ.2.1 14 p1.toNatClampNeg).toInt ∧ (σ.2.1 14 p1.toNatClampNeg).toInt ≤ 199 := i0.2.1 14 _
  refine fd_ok_gd (vp_in_iff.mpr ⟨by omega, by omega⟩) ?_
  refine fd_ok_lt (fun x6_4 ex6_4 => ?_)
  refine fd_ok_gd (vp_in_iff.mpr ⟨by omega, by omega⟩) ?_
  refine fd_ok_lt (fun x8_5 ex8_5 => ?_)
  have t_6 : x8_5.toInt = (σ.2.1 12 p1.toNatClampNeg).toInt := congrArg Int32.toInt ex8_5
  refine fd_ok_ite (fun c_7 => ?_) (fun c_7 => ?_)
  ·
    have d_8 := congrArg Int32.toInt c_7
    exact fd_ok_some ⟨i0, f0, trivial⟩
  ·
    have d_9 : ¬ x8_5.toInt = (0 : Int32).toInt := fun q => c_7 (Int32.toInt_inj.mp q)
    refine fd_ok_ite (fun c_10 => ?_) (fun c_10 => ?_)
    ·
      have d_11 := congrArg Int32.toInt c_10
      exact fd_ok_some ⟨i0, f0, trivial⟩
    ·
      refine fd_ok_ite (fun c_13 => ?_) (fun c_13 => ?_)
      ·
        have d_14 := congrArg Int32.toInt c_13
        exact fd_ok_some ⟨i0, f0, trivial⟩
      ·
        refine fd_ok_ite (fun c_16 => ?_) (fun c_16 => ?_)
        ·
          have d_17 := congrArg Int32.toInt c_16
          exact fd_ok_some ⟨i0, f0, trivial⟩
        ·
          refine fd_ok_ite (fun c_19 => ?_) (fun c_19 => ?_)
          ·
            have d_20 := congrArg Int32.toInt c_19
            exact fd_ok_some ⟨i0, f0, trivial⟩
          ·
            refine fd_ok_ite (fun c_22 => ?_) (fun c_22 => ?_)
            ·
              have d_23 := congrArg Int32.toInt c_22
              exact fd_ok_some ⟨i0, f0, trivial⟩
            ·
              have d_24 : ¬ x8_5.toInt = (5 : Int32).toInt := fun q => c_22 (Int32.toInt_inj.mp q)
              exact fd_ok_some ⟨i0, f0, trivial⟩
set_option maxHeartbeats 4000000 in
theorem s0_X2_putRow_1_L20 (N : Nat) (hN : 1000 ≤ N) : ∀ (n : Nat) (y4 : Int64) (y6 : Int32) (σ : fd_St), fd_InvC σ → (0 ≤ y6.toInt) → (y6.toInt ≤ 200) → 200 - y6.toInt < (n : Int) → fd_ok (f_X2_putRow_1_L20 N n y4 y6 σ) (fun v s => fd_InvC s ∧ fd_fr [215] σ s ∧ (True)) := by
  have litm1 : (-1 : Int32).toInt = -1 := by decide
  have lit0 : (0 : Int32).toInt = 0 := by decide
  have lit1 : (1 : Int32).toInt = 1 := by decide
  intro n
  induction n with
  | zero =>
    intro y4 y6 σ i0 h0 h1 hm
    omega
  | succ n ih =>
    intro y4 y6 σ i0 h0 h1 hm
    have f0 : fd_fr [215] σ σ := fd_fr_rf
    unfold f_X2_putRow_1_L20
    have r_1 : (0 : Int) ≤ (σ.1 1).toInt ∧ (σ.1 1).toInt ≤ 200 := i0.1 1
    refine fd_ok_ite (fun c_2 => ?_) (fun c_2 => ?_)
    ·
      have d_3 := Int32.le_iff_toInt_le.mp c_2
      exact fd_ok_some ⟨i0, f0, trivial⟩
    ·
      have d_4 := Int32.lt_iff_toInt_lt.mp (Int32.not_le.mp c_2)
      refine fd_ok_gd (vp_in_iff.mpr ⟨by omega, by omega⟩) ?_
      refine fd_ok_ite (fun c_5 => ?_) (fun c_5 => ?_)
      ·
        have d_6 := congrArg Int32.toInt c_5
        try unfold f_X2_putRow_1_J57
        refine fd_ok_lt (fun x9_7 ex9_7 => ?_)
        have t_8 := fd_la ex9_7 (by omega) (by omega)
        refine fd_ok_mono (ih _ _ _ i0 (by omega) (by omega) (by omega)) ?_
        rintro v s ⟨hi, hf, hx⟩
        exact ⟨hi, fd_fr_tr f0 hf, trivial⟩
      ·
        refine fd_ok_bd ?_
        refine fd_ok_cl (s_X2_gateRow_1_15 N hN _ _ i0 (by omega) (by omega)) ?_
        rintro v_10 σ_11 ⟨i_12, g_13, x_14⟩
        have f_15 : fd_fr [215] σ σ_11 := fd_fr_tr f0 (fd_fr_mono g_13 (by decide))
        have t_16 : (σ_11.1 1).toInt = (σ.1 1).toInt := congrArg Int32.toInt (g_13.1 1 (by decide))
        refine fd_ok_gd (vp_in_iff.mpr ⟨by omega, by omega⟩) ?_
        refine fd_ok_lt (fun σ16_17 eσ16_17 => ?_)
        have i_18 : fd_InvC σ16_17 := fd_inv_sL eσ16_17 i_12
        have f_19 : fd_fr [215] σ σ16_17 := fd_fr_tr f_15 (fd_fr_sL eσ16_17 (by decide))
        have t_20 : (σ16_17.1 1).toInt = (σ_11.1 1).toInt := by subst eσ16_17; rfl
        try unfold f_X2_putRow_1_J57
        refine fd_ok_lt (fun x9_21 ex9_21 => ?_)
        have t_22 := fd_la ex9_21 (by omega) (by omega)
        refine fd_ok_mono (ih _ _ _ i_18 (by omega) (by omega) (by omega)) ?_
        rintro v s ⟨hi, hf, hx⟩
        exact ⟨hi, fd_fr_tr f_19 hf, trivial⟩
theorem s_X2_putRow_1_L20 (N : Nat) (hN : 1000 ≤ N) : ∀ (n : Nat) (y4 : Int64) (y6 : Int32) (σ : fd_St), fd_InvC σ → (0 ≤ y6.toInt) → (y6.toInt ≤ 200) → 200 - y6.toInt < (n : Int) → fd_ok (f_X2_putRow_1_L20 N n y4 y6 σ) (fun v s => fd_InvC s ∧ fd_fr [215] σ s ∧ (v = y4 ∧ (∀ i, σ.2.1 12 i = -1 → s.2.2 15 i = σ.2.2 15 i) ∧ (0 ≤ y6.toInt → fd_Go (σ.2.1 12) (σ.2.1 13) (σ.2.1 14) (σ.1 1).toNatClampNeg → fd_Gr (σ.2.1 12) (σ.2.1 13) (σ.2.1 14) (σ.2.2 15) y6.toNatClampNeg → fd_Gr (σ.2.1 12) (σ.2.1 13) (σ.2.1 14) (s.2.2 15) (σ.1 1).toNatClampNeg))) := fun n y4 y6 σ i0 h0 h1 hm => fd_ok_x (s0_X2_putRow_1_L20 N hN n y4 y6 σ i0 h0 h1 hm) (fun v s h => q_X2_putRow_1_L20 n y4 y6 σ v s h)
set_option maxHeartbeats 4000000 in
theorem s_X2_oneReachesTheOther_1_L25 (N : Nat) (hN : 1000 ≤ N) : ∀ (n : Nat) (y3 : Int32) (y4 : Int32) (y5 : Int32) (σ : fd_St), fd_InvC σ → (0 ≤ y5.toInt) → (y5.toInt ≤ 200) → (0 ≤ y4.toInt) → (y4.toInt ≤ 199) → 200 - y5.toInt < (n : Int) → fd_ok (f_X2_oneReachesTheOther_1_L25 N n y3 y4 y5 σ) (fun v s => fd_InvC s ∧ fd_fr [117] σ s ∧ (True)) := by
  have litm1 : (-1 : Int32).toInt = -1 := by decide
  have lit0 : (0 : Int32).toInt = 0 := by decide
  have lit1 : (1 : Int32).toInt = 1 := by decide
  intro n
  induction n with
  | zero =>
    intro y3 y4 y5 σ i0 h0 h1 h2 h3 hm
    omega
  | succ n ih =>
    intro y3 y4 y5 σ i0 h0 h1 h2 h3 hm
    have f0 : fd_fr [117] σ σ := fd_fr_rf
    unfold f_X2_oneReachesTheOther_1_L25
    refine fd_ok_ite (fun c_1 => ?_) (fun c_1 => ?_)
    ·
      have d_2 := Int32.lt_iff_toInt_lt.mp c_1
      refine fd_ok_gd (vp_in_iff.mpr ⟨by omega, by omega⟩) ?_
      have r_3 : (0 : Int) ≤ (σ.2.1 17 y4.toNatClampNeg).toInt ∧ (σ.2.1 17 y4.toNatClampNeg).toInt ≤ 1 := i0.2.1 17 _
      refine fd_ok_gd (fd_narrow (by omega) (by omega)) ?_
      exact fd_ok_some ⟨i0, f0, trivial⟩
    ·
      have d_4 := Int32.le_iff_toInt_le.mp (Int32.not_lt.mp c_1)
      refine fd_ok_gd (vp_in_iff.mpr ⟨by omega, by omega⟩) ?_
      refine fd_ok_ite (fun c_5 => ?_) (fun c_5 => ?_)
      ·
        have d_6 := congrArg Int32.toInt c_5
        try unfold f_X2_oneReachesTheOther_1_J83
        try unfold f_X2_oneReachesTheOther_1_J84
        refine fd_ok_gd (vp_in_iff.mpr ⟨by omega, by omega⟩) ?_
        refine fd_ok_lt (fun σ12_7 eσ12_7 => ?_)
        have u_10 : (vp_nar .boolean (0 : Int32)).toInt = 0 := by decide
        have i_8 : fd_InvC σ12_7 := fd_inv_sA eσ12_7 i0 (by decide) (by decide) ⟨(by omega : (0 : Int) ≤ (vp_nar .boolean (0 : Int32)).toInt), (by omega : (vp_nar .boolean (0 : Int32)).toInt ≤ 1)⟩
        have f_9 : fd_fr [117] σ σ12_7 := fd_fr_tr f0 (fd_fr_sA eσ12_7 (by decide))
        have t_11 : (σ12_7.1 17).toInt = (σ.1 17).toInt := by subst eσ12_7; rfl
        refine fd_ok_lt (fun x13_12 ex13_12 => ?_)
        have t_13 := fd_la ex13_12 (by omega) (by omega)
        refine fd_ok_mono (ih _ _ _ _ i_8 (by omega) (by omega) (by omega) (by omega) (by omega)) ?_
        rintro v s ⟨hi, hf, hx⟩
        exact ⟨hi, fd_fr_tr f_9 hf, trivial⟩
      ·
        refine fd_ok_gd (vp_in_iff.mpr ⟨by omega, by omega⟩) ?_
        refine fd_ok_bd ?_
        try unfold f_X2_isReached_1
        have r_15 : (0 : Int) ≤ (σ.2.1 13 y5.toNatClampNeg).toInt ∧ (σ.2.1 13 y5.toNatClampNeg).toInt ≤ 199 := i0.2.1 13 _
        refine fd_ok_ite (fun c_16 => ?_) (fun c_16 => ?_)
        ·
          have d_17 := Int32.lt_iff_toInt_lt.mp c_16
          refine fd_ok_pb ?_
          refine fd_ok_itp (by decide) ?_
          refine fd_ok_gd (vp_in_iff.mpr ⟨by omega, by omega⟩) ?_
          refine fd_ok_bd ?_
          try unfold f_X2_isReached_1
          have r_18 : (0 : Int) ≤ (σ.2.1 14 y5.toNatClampNeg).toInt ∧ (σ.2.1 14 y5.toNatClampNeg).toInt ≤ 199 := i0.2.1 14 _
          refine fd_ok_ite (fun c_19 => ?_) (fun c_19 => ?_)
          ·
            have d_20 := Int32.lt_iff_toInt_lt.mp c_19
            refine fd_ok_pb ?_
            refine fd_ok_itp (by decide) ?_
            try unfold f_X2_oneReachesTheOther_1_J83
            try unfold f_X2_oneReachesTheOther_1_J84
            refine fd_ok_gd (vp_in_iff.mpr ⟨by omega, by omega⟩) ?_
            refine fd_ok_lt (fun σ12_21 eσ12_21 => ?_)
            have u_24 : (vp_nar .boolean (0 : Int32)).toInt = 0 := by decide
            have i_22 : fd_InvC σ12_21 := fd_inv_sA eσ12_21 i0 (by decide) (by decide) ⟨(by omega : (0 : Int) ≤ (vp_nar .boolean (0 : Int32)).toInt), (by omega : (vp_nar .boolean (0 : Int32)).toInt ≤ 1)⟩
            have f_23 : fd_fr [117] σ σ12_21 := fd_fr_tr f0 (fd_fr_sA eσ12_21 (by decide))
            have t_25 : (σ12_21.1 17).toInt = (σ.1 17).toInt := by subst eσ12_21; rfl
            refine fd_ok_lt (fun x13_26 ex13_26 => ?_)
            have t_27 := fd_la ex13_26 (by omega) (by omega)
            refine fd_ok_mono (ih _ _ _ _ i_22 (by omega) (by omega) (by omega) (by omega) (by omega)) ?_
            rintro v s ⟨hi, hf, hx⟩
            exact ⟨hi, fd_fr_tr f_23 hf, trivial⟩
          ·
            have d_28 := Int32.le_iff_toInt_le.mp (Int32.not_lt.mp c_19)
            refine fd_ok_gd (vp_in_iff.mpr ⟨by omega, by omega⟩) ?_
            have r_29 : (0 : Int) ≤ (σ.2.1 17 (σ.2.1 14 y5.toNatClampNeg).toNatClampNeg).toInt ∧ (σ.2.1 17 (σ.2.1 14 y5.toNatClampNeg).toNatClampNeg).toInt ≤ 1 := i0.2.1 17 _
            refine fd_ok_ite (fun c_30 => ?_) (fun c_30 => ?_)
            ·
              have d_31 := congrArg Int32.toInt c_30
              refine fd_ok_pb ?_
              refine fd_ok_itp (by decide) ?_
              try unfold f_X2_oneReachesTheOther_1_J83
              try unfold f_X2_oneReachesTheOther_1_J84
              refine fd_ok_gd (vp_in_iff.mpr ⟨by omega, by omega⟩) ?_
              refine fd_ok_lt (fun σ12_32 eσ12_32 => ?_)
              have u_35 : (vp_nar .boolean (0 : Int32)).toInt = 0 := by decide
              have i_33 : fd_InvC σ12_32 := fd_inv_sA eσ12_32 i0 (by decide) (by decide) ⟨(by omega : (0 : Int) ≤ (vp_nar .boolean (0 : Int32)).toInt), (by omega : (vp_nar .boolean (0 : Int32)).toInt ≤ 1)⟩
              have f_34 : fd_fr [117] σ σ12_32 := fd_fr_tr f0 (fd_fr_sA eσ12_32 (by decide))
              have t_36 : (σ12_32.1 17).toInt = (σ.1 17).toInt := by subst eσ12_32; rfl
              refine fd_ok_lt (fun x13_37 ex13_37 => ?_)
              have t_38 := fd_la ex13_37 (by omega) (by omega)
              refine fd_ok_mono (ih _ _ _ _ i_33 (by omega) (by omega) (by omega) (by omega) (by omega)) ?_
              rintro v s ⟨hi, hf, hx⟩
              exact ⟨hi, fd_fr_tr f_34 hf, trivial⟩
            ·
              refine fd_ok_pb ?_
              refine fd_ok_itn (by decide) ?_
              try unfold f_X2_oneReachesTheOther_1_J79
              try unfold f_X2_oneReachesTheOther_1_J84
              refine fd_ok_gd (vp_in_iff.mpr ⟨by omega, by omega⟩) ?_
              refine fd_ok_lt (fun σ12_40 eσ12_40 => ?_)
              have u_43 : (vp_nar .boolean (1 : Int32)).toInt = 1 := by decide
              have i_41 : fd_InvC σ12_40 := fd_inv_sA eσ12_40 i0 (by decide) (by decide) ⟨(by omega : (0 : Int) ≤ (vp_nar .boolean (1 : Int32)).toInt), (by omega : (vp_nar .boolean (1 : Int32)).toInt ≤ 1)⟩
              have f_42 : fd_fr [117] σ σ12_40 := fd_fr_tr f0 (fd_fr_sA eσ12_40 (by decide))
              have t_44 : (σ12_40.1 17).toInt = (σ.1 17).toInt := by subst eσ12_40; rfl
              refine fd_ok_lt (fun x13_45 ex13_45 => ?_)
              have t_46 := fd_la ex13_45 (by omega) (by omega)
              refine fd_ok_mono (ih _ _ _ _ i_41 (by omega) (by omega) (by omega) (by omega) (by omega)) ?_
              rintro v s ⟨hi, hf, hx⟩
              exact ⟨hi, fd_fr_tr f_42 hf, trivial⟩
        ·
          have d_47 := Int32.le_iff_toInt_le.mp (Int32.not_lt.mp c_16)
          refine fd_ok_gd (vp_in_iff.mpr ⟨by omega, by omega⟩) ?_
          have r_48 : (0 : Int) ≤ (σ.2.1 17 (σ.2.1 13 y5.toNatClampNeg).toNatClampNeg).toInt ∧ (σ.2.1 17 (σ.2.1 13 y5.toNatClampNeg).toNatClampNeg).toInt ≤ 1 := i0.2.1 17 _
          refine fd_ok_ite (fun c_49 => ?_) (fun c_49 => ?_)
          ·
            have d_50 := congrArg Int32.toInt c_49
            refine fd_ok_pb ?_
            refine fd_ok_itp (by decide) ?_
            refine fd_ok_gd (vp_in_iff.mpr ⟨by omega, by omega⟩) ?_
            refine fd_ok_bd ?_
            try unfold f_X2_isReached_1
            have r_51 : (0 : Int) ≤ (σ.2.1 14 y5.toNatClampNeg).toInt ∧ (σ.2.1 14 y5.toNatClampNeg).toInt ≤ 199 := i0.2.1 14 _
            refine fd_ok_ite (fun c_52 => ?_) (fun c_52 => ?_)
            ·
              have d_53 := Int32.lt_iff_toInt_lt.mp c_52
              refine fd_ok_pb ?_
              refine fd_ok_itp (by decide) ?_
              try unfold f_X2_oneReachesTheOther_1_J83
              try unfold f_X2_oneReachesTheOther_1_J84
              refine fd_ok_gd (vp_in_iff.mpr ⟨by omega, by omega⟩) ?_
              refine fd_ok_lt (fun σ12_54 eσ12_54 => ?_)
              have u_57 : (vp_nar .boolean (0 : Int32)).toInt = 0 := by decide
              have i_55 : fd_InvC σ12_54 := fd_inv_sA eσ12_54 i0 (by decide) (by decide) ⟨(by omega : (0 : Int) ≤ (vp_nar .boolean (0 : Int32)).toInt), (by omega : (vp_nar .boolean (0 : Int32)).toInt ≤ 1)⟩
              have f_56 : fd_fr [117] σ σ12_54 := fd_fr_tr f0 (fd_fr_sA eσ12_54 (by decide))
              have t_58 : (σ12_54.1 17).toInt = (σ.1 17).toInt := by subst eσ12_54; rfl
              refine fd_ok_lt (fun x13_59 ex13_59 => ?_)
              have t_60 := fd_la ex13_59 (by omega) (by omega)
              refine fd_ok_mono (ih _ _ _ _ i_55 (by omega) (by omega) (by omega) (by omega) (by omega)) ?_
              rintro v s ⟨hi, hf, hx⟩
              exact ⟨hi, fd_fr_tr f_56 hf, trivial⟩
            ·
              have d_61 := Int32.le_iff_toInt_le.mp (Int32.not_lt.mp c_52)
              refine fd_ok_gd (vp_in_iff.mpr ⟨by omega, by omega⟩) ?_
              have r_62 : (0 : Int) ≤ (σ.2.1 17 (σ.2.1 14 y5.toNatClampNeg).toNatClampNeg).toInt ∧ (σ.2.1 17 (σ.2.1 14 y5.toNatClampNeg).toNatClampNeg).toInt ≤ 1 := i0.2.1 17 _
              refine fd_ok_ite (fun c_63 => ?_) (fun c_63 => ?_)
              ·
                have d_64 := congrArg Int32.toInt c_63
                refine fd_ok_pb ?_
                refine fd_ok_itp (by decide) ?_
                try unfold f_X2_oneReachesTheOther_1_J83
                try unfold f_X2_oneReachesTheOther_1_J84
                refine fd_ok_gd (vp_in_iff.mpr ⟨by omega, by omega⟩) ?_
                refine fd_ok_lt (fun σ12_65 eσ12_65 => ?_)
                have u_68 : (vp_nar .boolean (0 : Int32)).toInt = 0 := by decide
                have i_66 : fd_InvC σ12_65 := fd_inv_sA eσ12_65 i0 (by decide) (by decide) ⟨(by omega : (0 : Int) ≤ (vp_nar .boolean (0 : Int32)).toInt), (by omega : (vp_nar .boolean (0 : Int32)).toInt ≤ 1)⟩
                have f_67 : fd_fr [117] σ σ12_65 := fd_fr_tr f0 (fd_fr_sA eσ12_65 (by decide))
                have t_69 : (σ12_65.1 17).toInt = (σ.1 17).toInt := by subst eσ12_65; rfl
                refine fd_ok_lt (fun x13_70 ex13_70 => ?_)
                have t_71 := fd_la ex13_70 (by omega) (by omega)
                refine fd_ok_mono (ih _ _ _ _ i_66 (by omega) (by omega) (by omega) (by omega) (by omega)) ?_
                rintro v s ⟨hi, hf, hx⟩
                exact ⟨hi, fd_fr_tr f_67 hf, trivial⟩
              ·
                refine fd_ok_pb ?_
                refine fd_ok_itn (by decide) ?_
                try unfold f_X2_oneReachesTheOther_1_J79
                try unfold f_X2_oneReachesTheOther_1_J84
                refine fd_ok_gd (vp_in_iff.mpr ⟨by omega, by omega⟩) ?_
                refine fd_ok_lt (fun σ12_73 eσ12_73 => ?_)
                have u_76 : (vp_nar .boolean (1 : Int32)).toInt = 1 := by decide
                have i_74 : fd_InvC σ12_73 := fd_inv_sA eσ12_73 i0 (by decide) (by decide) ⟨(by omega : (0 : Int) ≤ (vp_nar .boolean (1 : Int32)).toInt), (by omega : (vp_nar .boolean (1 : Int32)).toInt ≤ 1)⟩
                have f_75 : fd_fr [117] σ σ12_73 := fd_fr_tr f0 (fd_fr_sA eσ12_73 (by decide))
                have t_77 : (σ12_73.1 17).toInt = (σ.1 17).toInt := by subst eσ12_73; rfl
                refine fd_ok_lt (fun x13_78 ex13_78 => ?_)
                have t_79 := fd_la ex13_78 (by omega) (by omega)
                refine fd_ok_mono (ih _ _ _ _ i_74 (by omega) (by omega) (by omega) (by omega) (by omega)) ?_
                rintro v s ⟨hi, hf, hx⟩
                exact ⟨hi, fd_fr_tr f_75 hf, trivial⟩
          ·
            refine fd_ok_pb ?_
            refine fd_ok_itn (by decide) ?_
            try unfold f_X2_oneReachesTheOther_1_J79
            try unfold f_X2_oneReachesTheOther_1_J84
            refine fd_ok_gd (vp_in_iff.mpr ⟨by omega, by omega⟩) ?_
            refine fd_ok_lt (fun σ12_81 eσ12_81 => ?_)
            have u_84 : (vp_nar .boolean (1 : Int32)).toInt = 1 := by decide
            have i_82 : fd_InvC σ12_81 := fd_inv_sA eσ12_81 i0 (by decide) (by decide) ⟨(by omega : (0 : Int) ≤ (vp_nar .boolean (1 : Int32)).toInt), (by omega : (vp_nar .boolean (1 : Int32)).toInt ≤ 1)⟩
            have f_83 : fd_fr [117] σ σ12_81 := fd_fr_tr f0 (fd_fr_sA eσ12_81 (by decide))
            have t_85 : (σ12_81.1 17).toInt = (σ.1 17).toInt := by subst eσ12_81; rfl
            refine fd_ok_lt (fun x13_86 ex13_86 => ?_)
            have t_87 := fd_la ex13_86 (by omega) (by omega)
            refine fd_ok_mono (ih _ _ _ _ i_82 (by omega) (by omega) (by omega) (by omega) (by omega)) ?_
            rintro v s ⟨hi, hf, hx⟩
            exact ⟨hi, fd_fr_tr f_83 hf, trivial⟩
set_option maxHeartbeats 4000000 in
theorem s_X4_findOrAdd_3_L2 (N : Nat) (hN : 1000 ≤ N) : ∀ (n : Nat) (y1 : Int32) (y2 : Int32) (y3 : Int32) (σ : fd_St), fd_InvC σ → (0 ≤ y3.toInt) → (y3.toInt ≤ 40) → (0 ≤ y1.toInt) → (y1.toInt ≤ 199) → (0 ≤ y2.toInt) → (y2.toInt ≤ 199) → ((σ.1 5).toInt ≤ 39) → 40 - y3.toInt < (n : Int) → fd_ok (f_X4_findOrAdd_3_L2 N n y1 y2 y3 σ) (fun v s => fd_InvC s ∧ fd_fr [5, 120, 121] σ s ∧ (True)) := by
  have lit0 : (0 : Int32).toInt = 0 := by decide
  have lit1 : (1 : Int32).toInt = 1 := by decide
  intro n
  induction n with
  | zero =>
    intro y1 y2 y3 σ i0 h0 h1 h2 h3 h4 h5 h6 hm
    omega
  | succ n ih =>
    intro y1 y2 y3 σ i0 h0 h1 h2 h3 h4 h5 h6 hm
    have f0 : fd_fr [5, 120, 121] σ σ := fd_fr_rf
    unfold f_X4_findOrAdd_3_L2
    have r_1 : (0 : Int) ≤ (σ.1 5).toInt ∧ (σ.1 5).toInt ≤ 40 := i0.1 5
    refine fd_ok_ite (fun c_2 => ?_) (fun c_2 => ?_)
    ·
      have d_3 := Int32.le_iff_toInt_le.mp c_2
      refine fd_ok_gd (vp_in_iff.mpr ⟨by omega, by omega⟩) ?_
      refine fd_ok_lt (fun σ3_4 eσ3_4 => ?_)
      have i_5 : fd_InvC σ3_4 := fd_inv_sA eσ3_4 i0 (by decide) (by decide) ⟨(by omega : (0 : Int) ≤ y1.toInt), (by omega : y1.toInt ≤ 199)⟩
      have f_6 : fd_fr [5, 120, 121] σ σ3_4 := fd_fr_tr f0 (fd_fr_sA eσ3_4 (by decide))
      have t_7 : (σ3_4.1 5).toInt = (σ.1 5).toInt := by subst eσ3_4; rfl
      have r_8 : (0 : Int) ≤ (σ3_4.1 5).toInt ∧ (σ3_4.1 5).toInt ≤ 40 := i_5.1 5
      refine fd_ok_gd (vp_in_iff.mpr ⟨by omega, by omega⟩) ?_
      refine fd_ok_lt (fun σ5_9 eσ5_9 => ?_)
      have i_10 : fd_InvC σ5_9 := fd_inv_sA eσ5_9 i_5 (by decide) (by decide) ⟨(by omega : (0 : Int) ≤ y2.toInt), (by omega : y2.toInt ≤ 199)⟩
      have f_11 : fd_fr [5, 120, 121] σ σ5_9 := fd_fr_tr f_6 (fd_fr_sA eσ5_9 (by decide))
      have t_12 : (σ5_9.1 5).toInt = (σ3_4.1 5).toInt := by subst eσ5_9; rfl
      refine fd_ok_lt (fun σ6_13 eσ6_13 => ?_)
      have r_16 : (0 : Int) ≤ (σ5_9.1 5).toInt ∧ (σ5_9.1 5).toInt ≤ 40 := i_10.1 5
      have u_17 := Jvm.Kit.i32_add (x := (σ5_9.1 5)) (y := (1 : Int32)) (by omega) (by omega)
      have i_14 : fd_InvC σ6_13 := fd_inv_sI eσ6_13 i_10 ⟨(by omega : (0 : Int) ≤ ((σ5_9.1 5) + (1 : Int32)).toInt), (by omega : ((σ5_9.1 5) + (1 : Int32)).toInt ≤ 40)⟩
      have f_15 : fd_fr [5, 120, 121] σ σ6_13 := fd_fr_tr f_11 (fd_fr_sI eσ6_13 (by decide))
      have t_18 : (σ6_13.1 5).toInt = ((σ5_9.1 5) + (1 : Int32)).toInt := congrArg Int32.toInt (fd_tI eσ6_13)
      exact fd_ok_some ⟨i_14, f_15, trivial⟩
    ·
      have d_19 := Int32.lt_iff_toInt_lt.mp (Int32.not_le.mp c_2)
      refine fd_ok_bd ?_
      try unfold f_X4_isOf_3
      refine fd_ok_gd (vp_in_iff.mpr ⟨by omega, by omega⟩) ?_
      have r_20 : (0 : Int) ≤ (σ.2.1 20 y3.toNatClampNeg).toInt ∧ (σ.2.1 20 y3.toNatClampNeg).toInt ≤ 199 := i0.2.1 20 _
      refine fd_ok_ite (fun c_21 => ?_) (fun c_21 => ?_)
      ·
        have d_22 := congrArg Int32.toInt c_21
        refine fd_ok_gd (vp_in_iff.mpr ⟨by omega, by omega⟩) ?_
        have r_23 : (0 : Int) ≤ (σ.2.1 21 y3.toNatClampNeg).toInt ∧ (σ.2.1 21 y3.toNatClampNeg).toInt ≤ 199 := i0.2.1 21 _
        refine fd_ok_ite (fun c_24 => ?_) (fun c_24 => ?_)
        ·
          have d_25 := congrArg Int32.toInt c_24
          refine fd_ok_pb ?_
          refine fd_ok_itn (by decide) ?_
          exact fd_ok_some ⟨i0, f0, trivial⟩
        ·
          refine fd_ok_pb ?_
          refine fd_ok_itp (by decide) ?_
          refine fd_ok_bd ?_
          try unfold f_X4_isOf_3
          refine fd_ok_gd (vp_in_iff.mpr ⟨by omega, by omega⟩) ?_
          refine fd_ok_ite (fun c_27 => ?_) (fun c_27 => ?_)
          ·
            have d_28 := congrArg Int32.toInt c_27
            refine fd_ok_gd (vp_in_iff.mpr ⟨by omega, by omega⟩) ?_
            refine fd_ok_ite (fun c_29 => ?_) (fun c_29 => ?_)
            ·
              have d_30 := congrArg Int32.toInt c_29
              refine fd_ok_pb ?_
              refine fd_ok_itn (by decide) ?_
              exact fd_ok_some ⟨i0, f0, trivial⟩
            ·
              refine fd_ok_pb ?_
              refine fd_ok_itp (by decide) ?_
              refine fd_ok_lt (fun x19_32 ex19_32 => ?_)
              have t_33 := fd_la ex19_32 (by omega) (by omega)
              refine fd_ok_mono (ih _ _ _ _ i0 (by omega) (by omega) (by omega) (by omega) (by omega) (by omega) (by omega) (by omega)) ?_
              rintro v s ⟨hi, hf, hx⟩
              exact ⟨hi, fd_fr_tr f0 hf, trivial⟩
          ·
            refine fd_ok_pb ?_
            refine fd_ok_itp (by decide) ?_
            refine fd_ok_lt (fun x19_35 ex19_35 => ?_)
            have t_36 := fd_la ex19_35 (by omega) (by omega)
            refine fd_ok_mono (ih _ _ _ _ i0 (by omega) (by omega) (by omega) (by omega) (by omega) (by omega) (by omega) (by omega)) ?_
            rintro v s ⟨hi, hf, hx⟩
            exact ⟨hi, fd_fr_tr f0 hf, trivial⟩
      ·
        refine fd_ok_pb ?_
        refine fd_ok_itp (by decide) ?_
        refine fd_ok_bd ?_
        try unfold f_X4_isOf_3
        refine fd_ok_gd (vp_in_iff.mpr ⟨by omega, by omega⟩) ?_
        refine fd_ok_ite (fun c_38 => ?_) (fun c_38 => ?_)
        ·
          have d_39 := congrArg Int32.toInt c_38
          refine fd_ok_gd (vp_in_iff.mpr ⟨by omega, by omega⟩) ?_
          have r_40 : (0 : Int) ≤ (σ.2.1 21 y3.toNatClampNeg).toInt ∧ (σ.2.1 21 y3.toNatClampNeg).toInt ≤ 199 := i0.2.1 21 _
          refine fd_ok_ite (fun c_41 => ?_) (fun c_41 => ?_)
          ·
            have d_42 := congrArg Int32.toInt c_41
            refine fd_ok_pb ?_
            refine fd_ok_itn (by decide) ?_
            exact fd_ok_some ⟨i0, f0, trivial⟩
          ·
            refine fd_ok_pb ?_
            refine fd_ok_itp (by decide) ?_
            refine fd_ok_lt (fun x19_44 ex19_44 => ?_)
            have t_45 := fd_la ex19_44 (by omega) (by omega)
            refine fd_ok_mono (ih _ _ _ _ i0 (by omega) (by omega) (by omega) (by omega) (by omega) (by omega) (by omega) (by omega)) ?_
            rintro v s ⟨hi, hf, hx⟩
            exact ⟨hi, fd_fr_tr f0 hf, trivial⟩
        ·
          refine fd_ok_pb ?_
          refine fd_ok_itp (by decide) ?_
          refine fd_ok_lt (fun x19_47 ex19_47 => ?_)
          have t_48 := fd_la ex19_47 (by omega) (by omega)
          refine fd_ok_mono (ih _ _ _ _ i0 (by omega) (by omega) (by omega) (by omega) (by omega) (by omega) (by omega) (by omega)) ?_
          rintro v s ⟨hi, hf, hx⟩
          exact ⟨hi, fd_fr_tr f0 hf, trivial⟩
set_option maxHeartbeats 4000000 in
theorem s_X2_hold_1_L25 (N : Nat) (hN : 1000 ≤ N) : ∀ (n : Nat) (y1 : Int32) (y2 : Int64) (y4 : Int32) (y5 : Int64) (y7 : Int32) (σ : fd_St), fd_InvC σ → (0 ≤ y7.toInt) → (y7.toInt ≤ 200) → 200 - y7.toInt < (n : Int) → fd_ok (f_X2_hold_1_L25 N n y1 y2 y4 y5 y7 σ) (fun v s => fd_InvC s ∧ fd_fr [216] σ s ∧ (True)) := by
  have litm1 : (-1 : Int32).toInt = -1 := by decide
  have lit0 : (0 : Int32).toInt = 0 := by decide
  have lit1 : (1 : Int32).toInt = 1 := by decide
  intro n
  induction n with
  | zero =>
    intro y1 y2 y4 y5 y7 σ i0 h0 h1 hm
    omega
  | succ n ih =>
    intro y1 y2 y4 y5 y7 σ i0 h0 h1 hm
    have f0 : fd_fr [216] σ σ := fd_fr_rf
    unfold f_X2_hold_1_L25
    have r_1 : (0 : Int) ≤ (σ.1 1).toInt ∧ (σ.1 1).toInt ≤ 200 := i0.1 1
    refine fd_ok_ite (fun c_2 => ?_) (fun c_2 => ?_)
    ·
      have d_3 := Int32.le_iff_toInt_le.mp c_2
      exact fd_ok_some ⟨i0, f0, trivial⟩
    ·
      have d_4 := Int32.lt_iff_toInt_lt.mp (Int32.not_le.mp c_2)
      refine fd_ok_ite (fun c_5 => ?_) (fun c_5 => ?_)
      ·
        have d_6 := congrArg Int32.toInt c_5
        refine fd_ok_gd (vp_in_iff.mpr ⟨by omega, by omega⟩) ?_
        refine fd_ok_lt (fun σ24_7 eσ24_7 => ?_)
        have i_8 : fd_InvC σ24_7 := fd_inv_sL eσ24_7 i0
        have f_9 : fd_fr [216] σ σ24_7 := fd_fr_tr f0 (fd_fr_sL eσ24_7 (by decide))
        have t_10 : (σ24_7.1 1).toInt = (σ.1 1).toInt := by subst eσ24_7; rfl
        try unfold f_X2_hold_1_J98
        refine fd_ok_lt (fun x13_11 ex13_11 => ?_)
        have t_12 := fd_la ex13_11 (by omega) (by omega)
        refine fd_ok_mono (ih _ _ _ _ _ _ i_8 (by omega) (by omega) (by omega)) ?_
        rintro v s ⟨hi, hf, hx⟩
        exact ⟨hi, fd_fr_tr f_9 hf, trivial⟩
      ·
        refine fd_ok_ite (fun c_14 => ?_) (fun c_14 => ?_)
        ·
          have d_15 := congrArg Int32.toInt c_14
          refine fd_ok_gd (vp_in_iff.mpr ⟨by omega, by omega⟩) ?_
          refine fd_ok_lt (fun σ22_16 eσ22_16 => ?_)
          have i_17 : fd_InvC σ22_16 := fd_inv_sL eσ22_16 i0
          have f_18 : fd_fr [216] σ σ22_16 := fd_fr_tr f0 (fd_fr_sL eσ22_16 (by decide))
          have t_19 : (σ22_16.1 1).toInt = (σ.1 1).toInt := by subst eσ22_16; rfl
          try unfold f_X2_hold_1_J98
          refine fd_ok_lt (fun x13_20 ex13_20 => ?_)
          have t_21 := fd_la ex13_20 (by omega) (by omega)
          refine fd_ok_mono (ih _ _ _ _ _ _ i_17 (by omega) (by omega) (by omega)) ?_
          rintro v s ⟨hi, hf, hx⟩
          exact ⟨hi, fd_fr_tr f_18 hf, trivial⟩
        ·
          refine fd_ok_gd (vp_in_iff.mpr ⟨by omega, by omega⟩) ?_
          refine fd_ok_ite (fun c_23 => ?_) (fun c_23 => ?_)
          ·
            have d_24 := congrArg Int32.toInt c_23
            try unfold f_X2_hold_1_J98
            refine fd_ok_lt (fun x13_25 ex13_25 => ?_)
            have t_26 := fd_la ex13_25 (by omega) (by omega)
            refine fd_ok_mono (ih _ _ _ _ _ _ i0 (by omega) (by omega) (by omega)) ?_
            rintro v s ⟨hi, hf, hx⟩
            exact ⟨hi, fd_fr_tr f0 hf, trivial⟩
          ·
            refine fd_ok_bd ?_
            refine fd_ok_cl (s_X2_gateRow_1_16 N hN _ _ i0 (by omega) (by omega)) ?_
            rintro v_28 σ_29 ⟨i_30, g_31, x_32⟩
            have f_33 : fd_fr [216] σ σ_29 := fd_fr_tr f0 (fd_fr_mono g_31 (by decide))
            have t_34 : (σ_29.1 1).toInt = (σ.1 1).toInt := congrArg Int32.toInt (g_31.1 1 (by decide))
            refine fd_ok_gd (vp_in_iff.mpr ⟨by omega, by omega⟩) ?_
            refine fd_ok_lt (fun σ20_35 eσ20_35 => ?_)
            have i_36 : fd_InvC σ20_35 := fd_inv_sL eσ20_35 i_30
            have f_37 : fd_fr [216] σ σ20_35 := fd_fr_tr f_33 (fd_fr_sL eσ20_35 (by decide))
            have t_38 : (σ20_35.1 1).toInt = (σ_29.1 1).toInt := by subst eσ20_35; rfl
            try unfold f_X2_hold_1_J98
            refine fd_ok_lt (fun x13_39 ex13_39 => ?_)
            have t_40 := fd_la ex13_39 (by omega) (by omega)
            refine fd_ok_mono (ih _ _ _ _ _ _ i_36 (by omega) (by omega) (by omega)) ?_
            rintro v s ⟨hi, hf, hx⟩
            exact ⟨hi, fd_fr_tr f_37 hf, trivial⟩
