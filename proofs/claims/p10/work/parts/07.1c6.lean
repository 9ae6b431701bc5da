set_option maxHeartbeats 4000000 in
theorem s_L_shows_0_39 (N : Nat) (hN : 1000 ≤ N) (p1 : Int32) (p2 : Int32) (p3 : Int32) (σ : fd_St) (i0 : fd_InvC σ) : fd_ok (f_L_shows_0_39 N p1 p2 p3 σ) (fun v s => fd_InvC s ∧ fd_fr [216, 239] σ s ∧ ((¬ (0 ≤ p1.toInt ∧ p1.toInt ≤ 3 ∧ 0 ≤ p2.toInt ∧ (1 < p1.toInt ∨ p2.toInt < (σ.1 1).toInt) ∧ (p1.toInt ≤ 1 ∨ p2.toInt < (σ.1 5).toInt) ∧ 0 ≤ p3.toInt ∧ p3.toInt < (σ.1 4).toInt) ∧ v.toInt = 1) ∨ ((0 ≤ p1.toInt ∧ p1.toInt ≤ 3 ∧ 0 ≤ p2.toInt ∧ (1 < p1.toInt ∨ p2.toInt < (σ.1 1).toInt) ∧ (p1.toInt ≤ 1 ∨ p2.toInt < (σ.1 5).toInt) ∧ 0 ≤ p3.toInt ∧ p3.toInt < (σ.1 4).toInt) ∧ v.toInt = 0)) ∧ fd_H ((v.toInt = 0 → ∀ p : Nat → Int64, fd_E (σ.2.1 12) (σ.2.1 13) (σ.2.1 14) (σ.2.2 15) p (σ.1 1).toNatClampNeg → 0 ≤ (fd_qa p1 p2 (σ.2.1 20)).toInt → 0 ≤ (fd_qa p1 p2 (σ.2.1 21)).toInt → (fd_qa p1 p2 (σ.2.1 20)).toInt ≤ (σ.1 1).toInt → ∃ w, fd_F (σ.2.1 12) (σ.2.1 13) (σ.2.1 14) p (fd_qa p1 p2 (σ.2.1 20)).toNatClampNeg (fd_qr p1 (σ.2.2 15 (fd_qa p1 p2 (σ.2.1 20)).toNatClampNeg) (σ.2.2 15 (fd_qa p1 p2 (σ.2.1 21)).toNatClampNeg)) (fd_qa p1 p2 (σ.2.1 21)).toNatClampNeg (fd_qr p1 (σ.2.2 15 (fd_qa p1 p2 (σ.2.1 20)).toNatClampNeg) (σ.2.2 15 (fd_qa p1 p2 (σ.2.1 21)).toNatClampNeg)) w (σ.1 1).toNatClampNeg ∧ s.2.2 39 (0 : Int32).toNatClampNeg = ((σ.2.2 15 (σ.2.1 18 p3.toNatClampNeg).toNatClampNeg) ^^^ (w (σ.2.1 18 p3.toNatClampNeg).toNatClampNeg)) &&& fd_ct (σ.1 3)))) := by
  have lit0 : (0 : Int32).toInt = 0 := by decide
  have lit1 : (1 : Int32).toInt = 1 := by decide
  have lit3 : (3 : Int32).toInt = 3 := by decide
  have f0 : fd_fr [216, 239] σ σ := fd_fr_rf
  unfold f_L_shows_0_39
  refine fd_ok_bx ?_
  try unfold f_X10_shows_0
  refine fd_ok_bd ?_
  try unfold f_X3_hasFault_4
  refine fd_ok_ite (fun c_1 => ?_) (fun c_1 => ?_)
  ·
    have d_2 := Int32.lt_iff_toInt_lt.mp c_1
    refine fd_ok_pb ?_
    refine fd_ok_itp (by decide) ?_
    refine fd_ok_pr ?_
    refine fd_ok_itp (by decide) ?_
    refine fd_ok_lt (fun σ11_3 eσ11_3 => ?_)
    have i_4 : fd_InvC σ11_3 := by subst eσ11_3; exact i0
    have f_5 : fd_fr [216, 239] σ σ11_3 := fd_fr_mix eσ11_3 f0
    have t_6 : (σ11_3.1 1).toInt = (σ.1 1).toInt := by subst eσ11_3; rfl
    have t_7 : (σ11_3.1 4).toInt = (σ.1 4).toInt := by subst eσ11_3; rfl
    have t_8 : (σ11_3.1 5).toInt = (σ.1 5).toInt := by subst eσ11_3; rfl
    have t_9 : (σ11_3.1 18).toInt = (σ.1 18).toInt := by subst eσ11_3; rfl
    have y_10 := fd_ymix (d := 16) eσ11_3 (by decide) (rfl : σ.2.2 16 = _)
    have x_11 : (¬ (0 ≤ p1.toInt ∧ p1.toInt ≤ 3 ∧ 0 ≤ p2.toInt ∧ (1 < p1.toInt ∨ p2.toInt < (σ.1 1).toInt) ∧ (p1.toInt ≤ 1 ∨ p2.toInt < (σ.1 5).toInt) ∧ 0 ≤ p3.toInt ∧ p3.toInt < (σ.1 4).toInt) ∧ (1 : Int32).toInt = 1) ∨ ((0 ≤ p1.toInt ∧ p1.toInt ≤ 3 ∧ 0 ≤ p2.toInt ∧ (1 < p1.toInt ∨ p2.toInt < (σ.1 1).toInt) ∧ (p1.toInt ≤ 1 ∨ p2.toInt < (σ.1 5).toInt) ∧ 0 ≤ p3.toInt ∧ p3.toInt < (σ.1 4).toInt) ∧ (1 : Int32).toInt = 0) := by omega
    have w_12 : fd_H (((1 : Int32).toInt = 0 → ∀ p : Nat → Int64, fd_E (σ.2.1 12) (σ.2.1 13) (σ.2.1 14) (σ.2.2 15) p (σ.1 1).toNatClampNeg → 0 ≤ (fd_qa p1 p2 (σ.2.1 20)).toInt → 0 ≤ (fd_qa p1 p2 (σ.2.1 21)).toInt → (fd_qa p1 p2 (σ.2.1 20)).toInt ≤ (σ.1 1).toInt → ∃ w, fd_F (σ.2.1 12) (σ.2.1 13) (σ.2.1 14) p (fd_qa p1 p2 (σ.2.1 20)).toNatClampNeg (fd_qr p1 (σ.2.2 15 (fd_qa p1 p2 (σ.2.1 20)).toNatClampNeg) (σ.2.2 15 (fd_qa p1 p2 (σ.2.1 21)).toNatClampNeg)) (fd_qa p1 p2 (σ.2.1 21)).toNatClampNeg (fd_qr p1 (σ.2.2 15 (fd_qa p1 p2 (σ.2.1 20)).toNatClampNeg) (σ.2.2 15 (fd_qa p1 p2 (σ.2.1 21)).toNatClampNeg)) w (σ.1 1).toNatClampNeg ∧ σ11_3.2.2 39 (0 : Int32).toNatClampNeg = ((σ.2.2 15 (σ.2.1 18 p3.toNatClampNeg).toNatClampNeg) ^^^ (w (σ.2.1 18 p3.toNatClampNeg).toNatClampNeg)) &&& fd_ct (σ.1 3))) := fd_hd (fun h => absurd h (by omega))
    exact fd_ok_some ⟨i_4, f_5, x_11, w_12⟩
  ·
    have d_13 := Int32.le_iff_toInt_le.mp (Int32.not_lt.mp c_1)
    refine fd_ok_ite (fun c_14 => ?_) (fun c_14 => ?_)
    ·
      have d_15 := Int32.lt_iff_toInt_lt.mp c_14
      refine fd_ok_pb ?_
      refine fd_ok_itp (by decide) ?_
      refine fd_ok_pr ?_
      refine fd_ok_itp (by decide) ?_
      refine fd_ok_lt (fun σ11_16 eσ11_16 => ?_)
      have i_17 : fd_InvC σ11_16 := by subst eσ11_16; exact i0
      have f_18 : fd_fr [216, 239] σ σ11_16 := fd_fr_mix eσ11_16 f0
      have t_19 : (σ11_16.1 1).toInt = (σ.1 1).toInt := by subst eσ11_16; rfl
      have t_20 : (σ11_16.1 4).toInt = (σ.1 4).toInt := by subst eσ11_16; rfl
      have t_21 : (σ11_16.1 5).toInt = (σ.1 5).toInt := by subst eσ11_16; rfl
      have t_22 : (σ11_16.1 18).toInt = (σ.1 18).toInt := by subst eσ11_16; rfl
      have y_23 := fd_ymix (d := 16) eσ11_16 (by decide) (rfl : σ.2.2 16 = _)
      have x_24 : (¬ (0 ≤ p1.toInt ∧ p1.toInt ≤ 3 ∧ 0 ≤ p2.toInt ∧ (1 < p1.toInt ∨ p2.toInt < (σ.1 1).toInt) ∧ (p1.toInt ≤ 1 ∨ p2.toInt < (σ.1 5).toInt) ∧ 0 ≤ p3.toInt ∧ p3.toInt < (σ.1 4).toInt) ∧ (1 : Int32).toInt = 1) ∨ ((0 ≤ p1.toInt ∧ p1.toInt ≤ 3 ∧ 0 ≤ p2.toInt ∧ (1 < p1.toInt ∨ p2.toInt < (σ.1 1).toInt) ∧ (p1.toInt ≤ 1 ∨ p2.toInt < (σ.1 5).toInt) ∧ 0 ≤ p3.toInt ∧ p3.toInt < (σ.1 4).toInt) ∧ (1 : Int32).toInt = 0) := by omega
      have w_25 : fd_H (((1 : Int32).toInt = 0 → ∀ p : Nat → Int64, fd_E (σ.2.1 12) (σ.2.1 13) (σ.2.1 14) (σ.2.2 15) p (σ.1 1).toNatClampNeg → 0 ≤ (fd_qa p1 p2 (σ.2.1 20)).toInt → 0 ≤ (fd_qa p1 p2 (σ.2.1 21)).toInt → (fd_qa p1 p2 (σ.2.1 20)).toInt ≤ (σ.1 1).toInt → ∃ w, fd_F (σ.2.1 12) (σ.2.1 13) (σ.2.1 14) p (fd_qa p1 p2 (σ.2.1 20)).toNatClampNeg (fd_qr p1 (σ.2.2 15 (fd_qa p1 p2 (σ.2.1 20)).toNatClampNeg) (σ.2.2 15 (fd_qa p1 p2 (σ.2.1 21)).toNatClampNeg)) (fd_qa p1 p2 (σ.2.1 21)).toNatClampNeg (fd_qr p1 (σ.2.2 15 (fd_qa p1 p2 (σ.2.1 20)).toNatClampNeg) (σ.2.2 15 (fd_qa p1 p2 (σ.2.1 21)).toNatClampNeg)) w (σ.1 1).toNatClampNeg ∧ σ11_16.2.2 39 (0 : Int32).toNatClampNeg = ((σ.2.2 15 (σ.2.1 18 p3.toNatClampNeg).toNatClampNeg) ^^^ (w (σ.2.1 18 p3.toNatClampNeg).toNatClampNeg)) &&& fd_ct (σ.1 3))) := fd_hd (fun h => absurd h (by omega))
      exact fd_ok_some ⟨i_17, f_18, x_24, w_25⟩
    ·
      have d_26 := Int32.le_iff_toInt_le.mp (Int32.not_lt.mp c_14)
      refine fd_ok_ite (fun c_27 => ?_) (fun c_27 => ?_)
      ·
        have d_28 := Int32.lt_iff_toInt_lt.mp c_27
        refine fd_ok_pb ?_
        refine fd_ok_itp (by decide) ?_
        refine fd_ok_pr ?_
        refine fd_ok_itp (by decide) ?_
        refine fd_ok_lt (fun σ11_29 eσ11_29 => ?_)
        have i_30 : fd_InvC σ11_29 := by subst eσ11_29; exact i0
        have f_31 : fd_fr [216, 239] σ σ11_29 := fd_fr_mix eσ11_29 f0
        have t_32 : (σ11_29.1 1).toInt = (σ.1 1).toInt := by subst eσ11_29; rfl
        have t_33 : (σ11_29.1 4).toInt = (σ.1 4).toInt := by subst eσ11_29; rfl
        have t_34 : (σ11_29.1 5).toInt = (σ.1 5).toInt := by subst eσ11_29; rfl
        have t_35 : (σ11_29.1 18).toInt = (σ.1 18).toInt := by subst eσ11_29; rfl
        have y_36 := fd_ymix (d := 16) eσ11_29 (by decide) (rfl : σ.2.2 16 = _)
        have x_37 : (¬ (0 ≤ p1.toInt ∧ p1.toInt ≤ 3 ∧ 0 ≤ p2.toInt ∧ (1 < p1.toInt ∨ p2.toInt < (σ.1 1).toInt) ∧ (p1.toInt ≤ 1 ∨ p2.toInt < (σ.1 5).toInt) ∧ 0 ≤ p3.toInt ∧ p3.toInt < (σ.1 4).toInt) ∧ (1 : Int32).toInt = 1) ∨ ((0 ≤ p1.toInt ∧ p1.toInt ≤ 3 ∧ 0 ≤ p2.toInt ∧ (1 < p1.toInt ∨ p2.toInt < (σ.1 1).toInt) ∧ (p1.toInt ≤ 1 ∨ p2.toInt < (σ.1 5).toInt) ∧ 0 ≤ p3.toInt ∧ p3.toInt < (σ.1 4).toInt) ∧ (1 : Int32).toInt = 0) := by omega
        have w_38 : fd_H (((1 : Int32).toInt = 0 → ∀ p : Nat → Int64, fd_E (σ.2.1 12) (σ.2.1 13) (σ.2.1 14) (σ.2.2 15) p (σ.1 1).toNatClampNeg → 0 ≤ (fd_qa p1 p2 (σ.2.1 20)).toInt → 0 ≤ (fd_qa p1 p2 (σ.2.1 21)).toInt → (fd_qa p1 p2 (σ.2.1 20)).toInt ≤ (σ.1 1).toInt → ∃ w, fd_F (σ.2.1 12) (σ.2.1 13) (σ.2.1 14) p (fd_qa p1 p2 (σ.2.1 20)).toNatClampNeg (fd_qr p1 (σ.2.2 15 (fd_qa p1 p2 (σ.2.1 20)).toNatClampNeg) (σ.2.2 15 (fd_qa p1 p2 (σ.2.1 21)).toNatClampNeg)) (fd_qa p1 p2 (σ.2.1 21)).toNatClampNeg (fd_qr p1 (σ.2.2 15 (fd_qa p1 p2 (σ.2.1 20)).toNatClampNeg) (σ.2.2 15 (fd_qa p1 p2 (σ.2.1 21)).toNatClampNeg)) w (σ.1 1).toNatClampNeg ∧ σ11_29.2.2 39 (0 : Int32).toNatClampNeg = ((σ.2.2 15 (σ.2.1 18 p3.toNatClampNeg).toNatClampNeg) ^^^ (w (σ.2.1 18 p3.toNatClampNeg).toNatClampNeg)) &&& fd_ct (σ.1 3))) := fd_hd (fun h => absurd h (by omega))
        exact fd_ok_some ⟨i_30, f_31, x_37, w_38⟩
      ·
        have d_39 := Int32.le_iff_toInt_le.mp (Int32.not_lt.mp c_27)
        refine fd_ok_bd ?_
        try unfold f_X3_faultsOf_4
        refine fd_ok_ite (fun c_40 => ?_) (fun c_40 => ?_)
        ·
          have d_41 := Int32.lt_iff_toInt_lt.mp c_40
          refine fd_ok_bd ?_
          try unfold f_X4_size_3
          refine fd_ok_pb ?_
          refine fd_ok_pb ?_
          have r_42 : (0 : Int) ≤ (σ.1 5).toInt ∧ (σ.1 5).toInt ≤ 40 := i0.1 5
          refine fd_ok_ite (fun c_43 => ?_) (fun c_43 => ?_)
          ·
            have d_44 := Int32.le_iff_toInt_le.mp c_43
            refine fd_ok_pb ?_
            refine fd_ok_itp (by decide) ?_
            refine fd_ok_pr ?_
            refine fd_ok_itp (by decide) ?_
            refine fd_ok_lt (fun σ11_45 eσ11_45 => ?_)
            have i_46 : fd_InvC σ11_45 := by subst eσ11_45; exact i0
            have f_47 : fd_fr [216, 239] σ σ11_45 := fd_fr_mix eσ11_45 f0
            have t_48 : (σ11_45.1 1).toInt = (σ.1 1).toInt := by subst eσ11_45; rfl
            have t_49 : (σ11_45.1 4).toInt = (σ.1 4).toInt := by subst eσ11_45; rfl
            have t_50 : (σ11_45.1 5).toInt = (σ.1 5).toInt := by subst eσ11_45; rfl
            have t_51 : (σ11_45.1 18).toInt = (σ.1 18).toInt := by subst eσ11_45; rfl
            have y_52 := fd_ymix (d := 16) eσ11_45 (by decide) (rfl : σ.2.2 16 = _)
            have x_53 : (¬ (0 ≤ p1.toInt ∧ p1.toInt ≤ 3 ∧ 0 ≤ p2.toInt ∧ (1 < p1.toInt ∨ p2.toInt < (σ.1 1).toInt) ∧ (p1.toInt ≤ 1 ∨ p2.toInt < (σ.1 5).toInt) ∧ 0 ≤ p3.toInt ∧ p3.toInt < (σ.1 4).toInt) ∧ (1 : Int32).toInt = 1) ∨ ((0 ≤ p1.toInt ∧ p1.toInt ≤ 3 ∧ 0 ≤ p2.toInt ∧ (1 < p1.toInt ∨ p2.toInt < (σ.1 1).toInt) ∧ (p1.toInt ≤ 1 ∨ p2.toInt < (σ.1 5).toInt) ∧ 0 ≤ p3.toInt ∧ p3.toInt < (σ.1 4).toInt) ∧ (1 : Int32).toInt = 0) := by omega
            have w_54 : fd_H (((1 : Int32).toInt = 0 → ∀ p : Nat → Int64, fd_E (σ.2.1 12) (σ.2.1 13) (σ.2.1 14) (σ.2.2 15) p (σ.1 1).toNatClampNeg → 0 ≤ (fd_qa p1 p2 (σ.2.1 20)).toInt → 0 ≤ (fd_qa p1 p2 (σ.2.1 21)).toInt → (fd_qa p1 p2 (σ.2.1 20)).toInt ≤ (σ.1 1).toInt → ∃ w, fd_F (σ.2.1 12) (σ.2.1 13) (σ.2.1 14) p (fd_qa p1 p2 (σ.2.1 20)).toNatClampNeg (fd_qr p1 (σ.2.2 15 (fd_qa p1 p2 (σ.2.1 20)).toNatClampNeg) (σ.2.2 15 (fd_qa p1 p2 (σ.2.1 21)).toNatClampNeg)) (fd_qa p1 p2 (σ.2.1 21)).toNatClampNeg (fd_qr p1 (σ.2.2 15 (fd_qa p1 p2 (σ.2.1 20)).toNatClampNeg) (σ.2.2 15 (fd_qa p1 p2 (σ.2.1 21)).toNatClampNeg)) w (σ.1 1).toNatClampNeg ∧ σ11_45.2.2 39 (0 : Int32).toNatClampNeg = ((σ.2.2 15 (σ.2.1 18 p3.toNatClampNeg).toNatClampNeg) ^^^ (w (σ.2.1 18 p3.toNatClampNeg).toNatClampNeg)) &&& fd_ct (σ.1 3))) := fd_hd (fun h => absurd h (by omega))
            exact fd_ok_some ⟨i_46, f_47, x_53, w_54⟩
          ·
            have d_55 := Int32.lt_iff_toInt_lt.mp (Int32.not_le.mp c_43)
            refine fd_ok_pb ?_
            refine fd_ok_itn (by decide) ?_
            refine fd_ok_bx ?_
            try unfold f_X10_needOutput_0
            refine fd_ok_ite (fun c_56 => ?_) (fun c_56 => ?_)
            ·
              have d_57 := Int32.lt_iff_toInt_lt.mp c_56
              try unfold f_X10_needOutput_0_J15
              refine fd_ok_pr ?_
              refine fd_ok_pr ?_
              refine fd_ok_itp (by decide) ?_
              refine fd_ok_lt (fun σ11_58 eσ11_58 => ?_)
              have i_59 : fd_InvC σ11_58 := by subst eσ11_58; exact i0
              have f_60 : fd_fr [216, 239] σ σ11_58 := fd_fr_mix eσ11_58 f0
              have t_61 : (σ11_58.1 1).toInt = (σ.1 1).toInt := by subst eσ11_58; rfl
              have t_62 : (σ11_58.1 4).toInt = (σ.1 4).toInt := by subst eσ11_58; rfl
              have t_63 : (σ11_58.1 5).toInt = (σ.1 5).toInt := by subst eσ11_58; rfl
              have t_64 : (σ11_58.1 18).toInt = (σ.1 18).toInt := by subst eσ11_58; rfl
              have y_65 := fd_ymix (d := 16) eσ11_58 (by decide) (rfl : σ.2.2 16 = _)
              have x_66 : (¬ (0 ≤ p1.toInt ∧ p1.toInt ≤ 3 ∧ 0 ≤ p2.toInt ∧ (1 < p1.toInt ∨ p2.toInt < (σ.1 1).toInt) ∧ (p1.toInt ≤ 1 ∨ p2.toInt < (σ.1 5).toInt) ∧ 0 ≤ p3.toInt ∧ p3.toInt < (σ.1 4).toInt) ∧ (1 : Int32).toInt = 1) ∨ ((0 ≤ p1.toInt ∧ p1.toInt ≤ 3 ∧ 0 ≤ p2.toInt ∧ (1 < p1.toInt ∨ p2.toInt < (σ.1 1).toInt) ∧ (p1.toInt ≤ 1 ∨ p2.toInt < (σ.1 5).toInt) ∧ 0 ≤ p3.toInt ∧ p3.toInt < (σ.1 4).toInt) ∧ (1 : Int32).toInt = 0) := by omega
              have w_67 : fd_H (((1 : Int32).toInt = 0 → ∀ p : Nat → Int64, fd_E (σ.2.1 12) (σ.2.1 13) (σ.2.1 14) (σ.2.2 15) p (σ.1 1).toNatClampNeg → 0 ≤ (fd_qa p1 p2 (σ.2.1 20)).toInt → 0 ≤ (fd_qa p1 p2 (σ.2.1 21)).toInt → (fd_qa p1 p2 (σ.2.1 20)).toInt ≤ (σ.1 1).toInt → ∃ w, fd_F (σ.2.1 12) (σ.2.1 13) (σ.2.1 14) p (fd_qa p1 p2 (σ.2.1 20)).toNatClampNeg (fd_qr p1 (σ.2.2 15 (fd_qa p1 p2 (σ.2.1 20)).toNatClampNeg) (σ.2.2 15 (fd_qa p1 p2 (σ.2.1 21)).toNatClampNeg)) (fd_qa p1 p2 (σ.2.1 21)).toNatClampNeg (fd_qr p1 (σ.2.2 15 (fd_qa p1 p2 (σ.2.1 20)).toNatClampNeg) (σ.2.2 15 (fd_qa p1 p2 (σ.2.1 21)).toNatClampNeg)) w (σ.1 1).toNatClampNeg ∧ σ11_58.2.2 39 (0 : Int32).toNatClampNeg = ((σ.2.2 15 (σ.2.1 18 p3.toNatClampNeg).toNatClampNeg) ^^^ (w (σ.2.1 18 p3.toNatClampNeg).toNatClampNeg)) &&& fd_ct (σ.1 3))) := fd_hd (fun h => absurd h (by omega))
              exact fd_ok_some ⟨i_59, f_60, x_66, w_67⟩
            ·
              have d_68 := Int32.le_iff_toInt_le.mp (Int32.not_lt.mp c_56)
              refine fd_ok_bd ?_
              try unfold f_X5_size_2
              refine fd_ok_pb ?_
              have r_69 : (0 : Int) ≤ (σ.1 4).toInt ∧ (σ.1 4).toInt ≤ 32 := i0.1 4
              refine fd_ok_ite (fun c_70 => ?_) (fun c_70 => ?_)
              ·
                have d_71 := Int32.lt_iff_toInt_lt.mp c_70
                refine fd_ok_pl ?_
                refine fd_ok_bd ?_
                try unfold f_X3_shownBy_4
                refine fd_ok_bd ?_
                refine fd_ok_cl (s_X3_tryFault_4 N hN _ _ _ i0 (by omega) (by omega) (by omega)) ?_
                rintro v_72 σ_73 ⟨i_74, g_75, x_76⟩
                have f_77 : fd_fr [216, 239] σ σ_73 := fd_fr_tr f0 (fd_fr_mono g_75 (by decide))
                have t_78 : (σ_73.1 1).toInt = (σ.1 1).toInt := congrArg Int32.toInt (g_75.1 1 (by decide))
                have t_79 : (σ_73.1 4).toInt = (σ.1 4).toInt := congrArg Int32.toInt (g_75.1 4 (by decide))
                have t_80 : (σ_73.1 5).toInt = (σ.1 5).toInt := congrArg Int32.toInt (g_75.1 5 (by decide))
                have t_81 : (σ_73.1 18).toInt = (σ.1 18).toInt := congrArg Int32.toInt (g_75.1 18 (by decide))
                refine fd_ok_bd ?_
                try unfold f_X5_net_2
                refine fd_ok_gd (vp_in_iff.mpr ⟨by omega, by omega⟩) ?_
                refine fd_ok_pb ?_
                refine fd_ok_bd ?_
                try unfold f_X2_changed_1
                have r_82 : (0 : Int) ≤ (σ_73.2.1 18 p3.toNatClampNeg).toInt ∧ (σ_73.2.1 18 p3.toNatClampNeg).toInt ≤ 199 := i_74.2.1 18 _
                refine fd_ok_gd (vp_in_iff.mpr ⟨by omega, by omega⟩) ?_
                refine fd_ok_gd (vp_in_iff.mpr ⟨by omega, by omega⟩) ?_
                refine fd_ok_bd ?_
                refine fd_ok_cl (s_X2_counted_1 N hN _ i_74) ?_
                rintro v_83 σ_84 ⟨i_85, g_86, x_87⟩
                have f_88 : fd_fr [216, 239] σ σ_84 := fd_fr_tr f_77 (fd_fr_mono g_86 (by decide))
                have t_89 : (σ_84.1 1).toInt = (σ_73.1 1).toInt := congrArg Int32.toInt (g_86.1 1 (by decide))
                have t_90 : (σ_84.1 4).toInt = (σ_73.1 4).toInt := congrArg Int32.toInt (g_86.1 4 (by decide))
                have t_91 : (σ_84.1 5).toInt = (σ_73.1 5).toInt := congrArg Int32.toInt (g_86.1 5 (by decide))
                have t_92 : (σ_84.1 18).toInt = (σ_73.1 18).toInt := congrArg Int32.toInt (g_86.1 18 (by decide))
                refine fd_ok_pb ?_
                refine fd_ok_pb ?_
                refine fd_ok_pl ?_
                refine fd_ok_lt (fun σ6_93 eσ6_93 => ?_)
                have i_94 : fd_InvC σ6_93 := by subst eσ6_93; exact i_85
                have f_95 : fd_fr [216, 239] σ σ6_93 := fd_fr_mix eσ6_93 f_88
                have t_96 : (σ6_93.1 1).toInt = (σ_84.1 1).toInt := by subst eσ6_93; rfl
                have t_97 : (σ6_93.1 4).toInt = (σ_84.1 4).toInt := by subst eσ6_93; rfl
                have t_98 : (σ6_93.1 5).toInt = (σ_84.1 5).toInt := by subst eσ6_93; rfl
                have t_99 : (σ6_93.1 18).toInt = (σ_84.1 18).toInt := by subst eσ6_93; rfl
                refine fd_ok_gd (vp_in_iff.mpr ⟨by omega, by omega⟩) ?_
                refine fd_ok_lt (fun σ9_100 eσ9_100 => ?_)
                have i_101 : fd_InvC σ9_100 := fd_inv_sL eσ9_100 i_94
                have f_102 : fd_fr [216, 239] σ σ9_100 := fd_fr_tr f_95 (fd_fr_sL eσ9_100 (by decide))
                have t_103 : (σ9_100.1 1).toInt = (σ6_93.1 1).toInt := by subst eσ9_100; rfl
                have t_104 : (σ9_100.1 4).toInt = (σ6_93.1 4).toInt := by subst eσ9_100; rfl
                have t_105 : (σ9_100.1 5).toInt = (σ6_93.1 5).toInt := by subst eσ9_100; rfl
                have t_106 : (σ9_100.1 18).toInt = (σ6_93.1 18).toInt := by subst eσ9_100; rfl
                have x_107 : (¬ (0 ≤ p1.toInt ∧ p1.toInt ≤ 3 ∧ 0 ≤ p2.toInt ∧ (1 < p1.toInt ∨ p2.toInt < (σ.1 1).toInt) ∧ (p1.toInt ≤ 1 ∨ p2.toInt < (σ.1 5).toInt) ∧ 0 ≤ p3.toInt ∧ p3.toInt < (σ.1 4).toInt) ∧ (0 : Int32).toInt = 1) ∨ ((0 ≤ p1.toInt ∧ p1.toInt ≤ 3 ∧ 0 ≤ p2.toInt ∧ (1 < p1.toInt ∨ p2.toInt < (σ.1 1).toInt) ∧ (p1.toInt ≤ 1 ∨ p2.toInt < (σ.1 5).toInt) ∧ 0 ≤ p3.toInt ∧ p3.toInt < (σ.1 4).toInt) ∧ (0 : Int32).toInt = 0) := by omega
                have w_108 : fd_H (((0 : Int32).toInt = 0 → ∀ p : Nat → Int64, fd_E (σ.2.1 12) (σ.2.1 13) (σ.2.1 14) (σ.2.2 15) p (σ.1 1).toNatClampNeg → 0 ≤ (fd_qa p1 p2 (σ.2.1 20)).toInt → 0 ≤ (fd_qa p1 p2 (σ.2.1 21)).toInt → (fd_qa p1 p2 (σ.2.1 20)).toInt ≤ (σ.1 1).toInt → ∃ w, fd_F (σ.2.1 12) (σ.2.1 13) (σ.2.1 14) p (fd_qa p1 p2 (σ.2.1 20)).toNatClampNeg (fd_qr p1 (σ.2.2 15 (fd_qa p1 p2 (σ.2.1 20)).toNatClampNeg) (σ.2.2 15 (fd_qa p1 p2 (σ.2.1 21)).toNatClampNeg)) (fd_qa p1 p2 (σ.2.1 21)).toNatClampNeg (fd_qr p1 (σ.2.2 15 (fd_qa p1 p2 (σ.2.1 20)).toNatClampNeg) (σ.2.2 15 (fd_qa p1 p2 (σ.2.1 21)).toNatClampNeg)) w (σ.1 1).toNatClampNeg ∧ σ9_100.2.2 39 (0 : Int32).toNatClampNeg = ((σ.2.2 15 (σ.2.1 18 p3.toNatClampNeg).toNatClampNeg) ^^^ (w (σ.2.1 18 p3.toNatClampNeg).toNatClampNeg)) &&& fd_ct (σ.1 3))) := fd_hd (fun _ => fun p hE a b c => ⟨σ_73.2.2 16, x_76 a b c p hE, (fd_o39L eσ9_100).trans (by rw [x_87, g_75.2.2 15 (by decide), g_75.2.1 18 (by decide), g_75.1 3 (by decide)])⟩)
                exact fd_ok_some ⟨i_101, f_102, x_107, w_108⟩
              ·
                have d_109 := Int32.le_iff_toInt_le.mp (Int32.not_lt.mp c_70)
                try unfold f_X10_needOutput_0_J15
                refine fd_ok_pr ?_
                refine fd_ok_pr ?_
                refine fd_ok_itp (by decide) ?_
                refine fd_ok_lt (fun σ11_110 eσ11_110 => ?_)
                have i_111 : fd_InvC σ11_110 := by subst eσ11_110; exact i0
                have f_112 : fd_fr [216, 239] σ σ11_110 := fd_fr_mix eσ11_110 f0
                have t_113 : (σ11_110.1 1).toInt = (σ.1 1).toInt := by subst eσ11_110; rfl
                have t_114 : (σ11_110.1 4).toInt = (σ.1 4).toInt := by subst eσ11_110; rfl
                have t_115 : (σ11_110.1 5).toInt = (σ.1 5).toInt := by subst eσ11_110; rfl
                have t_116 : (σ11_110.1 18).toInt = (σ.1 18).toInt := by subst eσ11_110; rfl
                have y_117 := fd_ymix (d := 16) eσ11_110 (by decide) (rfl : σ.2.2 16 = _)
                have x_118 : (¬ (0 ≤ p1.toInt ∧ p1.toInt ≤ 3 ∧ 0 ≤ p2.toInt ∧ (1 < p1.toInt ∨ p2.toInt < (σ.1 1).toInt) ∧ (p1.toInt ≤ 1 ∨ p2.toInt < (σ.1 5).toInt) ∧ 0 ≤ p3.toInt ∧ p3.toInt < (σ.1 4).toInt) ∧ (1 : Int32).toInt = 1) ∨ ((0 ≤ p1.toInt ∧ p1.toInt ≤ 3 ∧ 0 ≤ p2.toInt ∧ (1 < p1.toInt ∨ p2.toInt < (σ.1 1).toInt) ∧ (p1.toInt ≤ 1 ∨ p2.toInt < (σ.1 5).toInt) ∧ 0 ≤ p3.toInt ∧ p3.toInt < (σ.1 4).toInt) ∧ (1 : Int32).toInt = 0) := by omega
                have w_119 : fd_H (((1 : Int32).toInt = 0 → ∀ p : Nat → Int64, fd_E (σ.2.1 12) (σ.2.1 13) (σ.2.1 14) (σ.2.2 15) p (σ.1 1).toNatClampNeg → 0 ≤ (fd_qa p1 p2 (σ.2.1 20)).toInt → 0 ≤ (fd_qa p1 p2 (σ.2.1 21)).toInt → (fd_qa p1 p2 (σ.2.1 20)).toInt ≤ (σ.1 1).toInt → ∃ w, fd_F (σ.2.1 12) (σ.2.1 13) (σ.2.1 14) p (fd_qa p1 p2 (σ.2.1 20)).toNatClampNeg (fd_qr p1 (σ.2.2 15 (fd_qa p1 p2 (σ.2.1 20)).toNatClampNeg) (σ.2.2 15 (fd_qa p1 p2 (σ.2.1 21)).toNatClampNeg)) (fd_qa p1 p2 (σ.2.1 21)).toNatClampNeg (fd_qr p1 (σ.2.2 15 (fd_qa p1 p2 (σ.2.1 20)).toNatClampNeg) (σ.2.2 15 (fd_qa p1 p2 (σ.2.1 21)).toNatClampNeg)) w (σ.1 1).toNatClampNeg ∧ σ11_110.2.2 39 (0 : Int32).toNatClampNeg = ((σ.2.2 15 (σ.2.1 18 p3.toNatClampNeg).toNatClampNeg) ^^^ (w (σ.2.1 18 p3.toNatClampNeg).toNatClampNeg)) &&& fd_ct (σ.1 3))) := fd_hd (fun h => absurd h (by omega))
                exact fd_ok_some ⟨i_111, f_112, x_118, w_119⟩
        ·
          have d_120 := Int32.le_iff_toInt_le.mp (Int32.not_lt.mp c_40)
          refine fd_ok_bd ?_
          try unfold f_X2_nets_1
          refine fd_ok_pb ?_
          refine fd_ok_pb ?_
          have r_121 : (0 : Int) ≤ (σ.1 1).toInt ∧ (σ.1 1).toInt ≤ 200 := i0.1 1
          refine fd_ok_ite (fun c_122 => ?_) (fun c_122 => ?_)
          ·
            have d_123 := Int32.le_iff_toInt_le.mp c_122
            refine fd_ok_pb ?_
            refine fd_ok_itp (by decide) ?_
            refine fd_ok_pr ?_
            refine fd_ok_itp (by decide) ?_
            refine fd_ok_lt (fun σ11_124 eσ11_124 => ?_)
            have i_125 : fd_InvC σ11_124 := by subst eσ11_124; exact i0
            have f_126 : fd_fr [216, 239] σ σ11_124 := fd_fr_mix eσ11_124 f0
            have t_127 : (σ11_124.1 1).toInt = (σ.1 1).toInt := by subst eσ11_124; rfl
            have t_128 : (σ11_124.1 4).toInt = (σ.1 4).toInt := by subst eσ11_124; rfl
            have t_129 : (σ11_124.1 5).toInt = (σ.1 5).toInt := by subst eσ11_124; rfl
            have t_130 : (σ11_124.1 18).toInt = (σ.1 18).toInt := by subst eσ11_124; rfl
            have y_131 := fd_ymix (d := 16) eσ11_124 (by decide) (rfl : σ.2.2 16 = _)
            have x_132 : (¬ (0 ≤ p1.toInt ∧ p1.toInt ≤ 3 ∧ 0 ≤ p2.toInt ∧ (1 < p1.toInt ∨ p2.toInt < (σ.1 1).toInt) ∧ (p1.toInt ≤ 1 ∨ p2.toInt < (σ.1 5).toInt) ∧ 0 ≤ p3.toInt ∧ p3.toInt < (σ.1 4).toInt) ∧ (1 : Int32).toInt = 1) ∨ ((0 ≤ p1.toInt ∧ p1.toInt ≤ 3 ∧ 0 ≤ p2.toInt ∧ (1 < p1.toInt ∨ p2.toInt < (σ.1 1).toInt) ∧ (p1.toInt ≤ 1 ∨ p2.toInt < (σ.1 5).toInt) ∧ 0 ≤ p3.toInt ∧ p3.toInt < (σ.1 4).toInt) ∧ (1 : Int32).toInt = 0) := by omega
            have w_133 : fd_H (((1 : Int32).toInt = 0 → ∀ p : Nat → Int64, fd_E (σ.2.1 12) (σ.2.1 13) (σ.2.1 14) (σ.2.2 15) p (σ.1 1).toNatClampNeg → 0 ≤ (fd_qa p1 p2 (σ.2.1 20)).toInt → 0 ≤ (fd_qa p1 p2 (σ.2.1 21)).toInt → (fd_qa p1 p2 (σ.2.1 20)).toInt ≤ (σ.1 1).toInt → ∃ w, fd_F (σ.2.1 12) (σ.2.1 13) (σ.2.1 14) p (fd_qa p1 p2 (σ.2.1 20)).toNatClampNeg (fd_qr p1 (σ.2.2 15 (fd_qa p1 p2 (σ.2.1 20)).toNatClampNeg) (σ.2.2 15 (fd_qa p1 p2 (σ.2.1 21)).toNatClampNeg)) (fd_qa p1 p2 (σ.2.1 21)).toNatClampNeg (fd_qr p1 (σ.2.2 15 (fd_qa p1 p2 (σ.2.1 20)).toNatClampNeg) (σ.2.2 15 (fd_qa p1 p2 (σ.2.1 21)).toNatClampNeg)) w (σ.1 1).toNatClampNeg ∧ σ11_124.2.2 39 (0 : Int32).toNatClampNeg = ((σ.2.2 15 (σ.2.1 18 p3.toNatClampNeg).toNatClampNeg) ^^^ (w (σ.2.1 18 p3.toNatClampNeg).toNatClampNeg)) &&& fd_ct (σ.1 3))) := fd_hd (fun h => absurd h (by omega))
            exact fd_ok_some ⟨i_125, f_126, x_132, w_133⟩
          ·
            have d_134 := Int32.lt_iff_toInt_lt.mp (Int32.not_le.mp c_122)
            refine fd_ok_pb ?_
            refine fd_ok_itn (by decide) ?_
            refine fd_ok_bx ?_
            try unfold f_X10_needOutput_0
            refine fd_ok_ite (fun c_135 => ?_) (fun c_135 => ?_)
            ·
              have d_136 := Int32.lt_iff_toInt_lt.mp c_135
              try unfold f_X10_needOutput_0_J15
              refine fd_ok_pr ?_
              refine fd_ok_pr ?_
              refine fd_ok_itp (by decide) ?_
              refine fd_ok_lt (fun σ11_137 eσ11_137 => ?_)
              have i_138 : fd_InvC σ11_137 := by subst eσ11_137; exact i0
              have f_139 : fd_fr [216, 239] σ σ11_137 := fd_fr_mix eσ11_137 f0
              have t_140 : (σ11_137.1 1).toInt = (σ.1 1).toInt := by subst eσ11_137; rfl
              have t_141 : (σ11_137.1 4).toInt = (σ.1 4).toInt := by subst eσ11_137; rfl
              have t_142 : (σ11_137.1 5).toInt = (σ.1 5).toInt := by subst eσ11_137; rfl
              have t_143 : (σ11_137.1 18).toInt = (σ.1 18).toInt := by subst eσ11_137; rfl
              have y_144 := fd_ymix (d := 16) eσ11_137 (by decide) (rfl : σ.2.2 16 = _)
              have x_145 : (¬ (0 ≤ p1.toInt ∧ p1.toInt ≤ 3 ∧ 0 ≤ p2.toInt ∧ (1 < p1.toInt ∨ p2.toInt < (σ.1 1).toInt) ∧ (p1.toInt ≤ 1 ∨ p2.toInt < (σ.1 5).toInt) ∧ 0 ≤ p3.toInt ∧ p3.toInt < (σ.1 4).toInt) ∧ (1 : Int32).toInt = 1) ∨ ((0 ≤ p1.toInt ∧ p1.toInt ≤ 3 ∧ 0 ≤ p2.toInt ∧ (1 < p1.toInt ∨ p2.toInt < (σ.1 1).toInt) ∧ (p1.toInt ≤ 1 ∨ p2.toInt < (σ.1 5).toInt) ∧ 0 ≤ p3.toInt ∧ p3.toInt < (σ.1 4).toInt) ∧ (1 : Int32).toInt = 0) := by omega
              have w_146 : fd_H (((1 : Int32).toInt = 0 → ∀ p : Nat → Int64, fd_E (σ.2.1 12) (σ.2.1 13) (σ.2.1 14) (σ.2.2 15) p (σ.1 1).toNatClampNeg → 0 ≤ (fd_qa p1 p2 (σ.2.1 20)).toInt → 0 ≤ (fd_qa p1 p2 (σ.2.1 21)).toInt → (fd_qa p1 p2 (σ.2.1 20)).toInt ≤ (σ.1 1).toInt → ∃ w, fd_F (σ.2.1 12) (σ.2.1 13) (σ.2.1 14) p (fd_qa p1 p2 (σ.2.1 20)).toNatClampNeg (fd_qr p1 (σ.2.2 15 (fd_qa p1 p2 (σ.2.1 20)).toNatClampNeg) (σ.2.2 15 (fd_qa p1 p2 (σ.2.1 21)).toNatClampNeg)) (fd_qa p1 p2 (σ.2.1 21)).toNatClampNeg (fd_qr p1 (σ.2.2 15 (fd_qa p1 p2 (σ.2.1 20)).toNatClampNeg) (σ.2.2 15 (fd_qa p1 p2 (σ.2.1 21)).toNatClampNeg)) w (σ.1 1).toNatClampNeg ∧ σ11_137.2.2 39 (0 : Int32).toNatClampNeg = ((σ.2.2 15 (σ.2.1 18 p3.toNatClampNeg).toNatClampNeg) ^^^ (w (σ.2.1 18 p3.toNatClampNeg).toNatClampNeg)) &&& fd_ct (σ.1 3))) := fd_hd (fun h => absurd h (by omega))
              exact fd_ok_some ⟨i_138, f_139, x_145, w_146⟩
            ·
              have d_147 := Int32.le_iff_toInt_le.mp (Int32.not_lt.mp c_135)
              refine fd_ok_bd ?_
              try unfold f_X5_size_2
              refine fd_ok_pb ?_
              have r_148 : (0 : Int) ≤ (σ.1 4).toInt ∧ (σ.1 4).toInt ≤ 32 := i0.1 4
              refine fd_ok_ite (fun c_149 => ?_) (fun c_149 => ?_)
              ·
                have d_150 := Int32.lt_iff_toInt_lt.mp c_149
                refine fd_ok_pl ?_
                refine fd_ok_bd ?_
                try unfold f_X3_shownBy_4
                refine fd_ok_bd ?_
                refine fd_ok_cl (s_X3_tryFault_4 N hN _ _ _ i0 (by omega) (by omega) (by omega)) ?_
                rintro v_151 σ_152 ⟨i_153, g_154, x_155⟩
                have f_156 : fd_fr [216, 239] σ σ_152 := fd_fr_tr f0 (fd_fr_mono g_154 (by decide))
                have t_157 : (σ_152.1 1).toInt = (σ.1 1).toInt := congrArg Int32.toInt (g_154.1 1 (by decide))
                have t_158 : (σ_152.1 4).toInt = (σ.1 4).toInt := congrArg Int32.toInt (g_154.1 4 (by decide))
                have t_159 : (σ_152.1 5).toInt = (σ.1 5).toInt := congrArg Int32.toInt (g_154.1 5 (by decide))
                have t_160 : (σ_152.1 18).toInt = (σ.1 18).toInt := congrArg Int32.toInt (g_154.1 18 (by decide))
                refine fd_ok_bd ?_
                try unfold f_X5_net_2
                refine fd_ok_gd (vp_in_iff.mpr ⟨by omega, by omega⟩) ?_
                refine fd_ok_pb ?_
                refine fd_ok_bd ?_
                try unfold f_X2_changed_1
                have r_161 : (0 : Int) ≤ (σ_152.2.1 18 p3.toNatClampNeg).toInt ∧ (σ_152.2.1 18 p3.toNatClampNeg).toInt ≤ 199 := i_153.2.1 18 _
                refine fd_ok_gd (vp_in_iff.mpr ⟨by omega, by omega⟩) ?_
                refine fd_ok_gd (vp_in_iff.mpr ⟨by omega, by omega⟩) ?_
                refine fd_ok_bd ?_
                refine fd_ok_cl (s_X2_counted_1 N hN _ i_153) ?_
                rintro v_162 σ_163 ⟨i_164, g_165, x_166⟩
                have f_167 : fd_fr [216, 239] σ σ_163 := fd_fr_tr f_156 (fd_fr_mono g_165 (by decide))
                have t_168 : (σ_163.1 1).toInt = (σ_152.1 1).toInt := congrArg Int32.toInt (g_165.1 1 (by decide))
                have t_169 : (σ_163.1 4).toInt = (σ_152.1 4).toInt := congrArg Int32.toInt (g_165.1 4 (by decide))
                have t_170 : (σ_163.1 5).toInt = (σ_152.1 5).toInt := congrArg Int32.toInt (g_165.1 5 (by decide))
                have t_171 : (σ_163.1 18).toInt = (σ_152.1 18).toInt := congrArg Int32.toInt (g_165.1 18 (by decide))
                refine fd_ok_pb ?_
                refine fd_ok_pb ?_
                refine fd_ok_pl ?_
                refine fd_ok_lt (fun σ6_172 eσ6_172 => ?_)
                have i_173 : fd_InvC σ6_172 := by subst eσ6_172; exact i_164
                have f_174 : fd_fr [216, 239] σ σ6_172 := fd_fr_mix eσ6_172 f_167
                have t_175 : (σ6_172.1 1).toInt = (σ_163.1 1).toInt := by subst eσ6_172; rfl
                have t_176 : (σ6_172.1 4).toInt = (σ_163.1 4).toInt := by subst eσ6_172; rfl
                have t_177 : (σ6_172.1 5).toInt = (σ_163.1 5).toInt := by subst eσ6_172; rfl
                have t_178 : (σ6_172.1 18).toInt = (σ_163.1 18).toInt := by subst eσ6_172; rfl
                refine fd_ok_gd (vp_in_iff.mpr ⟨by omega, by omega⟩) ?_
                refine fd_ok_lt (fun σ9_179 eσ9_179 => ?_)
                have i_180 : fd_InvC σ9_179 := fd_inv_sL eσ9_179 i_173
                have f_181 : fd_fr [216, 239] σ σ9_179 := fd_fr_tr f_174 (fd_fr_sL eσ9_179 (by decide))
                have t_182 : (σ9_179.1 1).toInt = (σ6_172.1 1).toInt := by subst eσ9_179; rfl
                have t_183 : (σ9_179.1 4).toInt = (σ6_172.1 4).toInt := by subst eσ9_179; rfl
                have t_184 : (σ9_179.1 5).toInt = (σ6_172.1 5).toInt := by subst eσ9_179; rfl
                have t_185 : (σ9_179.1 18).toInt = (σ6_172.1 18).toInt := by subst eσ9_179; rfl
                have x_186 : (¬ (0 ≤ p1.toInt ∧ p1.toInt ≤ 3 ∧ 0 ≤ p2.toInt ∧ (1 < p1.toInt ∨ p2.toInt < (σ.1 1).toInt) ∧ (p1.toInt ≤ 1 ∨ p2.toInt < (σ.1 5).toInt) ∧ 0 ≤ p3.toInt ∧ p3.toInt < (σ.1 4).toInt) ∧ (0 : Int32).toInt = 1) ∨ ((0 ≤ p1.toInt ∧ p1.toInt ≤ 3 ∧ 0 ≤ p2.toInt ∧ (1 < p1.toInt ∨ p2.toInt < (σ.1 1).toInt) ∧ (p1.toInt ≤ 1 ∨ p2.toInt < (σ.1 5).toInt) ∧ 0 ≤ p3.toInt ∧ p3.toInt < (σ.1 4).toInt) ∧ (0 : Int32).toInt = 0) := by omega
                have w_187 : fd_H (((0 : Int32).toInt = 0 → ∀ p : Nat → Int64, fd_E (σ.2.1 12) (σ.2.1 13) (σ.2.1 14) (σ.2.2 15) p (σ.1 1).toNatClampNeg → 0 ≤ (fd_qa p1 p2 (σ.2.1 20)).toInt → 0 ≤ (fd_qa p1 p2 (σ.2.1 21)).toInt → (fd_qa p1 p2 (σ.2.1 20)).toInt ≤ (σ.1 1).toInt → ∃ w, fd_F (σ.2.1 12) (σ.2.1 13) (σ.2.1 14) p (fd_qa p1 p2 (σ.2.1 20)).toNatClampNeg (fd_qr p1 (σ.2.2 15 (fd_qa p1 p2 (σ.2.1 20)).toNatClampNeg) (σ.2.2 15 (fd_qa p1 p2 (σ.2.1 21)).toNatClampNeg)) (fd_qa p1 p2 (σ.2.1 21)).toNatClampNeg (fd_qr p1 (σ.2.2 15 (fd_qa p1 p2 (σ.2.1 20)).toNatClampNeg) (σ.2.2 15 (fd_qa p1 p2 (σ.2.1 21)).toNatClampNeg)) w (σ.1 1).toNatClampNeg ∧ σ9_179.2.2 39 (0 : Int32).toNatClampNeg = ((σ.2.2 15 (σ.2.1 18 p3.toNatClampNeg).toNatClampNeg) ^^^ (w (σ.2.1 18 p3.toNatClampNeg).toNatClampNeg)) &&& fd_ct (σ.1 3))) := fd_hd (fun _ => fun p hE a b c => ⟨σ_152.2.2 16, x_155 a b c p hE, (fd_o39L eσ9_179).trans (by rw [x_166, g_154.2.2 15 (by decide), g_154.2.1 18 (by decide), g_154.1 3 (by decide)])⟩)
                exact fd_ok_some ⟨i_180, f_181, x_186, w_187⟩
              ·
                have d_188 := Int32.le_iff_toInt_le.mp (Int32.not_lt.mp c_149)
                try unfold f_X10_needOutput_0_J15
                refine fd_ok_pr ?_
                refine fd_ok_pr ?_
                refine fd_ok_itp (by decide) ?_
                refine fd_ok_lt (fun σ11_189 eσ11_189 => ?_)
                have i_190 : fd_InvC σ11_189 := by subst eσ11_189; exact i0
                have f_191 : fd_fr [216, 239] σ σ11_189 := fd_fr_mix eσ11_189 f0
                have t_192 : (σ11_189.1 1).toInt = (σ.1 1).toInt := by subst eσ11_189; rfl
                have t_193 : (σ11_189.1 4).toInt = (σ.1 4).toInt := by subst eσ11_189; rfl
                have t_194 : (σ11_189.1 5).toInt = (σ.1 5).toInt := by subst eσ11_189; rfl
                have t_195 : (σ11_189.1 18).toInt = (σ.1 18).toInt := by subst eσ11_189; rfl
                have y_196 := fd_ymix (d := 16) eσ11_189 (by decide) (rfl : σ.2.2 16 = _)
                have x_197 : (¬ (0 ≤ p1.toInt ∧ p1.toInt ≤ 3 ∧ 0 ≤ p2.toInt ∧ (1 < p1.toInt ∨ p2.toInt < (σ.1 1).toInt) ∧ (p1.toInt ≤ 1 ∨ p2.toInt < (σ.1 5).toInt) ∧ 0 ≤ p3.toInt ∧ p3.toInt < (σ.1 4).toInt) ∧ (1 : Int32).toInt = 1) ∨ ((0 ≤ p1.toInt ∧ p1.toInt ≤ 3 ∧ 0 ≤ p2.toInt ∧ (1 < p1.toInt ∨ p2.toInt < (σ.1 1).toInt) ∧ (p1.toInt ≤ 1 ∨ p2.toInt < (σ.1 5).toInt) ∧ 0 ≤ p3.toInt ∧ p3.toInt < (σ.1 4).toInt) ∧ (1 : Int32).toInt = 0) := by omega
                have w_198 : fd_H (((1 : Int32).toInt = 0 → ∀ p : Nat → Int64, fd_E (σ.2.1 12) (σ.2.1 13) (σ.2.1 14) (σ.2.2 15) p (σ.1 1).toNatClampNeg → 0 ≤ (fd_qa p1 p2 (σ.2.1 20)).toInt → 0 ≤ (fd_qa p1 p2 (σ.2.1 21)).toInt → (fd_qa p1 p2 (σ.2.1 20)).toInt ≤ (σ.1 1).toInt → ∃ w, fd_F (σ.2.1 12) (σ.2.1 13) (σ.2.1 14) p (fd_qa p1 p2 (σ.2.1 20)).toNatClampNeg (fd_qr p1 (σ.2.2 15 (fd_qa p1 p2 (σ.2.1 20)).toNatClampNeg) (σ.2.2 15 (fd_qa p1 p2 (σ.2.1 21)).toNatClampNeg)) (fd_qa p1 p2 (σ.2.1 21)).toNatClampNeg (fd_qr p1 (σ.2.2 15 (fd_qa p1 p2 (σ.2.1 20)).toNatClampNeg) (σ.2.2 15 (fd_qa p1 p2 (σ.2.1 21)).toNatClampNeg)) w (σ.1 1).toNatClampNeg ∧ σ11_189.2.2 39 (0 : Int32).toNatClampNeg = ((σ.2.2 15 (σ.2.1 18 p3.toNatClampNeg).toNatClampNeg) ^^^ (w (σ.2.1 18 p3.toNatClampNeg).toNatClampNeg)) &&& fd_ct (σ.1 3))) := fd_hd (fun h => absurd h (by omega))
                exact fd_ok_some ⟨i_190, f_191, x_197, w_198⟩
set_option maxHeartbeats 4000000 in
theorem s_L_suspect_0_39 (N : Nat) (hN : 1000 ≤ N) (p1 : Int32) (p2 : Int32) (σ : fd_St) (i0 : fd_InvC σ) : fd_ok (f_L_suspect_0_39 N p1 p2 σ) (fun v s => fd_InvC s ∧ fd_fr [239] σ s ∧ (True)) := by
  have lit0 : (0 : Int32).toInt = 0 := by decide
  have lit1 : (1 : Int32).toInt = 1 := by decide
  have lit2 : (2 : Int32).toInt = 2 := by decide
  have lit3 : (3 : Int32).toInt = 3 := by decide
  have lit4 : (4 : Int32).toInt = 4 := by decide
  have lit5 : (5 : Int32).toInt = 5 := by decide
  have lit6 : (6 : Int32).toInt = 6 := by decide
  have f0 : fd_fr [239] σ σ := fd_fr_rf
  unfold f_L_suspect_0_39
  refine fd_ok_bx ?_
  try unfold f_X10_suspect_0
  refine fd_ok_ite (fun c_1 => ?_) (fun c_1 => ?_)
  ·
    have d_2 := Int32.lt_iff_toInt_lt.mp c_1
    try unfold f_X10_suspect_0_J10
    refine fd_ok_pr ?_
    refine fd_ok_itp (by decide) ?_
    refine fd_ok_lt (fun σ11_3 eσ11_3 => ?_)
    have i_4 : fd_InvC σ11_3 := by subst eσ11_3; exact i0
    have f_5 : fd_fr [239] σ σ11_3 := fd_fr_mix eσ11_3 f0
    have t_6 : (σ11_3.1 0).toInt = (σ.1 0).toInt := by subst eσ11_3; rfl
    have t_7 : (σ11_3.1 6).toInt = (σ.1 6).toInt := by subst eσ11_3; rfl
    exact fd_ok_some ⟨i_4, f_5, trivial⟩
  ·
    have d_8 := Int32.le_iff_toInt_le.mp (Int32.not_lt.mp c_1)
    refine fd_ok_ite (fun c_9 => ?_) (fun c_9 => ?_)
    ·
      have d_10 := Int32.le_iff_toInt_le.mp c_9
      refine fd_ok_bx ?_
      try unfold f_X10_needTold_0
      have r_11 : (0 : Int) ≤ (σ.1 0).toInt ∧ (σ.1 0).toInt ≤ 1 := i0.1 0
      refine fd_ok_ite (fun c_12 => ?_) (fun c_12 => ?_)
      ·
        have d_13 := congrArg Int32.toInt c_12
        refine fd_ok_pr ?_
        refine fd_ok_pr ?_
        refine fd_ok_itn (by decide) ?_
        refine fd_ok_itp (by decide) ?_
        refine fd_ok_lt (fun σ13_14 eσ13_14 => ?_)
        have i_15 : fd_InvC σ13_14 := by subst eσ13_14; exact i0
        have f_16 : fd_fr [239] σ σ13_14 := fd_fr_mix eσ13_14 f0
        have t_17 : (σ13_14.1 0).toInt = (σ.1 0).toInt := by subst eσ13_14; rfl
        have t_18 : (σ13_14.1 6).toInt = (σ.1 6).toInt := by subst eσ13_14; rfl
        exact fd_ok_some ⟨i_15, f_16, trivial⟩
      ·
        have d_19 : ¬ (σ.1 0).toInt = (0 : Int32).toInt := fun q => c_12 (Int32.toInt_inj.mp q)
        refine fd_ok_pl ?_
        refine fd_ok_ite (fun c_20 => ?_) (fun c_20 => ?_)
        ·
          have d_21 := Int32.lt_iff_toInt_lt.mp c_20
          try unfold f_X10_suspect_0_J42
          refine fd_ok_pr ?_
          refine fd_ok_itp (by decide) ?_
          refine fd_ok_lt (fun σ11_22 eσ11_22 => ?_)
          have i_23 : fd_InvC σ11_22 := by subst eσ11_22; exact i0
          have f_24 : fd_fr [239] σ σ11_22 := fd_fr_mix eσ11_22 f0
          have t_25 : (σ11_22.1 0).toInt = (σ.1 0).toInt := by subst eσ11_22; rfl
          have t_26 : (σ11_22.1 6).toInt = (σ.1 6).toInt := by subst eσ11_22; rfl
          exact fd_ok_some ⟨i_23, f_24, trivial⟩
        ·
          have d_27 := Int32.le_iff_toInt_le.mp (Int32.not_lt.mp c_20)
          refine fd_ok_bd ?_
          try unfold f_X3_suspects_4
          refine fd_ok_pb ?_
          refine fd_ok_bd ?_
          try unfold f_X8_size_5
          refine fd_ok_pb ?_
          have r_28 : (0 : Int) ≤ (σ.1 6).toInt ∧ (σ.1 6).toInt ≤ 480 := i0.1 6
          refine fd_ok_ite (fun c_29 => ?_) (fun c_29 => ?_)
          ·
            have d_30 := Int32.lt_iff_toInt_lt.mp c_29
            refine fd_ok_bd ?_
            try unfold f_X10_ofSuspect_0
            refine fd_ok_bd ?_
            try unfold f_X3_suspects_4
            refine fd_ok_pb ?_
            refine fd_ok_ite (fun c_31 => ?_) (fun c_31 => ?_)
            ·
              have d_32 := congrArg Int32.toInt c_31
              refine fd_ok_bd ?_
              try unfold f_X8_kind_5
              refine fd_ok_gd (vp_in_iff.mpr ⟨by omega, by omega⟩) ?_
              have r_33 : (0 : Int) ≤ (σ.2.1 28 p1.toNatClampNeg).toInt ∧ (σ.2.1 28 p1.toNatClampNeg).toInt ≤ 479 := i0.2.1 28 _
              refine fd_ok_gd (vp_in_iff.mpr ⟨by omega, by omega⟩) ?_
              refine fd_ok_pb ?_
              refine fd_ok_pb ?_
              refine fd_ok_pl ?_
              refine fd_ok_lt (fun σ6_34 eσ6_34 => ?_)
              have i_35 : fd_InvC σ6_34 := by subst eσ6_34; exact i0
              have f_36 : fd_fr [239] σ σ6_34 := fd_fr_mix eσ6_34 f0
              have t_37 : (σ6_34.1 0).toInt = (σ.1 0).toInt := by subst eσ6_34; rfl
              have t_38 : (σ6_34.1 6).toInt = (σ.1 6).toInt := by subst eσ6_34; rfl
              refine fd_ok_gd (vp_in_iff.mpr ⟨by omega, by omega⟩) ?_
              refine fd_ok_lt (fun σ9_39 eσ9_39 => ?_)
              have i_40 : fd_InvC σ9_39 := fd_inv_sL eσ9_39 i_35
              have f_41 : fd_fr [239] σ σ9_39 := fd_fr_tr f_36 (fd_fr_sL eσ9_39 (by decide))
              have t_42 : (σ9_39.1 0).toInt = (σ6_34.1 0).toInt := by subst eσ9_39; rfl
              have t_43 : (σ9_39.1 6).toInt = (σ6_34.1 6).toInt := by subst eσ9_39; rfl
              exact fd_ok_some ⟨i_40, f_41, trivial⟩
            ·
              have d_44 : ¬ p2.toInt = (0 : Int32).toInt := fun q => c_31 (Int32.toInt_inj.mp q)
              refine fd_ok_ite (fun c_45 => ?_) (fun c_45 => ?_)
              ·
                have d_46 := congrArg Int32.toInt c_45
                refine fd_ok_bd ?_
                try unfold f_X3_firstNet_4
                refine fd_ok_bd ?_
                try unfold f_X8_number_5
                refine fd_ok_gd (vp_in_iff.mpr ⟨by omega, by omega⟩) ?_
                have r_47 : (0 : Int) ≤ (σ.2.1 28 p1.toNatClampNeg).toInt ∧ (σ.2.1 28 p1.toNatClampNeg).toInt ≤ 479 := i0.2.1 28 _
                refine fd_ok_gd (vp_in_iff.mpr ⟨by omega, by omega⟩) ?_
                refine fd_ok_pb ?_
                refine fd_ok_bd ?_
                try unfold f_X8_isStuck_5
                refine fd_ok_bd ?_
                try unfold f_X8_kind_5
                refine fd_ok_gd (vp_in_iff.mpr ⟨by omega, by omega⟩) ?_
                refine fd_ok_gd (vp_in_iff.mpr ⟨by omega, by omega⟩) ?_
                refine fd_ok_pb ?_
                have r_48 : (0 : Int) ≤ (σ.2.1 23 (σ.2.1 28 p1.toNatClampNeg).toNatClampNeg).toInt ∧ (σ.2.1 23 (σ.2.1 28 p1.toNatClampNeg).toNatClampNeg).toInt ≤ 3 := i0.2.1 23 _
                have r_49 := i0.2.2 (σ.2.1 28 p1.toNatClampNeg).toNatClampNeg
                refine fd_ok_ite (fun c_50 => ?_) (fun c_50 => ?_)
                ·
                  have d_51 := Int32.lt_iff_toInt_lt.mp c_50
                  refine fd_ok_pb ?_
                  refine fd_ok_itp (by decide) ?_
                  refine fd_ok_bd ?_
                  try unfold f_X4_first_3
                  have r_52 : (0 : Int) ≤ (σ.2.1 24 (σ.2.1 28 p1.toNatClampNeg).toNatClampNeg).toInt ∧ (σ.2.1 24 (σ.2.1 28 p1.toNatClampNeg).toNatClampNeg).toInt ≤ 199 := i0.2.1 24 _
                  have r_53 := i0.2.2 (σ.2.1 28 p1.toNatClampNeg).toNatClampNeg
                  refine fd_ok_gd (vp_in_iff.mpr ⟨by omega, by omega⟩) ?_
                  refine fd_ok_pb ?_
                  refine fd_ok_pb ?_
                  refine fd_ok_pb ?_
                  refine fd_ok_pl ?_
                  refine fd_ok_lt (fun σ6_54 eσ6_54 => ?_)
                  have i_55 : fd_InvC σ6_54 := by subst eσ6_54; exact i0
                  have f_56 : fd_fr [239] σ σ6_54 := fd_fr_mix eσ6_54 f0
                  have t_57 : (σ6_54.1 0).toInt = (σ.1 0).toInt := by subst eσ6_54; rfl
                  have t_58 : (σ6_54.1 6).toInt = (σ.1 6).toInt := by subst eσ6_54; rfl
                  refine fd_ok_gd (vp_in_iff.mpr ⟨by omega, by omega⟩) ?_
                  refine fd_ok_lt (fun σ9_59 eσ9_59 => ?_)
                  have i_60 : fd_InvC σ9_59 := fd_inv_sL eσ9_59 i_55
                  have f_61 : fd_fr [239] σ σ9_59 := fd_fr_tr f_56 (fd_fr_sL eσ9_59 (by decide))
                  have t_62 : (σ9_59.1 0).toInt = (σ6_54.1 0).toInt := by subst eσ9_59; rfl
                  have t_63 : (σ9_59.1 6).toInt = (σ6_54.1 6).toInt := by subst eσ9_59; rfl
                  exact fd_ok_some ⟨i_60, f_61, trivial⟩
                ·
                  have d_64 := Int32.le_iff_toInt_le.mp (Int32.not_lt.mp c_50)
                  refine fd_ok_pb ?_
                  refine fd_ok_itn (by decide) ?_
                  refine fd_ok_pb ?_
                  refine fd_ok_pb ?_
                  refine fd_ok_pl ?_
                  refine fd_ok_lt (fun σ6_65 eσ6_65 => ?_)
                  have i_66 : fd_InvC σ6_65 := by subst eσ6_65; exact i0
                  have f_67 : fd_fr [239] σ σ6_65 := fd_fr_mix eσ6_65 f0
                  have t_68 : (σ6_65.1 0).toInt = (σ.1 0).toInt := by subst eσ6_65; rfl
                  have t_69 : (σ6_65.1 6).toInt = (σ.1 6).toInt := by subst eσ6_65; rfl
                  refine fd_ok_gd (vp_in_iff.mpr ⟨by omega, by omega⟩) ?_
                  refine fd_ok_lt (fun σ9_70 eσ9_70 => ?_)
                  have i_71 : fd_InvC σ9_70 := fd_inv_sL eσ9_70 i_66
                  have f_72 : fd_fr [239] σ σ9_70 := fd_fr_tr f_67 (fd_fr_sL eσ9_70 (by decide))
                  have t_73 : (σ9_70.1 0).toInt = (σ6_65.1 0).toInt := by subst eσ9_70; rfl
                  have t_74 : (σ9_70.1 6).toInt = (σ6_65.1 6).toInt := by subst eσ9_70; rfl
                  exact fd_ok_some ⟨i_71, f_72, trivial⟩
              ·
                refine fd_ok_ite (fun c_76 => ?_) (fun c_76 => ?_)
                ·
                  have d_77 := congrArg Int32.toInt c_76
                  refine fd_ok_bd ?_
                  try unfold f_X3_secondNet_4
                  refine fd_ok_bd ?_
                  try unfold f_X8_isStuck_5
                  refine fd_ok_bd ?_
                  try unfold f_X8_kind_5
                  refine fd_ok_gd (vp_in_iff.mpr ⟨by omega, by omega⟩) ?_
                  have r_78 : (0 : Int) ≤ (σ.2.1 28 p1.toNatClampNeg).toInt ∧ (σ.2.1 28 p1.toNatClampNeg).toInt ≤ 479 := i0.2.1 28 _
                  refine fd_ok_gd (vp_in_iff.mpr ⟨by omega, by omega⟩) ?_
                  refine fd_ok_pb ?_
                  have r_79 : (0 : Int) ≤ (σ.2.1 23 (σ.2.1 28 p1.toNatClampNeg).toNatClampNeg).toInt ∧ (σ.2.1 23 (σ.2.1 28 p1.toNatClampNeg).toNatClampNeg).toInt ≤ 3 := i0.2.1 23 _
                  have r_80 := i0.2.2 (σ.2.1 28 p1.toNatClampNeg).toNatClampNeg
                  refine fd_ok_ite (fun c_81 => ?_) (fun c_81 => ?_)
                  ·
                    have d_82 := Int32.lt_iff_toInt_lt.mp c_81
                    refine fd_ok_pb ?_
                    refine fd_ok_itp (by decide) ?_
                    refine fd_ok_bd ?_
                    try unfold f_X8_number_5
                    refine fd_ok_gd (vp_in_iff.mpr ⟨by omega, by omega⟩) ?_
                    refine fd_ok_gd (vp_in_iff.mpr ⟨by omega, by omega⟩) ?_
                    refine fd_ok_pb ?_
                    refine fd_ok_bd ?_
                    try unfold f_X4_second_3
                    have r_83 : (0 : Int) ≤ (σ.2.1 24 (σ.2.1 28 p1.toNatClampNeg).toNatClampNeg).toInt ∧ (σ.2.1 24 (σ.2.1 28 p1.toNatClampNeg).toNatClampNeg).toInt ≤ 199 := i0.2.1 24 _
                    have r_84 := i0.2.2 (σ.2.1 28 p1.toNatClampNeg).toNatClampNeg
                    refine fd_ok_gd (vp_in_iff.mpr ⟨by omega, by omega⟩) ?_
                    refine fd_ok_pb ?_
                    refine fd_ok_pb ?_
                    refine fd_ok_pb ?_
                    refine fd_ok_pl ?_
                    refine fd_ok_lt (fun σ6_85 eσ6_85 => ?_)
                    have i_86 : fd_InvC σ6_85 := by subst eσ6_85; exact i0
                    have f_87 : fd_fr [239] σ σ6_85 := fd_fr_mix eσ6_85 f0
                    have t_88 : (σ6_85.1 0).toInt = (σ.1 0).toInt := by subst eσ6_85; rfl
                    have t_89 : (σ6_85.1 6).toInt = (σ.1 6).toInt := by subst eσ6_85; rfl
                    refine fd_ok_gd (vp_in_iff.mpr ⟨by omega, by omega⟩) ?_
                    refine fd_ok_lt (fun σ9_90 eσ9_90 => ?_)
                    have i_91 : fd_InvC σ9_90 := fd_inv_sL eσ9_90 i_86
                    have f_92 : fd_fr [239] σ σ9_90 := fd_fr_tr f_87 (fd_fr_sL eσ9_90 (by decide))
                    have t_93 : (σ9_90.1 0).toInt = (σ6_85.1 0).toInt := by subst eσ9_90; rfl
                    have t_94 : (σ9_90.1 6).toInt = (σ6_85.1 6).toInt := by subst eσ9_90; rfl
                    exact fd_ok_some ⟨i_91, f_92, trivial⟩
                  ·
                    have d_95 := Int32.le_iff_toInt_le.mp (Int32.not_lt.mp c_81)
                    refine fd_ok_pb ?_
                    refine fd_ok_itn (by decide) ?_
                    refine fd_ok_pb ?_
                    refine fd_ok_pb ?_
                    refine fd_ok_pl ?_
                    refine fd_ok_lt (fun σ6_96 eσ6_96 => ?_)
                    have i_97 : fd_InvC σ6_96 := by subst eσ6_96; exact i0
                    have f_98 : fd_fr [239] σ σ6_96 := fd_fr_mix eσ6_96 f0
                    have t_99 : (σ6_96.1 0).toInt = (σ.1 0).toInt := by subst eσ6_96; rfl
                    have t_100 : (σ6_96.1 6).toInt = (σ.1 6).toInt := by subst eσ6_96; rfl
                    refine fd_ok_gd (vp_in_iff.mpr ⟨by omega, by omega⟩) ?_
                    refine fd_ok_lt (fun σ9_101 eσ9_101 => ?_)
                    have i_102 : fd_InvC σ9_101 := fd_inv_sL eσ9_101 i_97
                    have f_103 : fd_fr [239] σ σ9_101 := fd_fr_tr f_98 (fd_fr_sL eσ9_101 (by decide))
                    have t_104 : (σ9_101.1 0).toInt = (σ6_96.1 0).toInt := by subst eσ9_101; rfl
                    have t_105 : (σ9_101.1 6).toInt = (σ6_96.1 6).toInt := by subst eσ9_101; rfl
                    exact fd_ok_some ⟨i_102, f_103, trivial⟩
                ·
                  refine fd_ok_ite (fun c_107 => ?_) (fun c_107 => ?_)
                  ·
                    have d_108 := congrArg Int32.toInt c_107
                    refine fd_ok_bd ?_
                    refine fd_ok_cl (s_X8_sum_5 N hN _ _ i0 (by omega) (by omega)) ?_
                    rintro v_109 σ_110 ⟨i_111, g_112, x_113⟩
                    have f_114 : fd_fr [239] σ σ_110 := fd_fr_tr f0 (fd_fr_mono g_112 (by decide))
                    have t_115 : (σ_110.1 0).toInt = (σ.1 0).toInt := congrArg Int32.toInt (g_112.1 0 (by decide))
                    have t_116 : (σ_110.1 6).toInt = (σ.1 6).toInt := congrArg Int32.toInt (g_112.1 6 (by decide))
                    refine fd_ok_pb ?_
                    refine fd_ok_pl ?_
                    refine fd_ok_lt (fun σ6_117 eσ6_117 => ?_)
                    have i_118 : fd_InvC σ6_117 := by subst eσ6_117; exact i_111
                    have f_119 : fd_fr [239] σ σ6_117 := fd_fr_mix eσ6_117 f_114
                    have t_120 : (σ6_117.1 0).toInt = (σ_110.1 0).toInt := by subst eσ6_117; rfl
                    have t_121 : (σ6_117.1 6).toInt = (σ_110.1 6).toInt := by subst eσ6_117; rfl
                    refine fd_ok_gd (vp_in_iff.mpr ⟨by omega, by omega⟩) ?_
                    refine fd_ok_lt (fun σ9_122 eσ9_122 => ?_)
                    have i_123 : fd_InvC σ9_122 := fd_inv_sL eσ9_122 i_118
                    have f_124 : fd_fr [239] σ σ9_122 := fd_fr_tr f_119 (fd_fr_sL eσ9_122 (by decide))
                    have t_125 : (σ9_122.1 0).toInt = (σ6_117.1 0).toInt := by subst eσ9_122; rfl
                    have t_126 : (σ9_122.1 6).toInt = (σ6_117.1 6).toInt := by subst eσ9_122; rfl
                    exact fd_ok_some ⟨i_123, f_124, trivial⟩
                  ·
                    refine fd_ok_ite (fun c_128 => ?_) (fun c_128 => ?_)
                    ·
                      have d_129 := congrArg Int32.toInt c_128
                      refine fd_ok_bd ?_
                      try unfold f_X8_explained_5
                      refine fd_ok_gd (vp_in_iff.mpr ⟨by omega, by omega⟩) ?_
                      have r_130 : (0 : Int) ≤ (σ.2.1 28 p1.toNatClampNeg).toInt ∧ (σ.2.1 28 p1.toNatClampNeg).toInt ≤ 479 := i0.2.1 28 _
                      refine fd_ok_gd (vp_in_iff.mpr ⟨by omega, by omega⟩) ?_
                      refine fd_ok_pb ?_
                      refine fd_ok_pb ?_
                      refine fd_ok_pl ?_
                      refine fd_ok_lt (fun σ6_131 eσ6_131 => ?_)
                      have i_132 : fd_InvC σ6_131 := by subst eσ6_131; exact i0
                      have f_133 : fd_fr [239] σ σ6_131 := fd_fr_mix eσ6_131 f0
                      have t_134 : (σ6_131.1 0).toInt = (σ.1 0).toInt := by subst eσ6_131; rfl
                      have t_135 : (σ6_131.1 6).toInt = (σ.1 6).toInt := by subst eσ6_131; rfl
                      refine fd_ok_gd (vp_in_iff.mpr ⟨by omega, by omega⟩) ?_
                      refine fd_ok_lt (fun σ9_136 eσ9_136 => ?_)
                      have i_137 : fd_InvC σ9_136 := fd_inv_sL eσ9_136 i_132
                      have f_138 : fd_fr [239] σ σ9_136 := fd_fr_tr f_133 (fd_fr_sL eσ9_136 (by decide))
                      have t_139 : (σ9_136.1 0).toInt = (σ6_131.1 0).toInt := by subst eσ9_136; rfl
                      have t_140 : (σ9_136.1 6).toInt = (σ6_131.1 6).toInt := by subst eσ9_136; rfl
                      exact fd_ok_some ⟨i_137, f_138, trivial⟩
                    ·
                      refine fd_ok_ite (fun c_142 => ?_) (fun c_142 => ?_)
                      ·
                        have d_143 := congrArg Int32.toInt c_142
                        refine fd_ok_bd ?_
                        try unfold f_X8_missed_5
                        refine fd_ok_gd (vp_in_iff.mpr ⟨by omega, by omega⟩) ?_
                        have r_144 : (0 : Int) ≤ (σ.2.1 28 p1.toNatClampNeg).toInt ∧ (σ.2.1 28 p1.toNatClampNeg).toInt ≤ 479 := i0.2.1 28 _
                        refine fd_ok_gd (vp_in_iff.mpr ⟨by omega, by omega⟩) ?_
                        refine fd_ok_pb ?_
                        refine fd_ok_pb ?_
                        refine fd_ok_pl ?_
                        refine fd_ok_lt (fun σ6_145 eσ6_145 => ?_)
                        have i_146 : fd_InvC σ6_145 := by subst eσ6_145; exact i0
                        have f_147 : fd_fr [239] σ σ6_145 := fd_fr_mix eσ6_145 f0
                        have t_148 : (σ6_145.1 0).toInt = (σ.1 0).toInt := by subst eσ6_145; rfl
                        have t_149 : (σ6_145.1 6).toInt = (σ.1 6).toInt := by subst eσ6_145; rfl
                        refine fd_ok_gd (vp_in_iff.mpr ⟨by omega, by omega⟩) ?_
                        refine fd_ok_lt (fun σ9_150 eσ9_150 => ?_)
                        have i_151 : fd_InvC σ9_150 := fd_inv_sL eσ9_150 i_146
                        have f_152 : fd_fr [239] σ σ9_150 := fd_fr_tr f_147 (fd_fr_sL eσ9_150 (by decide))
                        have t_153 : (σ9_150.1 0).toInt = (σ6_145.1 0).toInt := by subst eσ9_150; rfl
                        have t_154 : (σ9_150.1 6).toInt = (σ6_145.1 6).toInt := by subst eσ9_150; rfl
                        exact fd_ok_some ⟨i_151, f_152, trivial⟩
                      ·
                        refine fd_ok_bd ?_
                        try unfold f_X8_wrong_5
                        refine fd_ok_gd (vp_in_iff.mpr ⟨by omega, by omega⟩) ?_
                        have r_156 : (0 : Int) ≤ (σ.2.1 28 p1.toNatClampNeg).toInt ∧ (σ.2.1 28 p1.toNatClampNeg).toInt ≤ 479 := i0.2.1 28 _
                        refine fd_ok_gd (vp_in_iff.mpr ⟨by omega, by omega⟩) ?_
                        refine fd_ok_pb ?_
                        refine fd_ok_pb ?_
                        refine fd_ok_pl ?_
                        refine fd_ok_lt (fun σ6_157 eσ6_157 => ?_)
                        have i_158 : fd_InvC σ6_157 := by subst eσ6_157; exact i0
                        have f_159 : fd_fr [239] σ σ6_157 := fd_fr_mix eσ6_157 f0
                        have t_160 : (σ6_157.1 0).toInt = (σ.1 0).toInt := by subst eσ6_157; rfl
                        have t_161 : (σ6_157.1 6).toInt = (σ.1 6).toInt := by subst eσ6_157; rfl
                        refine fd_ok_gd (vp_in_iff.mpr ⟨by omega, by omega⟩) ?_
                        refine fd_ok_lt (fun σ9_162 eσ9_162 => ?_)
                        have i_163 : fd_InvC σ9_162 := fd_inv_sL eσ9_162 i_158
                        have f_164 : fd_fr [239] σ σ9_162 := fd_fr_tr f_159 (fd_fr_sL eσ9_162 (by decide))
                        have t_165 : (σ9_162.1 0).toInt = (σ6_157.1 0).toInt := by subst eσ9_162; rfl
                        have t_166 : (σ9_162.1 6).toInt = (σ6_157.1 6).toInt := by subst eσ9_162; rfl
                        exact fd_ok_some ⟨i_163, f_164, trivial⟩
          ·
            have d_167 := Int32.le_iff_toInt_le.mp (Int32.not_lt.mp c_29)
            try unfold f_X10_suspect_0_J42
            refine fd_ok_pr ?_
            refine fd_ok_itp (by decide) ?_
            refine fd_ok_lt (fun σ11_168 eσ11_168 => ?_)
            have i_169 : fd_InvC σ11_168 := by subst eσ11_168; exact i0
            have f_170 : fd_fr [239] σ σ11_168 := fd_fr_mix eσ11_168 f0
            have t_171 : (σ11_168.1 0).toInt = (σ.1 0).toInt := by subst eσ11_168; rfl
            have t_172 : (σ11_168.1 6).toInt = (σ.1 6).toInt := by subst eσ11_168; rfl
            exact fd_ok_some ⟨i_169, f_170, trivial⟩
    ·
      have d_173 := Int32.lt_iff_toInt_lt.mp (Int32.not_le.mp c_9)
      try unfold f_X10_suspect_0_J10
      refine fd_ok_pr ?_
      refine fd_ok_itp (by decide) ?_
      refine fd_ok_lt (fun σ11_174 eσ11_174 => ?_)
      have i_175 : fd_InvC σ11_174 := by subst eσ11_174; exact i0
      have f_176 : fd_fr [239] σ σ11_174 := fd_fr_mix eσ11_174 f0
      have t_177 : (σ11_174.1 0).toInt = (σ.1 0).toInt := by subst eσ11_174; rfl
      have t_178 : (σ11_174.1 6).toInt = (σ.1 6).toInt := by subst eσ11_174; rfl
      exact fd_ok_some ⟨i_175, f_176, trivial⟩
set_option maxHeartbeats 4000000 in
theorem s_L_pair_0_39 (N : Nat) (hN : 1000 ≤ N) (p1 : Int32) (σ : fd_St) (i0 : fd_InvC σ) : fd_ok (f_L_pair_0_39 N p1 σ) (fun v s => fd_InvC s ∧ fd_fr [239] σ s ∧ (True)) := by
  have lit0 : (0 : Int32).toInt = 0 := by decide
  have lit1 : (1 : Int32).toInt = 1 := by decide
  have lit2 : (2 : Int32).toInt = 2 := by decide
  have lit3 : (3 : Int32).toInt = 3 := by decide
  have lit4 : (4 : Int32).toInt = 4 := by decide
  have lit5 : (5 : Int32).toInt = 5 := by decide
  have f0 : fd_fr [239] σ σ := fd_fr_rf
  unfold f_L_pair_0_39
  refine fd_ok_bx ?_
  try unfold f_X10_pair_0
  refine fd_ok_ite (fun c_1 => ?_) (fun c_1 => ?_)
  ·
    have d_2 := Int32.lt_iff_toInt_lt.mp c_1
    try unfold f_X10_pair_0_J9
    refine fd_ok_pr ?_
    refine fd_ok_itp (by decide) ?_
    refine fd_ok_lt (fun σ11_3 eσ11_3 => ?_)
    have i_4 : fd_InvC σ11_3 := by subst eσ11_3; exact i0
    have f_5 : fd_fr [239] σ σ11_3 := fd_fr_mix eσ11_3 f0
    have t_6 : (σ11_3.1 0).toInt = (σ.1 0).toInt := by subst eσ11_3; rfl
    have t_7 : (σ11_3.1 7).toInt = (σ.1 7).toInt := by subst eσ11_3; rfl
    have t_8 : (σ11_3.1 8).toInt = (σ.1 8).toInt := by subst eσ11_3; rfl
    exact fd_ok_some ⟨i_4, f_5, trivial⟩
  ·
    have d_9 := Int32.le_iff_toInt_le.mp (Int32.not_lt.mp c_1)
    refine fd_ok_ite (fun c_10 => ?_) (fun c_10 => ?_)
    ·
      have d_11 := Int32.le_iff_toInt_le.mp c_10
      refine fd_ok_bx ?_
      try unfold f_X10_needTold_0
      have r_12 : (0 : Int) ≤ (σ.1 0).toInt ∧ (σ.1 0).toInt ≤ 1 := i0.1 0
      refine fd_ok_ite (fun c_13 => ?_) (fun c_13 => ?_)
      ·
        have d_14 := congrArg Int32.toInt c_13
        refine fd_ok_pr ?_
        refine fd_ok_pr ?_
        refine fd_ok_itn (by decide) ?_
        refine fd_ok_itp (by decide) ?_
        refine fd_ok_lt (fun σ13_15 eσ13_15 => ?_)
        have i_16 : fd_InvC σ13_15 := by subst eσ13_15; exact i0
        have f_17 : fd_fr [239] σ σ13_15 := fd_fr_mix eσ13_15 f0
        have t_18 : (σ13_15.1 0).toInt = (σ.1 0).toInt := by subst eσ13_15; rfl
        have t_19 : (σ13_15.1 7).toInt = (σ.1 7).toInt := by subst eσ13_15; rfl
        have t_20 : (σ13_15.1 8).toInt = (σ.1 8).toInt := by subst eσ13_15; rfl
        exact fd_ok_some ⟨i_16, f_17, trivial⟩
      ·
        have d_21 : ¬ (σ.1 0).toInt = (0 : Int32).toInt := fun q => c_13 (Int32.toInt_inj.mp q)
        refine fd_ok_pl ?_
        refine fd_ok_bd ?_
        try unfold f_X10_ofBestPair_0
        refine fd_ok_bd ?_
        try unfold f_X3_bestPair_4
        refine fd_ok_pb ?_
        refine fd_ok_ite (fun c_22 => ?_) (fun c_22 => ?_)
        ·
          have d_23 := congrArg Int32.toInt c_22
          refine fd_ok_bd ?_
          try unfold f_X0_first_6
          refine fd_ok_pb ?_
          refine fd_ok_pb ?_
          refine fd_ok_pl ?_
          refine fd_ok_lt (fun σ6_24 eσ6_24 => ?_)
          have i_25 : fd_InvC σ6_24 := by subst eσ6_24; exact i0
          have f_26 : fd_fr [239] σ σ6_24 := fd_fr_mix eσ6_24 f0
          have t_27 : (σ6_24.1 0).toInt = (σ.1 0).toInt := by subst eσ6_24; rfl
          have t_28 : (σ6_24.1 7).toInt = (σ.1 7).toInt := by subst eσ6_24; rfl
          have t_29 : (σ6_24.1 8).toInt = (σ.1 8).toInt := by subst eσ6_24; rfl
          refine fd_ok_gd (vp_in_iff.mpr ⟨by omega, by omega⟩) ?_
          refine fd_ok_lt (fun σ9_30 eσ9_30 => ?_)
          have i_31 : fd_InvC σ9_30 := fd_inv_sL eσ9_30 i_25
          have f_32 : fd_fr [239] σ σ9_30 := fd_fr_tr f_26 (fd_fr_sL eσ9_30 (by decide))
          have t_33 : (σ9_30.1 0).toInt = (σ6_24.1 0).toInt := by subst eσ9_30; rfl
          have t_34 : (σ9_30.1 7).toInt = (σ6_24.1 7).toInt := by subst eσ9_30; rfl
          have t_35 : (σ9_30.1 8).toInt = (σ6_24.1 8).toInt := by subst eσ9_30; rfl
          exact fd_ok_some ⟨i_31, f_32, trivial⟩
        ·
          have d_36 : ¬ p1.toInt = (0 : Int32).toInt := fun q => c_22 (Int32.toInt_inj.mp q)
          refine fd_ok_ite (fun c_37 => ?_) (fun c_37 => ?_)
          ·
            have d_38 := congrArg Int32.toInt c_37
            refine fd_ok_bd ?_
            try unfold f_X0_second_6
            refine fd_ok_pb ?_
            refine fd_ok_pb ?_
            refine fd_ok_pl ?_
            refine fd_ok_lt (fun σ6_39 eσ6_39 => ?_)
            have i_40 : fd_InvC σ6_39 := by subst eσ6_39; exact i0
            have f_41 : fd_fr [239] σ σ6_39 := fd_fr_mix eσ6_39 f0
            have t_42 : (σ6_39.1 0).toInt = (σ.1 0).toInt := by subst eσ6_39; rfl
            have t_43 : (σ6_39.1 7).toInt = (σ.1 7).toInt := by subst eσ6_39; rfl
            have t_44 : (σ6_39.1 8).toInt = (σ.1 8).toInt := by subst eσ6_39; rfl
            refine fd_ok_gd (vp_in_iff.mpr ⟨by omega, by omega⟩) ?_
            refine fd_ok_lt (fun σ9_45 eσ9_45 => ?_)
            have i_46 : fd_InvC σ9_45 := fd_inv_sL eσ9_45 i_40
            have f_47 : fd_fr [239] σ σ9_45 := fd_fr_tr f_41 (fd_fr_sL eσ9_45 (by decide))
            have t_48 : (σ9_45.1 0).toInt = (σ6_39.1 0).toInt := by subst eσ9_45; rfl
            have t_49 : (σ9_45.1 7).toInt = (σ6_39.1 7).toInt := by subst eσ9_45; rfl
            have t_50 : (σ9_45.1 8).toInt = (σ6_39.1 8).toInt := by subst eσ9_45; rfl
            exact fd_ok_some ⟨i_46, f_47, trivial⟩
          ·
            refine fd_ok_ite (fun c_52 => ?_) (fun c_52 => ?_)
            ·
              have d_53 := congrArg Int32.toInt c_52
              refine fd_ok_bd ?_
              try unfold f_X0_tally_6
              refine fd_ok_pb ?_
              refine fd_ok_bd ?_
              try unfold f_X9_sum_7
              refine fd_ok_pb ?_
              refine fd_ok_pb ?_
              refine fd_ok_pl ?_
              refine fd_ok_lt (fun σ6_54 eσ6_54 => ?_)
              have i_55 : fd_InvC σ6_54 := by subst eσ6_54; exact i0
              have f_56 : fd_fr [239] σ σ6_54 := fd_fr_mix eσ6_54 f0
              have t_57 : (σ6_54.1 0).toInt = (σ.1 0).toInt := by subst eσ6_54; rfl
              have t_58 : (σ6_54.1 7).toInt = (σ.1 7).toInt := by subst eσ6_54; rfl
              have t_59 : (σ6_54.1 8).toInt = (σ.1 8).toInt := by subst eσ6_54; rfl
              refine fd_ok_gd (vp_in_iff.mpr ⟨by omega, by omega⟩) ?_
              refine fd_ok_lt (fun σ9_60 eσ9_60 => ?_)
              have i_61 : fd_InvC σ9_60 := fd_inv_sL eσ9_60 i_55
              have f_62 : fd_fr [239] σ σ9_60 := fd_fr_tr f_56 (fd_fr_sL eσ9_60 (by decide))
              have t_63 : (σ9_60.1 0).toInt = (σ6_54.1 0).toInt := by subst eσ9_60; rfl
              have t_64 : (σ9_60.1 7).toInt = (σ6_54.1 7).toInt := by subst eσ9_60; rfl
              have t_65 : (σ9_60.1 8).toInt = (σ6_54.1 8).toInt := by subst eσ9_60; rfl
              exact fd_ok_some ⟨i_61, f_62, trivial⟩
            ·
              refine fd_ok_ite (fun c_67 => ?_) (fun c_67 => ?_)
              ·
                have d_68 := congrArg Int32.toInt c_67
                refine fd_ok_bd ?_
                try unfold f_X0_tally_6
                refine fd_ok_pb ?_
                refine fd_ok_bd ?_
                try unfold f_X9_explained_7
                refine fd_ok_pb ?_
                refine fd_ok_pb ?_
                refine fd_ok_pl ?_
                refine fd_ok_lt (fun σ6_69 eσ6_69 => ?_)
                have i_70 : fd_InvC σ6_69 := by subst eσ6_69; exact i0
                have f_71 : fd_fr [239] σ σ6_69 := fd_fr_mix eσ6_69 f0
                have t_72 : (σ6_69.1 0).toInt = (σ.1 0).toInt := by subst eσ6_69; rfl
                have t_73 : (σ6_69.1 7).toInt = (σ.1 7).toInt := by subst eσ6_69; rfl
                have t_74 : (σ6_69.1 8).toInt = (σ.1 8).toInt := by subst eσ6_69; rfl
                refine fd_ok_gd (vp_in_iff.mpr ⟨by omega, by omega⟩) ?_
                refine fd_ok_lt (fun σ9_75 eσ9_75 => ?_)
                have i_76 : fd_InvC σ9_75 := fd_inv_sL eσ9_75 i_70
                have f_77 : fd_fr [239] σ σ9_75 := fd_fr_tr f_71 (fd_fr_sL eσ9_75 (by decide))
                have t_78 : (σ9_75.1 0).toInt = (σ6_69.1 0).toInt := by subst eσ9_75; rfl
                have t_79 : (σ9_75.1 7).toInt = (σ6_69.1 7).toInt := by subst eσ9_75; rfl
                have t_80 : (σ9_75.1 8).toInt = (σ6_69.1 8).toInt := by subst eσ9_75; rfl
                exact fd_ok_some ⟨i_76, f_77, trivial⟩
              ·
                refine fd_ok_ite (fun c_82 => ?_) (fun c_82 => ?_)
                ·
                  have d_83 := congrArg Int32.toInt c_82
                  refine fd_ok_bd ?_
                  try unfold f_X0_tally_6
                  refine fd_ok_pb ?_
                  refine fd_ok_bd ?_
                  try unfold f_X9_missed_7
                  refine fd_ok_pb ?_
                  refine fd_ok_pb ?_
                  refine fd_ok_pl ?_
                  refine fd_ok_lt (fun σ6_84 eσ6_84 => ?_)
                  have i_85 : fd_InvC σ6_84 := by subst eσ6_84; exact i0
                  have f_86 : fd_fr [239] σ σ6_84 := fd_fr_mix eσ6_84 f0
                  have t_87 : (σ6_84.1 0).toInt = (σ.1 0).toInt := by subst eσ6_84; rfl
                  have t_88 : (σ6_84.1 7).toInt = (σ.1 7).toInt := by subst eσ6_84; rfl
                  have t_89 : (σ6_84.1 8).toInt = (σ.1 8).toInt := by subst eσ6_84; rfl
                  refine fd_ok_gd (vp_in_iff.mpr ⟨by omega, by omega⟩) ?_
                  refine fd_ok_lt (fun σ9_90 eσ9_90 => ?_)
                  have i_91 : fd_InvC σ9_90 := fd_inv_sL eσ9_90 i_85
                  have f_92 : fd_fr [239] σ σ9_90 := fd_fr_tr f_86 (fd_fr_sL eσ9_90 (by decide))
                  have t_93 : (σ9_90.1 0).toInt = (σ6_84.1 0).toInt := by subst eσ9_90; rfl
                  have t_94 : (σ9_90.1 7).toInt = (σ6_84.1 7).toInt := by subst eσ9_90; rfl
                  have t_95 : (σ9_90.1 8).toInt = (σ6_84.1 8).toInt := by subst eσ9_90; rfl
                  exact fd_ok_some ⟨i_91, f_92, trivial⟩
                ·
                  refine fd_ok_bd ?_
                  try unfold f_X0_tally_6
                  refine fd_ok_pb ?_
                  refine fd_ok_bd ?_
                  try unfold f_X9_wrong_7
                  refine fd_ok_pb ?_
                  refine fd_ok_pb ?_
                  refine fd_ok_pl ?_
                  refine fd_ok_lt (fun σ6_97 eσ6_97 => ?_)
                  have i_98 : fd_InvC σ6_97 := by subst eσ6_97; exact i0
                  have f_99 : fd_fr [239] σ σ6_97 := fd_fr_mix eσ6_97 f0
                  have t_100 : (σ6_97.1 0).toInt = (σ.1 0).toInt := by subst eσ6_97; rfl
                  have t_101 : (σ6_97.1 7).toInt = (σ.1 7).toInt := by subst eσ6_97; rfl
                  have t_102 : (σ6_97.1 8).toInt = (σ.1 8).toInt := by subst eσ6_97; rfl
                  refine fd_ok_gd (vp_in_iff.mpr ⟨by omega, by omega⟩) ?_
                  refine fd_ok_lt (fun σ9_103 eσ9_103 => ?_)
                  have i_104 : fd_InvC σ9_103 := fd_inv_sL eσ9_103 i_98
                  have f_105 : fd_fr [239] σ σ9_103 := fd_fr_tr f_99 (fd_fr_sL eσ9_103 (by decide))
                  have t_106 : (σ9_103.1 0).toInt = (σ6_97.1 0).toInt := by subst eσ9_103; rfl
                  have t_107 : (σ9_103.1 7).toInt = (σ6_97.1 7).toInt := by subst eσ9_103; rfl
                  have t_108 : (σ9_103.1 8).toInt = (σ6_97.1 8).toInt := by subst eσ9_103; rfl
                  exact fd_ok_some ⟨i_104, f_105, trivial⟩
    ·
      have d_109 := Int32.lt_iff_toInt_lt.mp (Int32.not_le.mp c_10)
      try unfold f_X10_pair_0_J9
      refine fd_ok_pr ?_
      refine fd_ok_itp (by decide) ?_
      refine fd_ok_lt (fun σ11_110 eσ11_110 => ?_)
      have i_111 : fd_InvC σ11_110 := by subst eσ11_110; exact i0
      have f_112 : fd_fr [239] σ σ11_110 := fd_fr_mix eσ11_110 f0
      have t_113 : (σ11_110.1 0).toInt = (σ.1 0).toInt := by subst eσ11_110; rfl
      have t_114 : (σ11_110.1 7).toInt = (σ.1 7).toInt := by subst eσ11_110; rfl
      have t_115 : (σ11_110.1 8).toInt = (σ.1 8).toInt := by subst eσ11_110; rfl
      exact fd_ok_some ⟨i_111, f_112, trivial⟩
set_option maxHeartbeats 4000000 in
theorem s_L_join_0_39 (N : Nat) (hN : 1000 ≤ N) (σ : fd_St) (i0 : fd_InvC σ) : fd_ok (f_L_join_0_39 N σ) (fun v s => fd_InvC s ∧ fd_fr [15, 129, 239] σ s ∧ (True)) := by
  have lit0 : (0 : Int32).toInt = 0 := by decide
  have lit1 : (1 : Int32).toInt = 1 := by decide
  have lit10 : (10 : Int32).toInt = 10 := by decide
  have lit2520 : (2520 : Int32).toInt = 2520 := by decide
  have f0 : fd_fr [15, 129, 239] σ σ := fd_fr_rf
  unfold f_L_join_0_39
  refine fd_ok_bx ?_
  try unfold f_X10_join_0
  refine fd_ok_bx ?_
  try unfold f_X10_needTold_0
  have r_1 : (0 : Int) ≤ (σ.1 0).toInt ∧ (σ.1 0).toInt ≤ 1 := i0.1 0
  refine fd_ok_ite (fun c_2 => ?_) (fun c_2 => ?_)
  ·
    have d_3 := congrArg Int32.toInt c_2
    refine fd_ok_pr ?_
    refine fd_ok_pr ?_
    refine fd_ok_itp (by decide) ?_
    refine fd_ok_lt (fun σ11_4 eσ11_4 => ?_)
    have i_5 : fd_InvC σ11_4 := by subst eσ11_4; exact i0
    have f_6 : fd_fr [15, 129, 239] σ σ11_4 := fd_fr_mix eσ11_4 f0
    have t_7 : (σ11_4.1 0).toInt = (σ.1 0).toInt := by subst eσ11_4; rfl
    exact fd_ok_some ⟨i_5, f_6, trivial⟩
  ·
    have d_8 : ¬ (σ.1 0).toInt = (0 : Int32).toInt := fun q => c_2 (Int32.toInt_inj.mp q)
    refine fd_ok_pl ?_
    refine fd_ok_bd ?_
    try unfold f_X3_suspects_4
    refine fd_ok_pb ?_
    refine fd_ok_bd ?_
    try unfold f_X8_withLeastSum_5
    refine fd_ok_cl (s_X8_withLeastSum_5_L2 N hN N _ _ i0 (by omega) (by omega) (by omega)) ?_
    rintro v_9 σ_10 ⟨i_11, g_12, x_13⟩
    have f_14 : fd_fr [15, 129, 239] σ σ_10 := fd_fr_tr f0 (fd_fr_mono g_12 (by decide))
    have t_15 : (σ_10.1 0).toInt = (σ.1 0).toInt := congrArg Int32.toInt (g_12.1 0 (by decide))
    refine fd_ok_bd ?_
    try unfold f_X7_countChip_9
    refine fd_ok_lt (fun σ1_16 eσ1_16 => ?_)
    have i_17 : fd_InvC σ1_16 := fd_inv_sI eσ1_16 i_11 (fd_rng _)
    have f_18 : fd_fr [15, 129, 239] σ σ1_16 := fd_fr_tr f_14 (fd_fr_sI eσ1_16 (by decide))
    have t_19 : (σ1_16.1 0).toInt = (σ_10.1 0).toInt := congrArg Int32.toInt (fd_tN eσ1_16 (by decide))
    refine fd_ok_pb ?_
    refine fd_ok_ite (fun c_20 => ?_) (fun c_20 => ?_)
    ·
      have d_21 := Int32.le_iff_toInt_le.mp c_20
      refine fd_ok_pl ?_
      refine fd_ok_lt (fun σ6_22 eσ6_22 => ?_)
      have i_23 : fd_InvC σ6_22 := by subst eσ6_22; exact i_17
      have f_24 : fd_fr [15, 129, 239] σ σ6_22 := fd_fr_mix eσ6_22 f_18
      have t_25 : (σ6_22.1 0).toInt = (σ1_16.1 0).toInt := by subst eσ6_22; rfl
      refine fd_ok_gd (vp_in_iff.mpr ⟨by omega, by omega⟩) ?_
      refine fd_ok_lt (fun σ9_26 eσ9_26 => ?_)
      have i_27 : fd_InvC σ9_26 := fd_inv_sL eσ9_26 i_23
      have f_28 : fd_fr [15, 129, 239] σ σ9_26 := fd_fr_tr f_24 (fd_fr_sL eσ9_26 (by decide))
      have t_29 : (σ9_26.1 0).toInt = (σ6_22.1 0).toInt := by subst eσ9_26; rfl
      exact fd_ok_some ⟨i_27, f_28, trivial⟩
    ·
      have d_30 := Int32.lt_iff_toInt_lt.mp (Int32.not_le.mp c_20)
      refine fd_ok_ite (fun c_31 => ?_) (fun c_31 => ?_)
      ·
        have d_32 := Int32.lt_iff_toInt_lt.mp c_31
        refine fd_ok_pl ?_
        refine fd_ok_lt (fun σ6_33 eσ6_33 => ?_)
        have i_34 : fd_InvC σ6_33 := by subst eσ6_33; exact i_17
        have f_35 : fd_fr [15, 129, 239] σ σ6_33 := fd_fr_mix eσ6_33 f_18
        have t_36 : (σ6_33.1 0).toInt = (σ1_16.1 0).toInt := by subst eσ6_33; rfl
        refine fd_ok_gd (vp_in_iff.mpr ⟨by omega, by omega⟩) ?_
        refine fd_ok_lt (fun σ9_37 eσ9_37 => ?_)
        have i_38 : fd_InvC σ9_37 := fd_inv_sL eσ9_37 i_34
        have f_39 : fd_fr [15, 129, 239] σ σ9_37 := fd_fr_tr f_35 (fd_fr_sL eσ9_37 (by decide))
        have t_40 : (σ9_37.1 0).toInt = (σ6_33.1 0).toInt := by subst eσ9_37; rfl
        exact fd_ok_some ⟨i_38, f_39, trivial⟩
      ·
        have d_41 := Int32.le_iff_toInt_le.mp (Int32.not_lt.mp c_31)
        refine fd_ok_gd (fun q => by have := congrArg Int32.toInt q; omega) ?_
        refine fd_ok_bd ?_
        try unfold f_X10_giveShares_0
        refine fd_ok_cl (s_X10_giveShares_0_L2 N hN N _ _ _ _ i_17 (by omega) (by omega) (by omega) (by omega) (by omega)) ?_
        rintro v_42 σ_43 ⟨i_44, g_45, x_46⟩
        have f_47 : fd_fr [15, 129, 239] σ σ_43 := fd_fr_tr f_18 (fd_fr_mono g_45 (by decide))
        have t_48 : (σ_43.1 0).toInt = (σ1_16.1 0).toInt := congrArg Int32.toInt (g_45.1 0 (by decide))
        refine fd_ok_pl ?_
        refine fd_ok_lt (fun σ6_49 eσ6_49 => ?_)
        have i_50 : fd_InvC σ6_49 := by subst eσ6_49; exact i_44
        have f_51 : fd_fr [15, 129, 239] σ σ6_49 := fd_fr_mix eσ6_49 f_47
        have t_52 : (σ6_49.1 0).toInt = (σ_43.1 0).toInt := by subst eσ6_49; rfl
        refine fd_ok_gd (vp_in_iff.mpr ⟨by omega, by omega⟩) ?_
        refine fd_ok_lt (fun σ9_53 eσ9_53 => ?_)
        have i_54 : fd_InvC σ9_53 := fd_inv_sL eσ9_53 i_50
        have f_55 : fd_fr [15, 129, 239] σ σ9_53 := fd_fr_tr f_51 (fd_fr_sL eσ9_53 (by decide))
        have t_56 : (σ9_53.1 0).toInt = (σ6_49.1 0).toInt := by subst eσ9_53; rfl
        exact fd_ok_some ⟨i_54, f_55, trivial⟩
set_option maxHeartbeats 4000000 in
theorem s_L_share_0_39 (N : Nat) (hN : 1000 ≤ N) (p1 : Int32) (σ : fd_St) (i0 : fd_InvC σ) : fd_ok (f_L_share_0_39 N p1 σ) (fun v s => fd_InvC s ∧ fd_fr [239] σ s ∧ (True)) := by
  have lit0 : (0 : Int32).toInt = 0 := by decide
  have lit1 : (1 : Int32).toInt = 1 := by decide
  have f0 : fd_fr [239] σ σ := fd_fr_rf
  unfold f_L_share_0_39
  refine fd_ok_bx ?_
  try unfold f_X10_share_0
  refine fd_ok_bx ?_
  try unfold f_X10_needNet_0
  refine fd_ok_bd ?_
  try unfold f_X2_has_1
  refine fd_ok_ite (fun c_1 => ?_) (fun c_1 => ?_)
  ·
    have d_2 := Int32.lt_iff_toInt_lt.mp c_1
    refine fd_ok_pb ?_
    refine fd_ok_itp (by decide) ?_
    refine fd_ok_pr ?_
    refine fd_ok_pr ?_
    refine fd_ok_itp (by decide) ?_
    refine fd_ok_lt (fun σ11_3 eσ11_3 => ?_)
    have i_4 : fd_InvC σ11_3 := by subst eσ11_3; exact i0
    have f_5 : fd_fr [239] σ σ11_3 := fd_fr_mix eσ11_3 f0
    have t_6 : (σ11_3.1 1).toInt = (σ.1 1).toInt := by subst eσ11_3; rfl
    exact fd_ok_some ⟨i_4, f_5, trivial⟩
  ·
    have d_7 := Int32.le_iff_toInt_le.mp (Int32.not_lt.mp c_1)
    have r_8 : (0 : Int) ≤ (σ.1 1).toInt ∧ (σ.1 1).toInt ≤ 200 := i0.1 1
    refine fd_ok_ite (fun c_9 => ?_) (fun c_9 => ?_)
    ·
      have d_10 := Int32.le_iff_toInt_le.mp c_9
      refine fd_ok_pb ?_
      refine fd_ok_itp (by decide) ?_
      refine fd_ok_pr ?_
      refine fd_ok_pr ?_
      refine fd_ok_itp (by decide) ?_
      refine fd_ok_lt (fun σ11_11 eσ11_11 => ?_)
      have i_12 : fd_InvC σ11_11 := by subst eσ11_11; exact i0
      have f_13 : fd_fr [239] σ σ11_11 := fd_fr_mix eσ11_11 f0
      have t_14 : (σ11_11.1 1).toInt = (σ.1 1).toInt := by subst eσ11_11; rfl
      exact fd_ok_some ⟨i_12, f_13, trivial⟩
    ·
      have d_15 := Int32.lt_iff_toInt_lt.mp (Int32.not_le.mp c_9)
      refine fd_ok_pb ?_
      refine fd_ok_itn (by decide) ?_
      refine fd_ok_pl ?_
      refine fd_ok_bd ?_
      try unfold f_X7_of_9
      refine fd_ok_gd (vp_in_iff.mpr ⟨by omega, by omega⟩) ?_
      refine fd_ok_pb ?_
      refine fd_ok_pl ?_
      refine fd_ok_lt (fun σ6_16 eσ6_16 => ?_)
      have i_17 : fd_InvC σ6_16 := by subst eσ6_16; exact i0
      have f_18 : fd_fr [239] σ σ6_16 := fd_fr_mix eσ6_16 f0
      have t_19 : (σ6_16.1 1).toInt = (σ.1 1).toInt := by subst eσ6_16; rfl
      refine fd_ok_gd (vp_in_iff.mpr ⟨by omega, by omega⟩) ?_
      refine fd_ok_lt (fun σ9_20 eσ9_20 => ?_)
      have i_21 : fd_InvC σ9_20 := fd_inv_sL eσ9_20 i_17
      have f_22 : fd_fr [239] σ σ9_20 := fd_fr_tr f_18 (fd_fr_sL eσ9_20 (by decide))
      have t_23 : (σ9_20.1 1).toInt = (σ6_16.1 1).toInt := by subst eσ9_20; rfl
      exact fd_ok_some ⟨i_21, f_22, trivial⟩
set_option maxHeartbeats 4000000 in
theorem s_L_chain_0 (N : Nat) (hN : 1000 ≤ N) (p1 : Int32) (σ : fd_St) (i0 : fd_InvC σ) : fd_ok (f_L_chain_0 N p1 σ) (fun v s => fd_InvC s ∧ fd_fr [16, 17] σ s ∧ (((p1.toInt < 1 ∨ 64 < p1.toInt) ∧ v.toInt = 1 ∧ (s.1 16).toInt = (σ.1 16).toInt ∧ (s.1 17).toInt = (σ.1 17).toInt) ∨ (¬ (p1.toInt < 1 ∨ 64 < p1.toInt) ∧ v.toInt = 0 ∧ (s.1 16).toInt = p1.toInt ∧ (s.1 17).toInt = 0))) := by
  have lit0 : (0 : Int32).toInt = 0 := by decide
  have lit1 : (1 : Int32).toInt = 1 := by decide
  have lit64 : (64 : Int32).toInt = 64 := by decide
  have f0 : fd_fr [16, 17] σ σ := fd_fr_rf
  unfold f_L_chain_0
  refine fd_ok_bx ?_
  try unfold f_X10_chain_0
  refine fd_ok_ite (fun c_1 => ?_) (fun c_1 => ?_)
  ·
    have d_2 := Int32.lt_iff_toInt_lt.mp c_1
    try unfold f_X10_chain_0_J11
    refine fd_ok_pr ?_
    refine fd_ok_itp (by decide) ?_
    refine fd_ok_lt (fun σ9_3 eσ9_3 => ?_)
    have i_4 : fd_InvC σ9_3 := by subst eσ9_3; exact i0
    have f_5 : fd_fr [16, 17] σ σ9_3 := fd_fr_mix eσ9_3 f0
    have t_6 : (σ9_3.1 16).toInt = (σ.1 16).toInt := by subst eσ9_3; rfl
    have t_7 : (σ9_3.1 17).toInt = (σ.1 17).toInt := by subst eσ9_3; rfl
    have x_8 : ((p1.toInt < 1 ∨ 64 < p1.toInt) ∧ (1 : Int32).toInt = 1 ∧ (σ9_3.1 16).toInt = (σ.1 16).toInt ∧ (σ9_3.1 17).toInt = (σ.1 17).toInt) ∨ (¬ (p1.toInt < 1 ∨ 64 < p1.toInt) ∧ (1 : Int32).toInt = 0 ∧ (σ9_3.1 16).toInt = p1.toInt ∧ (σ9_3.1 17).toInt = 0) := by omega
    exact fd_ok_some ⟨i_4, f_5, x_8⟩
  ·
    have d_9 := Int32.le_iff_toInt_le.mp (Int32.not_lt.mp c_1)
    refine fd_ok_ite (fun c_10 => ?_) (fun c_10 => ?_)
    ·
      have d_11 := Int32.le_iff_toInt_le.mp c_10
      refine fd_ok_bd ?_
      try unfold f_X1_begin_10
      refine fd_ok_lt (fun σ1_12 eσ1_12 => ?_)
      have i_13 : fd_InvC σ1_12 := fd_inv_sI eσ1_12 i0 ⟨(by omega : (0 : Int) ≤ p1.toInt), (by omega : p1.toInt ≤ 64)⟩
      have f_14 : fd_fr [16, 17] σ σ1_12 := fd_fr_tr f0 (fd_fr_sI eσ1_12 (by decide))
      have t_15 : (σ1_12.1 16).toInt = p1.toInt := congrArg Int32.toInt (fd_tI eσ1_12)
      have t_16 : (σ1_12.1 17).toInt = (σ.1 17).toInt := congrArg Int32.toInt (fd_tN eσ1_12 (by decide))
      refine fd_ok_lt (fun σ2_17 eσ2_17 => ?_)
      have i_18 : fd_InvC σ2_17 := fd_inv_sI eσ2_17 i_13 ⟨(by omega : (0 : Int) ≤ (0 : Int32).toInt), (by omega : (0 : Int32).toInt ≤ 30)⟩
      have f_19 : fd_fr [16, 17] σ σ2_17 := fd_fr_tr f_14 (fd_fr_sI eσ2_17 (by decide))
      have t_20 : (σ2_17.1 16).toInt = (σ1_12.1 16).toInt := congrArg Int32.toInt (fd_tN eσ2_17 (by decide))
      have t_21 : (σ2_17.1 17).toInt = (0 : Int32).toInt := congrArg Int32.toInt (fd_tI eσ2_17)
      refine fd_ok_pb ?_
      refine fd_ok_pl ?_
      refine fd_ok_lt (fun σ6_22 eσ6_22 => ?_)
      have i_23 : fd_InvC σ6_22 := by subst eσ6_22; exact i_18
      have f_24 : fd_fr [16, 17] σ σ6_22 := fd_fr_mix eσ6_22 f_19
      have t_25 : (σ6_22.1 16).toInt = (σ2_17.1 16).toInt := by subst eσ6_22; rfl
      have t_26 : (σ6_22.1 17).toInt = (σ2_17.1 17).toInt := by subst eσ6_22; rfl
      have x_27 : ((p1.toInt < 1 ∨ 64 < p1.toInt) ∧ (0 : Int32).toInt = 1 ∧ (σ6_22.1 16).toInt = (σ.1 16).toInt ∧ (σ6_22.1 17).toInt = (σ.1 17).toInt) ∨ (¬ (p1.toInt < 1 ∨ 64 < p1.toInt) ∧ (0 : Int32).toInt = 0 ∧ (σ6_22.1 16).toInt = p1.toInt ∧ (σ6_22.1 17).toInt = 0) := by omega
      exact fd_ok_some ⟨i_23, f_24, x_27⟩
    ·
      have d_28 := Int32.lt_iff_toInt_lt.mp (Int32.not_le.mp c_10)
      try unfold f_X10_chain_0_J11
      refine fd_ok_pr ?_
      refine fd_ok_itp (by decide) ?_
      refine fd_ok_lt (fun σ9_29 eσ9_29 => ?_)
      have i_30 : fd_InvC σ9_29 := by subst eσ9_29; exact i0
      have f_31 : fd_fr [16, 17] σ σ9_29 := fd_fr_mix eσ9_29 f0
      have t_32 : (σ9_29.1 16).toInt = (σ.1 16).toInt := by subst eσ9_29; rfl
      have t_33 : (σ9_29.1 17).toInt = (σ.1 17).toInt := by subst eσ9_29; rfl
      have x_34 : ((p1.toInt < 1 ∨ 64 < p1.toInt) ∧ (1 : Int32).toInt = 1 ∧ (σ9_29.1 16).toInt = (σ.1 16).toInt ∧ (σ9_29.1 17).toInt = (σ.1 17).toInt) ∨ (¬ (p1.toInt < 1 ∨ 64 < p1.toInt) ∧ (1 : Int32).toInt = 0 ∧ (σ9_29.1 16).toInt = p1.toInt ∧ (σ9_29.1 17).toInt = 0) := by omega
      exact fd_ok_some ⟨i_30, f_31, x_34⟩
set_option maxHeartbeats 4000000 in
theorem s_L_caught_0_39 (N : Nat) (hN : 1000 ≤ N) (p1 : Int64) (p3 : Int64) (σ : fd_St) (i0 : fd_InvC σ) : fd_ok (f_L_caught_0_39 N p1 p3 σ) (fun v s => fd_InvC s ∧ fd_fr [17, 230, 231, 239] σ s ∧ ((((σ.1 16).toInt = 0 ∨ (σ.1 17).toInt = 30) ∧ v.toInt = 1 ∧ (s.1 17).toInt = (σ.1 17).toInt) ∨ (¬ ((σ.1 16).toInt = 0 ∨ (σ.1 17).toInt = 30) ∧ v.toInt = 0 ∧ (s.1 17).toInt = (σ.1 17).toInt + 1 ∧ (s.2.2 39 (0 : Int32).toNatClampNeg).toInt = (σ.1 17).toInt + 1)) ∧ fd_H (((¬ v.toInt = 0 → s.2.2 30 = σ.2.2 30) ∧ (v.toInt = 0 → ∃ j : Int32, j.toInt = (σ.1 17).toInt ∧ s.2.2 30 = vp_updL (σ.2.2 30) j.toNatClampNeg p1))) ∧ fd_H (((¬ v.toInt = 0 → s.2.2 31 = σ.2.2 31) ∧ (v.toInt = 0 → ∃ j : Int32, j.toInt = (σ.1 17).toInt ∧ s.2.2 31 = vp_updL (σ.2.2 31) j.toNatClampNeg p3)))) := by
  have lit0 : (0 : Int32).toInt = 0 := by decide
  have lit1 : (1 : Int32).toInt = 1 := by decide
  have lit30 : (30 : Int32).toInt = 30 := by decide
  have f0 : fd_fr [17, 230, 231, 239] σ σ := fd_fr_rf
  unfold f_L_caught_0_39
  refine fd_ok_bx ?_
  try unfold f_X10_caught_0
  refine fd_ok_bx ?_
  try unfold f_X10_needChain_0
  refine fd_ok_bd ?_
  try unfold f_X1_begun_10
  have r_1 : (0 : Int) ≤ (σ.1 16).toInt ∧ (σ.1 16).toInt ≤ 64 := i0.1 16
  refine fd_ok_ite (fun c_2 => ?_) (fun c_2 => ?_)
  ·
    have d_3 := Int32.le_iff_toInt_le.mp c_2
    refine fd_ok_pb ?_
    refine fd_ok_itp (by decide) ?_
    refine fd_ok_pr ?_
    refine fd_ok_pr ?_
    refine fd_ok_itp (by decide) ?_
    refine fd_ok_lt (fun σ11_4 eσ11_4 => ?_)
    have i_5 : fd_InvC σ11_4 := by subst eσ11_4; exact i0
    have f_6 : fd_fr [17, 230, 231, 239] σ σ11_4 := fd_fr_mix eσ11_4 f0
    have t_7 : (σ11_4.1 16).toInt = (σ.1 16).toInt := by subst eσ11_4; rfl
    have t_8 : (σ11_4.1 17).toInt = (σ.1 17).toInt := by subst eσ11_4; rfl
    have y_9 := fd_ymix (d := 30) eσ11_4 (by decide) (rfl : σ.2.2 30 = _)
    have y_10 := fd_ymix (d := 31) eσ11_4 (by decide) (rfl : σ.2.2 31 = _)
    have x_11 : (((σ.1 16).toInt = 0 ∨ (σ.1 17).toInt = 30) ∧ (1 : Int32).toInt = 1 ∧ (σ11_4.1 17).toInt = (σ.1 17).toInt) ∨ (¬ ((σ.1 16).toInt = 0 ∨ (σ.1 17).toInt = 30) ∧ (1 : Int32).toInt = 0 ∧ (σ11_4.1 17).toInt = (σ.1 17).toInt + 1 ∧ (σ11_4.2.2 39 (0 : Int32).toNatClampNeg).toInt = (σ.1 17).toInt + 1) := by omega
    have w_12 : fd_H (((¬ (1 : Int32).toInt = 0 → σ11_4.2.2 30 = σ.2.2 30) ∧ ((1 : Int32).toInt = 0 → ∃ j : Int32, j.toInt = (σ.1 17).toInt ∧ σ11_4.2.2 30 = vp_updL (σ.2.2 30) j.toNatClampNeg p1))) := fd_hd (⟨fun _ => y_9, fun h => absurd h (by omega)⟩)
    have w_13 : fd_H (((¬ (1 : Int32).toInt = 0 → σ11_4.2.2 31 = σ.2.2 31) ∧ ((1 : Int32).toInt = 0 → ∃ j : Int32, j.toInt = (σ.1 17).toInt ∧ σ11_4.2.2 31 = vp_updL (σ.2.2 31) j.toNatClampNeg p3))) := fd_hd (⟨fun _ => y_10, fun h => absurd h (by omega)⟩)
    exact fd_ok_some ⟨i_5, f_6, x_11, w_12, w_13⟩
  ·
    have d_14 := Int32.lt_iff_toInt_lt.mp (Int32.not_le.mp c_2)
    refine fd_ok_pb ?_
    refine fd_ok_itn (by decide) ?_
    refine fd_ok_pl ?_
    refine fd_ok_bd ?_
    try unfold f_X1_rows_10
    refine fd_ok_pb ?_
    have r_15 : (0 : Int) ≤ (σ.1 17).toInt ∧ (σ.1 17).toInt ≤ 30 := i0.1 17
    refine fd_ok_ite (fun c_16 => ?_) (fun c_16 => ?_)
    ·
      have d_17 := congrArg Int32.toInt c_16
      refine fd_ok_pr ?_
      refine fd_ok_itp (by decide) ?_
      refine fd_ok_lt (fun σ11_18 eσ11_18 => ?_)
      have i_19 : fd_InvC σ11_18 := by subst eσ11_18; exact i0
      have f_20 : fd_fr [17, 230, 231, 239] σ σ11_18 := fd_fr_mix eσ11_18 f0
      have t_21 : (σ11_18.1 16).toInt = (σ.1 16).toInt := by subst eσ11_18; rfl
      have t_22 : (σ11_18.1 17).toInt = (σ.1 17).toInt := by subst eσ11_18; rfl
      have y_23 := fd_ymix (d := 30) eσ11_18 (by decide) (rfl : σ.2.2 30 = _)
      have y_24 := fd_ymix (d := 31) eσ11_18 (by decide) (rfl : σ.2.2 31 = _)
      have x_25 : (((σ.1 16).toInt = 0 ∨ (σ.1 17).toInt = 30) ∧ (1 : Int32).toInt = 1 ∧ (σ11_18.1 17).toInt = (σ.1 17).toInt) ∨ (¬ ((σ.1 16).toInt = 0 ∨ (σ.1 17).toInt = 30) ∧ (1 : Int32).toInt = 0 ∧ (σ11_18.1 17).toInt = (σ.1 17).toInt + 1 ∧ (σ11_18.2.2 39 (0 : Int32).toNatClampNeg).toInt = (σ.1 17).toInt + 1) := by omega
      have w_26 : fd_H (((¬ (1 : Int32).toInt = 0 → σ11_18.2.2 30 = σ.2.2 30) ∧ ((1 : Int32).toInt = 0 → ∃ j : Int32, j.toInt = (σ.1 17).toInt ∧ σ11_18.2.2 30 = vp_updL (σ.2.2 30) j.toNatClampNeg p1))) := fd_hd (⟨fun _ => y_23, fun h => absurd h (by omega)⟩)
      have w_27 : fd_H (((¬ (1 : Int32).toInt = 0 → σ11_18.2.2 31 = σ.2.2 31) ∧ ((1 : Int32).toInt = 0 → ∃ j : Int32, j.toInt = (σ.1 17).toInt ∧ σ11_18.2.2 31 = vp_updL (σ.2.2 31) j.toNatClampNeg p3))) := fd_hd (⟨fun _ => y_24, fun h => absurd h (by omega)⟩)
      exact fd_ok_some ⟨i_19, f_20, x_25, w_26, w_27⟩
    ·
      have d_28 : ¬ (σ.1 17).toInt = (30 : Int32).toInt := fun q => c_16 (Int32.toInt_inj.mp q)
      refine fd_ok_bd ?_
      try unfold f_X1_addRow_10
      refine fd_ok_gd (vp_in_iff.mpr ⟨by omega, by omega⟩) ?_
      refine fd_ok_lt (fun σ2_29 eσ2_29 => ?_)
      have i_30 : fd_InvC σ2_29 := fd_inv_sL eσ2_29 i0
      have f_31 : fd_fr [17, 230, 231, 239] σ σ2_29 := fd_fr_tr f0 (fd_fr_sL eσ2_29 (by decide))
      have t_32 : (σ2_29.1 16).toInt = (σ.1 16).toInt := by subst eσ2_29; rfl
      have t_33 : (σ2_29.1 17).toInt = (σ.1 17).toInt := by subst eσ2_29; rfl
      have y_34 := fd_yL eσ2_29 (rfl : σ.2.2 30 = _)
      have y_35 := fd_yLn (d := 31) eσ2_29 (by decide) (rfl : σ.2.2 31 = _)
      have r_36 : (0 : Int) ≤ (σ2_29.1 17).toInt ∧ (σ2_29.1 17).toInt ≤ 30 := i_30.1 17
      refine fd_ok_gd (vp_in_iff.mpr ⟨by omega, by omega⟩) ?_
      refine fd_ok_lt (fun σ4_37 eσ4_37 => ?_)
      have i_38 : fd_InvC σ4_37 := fd_inv_sL eσ4_37 i_30
      have f_39 : fd_fr [17, 230, 231, 239] σ σ4_37 := fd_fr_tr f_31 (fd_fr_sL eσ4_37 (by decide))
      have t_40 : (σ4_37.1 16).toInt = (σ2_29.1 16).toInt := by subst eσ4_37; rfl
      have t_41 : (σ4_37.1 17).toInt = (σ2_29.1 17).toInt := by subst eσ4_37; rfl
      have y_42 := fd_yLn (d := 30) eσ4_37 (by decide) y_34
      have y_43 := fd_yL eσ4_37 y_35
      refine fd_ok_lt (fun σ5_44 eσ5_44 => ?_)
      have r_47 : (0 : Int) ≤ (σ4_37.1 17).toInt ∧ (σ4_37.1 17).toInt ≤ 30 := i_38.1 17
      have u_48 := Jvm.Kit.i32_add (x := (σ4_37.1 17)) (y := (1 : Int32)) (by omega) (by omega)
      have i_45 : fd_InvC σ5_44 := fd_inv_sI eσ5_44 i_38 ⟨(by omega : (0 : Int) ≤ ((σ4_37.1 17) + (1 : Int32)).toInt), (by omega : ((σ4_37.1 17) + (1 : Int32)).toInt ≤ 30)⟩
      have f_46 : fd_fr [17, 230, 231, 239] σ σ5_44 := fd_fr_tr f_39 (fd_fr_sI eσ5_44 (by decide))
      have t_49 : (σ5_44.1 16).toInt = (σ4_37.1 16).toInt := congrArg Int32.toInt (fd_tN eσ5_44 (by decide))
      have t_50 : (σ5_44.1 17).toInt = ((σ4_37.1 17) + (1 : Int32)).toInt := congrArg Int32.toInt (fd_tI eσ5_44)
      have y_51 := fd_yIL (d := 30) eσ5_44 y_42
      have y_52 := fd_yIL (d := 31) eσ5_44 y_43
      refine fd_ok_pb ?_
      refine fd_ok_pl ?_
      refine fd_ok_lt (fun σ6_53 eσ6_53 => ?_)
      have i_54 : fd_InvC σ6_53 := by subst eσ6_53; exact i_45
      have f_55 : fd_fr [17, 230, 231, 239] σ σ6_53 := fd_fr_mix eσ6_53 f_46
      have t_56 : (σ6_53.1 16).toInt = (σ5_44.1 16).toInt := by subst eσ6_53; rfl
      have t_57 : (σ6_53.1 17).toInt = (σ5_44.1 17).toInt := by subst eσ6_53; rfl
      have y_58 := fd_ymix (d := 30) eσ6_53 (by decide) y_51
      have y_59 := fd_ymix (d := 31) eσ6_53 (by decide) y_52
      refine fd_ok_gd (vp_in_iff.mpr ⟨by omega, by omega⟩) ?_
      refine fd_ok_lt (fun σ9_60 eσ9_60 => ?_)
      have i_61 : fd_InvC σ9_60 := fd_inv_sL eσ9_60 i_54
      have f_62 : fd_fr [17, 230, 231, 239] σ σ9_60 := fd_fr_tr f_55 (fd_fr_sL eσ9_60 (by decide))
      have t_63 : (σ9_60.1 16).toInt = (σ6_53.1 16).toInt := by subst eσ9_60; rfl
      have t_64 : (σ9_60.1 17).toInt = (σ6_53.1 17).toInt := by subst eσ9_60; rfl
      have r_65 : (0 : Int) ≤ (σ5_44.1 17).toInt ∧ (σ5_44.1 17).toInt ≤ 30 := i_45.1 17
      have o_66 : (σ9_60.2.2 39 (0 : Int32).toNatClampNeg).toInt = (σ5_44.1 17).toInt := fd_o39 eσ9_60
      have y_67 := fd_yLn (d := 30) eσ9_60 (by decide) y_58
      have y_68 := fd_yLn (d := 31) eσ9_60 (by decide) y_59
      have x_69 : (((σ.1 16).toInt = 0 ∨ (σ.1 17).toInt = 30) ∧ (0 : Int32).toInt = 1 ∧ (σ9_60.1 17).toInt = (σ.1 17).toInt) ∨ (¬ ((σ.1 16).toInt = 0 ∨ (σ.1 17).toInt = 30) ∧ (0 : Int32).toInt = 0 ∧ (σ9_60.1 17).toInt = (σ.1 17).toInt + 1 ∧ (σ9_60.2.2 39 (0 : Int32).toNatClampNeg).toInt = (σ.1 17).toInt + 1) := by omega
      have w_70 : fd_H (((¬ (0 : Int32).toInt = 0 → σ9_60.2.2 30 = σ.2.2 30) ∧ ((0 : Int32).toInt = 0 → ∃ j : Int32, j.toInt = (σ.1 17).toInt ∧ σ9_60.2.2 30 = vp_updL (σ.2.2 30) j.toNatClampNeg p1))) := fd_hd (⟨fun h => absurd (by omega) h, fun _ => ⟨_, by omega, y_67⟩⟩)
      have w_71 : fd_H (((¬ (0 : Int32).toInt = 0 → σ9_60.2.2 31 = σ.2.2 31) ∧ ((0 : Int32).toInt = 0 → ∃ j : Int32, j.toInt = (σ.1 17).toInt ∧ σ9_60.2.2 31 = vp_updL (σ.2.2 31) j.toNatClampNeg p3))) := fd_hd (⟨fun h => absurd (by omega) h, fun _ => ⟨_, by omega, y_68⟩⟩)
      exact fd_ok_some ⟨i_61, f_62, x_69, w_70, w_71⟩
