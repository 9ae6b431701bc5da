/-- what both sides have in common -/
def fd_R (σ μ : fd_St) : Prop := (σ.1 1).toInt = (μ.1 1).toInt ∧ (σ.1 2).toInt = (μ.1 2).toInt ∧ (σ.1 3).toInt = (μ.1 4).toInt ∧ (σ.1 4).toInt = (μ.1 3).toInt ∧ (σ.1 16).toInt = (μ.1 12).toInt ∧ (σ.1 17).toInt = (μ.1 13).toInt ∧ (σ.1 18).toInt = (μ.1 14).toInt ∧ (σ.1 5).toInt = (μ.1 5).toInt ∧ σ.2.1 12 = μ.2.1 1 ∧ σ.2.1 13 = μ.2.1 2 ∧ σ.2.1 14 = μ.2.1 3 ∧ σ.2.1 18 = μ.2.1 5 ∧ σ.2.1 20 = μ.2.1 7 ∧ σ.2.1 21 = μ.2.1 8 ∧ σ.2.2 19 = μ.2.2 6 ∧ fd_E (σ.2.1 12) (σ.2.1 13) (σ.2.1 14) (σ.2.2 15) (μ.2.2 4) (σ.1 1).toNatClampNeg ∧ fd_Q (σ.1 1) (σ.1 5) (σ.1 4) (σ.2.1 20) (σ.2.1 21) (σ.2.1 18)
theorem fd_e_gd {p : Prop} {t : Option Int32} (hp : p) (h : t = some 1) : fd_gd p t = some 1 := by rw [fd_gdp hp]; exact h
theorem fd_e_lt {α : Type} {x : α} {f : α → Option Int32} (h : ∀ y, y = x → f y = some 1) : fd_lt x f = some 1 := h x rfl
theorem fd_e_bd {α : Type} {o : Option (α × fd_St)} {P : α → fd_St → Prop} {f : α → fd_St → Option Int32} (h : fd_ok o P) (k : ∀ v s, P v s → f v s = some 1) : fd_bd o f = some 1 := by
  obtain ⟨v, s, h1, h2⟩ := h
  rw [h1]; exact k v s h2
theorem fd_e_itp {c : Prop} [Decidable c] {t e : Option Int32} (hc : c) (ht : t = some 1) : (if c then t else e) = some 1 := by rw [if_pos hc]; exact ht
theorem fd_e_ite {c : Prop} [Decidable c] {t e : Option Int32} (ht : c → t = some 1) (he : ¬ c → e = some 1) : (if c then t else e) = some 1 := by
  by_cases h : c
  · rw [if_pos h]; exact ht h
  · rw [if_neg h]; exact he h
theorem fd_lgL {a b : Int64} (h : a = b) : lg_cmp a b = 0 := by
  subst h
  unfold lg_cmp
  rw [if_neg (Int64.lt_irrefl (a := a)), if_pos rfl]
theorem fd_lg {a : Int64} {b : Int32} (h : a.toInt = b.toInt) : lg_cmp a b.toInt64 = 0 := fd_lgL (Int64.toInt_inj.mp (by rw [h]; exact (Int32.toInt_toInt64 b).symm))
theorem fd_gk {i k : Int32} {L : Nat} (h0 : 0 ≤ i.toInt) (h1 : i.toInt + 6 ≤ (L : Int)) (hL : L ≤ 3072) (hk : 0 ≤ k.toInt ∧ k.toInt < 6) : vp_in (i + k) L := by
  have a := Jvm.Kit.i32_add (x := i) (y := k) (by omega) (by omega)
  exact vp_in_iff.mpr ⟨by omega, by omega⟩
theorem fd_ofN {L : Nat} (h : L ≤ 3072) : (Int32.ofNat L).toInt = (L : Int) := nI_toInt (n := L) (by omega)
set_option maxHeartbeats 4000000 in
theorem u_c0 (N L : Nat) (hN : 1000 ≤ N) (hL : L ≤ 3072) (xs : Nat → Int32) (K : Int32 → fd_St → fd_St → Option Int32) (i : Int32) (σ μ : fd_St) (iC : fd_InvC σ) (iM : fd_InvM μ) (r : fd_R σ μ) (h0 : 0 ≤ i.toInt) (h1 : i.toInt + 6 ≤ (L : Int)) (hK : ∀ (j : Int32) (σ1 μ1 : fd_St), fd_InvC σ1 → fd_InvM μ1 → fd_R σ1 μ1 → j.toInt = i.toInt + 6 → K j σ1 μ1 = some 1) : f_law_c0 N L xs K i σ μ = some 1 := by
  have lit0 : (0 : Int32).toInt = 0 := by decide
  have lit6 : (6 : Int32).toInt = 6 := by decide
  obtain ⟨r0, r1, r2, r3, r4, r5, r6, r7, rr0, rr1, rr2, rr3, rr4, rr5, rr6, ex, exq⟩ := r
  have rg : (0 : Int) ≤ (σ.1 1).toInt ∧ (σ.1 1).toInt ≤ 200 := iC.1 1
  have rh : (0 : Int) ≤ (μ.1 4).toInt ∧ (μ.1 4).toInt ≤ 64 := iM.1 4
  have rp : (0 : Int) ≤ (σ.1 5).toInt ∧ (σ.1 5).toInt ≤ 40 := iC.1 5
  have ro : (0 : Int) ≤ (σ.1 4).toInt ∧ (σ.1 4).toInt ≤ 32 := iC.1 4
  unfold f_law_c0
  refine fd_e_bd (s_L_input_0_39 N hN _ iC) ?_
  rintro v_1 s_2 ⟨i_3, f_4, x_5, y_6, y_7⟩
  have t_8 : (s_2.1 3).toInt = (σ.1 3).toInt := congrArg Int32.toInt (f_4.1 3 (by decide))
  have t_9 : (s_2.1 4).toInt = (σ.1 4).toInt := congrArg Int32.toInt (f_4.1 4 (by decide))
  have t_10 : (s_2.1 16).toInt = (σ.1 16).toInt := congrArg Int32.toInt (f_4.1 16 (by decide))
  have t_11 : (s_2.1 17).toInt = (σ.1 17).toInt := congrArg Int32.toInt (f_4.1 17 (by decide))
  have t_12 : (s_2.1 18).toInt = (σ.1 18).toInt := congrArg Int32.toInt (f_4.1 18 (by decide))
  have t_13 : (s_2.1 5).toInt = (σ.1 5).toInt := congrArg Int32.toInt (f_4.1 5 (by decide))
  have w_14 : s_2.2.1 13 = σ.2.1 13 := f_4.2.1 13 (by decide)
  have w_15 : s_2.2.1 14 = σ.2.1 14 := f_4.2.1 14 (by decide)
  have w_16 : s_2.2.1 18 = σ.2.1 18 := f_4.2.1 18 (by decide)
  have w_17 : s_2.2.1 20 = σ.2.1 20 := f_4.2.1 20 (by decide)
  have w_18 : s_2.2.1 21 = σ.2.1 21 := f_4.2.1 21 (by decide)
  have w_19 : s_2.2.2 19 = σ.2.2 19 := f_4.2.2 19 (by decide)
  refine fd_e_bd (s_X11_input_0 N hN _ iM) ?_
  rintro v_20 s_21 ⟨i_22, f_23, x_24, y_25, y_26⟩
  have t_27 : (s_21.1 4).toInt = (μ.1 4).toInt := congrArg Int32.toInt (f_23.1 4 (by decide))
  have t_28 : (s_21.1 3).toInt = (μ.1 3).toInt := congrArg Int32.toInt (f_23.1 3 (by decide))
  have t_29 : (s_21.1 12).toInt = (μ.1 12).toInt := congrArg Int32.toInt (f_23.1 12 (by decide))
  have t_30 : (s_21.1 13).toInt = (μ.1 13).toInt := congrArg Int32.toInt (f_23.1 13 (by decide))
  have t_31 : (s_21.1 14).toInt = (μ.1 14).toInt := congrArg Int32.toInt (f_23.1 14 (by decide))
  have t_32 : (s_21.1 5).toInt = (μ.1 5).toInt := congrArg Int32.toInt (f_23.1 5 (by decide))
  have w_33 : s_21.2.1 2 = μ.2.1 2 := f_23.2.1 2 (by decide)
  have w_34 : s_21.2.1 3 = μ.2.1 3 := f_23.2.1 3 (by decide)
  have w_35 : s_21.2.1 5 = μ.2.1 5 := f_23.2.1 5 (by decide)
  have w_36 : s_21.2.1 7 = μ.2.1 7 := f_23.2.1 7 (by decide)
  have w_37 : s_21.2.1 8 = μ.2.1 8 := f_23.2.1 8 (by decide)
  have w_38 : s_21.2.2 6 = μ.2.2 6 := f_23.2.2 6 (by decide)
  have e_39 : s_2.2.1 12 = s_21.2.1 1 := by
    by_cases z : v_1.toInt = 0
    · obtain ⟨j, w, q, e⟩ := (fd_un y_6).2 z; obtain ⟨j1, w1, q1, e1⟩ := (fd_un y_25).2 (by omega); have ej : j = j1 := Int32.toInt_inj.mp (by omega); have ew : w = w1 := Int32.toInt_inj.mp (by omega); rw [e, e1, ej, ew, rr0]
    · rw [(fd_un y_6).1 z, (fd_un y_25).1 (by omega), rr0]
  have e_40 : s_2.2.1 13 = s_21.2.1 2 := (w_14.trans rr1).trans w_33.symm
  have e_41 : s_2.2.1 14 = s_21.2.1 3 := (w_15.trans rr2).trans w_34.symm
  have e_42 : s_2.2.1 18 = s_21.2.1 5 := (w_16.trans rr3).trans w_35.symm
  have e_43 : s_2.2.1 20 = s_21.2.1 7 := (w_17.trans rr4).trans w_36.symm
  have e_44 : s_2.2.1 21 = s_21.2.1 8 := (w_18.trans rr5).trans w_37.symm
  have e_45 : s_2.2.2 19 = s_21.2.2 6 := (w_19.trans rr6).trans w_38.symm
  have e_46 : fd_E (s_2.2.1 12) (s_2.2.1 13) (s_2.2.1 14) (s_2.2.2 15) (s_21.2.2 4) (s_2.1 1).toNatClampNeg := by
    by_cases z : v_1.toInt = 0
    · obtain ⟨j, w, ⟨q1, q2⟩, e⟩ := (fd_un y_6).2 z; obtain ⟨j2, q3, e2⟩ := (fd_un y_7).2 z; obtain ⟨j3, q4, e3⟩ := (fd_un y_26).2 (by omega)
      rw [e, e2, e3, w_14, w_15]; exact fd_E_input ex (by omega) (by omega) (by omega) (by omega) (by omega) (by omega)
    · have n1 : s_2.1 1 = σ.1 1 := Int32.toInt_inj.mp (by omega); rw [(fd_un y_6).1 z, w_14, w_15, (fd_un y_7).1 z, (fd_un y_26).1 (by omega), n1]; exact ex
  have e_47 : fd_Q (s_2.1 1) (s_2.1 5) (s_2.1 4) (s_2.2.1 20) (s_2.2.1 21) (s_2.2.1 18) := by
    have p5 : s_2.1 5 = σ.1 5 := Int32.toInt_inj.mp (by omega); have o4 : s_2.1 4 = σ.1 4 := Int32.toInt_inj.mp (by omega); rw [p5, o4, w_17, w_18, w_16]; exact fd_Q_n exq (by omega)
  refine fd_e_lt (fun y_48 ey_48 => ?_)
  have t_49 := fd_la ey_48 (by omega) (by omega)
  have r_50 : fd_R s_2 s_21 := ⟨by omega, by omega, by omega, by omega, by omega, by omega, by omega, by omega, e_39, e_40, e_41, e_42, e_43, e_44, e_45, e_46, e_47⟩
  exact hK _ _ _ i_3 i_22 r_50 (by omega)
set_option maxHeartbeats 4000000 in
theorem u_c1 (N L : Nat) (hN : 1000 ≤ N) (hL : L ≤ 3072) (xs : Nat → Int32) (K : Int32 → fd_St → fd_St → Option Int32) (i : Int32) (σ μ : fd_St) (iC : fd_InvC σ) (iM : fd_InvM μ) (r : fd_R σ μ) (h0 : 0 ≤ i.toInt) (h1 : i.toInt + 6 ≤ (L : Int)) (hK : ∀ (j : Int32) (σ1 μ1 : fd_St), fd_InvC σ1 → fd_InvM μ1 → fd_R σ1 μ1 → j.toInt = i.toInt + 6 → K j σ1 μ1 = some 1) : f_law_c1 N L xs K i σ μ = some 1 := by
  have lit0 : (0 : Int32).toInt = 0 := by decide
  have lit6 : (6 : Int32).toInt = 6 := by decide
  obtain ⟨r0, r1, r2, r3, r4, r5, r6, r7, rr0, rr1, rr2, rr3, rr4, rr5, rr6, ex, exq⟩ := r
  have rg : (0 : Int) ≤ (σ.1 1).toInt ∧ (σ.1 1).toInt ≤ 200 := iC.1 1
  have rh : (0 : Int) ≤ (μ.1 4).toInt ∧ (μ.1 4).toInt ≤ 64 := iM.1 4
  have rp : (0 : Int) ≤ (σ.1 5).toInt ∧ (σ.1 5).toInt ≤ 40 := iC.1 5
  have ro : (0 : Int) ≤ (σ.1 4).toInt ∧ (σ.1 4).toInt ≤ 32 := iC.1 4
  unfold f_law_c1
  generalize xs (i + (1 : Int32)).toNatClampNeg = b1
  generalize xs (i + (2 : Int32)).toNatClampNeg = b2
  generalize xs (i + (3 : Int32)).toNatClampNeg = b3
  refine fd_e_gd (fd_gk h0 h1 hL (by decide)) ?_
  refine fd_e_gd (fd_gk h0 h1 hL (by decide)) ?_
  refine fd_e_gd (fd_gk h0 h1 hL (by decide)) ?_
  refine fd_e_bd (s_L_gate_0_39 N hN _ _ _ _ iC) ?_
  rintro v_1 s_2 ⟨i_3, f_4, x_5, y_6, y_7, y_8, y_9, y_10⟩
  have t_11 : (s_2.1 2).toInt = (σ.1 2).toInt := congrArg Int32.toInt (f_4.1 2 (by decide))
  have t_12 : (s_2.1 3).toInt = (σ.1 3).toInt := congrArg Int32.toInt (f_4.1 3 (by decide))
  have t_13 : (s_2.1 4).toInt = (σ.1 4).toInt := congrArg Int32.toInt (f_4.1 4 (by decide))
  have t_14 : (s_2.1 16).toInt = (σ.1 16).toInt := congrArg Int32.toInt (f_4.1 16 (by decide))
  have t_15 : (s_2.1 17).toInt = (σ.1 17).toInt := congrArg Int32.toInt (f_4.1 17 (by decide))
  have t_16 : (s_2.1 18).toInt = (σ.1 18).toInt := congrArg Int32.toInt (f_4.1 18 (by decide))
  have t_17 : (s_2.1 5).toInt = (σ.1 5).toInt := congrArg Int32.toInt (f_4.1 5 (by decide))
  have w_18 : s_2.2.1 18 = σ.2.1 18 := f_4.2.1 18 (by decide)
  have w_19 : s_2.2.1 20 = σ.2.1 20 := f_4.2.1 20 (by decide)
  have w_20 : s_2.2.1 21 = σ.2.1 21 := f_4.2.1 21 (by decide)
  have w_21 : s_2.2.2 19 = σ.2.2 19 := f_4.2.2 19 (by decide)
  refine fd_e_gd (fd_gk h0 h1 hL (by decide)) ?_
  refine fd_e_gd (fd_gk h0 h1 hL (by decide)) ?_
  refine fd_e_gd (fd_gk h0 h1 hL (by decide)) ?_
  refine fd_e_bd (s_X11_gate_0 N hN _ _ _ _ iM) ?_
  rintro v_22 s_23 ⟨i_24, f_25, x_26, y_27, y_28, y_29⟩
  have t_30 : (s_23.1 2).toInt = (μ.1 2).toInt := congrArg Int32.toInt (f_25.1 2 (by decide))
  have t_31 : (s_23.1 4).toInt = (μ.1 4).toInt := congrArg Int32.toInt (f_25.1 4 (by decide))
  have t_32 : (s_23.1 3).toInt = (μ.1 3).toInt := congrArg Int32.toInt (f_25.1 3 (by decide))
  have t_33 : (s_23.1 12).toInt = (μ.1 12).toInt := congrArg Int32.toInt (f_25.1 12 (by decide))
  have t_34 : (s_23.1 13).toInt = (μ.1 13).toInt := congrArg Int32.toInt (f_25.1 13 (by decide))
  have t_35 : (s_23.1 14).toInt = (μ.1 14).toInt := congrArg Int32.toInt (f_25.1 14 (by decide))
  have t_36 : (s_23.1 5).toInt = (μ.1 5).toInt := congrArg Int32.toInt (f_25.1 5 (by decide))
  have w_37 : s_23.2.1 5 = μ.2.1 5 := f_25.2.1 5 (by decide)
  have w_38 : s_23.2.1 7 = μ.2.1 7 := f_25.2.1 7 (by decide)
  have w_39 : s_23.2.1 8 = μ.2.1 8 := f_25.2.1 8 (by decide)
  have w_40 : s_23.2.2 4 = μ.2.2 4 := f_25.2.2 4 (by decide)
  have w_41 : s_23.2.2 6 = μ.2.2 6 := f_25.2.2 6 (by decide)
  have e_42 : s_2.2.1 12 = s_23.2.1 1 := by
    by_cases z : v_1.toInt = 0
    · obtain ⟨j, w, q, e⟩ := (fd_un y_6).2 z; obtain ⟨j1, w1, q1, e1⟩ := (fd_un y_27).2 (by omega); have ej : j = j1 := Int32.toInt_inj.mp (by omega); have ew : w = w1 := Int32.toInt_inj.mp (by omega); rw [e, e1, ej, ew, rr0]
    · rw [(fd_un y_6).1 z, (fd_un y_27).1 (by omega), rr0]
  have e_43 : s_2.2.1 13 = s_23.2.1 2 := by
    by_cases z : v_1.toInt = 0
    · obtain ⟨j, w, q, e⟩ := (fd_un y_7).2 z; obtain ⟨j1, w1, q1, e1⟩ := (fd_un y_28).2 (by omega); have ej : j = j1 := Int32.toInt_inj.mp (by omega); have ew : w = w1 := Int32.toInt_inj.mp (by omega); rw [e, e1, ej, ew, rr1]
    · rw [(fd_un y_7).1 z, (fd_un y_28).1 (by omega), rr1]
  have e_44 : s_2.2.1 14 = s_23.2.1 3 := by
    by_cases z : v_1.toInt = 0
    · obtain ⟨j, w, q, e⟩ := (fd_un y_8).2 z; obtain ⟨j1, w1, q1, e1⟩ := (fd_un y_29).2 (by omega); have ej : j = j1 := Int32.toInt_inj.mp (by omega); have ew : w = w1 := Int32.toInt_inj.mp (by omega); rw [e, e1, ej, ew, rr2]
    · rw [(fd_un y_8).1 z, (fd_un y_29).1 (by omega), rr2]
  have e_45 : s_2.2.1 18 = s_23.2.1 5 := (w_18.trans rr3).trans w_37.symm
  have e_46 : s_2.2.1 20 = s_23.2.1 7 := (w_19.trans rr4).trans w_38.symm
  have e_47 : s_2.2.1 21 = s_23.2.1 8 := (w_20.trans rr5).trans w_39.symm
  have e_48 : s_2.2.2 19 = s_23.2.2 6 := (w_21.trans rr6).trans w_41.symm
  have e_49 : fd_E (s_2.2.1 12) (s_2.2.1 13) (s_2.2.1 14) (s_2.2.2 15) (s_23.2.2 4) (s_2.1 1).toNatClampNeg := by
    by_cases z : v_1.toInt = 0
    · obtain ⟨j, w, q1, e⟩ := (fd_un y_6).2 z; obtain ⟨j2, w2, q2, e2⟩ := (fd_un y_7).2 z; obtain ⟨j3, w3, q3, e3⟩ := (fd_un y_8).2 z; obtain ⟨j4, q4, e4⟩ := (fd_un y_10) z
      rw [w_40]; exact fd_E_gate ex (by omega) (by omega) (by omega) (by omega) e (by omega) (by omega) e2 (by omega) (by omega) e3 (by omega) e4 (by omega)
    · have n1 : s_2.1 1 = σ.1 1 := Int32.toInt_inj.mp (by omega); rw [(fd_un y_6).1 z, (fd_un y_7).1 z, (fd_un y_8).1 z, (fd_un y_9) z, w_40, n1]; exact ex
  have e_50 : fd_Q (s_2.1 1) (s_2.1 5) (s_2.1 4) (s_2.2.1 20) (s_2.2.1 21) (s_2.2.1 18) := by
    have p5 : s_2.1 5 = σ.1 5 := Int32.toInt_inj.mp (by omega); have o4 : s_2.1 4 = σ.1 4 := Int32.toInt_inj.mp (by omega); rw [p5, o4, w_19, w_20, w_18]; exact fd_Q_n exq (by omega)
  refine fd_e_lt (fun y_51 ey_51 => ?_)
  have t_52 := fd_la ey_51 (by omega) (by omega)
  have r_53 : fd_R s_2 s_23 := ⟨by omega, by omega, by omega, by omega, by omega, by omega, by omega, by omega, e_42, e_43, e_44, e_45, e_46, e_47, e_48, e_49, e_50⟩
  exact hK _ _ _ i_3 i_24 r_53 (by omega)
set_option maxHeartbeats 4000000 in
theorem u_c2 (N L : Nat) (hN : 1000 ≤ N) (hL : L ≤ 3072) (xs : Nat → Int32) (K : Int32 → fd_St → fd_St → Option Int32) (i : Int32) (σ μ : fd_St) (iC : fd_InvC σ) (iM : fd_InvM μ) (r : fd_R σ μ) (h0 : 0 ≤ i.toInt) (h1 : i.toInt + 6 ≤ (L : Int)) (hK : ∀ (j : Int32) (σ1 μ1 : fd_St), fd_InvC σ1 → fd_InvM μ1 → fd_R σ1 μ1 → j.toInt = i.toInt + 6 → K j σ1 μ1 = some 1) : f_law_c2 N L xs K i σ μ = some 1 := by
  have lit0 : (0 : Int32).toInt = 0 := by decide
  have lit6 : (6 : Int32).toInt = 6 := by decide
  obtain ⟨r0, r1, r2, r3, r4, r5, r6, r7, rr0, rr1, rr2, rr3, rr4, rr5, rr6, ex, exq⟩ := r
  have rg : (0 : Int) ≤ (σ.1 1).toInt ∧ (σ.1 1).toInt ≤ 200 := iC.1 1
  have rh : (0 : Int) ≤ (μ.1 4).toInt ∧ (μ.1 4).toInt ≤ 64 := iM.1 4
  have rp : (0 : Int) ≤ (σ.1 5).toInt ∧ (σ.1 5).toInt ≤ 40 := iC.1 5
  have ro : (0 : Int) ≤ (σ.1 4).toInt ∧ (σ.1 4).toInt ≤ 32 := iC.1 4
  unfold f_law_c2
  generalize xs (i + (1 : Int32)).toNatClampNeg = b1
  refine fd_e_gd (fd_gk h0 h1 hL (by decide)) ?_
  refine fd_e_bd (s_L_output_0_39 N hN _ _ iC) ?_
  rintro v_1 s_2 ⟨i_3, f_4, x_5, y_6, y_7⟩
  have t_8 : (s_2.1 1).toInt = (σ.1 1).toInt := congrArg Int32.toInt (f_4.1 1 (by decide))
  have t_9 : (s_2.1 2).toInt = (σ.1 2).toInt := congrArg Int32.toInt (f_4.1 2 (by decide))
  have t_10 : (s_2.1 3).toInt = (σ.1 3).toInt := congrArg Int32.toInt (f_4.1 3 (by decide))
  have t_11 : (s_2.1 16).toInt = (σ.1 16).toInt := congrArg Int32.toInt (f_4.1 16 (by decide))
  have t_12 : (s_2.1 17).toInt = (σ.1 17).toInt := congrArg Int32.toInt (f_4.1 17 (by decide))
  have t_13 : (s_2.1 18).toInt = (σ.1 18).toInt := congrArg Int32.toInt (f_4.1 18 (by decide))
  have t_14 : (s_2.1 5).toInt = (σ.1 5).toInt := congrArg Int32.toInt (f_4.1 5 (by decide))
  have w_15 : s_2.2.1 12 = σ.2.1 12 := f_4.2.1 12 (by decide)
  have w_16 : s_2.2.1 13 = σ.2.1 13 := f_4.2.1 13 (by decide)
  have w_17 : s_2.2.1 14 = σ.2.1 14 := f_4.2.1 14 (by decide)
  have w_18 : s_2.2.1 20 = σ.2.1 20 := f_4.2.1 20 (by decide)
  have w_19 : s_2.2.1 21 = σ.2.1 21 := f_4.2.1 21 (by decide)
  have w_20 : s_2.2.2 15 = σ.2.2 15 := f_4.2.2 15 (by decide)
  refine fd_e_gd (fd_gk h0 h1 hL (by decide)) ?_
  refine fd_e_bd (s_X11_output_0 N hN _ _ iM) ?_
  rintro v_21 s_22 ⟨i_23, f_24, x_25, y_26, y_27⟩
  have t_28 : (s_22.1 1).toInt = (μ.1 1).toInt := congrArg Int32.toInt (f_24.1 1 (by decide))
  have t_29 : (s_22.1 2).toInt = (μ.1 2).toInt := congrArg Int32.toInt (f_24.1 2 (by decide))
  have t_30 : (s_22.1 4).toInt = (μ.1 4).toInt := congrArg Int32.toInt (f_24.1 4 (by decide))
  have t_31 : (s_22.1 12).toInt = (μ.1 12).toInt := congrArg Int32.toInt (f_24.1 12 (by decide))
  have t_32 : (s_22.1 13).toInt = (μ.1 13).toInt := congrArg Int32.toInt (f_24.1 13 (by decide))
  have t_33 : (s_22.1 14).toInt = (μ.1 14).toInt := congrArg Int32.toInt (f_24.1 14 (by decide))
  have t_34 : (s_22.1 5).toInt = (μ.1 5).toInt := congrArg Int32.toInt (f_24.1 5 (by decide))
  have w_35 : s_22.2.1 1 = μ.2.1 1 := f_24.2.1 1 (by decide)
  have w_36 : s_22.2.1 2 = μ.2.1 2 := f_24.2.1 2 (by decide)
  have w_37 : s_22.2.1 3 = μ.2.1 3 := f_24.2.1 3 (by decide)
  have w_38 : s_22.2.1 7 = μ.2.1 7 := f_24.2.1 7 (by decide)
  have w_39 : s_22.2.1 8 = μ.2.1 8 := f_24.2.1 8 (by decide)
  have w_40 : s_22.2.2 4 = μ.2.2 4 := f_24.2.2 4 (by decide)
  have e_41 : s_2.2.1 12 = s_22.2.1 1 := (w_15.trans rr0).trans w_35.symm
  have e_42 : s_2.2.1 13 = s_22.2.1 2 := (w_16.trans rr1).trans w_36.symm
  have e_43 : s_2.2.1 14 = s_22.2.1 3 := (w_17.trans rr2).trans w_37.symm
  have e_44 : s_2.2.1 18 = s_22.2.1 5 := by
    by_cases z : v_1.toInt = 0
    · obtain ⟨j, w, q, e⟩ := (fd_un y_6).2 z; obtain ⟨j1, w1, q1, e1⟩ := (fd_un y_26).2 (by omega); have ej : j = j1 := Int32.toInt_inj.mp (by omega); have ew : w = w1 := Int32.toInt_inj.mp (by omega); rw [e, e1, ej, ew, rr3]
    · rw [(fd_un y_6).1 z, (fd_un y_26).1 (by omega), rr3]
  have e_45 : s_2.2.1 20 = s_22.2.1 7 := (w_18.trans rr4).trans w_38.symm
  have e_46 : s_2.2.1 21 = s_22.2.1 8 := (w_19.trans rr5).trans w_39.symm
  have e_47 : s_2.2.2 19 = s_22.2.2 6 := by
    by_cases z : v_1.toInt = 0
    · obtain ⟨j, q, e⟩ := (fd_un y_7).2 z; obtain ⟨j1, q1, e1⟩ := (fd_un y_27).2 (by omega); have ej : j = j1 := Int32.toInt_inj.mp (by omega); rw [e, e1, ej, rr6]
    · rw [(fd_un y_7).1 z, (fd_un y_27).1 (by omega), rr6]
  have e_48 : fd_E (s_2.2.1 12) (s_2.2.1 13) (s_2.2.1 14) (s_2.2.2 15) (s_22.2.2 4) (s_2.1 1).toNatClampNeg := by
    have n1 : s_2.1 1 = σ.1 1 := Int32.toInt_inj.mp (by omega); rw [w_15, w_16, w_17, w_20, w_40, n1]; exact ex
  have e_49 : fd_Q (s_2.1 1) (s_2.1 5) (s_2.1 4) (s_2.2.1 20) (s_2.2.1 21) (s_2.2.1 18) := by
    have n1 : s_2.1 1 = σ.1 1 := Int32.toInt_inj.mp (by omega); have p5 : s_2.1 5 = σ.1 5 := Int32.toInt_inj.mp (by omega)
    by_cases z : v_1.toInt = 0
    · obtain ⟨j, w, q, e⟩ := (fd_un y_6).2 z; rw [n1, p5, w_18, w_19]; exact fd_Q_o exq (by omega) (by omega) (by omega) (by omega) e
    · have o4 : s_2.1 4 = σ.1 4 := Int32.toInt_inj.mp (by omega); rw [n1, p5, o4, w_18, w_19, (fd_un y_6).1 z]; exact exq
  refine fd_e_lt (fun y_50 ey_50 => ?_)
  have t_51 := fd_la ey_50 (by omega) (by omega)
  have r_52 : fd_R s_2 s_22 := ⟨by omega, by omega, by omega, by omega, by omega, by omega, by omega, by omega, e_41, e_42, e_43, e_44, e_45, e_46, e_47, e_48, e_49⟩
  exact hK _ _ _ i_3 i_23 r_52 (by omega)
set_option maxHeartbeats 4000000 in
theorem u_c3 (N L : Nat) (hN : 1000 ≤ N) (hL : L ≤ 3072) (xs : Nat → Int32) (K : Int32 → fd_St → fd_St → Option Int32) (i : Int32) (σ μ : fd_St) (iC : fd_InvC σ) (iM : fd_InvM μ) (r : fd_R σ μ) (h0 : 0 ≤ i.toInt) (h1 : i.toInt + 6 ≤ (L : Int)) (hK : ∀ (j : Int32) (σ1 μ1 : fd_St), fd_InvC σ1 → fd_InvM μ1 → fd_R σ1 μ1 → j.toInt = i.toInt + 6 → K j σ1 μ1 = some 1) : f_law_c3 N L xs K i σ μ = some 1 := by
  have lit0 : (0 : Int32).toInt = 0 := by decide
  have lit6 : (6 : Int32).toInt = 6 := by decide
  obtain ⟨r0, r1, r2, r3, r4, r5, r6, r7, rr0, rr1, rr2, rr3, rr4, rr5, rr6, ex, exq⟩ := r
  have rg : (0 : Int) ≤ (σ.1 1).toInt ∧ (σ.1 1).toInt ≤ 200 := iC.1 1
  have rh : (0 : Int) ≤ (μ.1 4).toInt ∧ (μ.1 4).toInt ≤ 64 := iM.1 4
  have rp : (0 : Int) ≤ (σ.1 5).toInt ∧ (σ.1 5).toInt ≤ 40 := iC.1 5
  have ro : (0 : Int) ≤ (σ.1 4).toInt ∧ (σ.1 4).toInt ≤ 32 := iC.1 4
  unfold f_law_c3
  generalize xs (i + (1 : Int32)).toNatClampNeg = b1
  refine fd_e_gd (fd_gk h0 h1 hL (by decide)) ?_
  refine fd_e_bd (s_L_patterns_0_39 N hN _ _ iC) ?_
  rintro v_1 s_2 ⟨i_3, f_4, x_5⟩
  have t_6 : (s_2.1 1).toInt = (σ.1 1).toInt := congrArg Int32.toInt (f_4.1 1 (by decide))
  have t_7 : (s_2.1 2).toInt = (σ.1 2).toInt := congrArg Int32.toInt (f_4.1 2 (by decide))
  have t_8 : (s_2.1 4).toInt = (σ.1 4).toInt := congrArg Int32.toInt (f_4.1 4 (by decide))
  have t_9 : (s_2.1 16).toInt = (σ.1 16).toInt := congrArg Int32.toInt (f_4.1 16 (by decide))
  have t_10 : (s_2.1 17).toInt = (σ.1 17).toInt := congrArg Int32.toInt (f_4.1 17 (by decide))
  have t_11 : (s_2.1 18).toInt = (σ.1 18).toInt := congrArg Int32.toInt (f_4.1 18 (by decide))
  have t_12 : (s_2.1 5).toInt = (σ.1 5).toInt := congrArg Int32.toInt (f_4.1 5 (by decide))
  have w_13 : s_2.2.1 12 = σ.2.1 12 := f_4.2.1 12 (by decide)
  have w_14 : s_2.2.1 13 = σ.2.1 13 := f_4.2.1 13 (by decide)
  have w_15 : s_2.2.1 14 = σ.2.1 14 := f_4.2.1 14 (by decide)
  have w_16 : s_2.2.1 18 = σ.2.1 18 := f_4.2.1 18 (by decide)
  have w_17 : s_2.2.1 20 = σ.2.1 20 := f_4.2.1 20 (by decide)
  have w_18 : s_2.2.1 21 = σ.2.1 21 := f_4.2.1 21 (by decide)
  have w_19 : s_2.2.2 15 = σ.2.2 15 := f_4.2.2 15 (by decide)
  have w_20 : s_2.2.2 19 = σ.2.2 19 := f_4.2.2 19 (by decide)
  refine fd_e_gd (fd_gk h0 h1 hL (by decide)) ?_
  refine fd_e_bd (s_X11_patterns_0 N hN _ _ iM) ?_
  rintro v_21 s_22 ⟨i_23, f_24, x_25⟩
  have t_26 : (s_22.1 1).toInt = (μ.1 1).toInt := congrArg Int32.toInt (f_24.1 1 (by decide))
  have t_27 : (s_22.1 2).toInt = (μ.1 2).toInt := congrArg Int32.toInt (f_24.1 2 (by decide))
  have t_28 : (s_22.1 3).toInt = (μ.1 3).toInt := congrArg Int32.toInt (f_24.1 3 (by decide))
  have t_29 : (s_22.1 12).toInt = (μ.1 12).toInt := congrArg Int32.toInt (f_24.1 12 (by decide))
  have t_30 : (s_22.1 13).toInt = (μ.1 13).toInt := congrArg Int32.toInt (f_24.1 13 (by decide))
  have t_31 : (s_22.1 14).toInt = (μ.1 14).toInt := congrArg Int32.toInt (f_24.1 14 (by decide))
  have t_32 : (s_22.1 5).toInt = (μ.1 5).toInt := congrArg Int32.toInt (f_24.1 5 (by decide))
  have w_33 : s_22.2.1 1 = μ.2.1 1 := f_24.2.1 1 (by decide)
  have w_34 : s_22.2.1 2 = μ.2.1 2 := f_24.2.1 2 (by decide)
  have w_35 : s_22.2.1 3 = μ.2.1 3 := f_24.2.1 3 (by decide)
  have w_36 : s_22.2.1 5 = μ.2.1 5 := f_24.2.1 5 (by decide)
  have w_37 : s_22.2.1 7 = μ.2.1 7 := f_24.2.1 7 (by decide)
  have w_38 : s_22.2.1 8 = μ.2.1 8 := f_24.2.1 8 (by decide)
  have w_39 : s_22.2.2 4 = μ.2.2 4 := f_24.2.2 4 (by decide)
  have w_40 : s_22.2.2 6 = μ.2.2 6 := f_24.2.2 6 (by decide)
  have e_41 : s_2.2.1 12 = s_22.2.1 1 := (w_13.trans rr0).trans w_33.symm
  have e_42 : s_2.2.1 13 = s_22.2.1 2 := (w_14.trans rr1).trans w_34.symm
  have e_43 : s_2.2.1 14 = s_22.2.1 3 := (w_15.trans rr2).trans w_35.symm
  have e_44 : s_2.2.1 18 = s_22.2.1 5 := (w_16.trans rr3).trans w_36.symm
  have e_45 : s_2.2.1 20 = s_22.2.1 7 := (w_17.trans rr4).trans w_37.symm
  have e_46 : s_2.2.1 21 = s_22.2.1 8 := (w_18.trans rr5).trans w_38.symm
  have e_47 : s_2.2.2 19 = s_22.2.2 6 := (w_20.trans rr6).trans w_40.symm
  have e_48 : fd_E (s_2.2.1 12) (s_2.2.1 13) (s_2.2.1 14) (s_2.2.2 15) (s_22.2.2 4) (s_2.1 1).toNatClampNeg := by
    have n1 : s_2.1 1 = σ.1 1 := Int32.toInt_inj.mp (by omega); rw [w_13, w_14, w_15, w_19, w_39, n1]; exact ex
  have e_49 : fd_Q (s_2.1 1) (s_2.1 5) (s_2.1 4) (s_2.2.1 20) (s_2.2.1 21) (s_2.2.1 18) := by
    have n1 : s_2.1 1 = σ.1 1 := Int32.toInt_inj.mp (by omega); have p5 : s_2.1 5 = σ.1 5 := Int32.toInt_inj.mp (by omega); have o4 : s_2.1 4 = σ.1 4 := Int32.toInt_inj.mp (by omega); rw [n1, p5, o4, w_17, w_18, w_16]; exact exq
  refine fd_e_lt (fun y_50 ey_50 => ?_)
  have t_51 := fd_la ey_50 (by omega) (by omega)
  have r_52 : fd_R s_2 s_22 := ⟨by omega, by omega, by omega, by omega, by omega, by omega, by omega, by omega, e_41, e_42, e_43, e_44, e_45, e_46, e_47, e_48, e_49⟩
  exact hK _ _ _ i_3 i_23 r_52 (by omega)
set_option maxHeartbeats 4000000 in
theorem u_c4 (N L : Nat) (hN : 1000 ≤ N) (hL : L ≤ 3072) (xs : Nat → Int32) (K : Int32 → fd_St → fd_St → Option Int32) (i : Int32) (σ μ : fd_St) (iC : fd_InvC σ) (iM : fd_InvM μ) (r : fd_R σ μ) (h0 : 0 ≤ i.toInt) (h1 : i.toInt + 6 ≤ (L : Int)) (hK : ∀ (j : Int32) (σ1 μ1 : fd_St), fd_InvC σ1 → fd_InvM μ1 → fd_R σ1 μ1 → j.toInt = i.toInt + 6 → K j σ1 μ1 = some 1) : f_law_c4 N L xs K i σ μ = some 1 := by
  have lit0 : (0 : Int32).toInt = 0 := by decide
  have lit6 : (6 : Int32).toInt = 6 := by decide
  obtain ⟨r0, r1, r2, r3, r4, r5, r6, r7, rr0, rr1, rr2, rr3, rr4, rr5, rr6, ex, exq⟩ := r
  have rg : (0 : Int) ≤ (σ.1 1).toInt ∧ (σ.1 1).toInt ≤ 200 := iC.1 1
  have rh : (0 : Int) ≤ (μ.1 4).toInt ∧ (μ.1 4).toInt ≤ 64 := iM.1 4
  have rp : (0 : Int) ≤ (σ.1 5).toInt ∧ (σ.1 5).toInt ≤ 40 := iC.1 5
  have ro : (0 : Int) ≤ (σ.1 4).toInt ∧ (σ.1 4).toInt ≤ 32 := iC.1 4
  unfold f_law_c4
  generalize xs (i + (1 : Int32)).toNatClampNeg = b1
  generalize xs (i + (2 : Int32)).toNatClampNeg = b2
  generalize xs (i + (3 : Int32)).toNatClampNeg = b3
  have kq : (σ.2.1 12 b1.toNatClampNeg).toInt = (μ.2.1 1 b1.toNatClampNeg).toInt := by rw [rr0]
  refine fd_e_gd (fd_gk h0 h1 hL (by decide)) ?_
  refine fd_e_gd (fd_gk h0 h1 hL (by decide)) ?_
  refine fd_e_gd (fd_gk h0 h1 hL (by decide)) ?_
  refine fd_e_bd (s_L_pattern_0_39 N hN _ _ _ iC) ?_
  rintro v_1 s_2 ⟨i_3, f_4, x_5, y_6, y_7⟩
  have t_8 : (s_2.1 1).toInt = (σ.1 1).toInt := congrArg Int32.toInt (f_4.1 1 (by decide))
  have t_9 : (s_2.1 2).toInt = (σ.1 2).toInt := congrArg Int32.toInt (f_4.1 2 (by decide))
  have t_10 : (s_2.1 3).toInt = (σ.1 3).toInt := congrArg Int32.toInt (f_4.1 3 (by decide))
  have t_11 : (s_2.1 4).toInt = (σ.1 4).toInt := congrArg Int32.toInt (f_4.1 4 (by decide))
  have t_12 : (s_2.1 16).toInt = (σ.1 16).toInt := congrArg Int32.toInt (f_4.1 16 (by decide))
  have t_13 : (s_2.1 17).toInt = (σ.1 17).toInt := congrArg Int32.toInt (f_4.1 17 (by decide))
  have t_14 : (s_2.1 18).toInt = (σ.1 18).toInt := congrArg Int32.toInt (f_4.1 18 (by decide))
  have t_15 : (s_2.1 5).toInt = (σ.1 5).toInt := congrArg Int32.toInt (f_4.1 5 (by decide))
  have w_16 : s_2.2.1 12 = σ.2.1 12 := f_4.2.1 12 (by decide)
  have w_17 : s_2.2.1 13 = σ.2.1 13 := f_4.2.1 13 (by decide)
  have w_18 : s_2.2.1 14 = σ.2.1 14 := f_4.2.1 14 (by decide)
  have w_19 : s_2.2.1 18 = σ.2.1 18 := f_4.2.1 18 (by decide)
  have w_20 : s_2.2.1 20 = σ.2.1 20 := f_4.2.1 20 (by decide)
  have w_21 : s_2.2.1 21 = σ.2.1 21 := f_4.2.1 21 (by decide)
  have w_22 : s_2.2.2 19 = σ.2.2 19 := f_4.2.2 19 (by decide)
  refine fd_e_gd (fd_gk h0 h1 hL (by decide)) ?_
  refine fd_e_gd (fd_gk h0 h1 hL (by decide)) ?_
  refine fd_e_gd (fd_gk h0 h1 hL (by decide)) ?_
  refine fd_e_bd (s_X11_pattern_0 N hN _ _ _ iM) ?_
  rintro v_23 s_24 ⟨i_25, f_26, x_27, y_28, y_29⟩
  have t_30 : (s_24.1 1).toInt = (μ.1 1).toInt := congrArg Int32.toInt (f_26.1 1 (by decide))
  have t_31 : (s_24.1 2).toInt = (μ.1 2).toInt := congrArg Int32.toInt (f_26.1 2 (by decide))
  have t_32 : (s_24.1 4).toInt = (μ.1 4).toInt := congrArg Int32.toInt (f_26.1 4 (by decide))
  have t_33 : (s_24.1 3).toInt = (μ.1 3).toInt := congrArg Int32.toInt (f_26.1 3 (by decide))
  have t_34 : (s_24.1 12).toInt = (μ.1 12).toInt := congrArg Int32.toInt (f_26.1 12 (by decide))
  have t_35 : (s_24.1 13).toInt = (μ.1 13).toInt := congrArg Int32.toInt (f_26.1 13 (by decide))
  have t_36 : (s_24.1 14).toInt = (μ.1 14).toInt := congrArg Int32.toInt (f_26.1 14 (by decide))
  have t_37 : (s_24.1 5).toInt = (μ.1 5).toInt := congrArg Int32.toInt (f_26.1 5 (by decide))
  have w_38 : s_24.2.1 1 = μ.2.1 1 := f_26.2.1 1 (by decide)
  have w_39 : s_24.2.1 2 = μ.2.1 2 := f_26.2.1 2 (by decide)
  have w_40 : s_24.2.1 3 = μ.2.1 3 := f_26.2.1 3 (by decide)
  have w_41 : s_24.2.1 5 = μ.2.1 5 := f_26.2.1 5 (by decide)
  have w_42 : s_24.2.1 7 = μ.2.1 7 := f_26.2.1 7 (by decide)
  have w_43 : s_24.2.1 8 = μ.2.1 8 := f_26.2.1 8 (by decide)
  have w_44 : s_24.2.2 6 = μ.2.2 6 := f_26.2.2 6 (by decide)
  have e_45 : s_2.2.1 12 = s_24.2.1 1 := (w_16.trans rr0).trans w_38.symm
  have e_46 : s_2.2.1 13 = s_24.2.1 2 := (w_17.trans rr1).trans w_39.symm
  have e_47 : s_2.2.1 14 = s_24.2.1 3 := (w_18.trans rr2).trans w_40.symm
  have e_48 : s_2.2.1 18 = s_24.2.1 5 := (w_19.trans rr3).trans w_41.symm
  have e_49 : s_2.2.1 20 = s_24.2.1 7 := (w_20.trans rr4).trans w_42.symm
  have e_50 : s_2.2.1 21 = s_24.2.1 8 := (w_21.trans rr5).trans w_43.symm
  have e_51 : s_2.2.2 19 = s_24.2.2 6 := (w_22.trans rr6).trans w_44.symm
  have e_52 : fd_E (s_2.2.1 12) (s_2.2.1 13) (s_2.2.1 14) (s_2.2.2 15) (s_24.2.2 4) (s_2.1 1).toNatClampNeg := by
    by_cases z : v_1.toInt = 0
    · obtain ⟨o, a, b⟩ := (fd_un y_7) z; obtain ⟨j, q, e⟩ := (fd_un y_28).2 (by omega)
      have n1 : s_2.1 1 = σ.1 1 := Int32.toInt_inj.mp (by omega); rw [w_16, w_17, w_18, n1]; exact fd_E_pattern ex a b (by omega) e
    · have n1 : s_2.1 1 = σ.1 1 := Int32.toInt_inj.mp (by omega); rw [w_16, w_17, w_18, n1, (fd_un y_6) z, (fd_un y_28).1 (by omega)]; exact ex
  have e_53 : fd_Q (s_2.1 1) (s_2.1 5) (s_2.1 4) (s_2.2.1 20) (s_2.2.1 21) (s_2.2.1 18) := by
    have n1 : s_2.1 1 = σ.1 1 := Int32.toInt_inj.mp (by omega); have p5 : s_2.1 5 = σ.1 5 := Int32.toInt_inj.mp (by omega); have o4 : s_2.1 4 = σ.1 4 := Int32.toInt_inj.mp (by omega); rw [n1, p5, o4, w_20, w_21, w_19]; exact exq
  refine fd_e_lt (fun y_54 ey_54 => ?_)
  have t_55 := fd_la ey_54 (by omega) (by omega)
  have r_56 : fd_R s_2 s_24 := ⟨by omega, by omega, by omega, by omega, by omega, by omega, by omega, by omega, e_45, e_46, e_47, e_48, e_49, e_50, e_51, e_52, e_53⟩
  exact hK _ _ _ i_3 i_25 r_56 (by omega)
set_option maxHeartbeats 4000000 in
theorem u_c5 (N L : Nat) (hN : 1000 ≤ N) (hL : L ≤ 3072) (xs : Nat → Int32) (K : Int32 → fd_St → fd_St → Option Int32) (i : Int32) (σ μ : fd_St) (iC : fd_InvC σ) (iM : fd_InvM μ) (r : fd_R σ μ) (h0 : 0 ≤ i.toInt) (h1 : i.toInt + 6 ≤ (L : Int)) (hK : ∀ (j : Int32) (σ1 μ1 : fd_St), fd_InvC σ1 → fd_InvM μ1 → fd_R σ1 μ1 → j.toInt = i.toInt + 6 → K j σ1 μ1 = some 1) : f_law_c5 N L xs K i σ μ = some 1 := by
  have lit0 : (0 : Int32).toInt = 0 := by decide
  have lit6 : (6 : Int32).toInt = 6 := by decide
  obtain ⟨r0, r1, r2, r3, r4, r5, r6, r7, rr0, rr1, rr2, rr3, rr4, rr5, rr6, ex, exq⟩ := r
  have rg : (0 : Int) ≤ (σ.1 1).toInt ∧ (σ.1 1).toInt ≤ 200 := iC.1 1
  have rh : (0 : Int) ≤ (μ.1 4).toInt ∧ (μ.1 4).toInt ≤ 64 := iM.1 4
  have rp : (0 : Int) ≤ (σ.1 5).toInt ∧ (σ.1 5).toInt ≤ 40 := iC.1 5
  have ro : (0 : Int) ≤ (σ.1 4).toInt ∧ (σ.1 4).toInt ≤ 32 := iC.1 4
  unfold f_law_c5
  generalize xs (i + (1 : Int32)).toNatClampNeg = b1
  refine fd_e_gd (fd_gk h0 h1 hL (by decide)) ?_
  refine fd_e_bd (s_L_row_0_39 N hN _ _ iC) ?_
  rintro v_1 s_2 ⟨i_3, f_4, x_5, y_6⟩
  have t_7 : (s_2.1 1).toInt = (σ.1 1).toInt := congrArg Int32.toInt (f_4.1 1 (by decide))
  have t_8 : (s_2.1 2).toInt = (σ.1 2).toInt := congrArg Int32.toInt (f_4.1 2 (by decide))
  have t_9 : (s_2.1 3).toInt = (σ.1 3).toInt := congrArg Int32.toInt (f_4.1 3 (by decide))
  have t_10 : (s_2.1 4).toInt = (σ.1 4).toInt := congrArg Int32.toInt (f_4.1 4 (by decide))
  have t_11 : (s_2.1 16).toInt = (σ.1 16).toInt := congrArg Int32.toInt (f_4.1 16 (by decide))
  have t_12 : (s_2.1 17).toInt = (σ.1 17).toInt := congrArg Int32.toInt (f_4.1 17 (by decide))
  have t_13 : (s_2.1 18).toInt = (σ.1 18).toInt := congrArg Int32.toInt (f_4.1 18 (by decide))
  have t_14 : (s_2.1 5).toInt = (σ.1 5).toInt := congrArg Int32.toInt (f_4.1 5 (by decide))
  have w_15 : s_2.2.1 12 = σ.2.1 12 := f_4.2.1 12 (by decide)
  have w_16 : s_2.2.1 13 = σ.2.1 13 := f_4.2.1 13 (by decide)
  have w_17 : s_2.2.1 14 = σ.2.1 14 := f_4.2.1 14 (by decide)
  have w_18 : s_2.2.1 18 = σ.2.1 18 := f_4.2.1 18 (by decide)
  have w_19 : s_2.2.1 20 = σ.2.1 20 := f_4.2.1 20 (by decide)
  have w_20 : s_2.2.1 21 = σ.2.1 21 := f_4.2.1 21 (by decide)
  have w_21 : s_2.2.2 15 = σ.2.2 15 := f_4.2.2 15 (by decide)
  have w_22 : s_2.2.2 19 = σ.2.2 19 := f_4.2.2 19 (by decide)
  refine fd_e_gd (fd_gk h0 h1 hL (by decide)) ?_
  refine fd_e_bd (s_X11_row_0 N hN _ _ iM) ?_
  rintro v_23 s_24 ⟨i_25, f_26, x_27, y_28⟩
  have t_29 : (s_24.1 1).toInt = (μ.1 1).toInt := congrArg Int32.toInt (f_26.1 1 (by decide))
  have t_30 : (s_24.1 2).toInt = (μ.1 2).toInt := congrArg Int32.toInt (f_26.1 2 (by decide))
  have t_31 : (s_24.1 4).toInt = (μ.1 4).toInt := congrArg Int32.toInt (f_26.1 4 (by decide))
  have t_32 : (s_24.1 3).toInt = (μ.1 3).toInt := congrArg Int32.toInt (f_26.1 3 (by decide))
  have t_33 : (s_24.1 12).toInt = (μ.1 12).toInt := congrArg Int32.toInt (f_26.1 12 (by decide))
  have t_34 : (s_24.1 13).toInt = (μ.1 13).toInt := congrArg Int32.toInt (f_26.1 13 (by decide))
  have t_35 : (s_24.1 14).toInt = (μ.1 14).toInt := congrArg Int32.toInt (f_26.1 14 (by decide))
  have t_36 : (s_24.1 5).toInt = (μ.1 5).toInt := congrArg Int32.toInt (f_26.1 5 (by decide))
  have w_37 : s_24.2.1 1 = μ.2.1 1 := f_26.2.1 1 (by decide)
  have w_38 : s_24.2.1 2 = μ.2.1 2 := f_26.2.1 2 (by decide)
  have w_39 : s_24.2.1 3 = μ.2.1 3 := f_26.2.1 3 (by decide)
  have w_40 : s_24.2.1 5 = μ.2.1 5 := f_26.2.1 5 (by decide)
  have w_41 : s_24.2.1 7 = μ.2.1 7 := f_26.2.1 7 (by decide)
  have w_42 : s_24.2.1 8 = μ.2.1 8 := f_26.2.1 8 (by decide)
  have w_43 : s_24.2.2 4 = μ.2.2 4 := f_26.2.2 4 (by decide)
  have w_44 : s_24.2.2 6 = μ.2.2 6 := f_26.2.2 6 (by decide)
  have e_45 : s_2.2.1 12 = s_24.2.1 1 := (w_15.trans rr0).trans w_37.symm
  have e_46 : s_2.2.1 13 = s_24.2.1 2 := (w_16.trans rr1).trans w_38.symm
  have e_47 : s_2.2.1 14 = s_24.2.1 3 := (w_17.trans rr2).trans w_39.symm
  have e_48 : s_2.2.1 18 = s_24.2.1 5 := (w_18.trans rr3).trans w_40.symm
  have e_49 : s_2.2.1 20 = s_24.2.1 7 := (w_19.trans rr4).trans w_41.symm
  have e_50 : s_2.2.1 21 = s_24.2.1 8 := (w_20.trans rr5).trans w_42.symm
  have e_51 : s_2.2.2 19 = s_24.2.2 6 := (w_22.trans rr6).trans w_44.symm
  have e_52 : fd_E (s_2.2.1 12) (s_2.2.1 13) (s_2.2.1 14) (s_2.2.2 15) (s_24.2.2 4) (s_2.1 1).toNatClampNeg := by
    have n1 : s_2.1 1 = σ.1 1 := Int32.toInt_inj.mp (by omega); rw [w_15, w_16, w_17, w_21, w_43, n1]; exact ex
  have e_53 : fd_Q (s_2.1 1) (s_2.1 5) (s_2.1 4) (s_2.2.1 20) (s_2.2.1 21) (s_2.2.1 18) := by
    have n1 : s_2.1 1 = σ.1 1 := Int32.toInt_inj.mp (by omega); have p5 : s_2.1 5 = σ.1 5 := Int32.toInt_inj.mp (by omega); have o4 : s_2.1 4 = σ.1 4 := Int32.toInt_inj.mp (by omega); rw [n1, p5, o4, w_19, w_20, w_18]; exact exq
  refine fd_e_lt (fun y_54 ey_54 => ?_)
  have t_55 := fd_la ey_54 (by omega) (by omega)
  have r_56 : fd_R s_2 s_24 := ⟨by omega, by omega, by omega, by omega, by omega, by omega, by omega, by omega, e_45, e_46, e_47, e_48, e_49, e_50, e_51, e_52, e_53⟩
  exact hK _ _ _ i_3 i_25 r_56 (by omega)
set_option maxHeartbeats 4000000 in
theorem u_c6 (N L : Nat) (hN : 1000 ≤ N) (hL : L ≤ 3072) (xs : Nat → Int32) (K : Int32 → fd_St → fd_St → Option Int32) (i : Int32) (σ μ : fd_St) (iC : fd_InvC σ) (iM : fd_InvM μ) (r : fd_R σ μ) (h0 : 0 ≤ i.toInt) (h1 : i.toInt + 6 ≤ (L : Int)) (hK : ∀ (j : Int32) (σ1 μ1 : fd_St), fd_InvC σ1 → fd_InvM μ1 → fd_R σ1 μ1 → j.toInt = i.toInt + 6 → K j σ1 μ1 = some 1) : f_law_c6 N L xs K i σ μ = some 1 := by
  have lit0 : (0 : Int32).toInt = 0 := by decide
  have lit6 : (6 : Int32).toInt = 6 := by decide
  obtain ⟨r0, r1, r2, r3, r4, r5, r6, r7, rr0, rr1, rr2, rr3, rr4, rr5, rr6, ex, exq⟩ := r
  have rg : (0 : Int) ≤ (σ.1 1).toInt ∧ (σ.1 1).toInt ≤ 200 := iC.1 1
  have rh : (0 : Int) ≤ (μ.1 4).toInt ∧ (μ.1 4).toInt ≤ 64 := iM.1 4
  have rp : (0 : Int) ≤ (σ.1 5).toInt ∧ (σ.1 5).toInt ≤ 40 := iC.1 5
  have ro : (0 : Int) ≤ (σ.1 4).toInt ∧ (σ.1 4).toInt ≤ 32 := iC.1 4
  unfold f_law_c6
  generalize xs (i + (1 : Int32)).toNatClampNeg = b1
  generalize xs (i + (2 : Int32)).toNatClampNeg = b2
  generalize xs (i + (3 : Int32)).toNatClampNeg = b3
  refine fd_e_gd (fd_gk h0 h1 hL (by decide)) ?_
  refine fd_e_gd (fd_gk h0 h1 hL (by decide)) ?_
  refine fd_e_gd (fd_gk h0 h1 hL (by decide)) ?_
  refine fd_e_bd (s_L_fail_0_39 N hN _ _ _ iC) ?_
  rintro v_1 s_2 ⟨i_3, f_4, x_5, y_6, y_7⟩
  have t_8 : (s_2.1 1).toInt = (σ.1 1).toInt := congrArg Int32.toInt (f_4.1 1 (by decide))
  have t_9 : (s_2.1 2).toInt = (σ.1 2).toInt := congrArg Int32.toInt (f_4.1 2 (by decide))
  have t_10 : (s_2.1 3).toInt = (σ.1 3).toInt := congrArg Int32.toInt (f_4.1 3 (by decide))
  have t_11 : (s_2.1 4).toInt = (σ.1 4).toInt := congrArg Int32.toInt (f_4.1 4 (by decide))
  have t_12 : (s_2.1 16).toInt = (σ.1 16).toInt := congrArg Int32.toInt (f_4.1 16 (by decide))
  have t_13 : (s_2.1 17).toInt = (σ.1 17).toInt := congrArg Int32.toInt (f_4.1 17 (by decide))
  have t_14 : (s_2.1 18).toInt = (σ.1 18).toInt := congrArg Int32.toInt (f_4.1 18 (by decide))
  have t_15 : (s_2.1 5).toInt = (σ.1 5).toInt := congrArg Int32.toInt (f_4.1 5 (by decide))
  have w_16 : s_2.2.1 12 = σ.2.1 12 := f_4.2.1 12 (by decide)
  have w_17 : s_2.2.1 13 = σ.2.1 13 := f_4.2.1 13 (by decide)
  have w_18 : s_2.2.1 14 = σ.2.1 14 := f_4.2.1 14 (by decide)
  have w_19 : s_2.2.1 18 = σ.2.1 18 := f_4.2.1 18 (by decide)
  have w_20 : s_2.2.1 20 = σ.2.1 20 := f_4.2.1 20 (by decide)
  have w_21 : s_2.2.1 21 = σ.2.1 21 := f_4.2.1 21 (by decide)
  have w_22 : s_2.2.2 15 = σ.2.2 15 := f_4.2.2 15 (by decide)
  refine fd_e_gd (fd_gk h0 h1 hL (by decide)) ?_
  refine fd_e_gd (fd_gk h0 h1 hL (by decide)) ?_
  refine fd_e_gd (fd_gk h0 h1 hL (by decide)) ?_
  refine fd_e_bd (s_X11_fail_0 N hN _ _ _ iM) ?_
  rintro v_23 s_24 ⟨i_25, f_26, x_27, y_28, y_29⟩
  have t_30 : (s_24.1 1).toInt = (μ.1 1).toInt := congrArg Int32.toInt (f_26.1 1 (by decide))
  have t_31 : (s_24.1 2).toInt = (μ.1 2).toInt := congrArg Int32.toInt (f_26.1 2 (by decide))
  have t_32 : (s_24.1 4).toInt = (μ.1 4).toInt := congrArg Int32.toInt (f_26.1 4 (by decide))
  have t_33 : (s_24.1 3).toInt = (μ.1 3).toInt := congrArg Int32.toInt (f_26.1 3 (by decide))
  have t_34 : (s_24.1 12).toInt = (μ.1 12).toInt := congrArg Int32.toInt (f_26.1 12 (by decide))
  have t_35 : (s_24.1 13).toInt = (μ.1 13).toInt := congrArg Int32.toInt (f_26.1 13 (by decide))
  have t_36 : (s_24.1 14).toInt = (μ.1 14).toInt := congrArg Int32.toInt (f_26.1 14 (by decide))
  have t_37 : (s_24.1 5).toInt = (μ.1 5).toInt := congrArg Int32.toInt (f_26.1 5 (by decide))
  have w_38 : s_24.2.1 1 = μ.2.1 1 := f_26.2.1 1 (by decide)
  have w_39 : s_24.2.1 2 = μ.2.1 2 := f_26.2.1 2 (by decide)
  have w_40 : s_24.2.1 3 = μ.2.1 3 := f_26.2.1 3 (by decide)
  have w_41 : s_24.2.1 5 = μ.2.1 5 := f_26.2.1 5 (by decide)
  have w_42 : s_24.2.1 7 = μ.2.1 7 := f_26.2.1 7 (by decide)
  have w_43 : s_24.2.1 8 = μ.2.1 8 := f_26.2.1 8 (by decide)
  have w_44 : s_24.2.2 4 = μ.2.2 4 := f_26.2.2 4 (by decide)
  have e_45 : s_2.2.1 12 = s_24.2.1 1 := (w_16.trans rr0).trans w_38.symm
  have e_46 : s_2.2.1 13 = s_24.2.1 2 := (w_17.trans rr1).trans w_39.symm
  have e_47 : s_2.2.1 14 = s_24.2.1 3 := (w_18.trans rr2).trans w_40.symm
  have e_48 : s_2.2.1 18 = s_24.2.1 5 := (w_19.trans rr3).trans w_41.symm
  have e_49 : s_2.2.1 20 = s_24.2.1 7 := (w_20.trans rr4).trans w_42.symm
  have e_50 : s_2.2.1 21 = s_24.2.1 8 := (w_21.trans rr5).trans w_43.symm
  have e_51 : s_2.2.2 19 = s_24.2.2 6 := by
    by_cases z : v_1.toInt = 0
    · obtain ⟨j, q, e⟩ := (fd_un y_6).2 z; obtain ⟨j1, q1, e1⟩ := (fd_un y_28).2 (by omega); have ej : j = j1 := Int32.toInt_inj.mp (by omega); rw [e, e1, ej, rr6]
    · rw [(fd_un y_6).1 z, (fd_un y_28).1 (by omega), rr6]
  have e_52 : fd_E (s_2.2.1 12) (s_2.2.1 13) (s_2.2.1 14) (s_2.2.2 15) (s_24.2.2 4) (s_2.1 1).toNatClampNeg := by
    have n1 : s_2.1 1 = σ.1 1 := Int32.toInt_inj.mp (by omega); rw [w_16, w_17, w_18, w_22, w_44, n1]; exact ex
  have e_53 : fd_Q (s_2.1 1) (s_2.1 5) (s_2.1 4) (s_2.2.1 20) (s_2.2.1 21) (s_2.2.1 18) := by
    have n1 : s_2.1 1 = σ.1 1 := Int32.toInt_inj.mp (by omega); have p5 : s_2.1 5 = σ.1 5 := Int32.toInt_inj.mp (by omega); have o4 : s_2.1 4 = σ.1 4 := Int32.toInt_inj.mp (by omega); rw [n1, p5, o4, w_20, w_21, w_19]; exact exq
  refine fd_e_lt (fun y_54 ey_54 => ?_)
  have t_55 := fd_la ey_54 (by omega) (by omega)
  have r_56 : fd_R s_2 s_24 := ⟨by omega, by omega, by omega, by omega, by omega, by omega, by omega, by omega, e_45, e_46, e_47, e_48, e_49, e_50, e_51, e_52, e_53⟩
  exact hK _ _ _ i_3 i_25 r_56 (by omega)
set_option maxHeartbeats 4000000 in
theorem u_c7 (N L : Nat) (hN : 1000 ≤ N) (hL : L ≤ 3072) (xs : Nat → Int32) (K : Int32 → fd_St → fd_St → Option Int32) (i : Int32) (σ μ : fd_St) (iC : fd_InvC σ) (iM : fd_InvM μ) (r : fd_R σ μ) (h0 : 0 ≤ i.toInt) (h1 : i.toInt + 6 ≤ (L : Int)) (hK : ∀ (j : Int32) (σ1 μ1 : fd_St), fd_InvC σ1 → fd_InvM μ1 → fd_R σ1 μ1 → j.toInt = i.toInt + 6 → K j σ1 μ1 = some 1) : f_law_c7 N L xs K i σ μ = some 1 := by
  have lit0 : (0 : Int32).toInt = 0 := by decide
  have lit6 : (6 : Int32).toInt = 6 := by decide
  obtain ⟨r0, r1, r2, r3, r4, r5, r6, r7, rr0, rr1, rr2, rr3, rr4, rr5, rr6, ex, exq⟩ := r
  have rg : (0 : Int) ≤ (σ.1 1).toInt ∧ (σ.1 1).toInt ≤ 200 := iC.1 1
  have rh : (0 : Int) ≤ (μ.1 4).toInt ∧ (μ.1 4).toInt ≤ 64 := iM.1 4
  have rp : (0 : Int) ≤ (σ.1 5).toInt ∧ (σ.1 5).toInt ≤ 40 := iC.1 5
  have ro : (0 : Int) ≤ (σ.1 4).toInt ∧ (σ.1 4).toInt ≤ 32 := iC.1 4
  unfold f_law_c7
  generalize xs (i + (1 : Int32)).toNatClampNeg = b1
  generalize xs (i + (2 : Int32)).toNatClampNeg = b2
  refine fd_e_gd (fd_gk h0 h1 hL (by decide)) ?_
  refine fd_e_gd (fd_gk h0 h1 hL (by decide)) ?_
  refine fd_e_bd (s_L_near_0_39 N hN _ _ _ iC) ?_
  rintro v_1 s_2 ⟨i_3, f_4, x_5⟩
  have t_6 : (s_2.1 1).toInt = (σ.1 1).toInt := congrArg Int32.toInt (f_4.1 1 (by decide))
  have t_7 : (s_2.1 2).toInt = (σ.1 2).toInt := congrArg Int32.toInt (f_4.1 2 (by decide))
  have t_8 : (s_2.1 3).toInt = (σ.1 3).toInt := congrArg Int32.toInt (f_4.1 3 (by decide))
  have t_9 : (s_2.1 4).toInt = (σ.1 4).toInt := congrArg Int32.toInt (f_4.1 4 (by decide))
  have t_10 : (s_2.1 16).toInt = (σ.1 16).toInt := congrArg Int32.toInt (f_4.1 16 (by decide))
  have t_11 : (s_2.1 17).toInt = (σ.1 17).toInt := congrArg Int32.toInt (f_4.1 17 (by decide))
  have t_12 : (s_2.1 18).toInt = (σ.1 18).toInt := congrArg Int32.toInt (f_4.1 18 (by decide))
  have w_13 : s_2.2.1 12 = σ.2.1 12 := f_4.2.1 12 (by decide)
  have w_14 : s_2.2.1 13 = σ.2.1 13 := f_4.2.1 13 (by decide)
  have w_15 : s_2.2.1 14 = σ.2.1 14 := f_4.2.1 14 (by decide)
  have w_16 : s_2.2.1 18 = σ.2.1 18 := f_4.2.1 18 (by decide)
  have w_17 : s_2.2.2 15 = σ.2.2 15 := f_4.2.2 15 (by decide)
  have w_18 : s_2.2.2 19 = σ.2.2 19 := f_4.2.2 19 (by decide)
  refine fd_e_gd (fd_gk h0 h1 hL (by decide)) ?_
  refine fd_e_gd (fd_gk h0 h1 hL (by decide)) ?_
  refine fd_e_bd (s_X11_near_0 N hN _ _ _ iM) ?_
  rintro v_19 s_20 ⟨i_21, f_22, x_23⟩
  have t_24 : (s_20.1 1).toInt = (μ.1 1).toInt := congrArg Int32.toInt (f_22.1 1 (by decide))
  have t_25 : (s_20.1 2).toInt = (μ.1 2).toInt := congrArg Int32.toInt (f_22.1 2 (by decide))
  have t_26 : (s_20.1 4).toInt = (μ.1 4).toInt := congrArg Int32.toInt (f_22.1 4 (by decide))
  have t_27 : (s_20.1 3).toInt = (μ.1 3).toInt := congrArg Int32.toInt (f_22.1 3 (by decide))
  have t_28 : (s_20.1 12).toInt = (μ.1 12).toInt := congrArg Int32.toInt (f_22.1 12 (by decide))
  have t_29 : (s_20.1 13).toInt = (μ.1 13).toInt := congrArg Int32.toInt (f_22.1 13 (by decide))
  have t_30 : (s_20.1 14).toInt = (μ.1 14).toInt := congrArg Int32.toInt (f_22.1 14 (by decide))
  have w_31 : s_20.2.1 1 = μ.2.1 1 := f_22.2.1 1 (by decide)
  have w_32 : s_20.2.1 2 = μ.2.1 2 := f_22.2.1 2 (by decide)
  have w_33 : s_20.2.1 3 = μ.2.1 3 := f_22.2.1 3 (by decide)
  have w_34 : s_20.2.1 5 = μ.2.1 5 := f_22.2.1 5 (by decide)
  have w_35 : s_20.2.2 4 = μ.2.2 4 := f_22.2.2 4 (by decide)
  have w_36 : s_20.2.2 6 = μ.2.2 6 := f_22.2.2 6 (by decide)
  have en : σ.1 1 = μ.1 1 := Int32.toInt_inj.mp (by omega)
  have ep : σ.1 5 = μ.1 5 := Int32.toInt_inj.mp (by omega)
  obtain ⟨q9, hq9⟩ := fd_Rx_ex (a := (fd_mn b1 b2).toNatClampNeg) _ ex.2.1
  have nC := x_5 (fun i => (iC.2.1 13 i).1) (fun i => (iC.2.1 14 i).1) ex.2.1 q9 hq9
  have nM := x_23 (by omega) (by rw [← rr0, ← rr1, ← rr2, ← en]; exact ex.2.1) q9 (by rw [← rr0, ← rr1, ← rr2, ← en]; exact hq9)
  rw [← en, ← ep, ← rr4, ← rr5] at nM
  have hN9 := fd_Nr_1 nC nM
  have t9 := congrArg Int32.toInt hN9.1
  have e_37 : s_2.2.1 12 = s_20.2.1 1 := (w_13.trans rr0).trans w_31.symm
  have e_38 : s_2.2.1 13 = s_20.2.1 2 := (w_14.trans rr1).trans w_32.symm
  have e_39 : s_2.2.1 14 = s_20.2.1 3 := (w_15.trans rr2).trans w_33.symm
  have e_40 : s_2.2.1 18 = s_20.2.1 5 := (w_16.trans rr3).trans w_34.symm
  have e_43 : s_2.2.2 19 = s_20.2.2 6 := (w_18.trans rr6).trans w_36.symm
  have e_44 : fd_E (s_2.2.1 12) (s_2.2.1 13) (s_2.2.1 14) (s_2.2.2 15) (s_20.2.2 4) (s_2.1 1).toNatClampNeg := by
    have n1 : s_2.1 1 = σ.1 1 := Int32.toInt_inj.mp (by omega); rw [w_13, w_14, w_15, w_17, w_35, n1]; exact ex
  have e_45 : fd_Q (s_2.1 1) (s_2.1 5) (s_2.1 4) (s_2.2.1 20) (s_2.2.1 21) (s_2.2.1 18) := by
    have n1 : s_2.1 1 = σ.1 1 := Int32.toInt_inj.mp (by omega); have o4 : s_2.1 4 = σ.1 4 := Int32.toInt_inj.mp (by omega); rw [n1, o4, w_16]; exact fd_Q_p exq (by omega) nC
  refine fd_e_lt (fun y_46 ey_46 => ?_)
  have t_47 := fd_la ey_46 (by omega) (by omega)
  have r_48 : fd_R s_2 s_20 := ⟨by omega, by omega, by omega, by omega, by omega, by omega, by omega, by omega, e_37, e_38, e_39, e_40, hN9.2.1, hN9.2.2, e_43, e_44, e_45⟩
  exact hK _ _ _ i_3 i_21 r_48 (by omega)
