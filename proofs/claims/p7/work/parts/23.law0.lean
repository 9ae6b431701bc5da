/-- what both sides have in common -/
def fd_R (σ μ : fd_St) : Prop := (σ.1 1).toInt = (μ.1 1).toInt ∧ (σ.1 2).toInt = (μ.1 2).toInt ∧ (σ.1 3).toInt = (μ.1 4).toInt ∧ (σ.1 4).toInt = (μ.1 3).toInt ∧ (σ.1 16).toInt = (μ.1 12).toInt ∧ (σ.1 17).toInt = (μ.1 13).toInt ∧ (σ.1 18).toInt = (μ.1 14).toInt ∧ σ.2.1 12 = μ.2.1 1 ∧ σ.2.1 13 = μ.2.1 2 ∧ σ.2.1 14 = μ.2.1 3 ∧ fd_E (σ.2.1 12) (σ.2.1 13) (σ.2.1 14) (σ.2.2 15) (μ.2.2 4) (σ.1 1).toNatClampNeg
theorem fd_e_gd {p : Prop} {t : Option Int32} (hp : p) (h : t = some 1) : fd_gd p t = some 1 := by rw [fd_gdp hp]; exact h
theorem fd_e_lt {α : Type} {x : α} {f : α → Option Int32} (h : ∀ y, y = x → f y = some 1) : fd_lt x f = some 1 := h x rfl
theorem fd_e_bd {α : Type} {o : Option (α × fd_St)} {P : α → fd_St → Prop} {f : α → fd_St → Option Int32} (h : fd_ok o P) (k : ∀ v s, P v s → f v s = some 1) : fd_bd o f = some 1 := by
  obtain ⟨v, s, h1, h2⟩ := h
  rw [h1]; exact k v s h2
theorem fd_e_th {N : Nat} {S : fd_St} {f : Int32 → fd_St → Option Int32} (h : f (S.1 0) S = some 1) : fd_bd (f_X11_thrown_0 N S) f = some 1 := by
  unfold f_X11_thrown_0; exact h
theorem fd_e_itp {c : Prop} [Decidable c] {t e : Option Int32} (hc : c) (ht : t = some 1) : (if c then t else e) = some 1 := by rw [if_pos hc]; exact ht
theorem fd_e_ite {c : Prop} [Decidable c] {t e : Option Int32} (ht : c → t = some 1) (he : ¬ c → e = some 1) : (if c then t else e) = some 1 := by
  by_cases h : c
  · rw [if_pos h]; exact ht h
  · rw [if_neg h]; exact he h
theorem fd_lgL {a b : Int64} (h : a = b) : lg_cmp a b = 0 := by
  subst h
  unfold lg_cmp
  rw [if_neg (Int64.lt_irrefl (a := a)), if_pos rfl]
theorem fd_lg {a : Int64} {b : Int32} (h : a.toInt = b.toInt) : lg_cmp a b.toInt64 = 0 := fd_lgL (Int64.toInt_inj.mp (by rw [h]; exact (Int32.toInt_toInt64 b).symm))
theorem fd_gk {i k : Int32} {L : Nat} (h0 : 0 ≤ i.toInt) (h1 : i.toInt + 6 ≤ (L : Int)) (hL : L ≤ 3072) (hk : 0 ≤ k.toInt ∧ k.toInt < 6) : vp_in (i + k) L := by
  have a := Jvm.Kit.i32_add (x := i) (y := k) (by omega) (by omega)
  exact vp_in_iff.mpr ⟨by omega, by omega⟩
theorem fd_ofN {L : Nat} (h : L ≤ 3072) : (Int32.ofNat L).toInt = (L : Int) := nI_toInt (n := L) (by omega)
set_option maxHeartbeats 4000000 in
theorem u_c0 (N L : Nat) (hN : 1000 ≤ N) (hL : L ≤ 3072) (xs : Nat → Int32) (K : Int32 → fd_St → fd_St → Option Int32) (i : Int32) (σ μ : fd_St) (iC : fd_InvC σ) (iM : fd_InvM μ) (r : fd_R σ μ) (h0 : 0 ≤ i.toInt) (h1 : i.toInt + 6 ≤ (L : Int)) (hK : ∀ (j : Int32) (σ1 μ1 : fd_St), fd_InvC σ1 → fd_InvM μ1 → fd_R σ1 μ1 → j.toInt = i.toInt + 6 → K j σ1 μ1 = some 1) : f_law_c0 N L xs K i σ μ = some 1 := by
  have lit0 : (0 : Int32).toInt = 0 := by decide
  have lit6 : (6 : Int32).toInt = 6 := by decide
  obtain ⟨r0, r1, r2, r3, r4, r5, r6, rr0, rr1, rr2, ex⟩ := r
  have rg : (0 : Int) ≤ (σ.1 1).toInt ∧ (σ.1 1).toInt ≤ 200 := iC.1 1
  have rh : (0 : Int) ≤ (μ.1 4).toInt ∧ (μ.1 4).toInt ≤ 64 := iM.1 4
  unfold f_law_c0
  refine fd_e_bd (s_L_input_0_39 N hN _ iC) ?_
  rintro v_1 s_2 ⟨i_3, f_4, x_5, y_6, y_7⟩
  have t_8 : (s_2.1 3).toInt = (σ.1 3).toInt := congrArg Int32.toInt (f_4.1 3 (by decide))
  have t_9 : (s_2.1 4).toInt = (σ.1 4).toInt := congrArg Int32.toInt (f_4.1 4 (by decide))
  have t_10 : (s_2.1 16).toInt = (σ.1 16).toInt := congrArg Int32.toInt (f_4.1 16 (by decide))
  have t_11 : (s_2.1 17).toInt = (σ.1 17).toInt := congrArg Int32.toInt (f_4.1 17 (by decide))
  have t_12 : (s_2.1 18).toInt = (σ.1 18).toInt := congrArg Int32.toInt (f_4.1 18 (by decide))
  have w_13 : s_2.2.1 13 = σ.2.1 13 := f_4.2.1 13 (by decide)
  have w_14 : s_2.2.1 14 = σ.2.1 14 := f_4.2.1 14 (by decide)
  refine fd_e_bd (s_X11_input_0 N hN _ iM) ?_
  rintro v_15 s_16 ⟨i_17, f_18, x_19, y_20, y_21⟩
  have t_22 : (s_16.1 4).toInt = (μ.1 4).toInt := congrArg Int32.toInt (f_18.1 4 (by decide))
  have t_23 : (s_16.1 3).toInt = (μ.1 3).toInt := congrArg Int32.toInt (f_18.1 3 (by decide))
  have t_24 : (s_16.1 12).toInt = (μ.1 12).toInt := congrArg Int32.toInt (f_18.1 12 (by decide))
  have t_25 : (s_16.1 13).toInt = (μ.1 13).toInt := congrArg Int32.toInt (f_18.1 13 (by decide))
  have t_26 : (s_16.1 14).toInt = (μ.1 14).toInt := congrArg Int32.toInt (f_18.1 14 (by decide))
  have w_27 : s_16.2.1 2 = μ.2.1 2 := f_18.2.1 2 (by decide)
  have w_28 : s_16.2.1 3 = μ.2.1 3 := f_18.2.1 3 (by decide)
  have e_29 : s_2.2.1 12 = s_16.2.1 1 := by
    by_cases z : v_1.toInt = 0
    · obtain ⟨j, w, q, e⟩ := (fd_un y_6).2 z; obtain ⟨j1, w1, q1, e1⟩ := (fd_un y_20).2 (by omega); have ej : j = j1 := Int32.toInt_inj.mp (by omega); have ew : w = w1 := Int32.toInt_inj.mp (by omega); rw [e, e1, ej, ew, rr0]
    · rw [(fd_un y_6).1 z, (fd_un y_20).1 (by omega), rr0]
  have e_30 : s_2.2.1 13 = s_16.2.1 2 := (w_13.trans rr1).trans w_27.symm
  have e_31 : s_2.2.1 14 = s_16.2.1 3 := (w_14.trans rr2).trans w_28.symm
  have e_32 : fd_E (s_2.2.1 12) (s_2.2.1 13) (s_2.2.1 14) (s_2.2.2 15) (s_16.2.2 4) (s_2.1 1).toNatClampNeg := by
    by_cases z : v_1.toInt = 0
    · obtain ⟨j, w, ⟨q1, q2⟩, e⟩ := (fd_un y_6).2 z; obtain ⟨j2, q3, e2⟩ := (fd_un y_7).2 z; obtain ⟨j3, q4, e3⟩ := (fd_un y_21).2 (by omega)
      rw [e, e2, e3, w_13, w_14]; exact fd_E_input ex (by omega) (by omega) (by omega) (by omega) (by omega) (by omega)
    · have n1 : s_2.1 1 = σ.1 1 := Int32.toInt_inj.mp (by omega); rw [(fd_un y_6).1 z, w_13, w_14, (fd_un y_7).1 z, (fd_un y_21).1 (by omega), n1]; exact ex
  refine fd_e_lt (fun y_33 ey_33 => ?_)
  have t_34 := fd_la ey_33 (by omega) (by omega)
  have r_35 : fd_R s_2 s_16 := ⟨by omega, by omega, by omega, by omega, by omega, by omega, by omega, e_29, e_30, e_31, e_32⟩
  exact hK _ _ _ i_3 i_17 r_35 (by omega)
set_option maxHeartbeats 4000000 in
theorem u_c1 (N L : Nat) (hN : 1000 ≤ N) (hL : L ≤ 3072) (xs : Nat → Int32) (K : Int32 → fd_St → fd_St → Option Int32) (i : Int32) (σ μ : fd_St) (iC : fd_InvC σ) (iM : fd_InvM μ) (r : fd_R σ μ) (h0 : 0 ≤ i.toInt) (h1 : i.toInt + 6 ≤ (L : Int)) (hK : ∀ (j : Int32) (σ1 μ1 : fd_St), fd_InvC σ1 → fd_InvM μ1 → fd_R σ1 μ1 → j.toInt = i.toInt + 6 → K j σ1 μ1 = some 1) : f_law_c1 N L xs K i σ μ = some 1 := by
  have lit0 : (0 : Int32).toInt = 0 := by decide
  have lit6 : (6 : Int32).toInt = 6 := by decide
  obtain ⟨r0, r1, r2, r3, r4, r5, r6, rr0, rr1, rr2, ex⟩ := r
  have rg : (0 : Int) ≤ (σ.1 1).toInt ∧ (σ.1 1).toInt ≤ 200 := iC.1 1
  have rh : (0 : Int) ≤ (μ.1 4).toInt ∧ (μ.1 4).toInt ≤ 64 := iM.1 4
  unfold f_law_c1
  generalize xs (i + (1 : Int32)).toNatClampNeg = b1
  generalize xs (i + (2 : Int32)).toNatClampNeg = b2
  generalize xs (i + (3 : Int32)).toNatClampNeg = b3
  refine fd_e_gd (fd_gk h0 h1 hL (by decide)) ?_
  refine fd_e_gd (fd_gk h0 h1 hL (by decide)) ?_
  refine fd_e_gd (fd_gk h0 h1 hL (by decide)) ?_
  refine fd_e_bd (s_L_gate_0_39 N hN _ _ _ _ iC) ?_
  rintro v_1 s_2 ⟨i_3, f_4, x_5, y_6, y_7, y_8, y_9, y_10⟩
  have t_11 : (s_2.1 2).toInt = (σ.1 2).toInt := congrArg Int32.toInt (f_4.1 2 (by decide))
  have t_12 : (s_2.1 3).toInt = (σ.1 3).toInt := congrArg Int32.toInt (f_4.1 3 (by decide))
  have t_13 : (s_2.1 4).toInt = (σ.1 4).toInt := congrArg Int32.toInt (f_4.1 4 (by decide))
  have t_14 : (s_2.1 16).toInt = (σ.1 16).toInt := congrArg Int32.toInt (f_4.1 16 (by decide))
  have t_15 : (s_2.1 17).toInt = (σ.1 17).toInt := congrArg Int32.toInt (f_4.1 17 (by decide))
  have t_16 : (s_2.1 18).toInt = (σ.1 18).toInt := congrArg Int32.toInt (f_4.1 18 (by decide))
  refine fd_e_gd (fd_gk h0 h1 hL (by decide)) ?_
  refine fd_e_gd (fd_gk h0 h1 hL (by decide)) ?_
  refine fd_e_gd (fd_gk h0 h1 hL (by decide)) ?_
  refine fd_e_bd (s_X11_gate_0 N hN _ _ _ _ iM) ?_
  rintro v_17 s_18 ⟨i_19, f_20, x_21, y_22, y_23, y_24⟩
  have t_25 : (s_18.1 2).toInt = (μ.1 2).toInt := congrArg Int32.toInt (f_20.1 2 (by decide))
  have t_26 : (s_18.1 4).toInt = (μ.1 4).toInt := congrArg Int32.toInt (f_20.1 4 (by decide))
  have t_27 : (s_18.1 3).toInt = (μ.1 3).toInt := congrArg Int32.toInt (f_20.1 3 (by decide))
  have t_28 : (s_18.1 12).toInt = (μ.1 12).toInt := congrArg Int32.toInt (f_20.1 12 (by decide))
  have t_29 : (s_18.1 13).toInt = (μ.1 13).toInt := congrArg Int32.toInt (f_20.1 13 (by decide))
  have t_30 : (s_18.1 14).toInt = (μ.1 14).toInt := congrArg Int32.toInt (f_20.1 14 (by decide))
  have w_31 : s_18.2.2 4 = μ.2.2 4 := f_20.2.2 4 (by decide)
  have e_32 : s_2.2.1 12 = s_18.2.1 1 := by
    by_cases z : v_1.toInt = 0
    · obtain ⟨j, w, q, e⟩ := (fd_un y_6).2 z; obtain ⟨j1, w1, q1, e1⟩ := (fd_un y_22).2 (by omega); have ej : j = j1 := Int32.toInt_inj.mp (by omega); have ew : w = w1 := Int32.toInt_inj.mp (by omega); rw [e, e1, ej, ew, rr0]
    · rw [(fd_un y_6).1 z, (fd_un y_22).1 (by omega), rr0]
  have e_33 : s_2.2.1 13 = s_18.2.1 2 := by
    by_cases z : v_1.toInt = 0
    · obtain ⟨j, w, q, e⟩ := (fd_un y_7).2 z; obtain ⟨j1, w1, q1, e1⟩ := (fd_un y_23).2 (by omega); have ej : j = j1 := Int32.toInt_inj.mp (by omega); have ew : w = w1 := Int32.toInt_inj.mp (by omega); rw [e, e1, ej, ew, rr1]
    · rw [(fd_un y_7).1 z, (fd_un y_23).1 (by omega), rr1]
  have e_34 : s_2.2.1 14 = s_18.2.1 3 := by
    by_cases z : v_1.toInt = 0
    · obtain ⟨j, w, q, e⟩ := (fd_un y_8).2 z; obtain ⟨j1, w1, q1, e1⟩ := (fd_un y_24).2 (by omega); have ej : j = j1 := Int32.toInt_inj.mp (by omega); have ew : w = w1 := Int32.toInt_inj.mp (by omega); rw [e, e1, ej, ew, rr2]
    · rw [(fd_un y_8).1 z, (fd_un y_24).1 (by omega), rr2]
  have e_35 : fd_E (s_2.2.1 12) (s_2.2.1 13) (s_2.2.1 14) (s_2.2.2 15) (s_18.2.2 4) (s_2.1 1).toNatClampNeg := by
    by_cases z : v_1.toInt = 0
    · obtain ⟨j, w, q1, e⟩ := (fd_un y_6).2 z; obtain ⟨j2, w2, q2, e2⟩ := (fd_un y_7).2 z; obtain ⟨j3, w3, q3, e3⟩ := (fd_un y_8).2 z; obtain ⟨j4, q4, e4⟩ := (fd_un y_10) z
      rw [w_31]; exact fd_E_gate ex (by omega) (by omega) (by omega) (by omega) e (by omega) (by omega) e2 (by omega) (by omega) e3 (by omega) e4 (by omega)
    · have n1 : s_2.1 1 = σ.1 1 := Int32.toInt_inj.mp (by omega); rw [(fd_un y_6).1 z, (fd_un y_7).1 z, (fd_un y_8).1 z, (fd_un y_9) z, w_31, n1]; exact ex
  refine fd_e_lt (fun y_36 ey_36 => ?_)
  have t_37 := fd_la ey_36 (by omega) (by omega)
  have r_38 : fd_R s_2 s_18 := ⟨by omega, by omega, by omega, by omega, by omega, by omega, by omega, e_32, e_33, e_34, e_35⟩
  exact hK _ _ _ i_3 i_19 r_38 (by omega)
set_option maxHeartbeats 4000000 in
theorem u_c2 (N L : Nat) (hN : 1000 ≤ N) (hL : L ≤ 3072) (xs : Nat → Int32) (K : Int32 → fd_St → fd_St → Option Int32) (i : Int32) (σ μ : fd_St) (iC : fd_InvC σ) (iM : fd_InvM μ) (r : fd_R σ μ) (h0 : 0 ≤ i.toInt) (h1 : i.toInt + 6 ≤ (L : Int)) (hK : ∀ (j : Int32) (σ1 μ1 : fd_St), fd_InvC σ1 → fd_InvM μ1 → fd_R σ1 μ1 → j.toInt = i.toInt + 6 → K j σ1 μ1 = some 1) : f_law_c2 N L xs K i σ μ = some 1 := by
  have lit0 : (0 : Int32).toInt = 0 := by decide
  have lit6 : (6 : Int32).toInt = 6 := by decide
  obtain ⟨r0, r1, r2, r3, r4, r5, r6, rr0, rr1, rr2, ex⟩ := r
  have rg : (0 : Int) ≤ (σ.1 1).toInt ∧ (σ.1 1).toInt ≤ 200 := iC.1 1
  have rh : (0 : Int) ≤ (μ.1 4).toInt ∧ (μ.1 4).toInt ≤ 64 := iM.1 4
  unfold f_law_c2
  generalize xs (i + (1 : Int32)).toNatClampNeg = b1
  refine fd_e_gd (fd_gk h0 h1 hL (by decide)) ?_
  refine fd_e_bd (s_L_output_0_39 N hN _ _ iC) ?_
  rintro v_1 s_2 ⟨i_3, f_4, x_5, y_6, y_7⟩
  have t_8 : (s_2.1 1).toInt = (σ.1 1).toInt := congrArg Int32.toInt (f_4.1 1 (by decide))
  have t_9 : (s_2.1 2).toInt = (σ.1 2).toInt := congrArg Int32.toInt (f_4.1 2 (by decide))
  have t_10 : (s_2.1 3).toInt = (σ.1 3).toInt := congrArg Int32.toInt (f_4.1 3 (by decide))
  have t_11 : (s_2.1 16).toInt = (σ.1 16).toInt := congrArg Int32.toInt (f_4.1 16 (by decide))
  have t_12 : (s_2.1 17).toInt = (σ.1 17).toInt := congrArg Int32.toInt (f_4.1 17 (by decide))
  have t_13 : (s_2.1 18).toInt = (σ.1 18).toInt := congrArg Int32.toInt (f_4.1 18 (by decide))
  have w_14 : s_2.2.1 12 = σ.2.1 12 := f_4.2.1 12 (by decide)
  have w_15 : s_2.2.1 13 = σ.2.1 13 := f_4.2.1 13 (by decide)
  have w_16 : s_2.2.1 14 = σ.2.1 14 := f_4.2.1 14 (by decide)
  have w_17 : s_2.2.2 15 = σ.2.2 15 := f_4.2.2 15 (by decide)
  refine fd_e_gd (fd_gk h0 h1 hL (by decide)) ?_
  refine fd_e_bd (s_X11_output_0 N hN _ _ iM) ?_
  rintro v_18 s_19 ⟨i_20, f_21, x_22, y_23, y_24⟩
  have t_25 : (s_19.1 1).toInt = (μ.1 1).toInt := congrArg Int32.toInt (f_21.1 1 (by decide))
  have t_26 : (s_19.1 2).toInt = (μ.1 2).toInt := congrArg Int32.toInt (f_21.1 2 (by decide))
  have t_27 : (s_19.1 4).toInt = (μ.1 4).toInt := congrArg Int32.toInt (f_21.1 4 (by decide))
  have t_28 : (s_19.1 12).toInt = (μ.1 12).toInt := congrArg Int32.toInt (f_21.1 12 (by decide))
  have t_29 : (s_19.1 13).toInt = (μ.1 13).toInt := congrArg Int32.toInt (f_21.1 13 (by decide))
  have t_30 : (s_19.1 14).toInt = (μ.1 14).toInt := congrArg Int32.toInt (f_21.1 14 (by decide))
  have w_31 : s_19.2.1 1 = μ.2.1 1 := f_21.2.1 1 (by decide)
  have w_32 : s_19.2.1 2 = μ.2.1 2 := f_21.2.1 2 (by decide)
  have w_33 : s_19.2.1 3 = μ.2.1 3 := f_21.2.1 3 (by decide)
  have w_34 : s_19.2.2 4 = μ.2.2 4 := f_21.2.2 4 (by decide)
  have e_35 : s_2.2.1 12 = s_19.2.1 1 := (w_14.trans rr0).trans w_31.symm
  have e_36 : s_2.2.1 13 = s_19.2.1 2 := (w_15.trans rr1).trans w_32.symm
  have e_37 : s_2.2.1 14 = s_19.2.1 3 := (w_16.trans rr2).trans w_33.symm
  have e_38 : fd_E (s_2.2.1 12) (s_2.2.1 13) (s_2.2.1 14) (s_2.2.2 15) (s_19.2.2 4) (s_2.1 1).toNatClampNeg := by
    have n1 : s_2.1 1 = σ.1 1 := Int32.toInt_inj.mp (by omega); rw [w_14, w_15, w_16, w_17, w_34, n1]; exact ex
  refine fd_e_lt (fun y_39 ey_39 => ?_)
  have t_40 := fd_la ey_39 (by omega) (by omega)
  have r_41 : fd_R s_2 s_19 := ⟨by omega, by omega, by omega, by omega, by omega, by omega, by omega, e_35, e_36, e_37, e_38⟩
  exact hK _ _ _ i_3 i_20 r_41 (by omega)
set_option maxHeartbeats 4000000 in
theorem u_c3 (N L : Nat) (hN : 1000 ≤ N) (hL : L ≤ 3072) (xs : Nat → Int32) (K : Int32 → fd_St → fd_St → Option Int32) (i : Int32) (σ μ : fd_St) (iC : fd_InvC σ) (iM : fd_InvM μ) (r : fd_R σ μ) (h0 : 0 ≤ i.toInt) (h1 : i.toInt + 6 ≤ (L : Int)) (hK : ∀ (j : Int32) (σ1 μ1 : fd_St), fd_InvC σ1 → fd_InvM μ1 → fd_R σ1 μ1 → j.toInt = i.toInt + 6 → K j σ1 μ1 = some 1) : f_law_c3 N L xs K i σ μ = some 1 := by
  have lit0 : (0 : Int32).toInt = 0 := by decide
  have lit6 : (6 : Int32).toInt = 6 := by decide
  obtain ⟨r0, r1, r2, r3, r4, r5, r6, rr0, rr1, rr2, ex⟩ := r
  have rg : (0 : Int) ≤ (σ.1 1).toInt ∧ (σ.1 1).toInt ≤ 200 := iC.1 1
  have rh : (0 : Int) ≤ (μ.1 4).toInt ∧ (μ.1 4).toInt ≤ 64 := iM.1 4
  unfold f_law_c3
  generalize xs (i + (1 : Int32)).toNatClampNeg = b1
  refine fd_e_gd (fd_gk h0 h1 hL (by decide)) ?_
  refine fd_e_bd (s_L_patterns_0_39 N hN _ _ iC) ?_
  rintro v_1 s_2 ⟨i_3, f_4, x_5⟩
  have t_6 : (s_2.1 1).toInt = (σ.1 1).toInt := congrArg Int32.toInt (f_4.1 1 (by decide))
  have t_7 : (s_2.1 2).toInt = (σ.1 2).toInt := congrArg Int32.toInt (f_4.1 2 (by decide))
  have t_8 : (s_2.1 4).toInt = (σ.1 4).toInt := congrArg Int32.toInt (f_4.1 4 (by decide))
  have t_9 : (s_2.1 16).toInt = (σ.1 16).toInt := congrArg Int32.toInt (f_4.1 16 (by decide))
  have t_10 : (s_2.1 17).toInt = (σ.1 17).toInt := congrArg Int32.toInt (f_4.1 17 (by decide))
  have t_11 : (s_2.1 18).toInt = (σ.1 18).toInt := congrArg Int32.toInt (f_4.1 18 (by decide))
  have w_12 : s_2.2.1 12 = σ.2.1 12 := f_4.2.1 12 (by decide)
  have w_13 : s_2.2.1 13 = σ.2.1 13 := f_4.2.1 13 (by decide)
  have w_14 : s_2.2.1 14 = σ.2.1 14 := f_4.2.1 14 (by decide)
  have w_15 : s_2.2.2 15 = σ.2.2 15 := f_4.2.2 15 (by decide)
  refine fd_e_gd (fd_gk h0 h1 hL (by decide)) ?_
  refine fd_e_bd (s_X11_patterns_0 N hN _ _ iM) ?_
  rintro v_16 s_17 ⟨i_18, f_19, x_20⟩
  have t_21 : (s_17.1 1).toInt = (μ.1 1).toInt := congrArg Int32.toInt (f_19.1 1 (by decide))
  have t_22 : (s_17.1 2).toInt = (μ.1 2).toInt := congrArg Int32.toInt (f_19.1 2 (by decide))
  have t_23 : (s_17.1 3).toInt = (μ.1 3).toInt := congrArg Int32.toInt (f_19.1 3 (by decide))
  have t_24 : (s_17.1 12).toInt = (μ.1 12).toInt := congrArg Int32.toInt (f_19.1 12 (by decide))
  have t_25 : (s_17.1 13).toInt = (μ.1 13).toInt := congrArg Int32.toInt (f_19.1 13 (by decide))
  have t_26 : (s_17.1 14).toInt = (μ.1 14).toInt := congrArg Int32.toInt (f_19.1 14 (by decide))
  have w_27 : s_17.2.1 1 = μ.2.1 1 := f_19.2.1 1 (by decide)
  have w_28 : s_17.2.1 2 = μ.2.1 2 := f_19.2.1 2 (by decide)
  have w_29 : s_17.2.1 3 = μ.2.1 3 := f_19.2.1 3 (by decide)
  have w_30 : s_17.2.2 4 = μ.2.2 4 := f_19.2.2 4 (by decide)
  have e_31 : s_2.2.1 12 = s_17.2.1 1 := (w_12.trans rr0).trans w_27.symm
  have e_32 : s_2.2.1 13 = s_17.2.1 2 := (w_13.trans rr1).trans w_28.symm
  have e_33 : s_2.2.1 14 = s_17.2.1 3 := (w_14.trans rr2).trans w_29.symm
  have e_34 : fd_E (s_2.2.1 12) (s_2.2.1 13) (s_2.2.1 14) (s_2.2.2 15) (s_17.2.2 4) (s_2.1 1).toNatClampNeg := by
    have n1 : s_2.1 1 = σ.1 1 := Int32.toInt_inj.mp (by omega); rw [w_12, w_13, w_14, w_15, w_30, n1]; exact ex
  refine fd_e_lt (fun y_35 ey_35 => ?_)
  have t_36 := fd_la ey_35 (by omega) (by omega)
  have r_37 : fd_R s_2 s_17 := ⟨by omega, by omega, by omega, by omega, by omega, by omega, by omega, e_31, e_32, e_33, e_34⟩
  exact hK _ _ _ i_3 i_18 r_37 (by omega)
set_option maxHeartbeats 4000000 in
theorem u_c4 (N L : Nat) (hN : 1000 ≤ N) (hL : L ≤ 3072) (xs : Nat → Int32) (K : Int32 → fd_St → fd_St → Option Int32) (i : Int32) (σ μ : fd_St) (iC : fd_InvC σ) (iM : fd_InvM μ) (r : fd_R σ μ) (h0 : 0 ≤ i.toInt) (h1 : i.toInt + 6 ≤ (L : Int)) (hK : ∀ (j : Int32) (σ1 μ1 : fd_St), fd_InvC σ1 → fd_InvM μ1 → fd_R σ1 μ1 → j.toInt = i.toInt + 6 → K j σ1 μ1 = some 1) : f_law_c4 N L xs K i σ μ = some 1 := by
  have lit0 : (0 : Int32).toInt = 0 := by decide
  have lit6 : (6 : Int32).toInt = 6 := by decide
  obtain ⟨r0, r1, r2, r3, r4, r5, r6, rr0, rr1, rr2, ex⟩ := r
  have rg : (0 : Int) ≤ (σ.1 1).toInt ∧ (σ.1 1).toInt ≤ 200 := iC.1 1
  have rh : (0 : Int) ≤ (μ.1 4).toInt ∧ (μ.1 4).toInt ≤ 64 := iM.1 4
  unfold f_law_c4
  generalize xs (i + (1 : Int32)).toNatClampNeg = b1
  generalize xs (i + (2 : Int32)).toNatClampNeg = b2
  generalize xs (i + (3 : Int32)).toNatClampNeg = b3
  have kq : (σ.2.1 12 b1.toNatClampNeg).toInt = (μ.2.1 1 b1.toNatClampNeg).toInt := by rw [rr0]
  refine fd_e_gd (fd_gk h0 h1 hL (by decide)) ?_
  refine fd_e_gd (fd_gk h0 h1 hL (by decide)) ?_
  refine fd_e_gd (fd_gk h0 h1 hL (by decide)) ?_
  refine fd_e_bd (s_L_pattern_0_39 N hN _ _ _ iC) ?_
  rintro v_1 s_2 ⟨i_3, f_4, x_5, y_6, y_7⟩
  have t_8 : (s_2.1 1).toInt = (σ.1 1).toInt := congrArg Int32.toInt (f_4.1 1 (by decide))
  have t_9 : (s_2.1 2).toInt = (σ.1 2).toInt := congrArg Int32.toInt (f_4.1 2 (by decide))
  have t_10 : (s_2.1 3).toInt = (σ.1 3).toInt := congrArg Int32.toInt (f_4.1 3 (by decide))
  have t_11 : (s_2.1 4).toInt = (σ.1 4).toInt := congrArg Int32.toInt (f_4.1 4 (by decide))
  have t_12 : (s_2.1 16).toInt = (σ.1 16).toInt := congrArg Int32.toInt (f_4.1 16 (by decide))
  have t_13 : (s_2.1 17).toInt = (σ.1 17).toInt := congrArg Int32.toInt (f_4.1 17 (by decide))
  have t_14 : (s_2.1 18).toInt = (σ.1 18).toInt := congrArg Int32.toInt (f_4.1 18 (by decide))
  have w_15 : s_2.2.1 12 = σ.2.1 12 := f_4.2.1 12 (by decide)
  have w_16 : s_2.2.1 13 = σ.2.1 13 := f_4.2.1 13 (by decide)
  have w_17 : s_2.2.1 14 = σ.2.1 14 := f_4.2.1 14 (by decide)
  refine fd_e_gd (fd_gk h0 h1 hL (by decide)) ?_
  refine fd_e_gd (fd_gk h0 h1 hL (by decide)) ?_
  refine fd_e_gd (fd_gk h0 h1 hL (by decide)) ?_
  refine fd_e_bd (s_X11_pattern_0 N hN _ _ _ iM) ?_
  rintro v_18 s_19 ⟨i_20, f_21, x_22, y_23, y_24⟩
  have t_25 : (s_19.1 1).toInt = (μ.1 1).toInt := congrArg Int32.toInt (f_21.1 1 (by decide))
  have t_26 : (s_19.1 2).toInt = (μ.1 2).toInt := congrArg Int32.toInt (f_21.1 2 (by decide))
  have t_27 : (s_19.1 4).toInt = (μ.1 4).toInt := congrArg Int32.toInt (f_21.1 4 (by decide))
  have t_28 : (s_19.1 3).toInt = (μ.1 3).toInt := congrArg Int32.toInt (f_21.1 3 (by decide))
  have t_29 : (s_19.1 12).toInt = (μ.1 12).toInt := congrArg Int32.toInt (f_21.1 12 (by decide))
  have t_30 : (s_19.1 13).toInt = (μ.1 13).toInt := congrArg Int32.toInt (f_21.1 13 (by decide))
  have t_31 : (s_19.1 14).toInt = (μ.1 14).toInt := congrArg Int32.toInt (f_21.1 14 (by decide))
  have w_32 : s_19.2.1 1 = μ.2.1 1 := f_21.2.1 1 (by decide)
  have w_33 : s_19.2.1 2 = μ.2.1 2 := f_21.2.1 2 (by decide)
  have w_34 : s_19.2.1 3 = μ.2.1 3 := f_21.2.1 3 (by decide)
  have e_35 : s_2.2.1 12 = s_19.2.1 1 := (w_15.trans rr0).trans w_32.symm
  have e_36 : s_2.2.1 13 = s_19.2.1 2 := (w_16.trans rr1).trans w_33.symm
  have e_37 : s_2.2.1 14 = s_19.2.1 3 := (w_17.trans rr2).trans w_34.symm
  have e_38 : fd_E (s_2.2.1 12) (s_2.2.1 13) (s_2.2.1 14) (s_2.2.2 15) (s_19.2.2 4) (s_2.1 1).toNatClampNeg := by
    by_cases z : v_1.toInt = 0
    · obtain ⟨o, a, b⟩ := (fd_un y_7) z; obtain ⟨j, q, e⟩ := (fd_un y_23).2 (by omega)
      have n1 : s_2.1 1 = σ.1 1 := Int32.toInt_inj.mp (by omega); rw [w_15, w_16, w_17, n1]; exact fd_E_pattern ex a b (by omega) e
    · have n1 : s_2.1 1 = σ.1 1 := Int32.toInt_inj.mp (by omega); rw [w_15, w_16, w_17, n1, (fd_un y_6) z, (fd_un y_23).1 (by omega)]; exact ex
  refine fd_e_lt (fun y_39 ey_39 => ?_)
  have t_40 := fd_la ey_39 (by omega) (by omega)
  have r_41 : fd_R s_2 s_19 := ⟨by omega, by omega, by omega, by omega, by omega, by omega, by omega, e_35, e_36, e_37, e_38⟩
  exact hK _ _ _ i_3 i_20 r_41 (by omega)
set_option maxHeartbeats 4000000 in
theorem u_c5 (N L : Nat) (hN : 1000 ≤ N) (hL : L ≤ 3072) (xs : Nat → Int32) (K : Int32 → fd_St → fd_St → Option Int32) (i : Int32) (σ μ : fd_St) (iC : fd_InvC σ) (iM : fd_InvM μ) (r : fd_R σ μ) (h0 : 0 ≤ i.toInt) (h1 : i.toInt + 6 ≤ (L : Int)) (hK : ∀ (j : Int32) (σ1 μ1 : fd_St), fd_InvC σ1 → fd_InvM μ1 → fd_R σ1 μ1 → j.toInt = i.toInt + 6 → K j σ1 μ1 = some 1) : f_law_c5 N L xs K i σ μ = some 1 := by
  have lit0 : (0 : Int32).toInt = 0 := by decide
  have lit6 : (6 : Int32).toInt = 6 := by decide
  obtain ⟨r0, r1, r2, r3, r4, r5, r6, rr0, rr1, rr2, ex⟩ := r
  have rg : (0 : Int) ≤ (σ.1 1).toInt ∧ (σ.1 1).toInt ≤ 200 := iC.1 1
  have rh : (0 : Int) ≤ (μ.1 4).toInt ∧ (μ.1 4).toInt ≤ 64 := iM.1 4
  unfold f_law_c5
  generalize xs (i + (1 : Int32)).toNatClampNeg = b1
  refine fd_e_gd (fd_gk h0 h1 hL (by decide)) ?_
  refine fd_e_bd (s_L_row_0_39 N hN _ _ iC) ?_
  rintro v_1 s_2 ⟨i_3, f_4, x_5, y_6⟩
  have t_7 : (s_2.1 1).toInt = (σ.1 1).toInt := congrArg Int32.toInt (f_4.1 1 (by decide))
  have t_8 : (s_2.1 2).toInt = (σ.1 2).toInt := congrArg Int32.toInt (f_4.1 2 (by decide))
  have t_9 : (s_2.1 3).toInt = (σ.1 3).toInt := congrArg Int32.toInt (f_4.1 3 (by decide))
  have t_10 : (s_2.1 4).toInt = (σ.1 4).toInt := congrArg Int32.toInt (f_4.1 4 (by decide))
  have t_11 : (s_2.1 16).toInt = (σ.1 16).toInt := congrArg Int32.toInt (f_4.1 16 (by decide))
  have t_12 : (s_2.1 17).toInt = (σ.1 17).toInt := congrArg Int32.toInt (f_4.1 17 (by decide))
  have t_13 : (s_2.1 18).toInt = (σ.1 18).toInt := congrArg Int32.toInt (f_4.1 18 (by decide))
  have w_14 : s_2.2.1 12 = σ.2.1 12 := f_4.2.1 12 (by decide)
  have w_15 : s_2.2.1 13 = σ.2.1 13 := f_4.2.1 13 (by decide)
  have w_16 : s_2.2.1 14 = σ.2.1 14 := f_4.2.1 14 (by decide)
  have w_17 : s_2.2.2 15 = σ.2.2 15 := f_4.2.2 15 (by decide)
  refine fd_e_gd (fd_gk h0 h1 hL (by decide)) ?_
  refine fd_e_bd (s_X11_row_0 N hN _ _ iM) ?_
  rintro v_18 s_19 ⟨i_20, f_21, x_22, y_23⟩
  have t_24 : (s_19.1 1).toInt = (μ.1 1).toInt := congrArg Int32.toInt (f_21.1 1 (by decide))
  have t_25 : (s_19.1 2).toInt = (μ.1 2).toInt := congrArg Int32.toInt (f_21.1 2 (by decide))
  have t_26 : (s_19.1 4).toInt = (μ.1 4).toInt := congrArg Int32.toInt (f_21.1 4 (by decide))
  have t_27 : (s_19.1 3).toInt = (μ.1 3).toInt := congrArg Int32.toInt (f_21.1 3 (by decide))
  have t_28 : (s_19.1 12).toInt = (μ.1 12).toInt := congrArg Int32.toInt (f_21.1 12 (by decide))
  have t_29 : (s_19.1 13).toInt = (μ.1 13).toInt := congrArg Int32.toInt (f_21.1 13 (by decide))
  have t_30 : (s_19.1 14).toInt = (μ.1 14).toInt := congrArg Int32.toInt (f_21.1 14 (by decide))
  have w_31 : s_19.2.1 1 = μ.2.1 1 := f_21.2.1 1 (by decide)
  have w_32 : s_19.2.1 2 = μ.2.1 2 := f_21.2.1 2 (by decide)
  have w_33 : s_19.2.1 3 = μ.2.1 3 := f_21.2.1 3 (by decide)
  have w_34 : s_19.2.2 4 = μ.2.2 4 := f_21.2.2 4 (by decide)
  have e_35 : s_2.2.1 12 = s_19.2.1 1 := (w_14.trans rr0).trans w_31.symm
  have e_36 : s_2.2.1 13 = s_19.2.1 2 := (w_15.trans rr1).trans w_32.symm
  have e_37 : s_2.2.1 14 = s_19.2.1 3 := (w_16.trans rr2).trans w_33.symm
  have e_38 : fd_E (s_2.2.1 12) (s_2.2.1 13) (s_2.2.1 14) (s_2.2.2 15) (s_19.2.2 4) (s_2.1 1).toNatClampNeg := by
    have n1 : s_2.1 1 = σ.1 1 := Int32.toInt_inj.mp (by omega); rw [w_14, w_15, w_16, w_17, w_34, n1]; exact ex
  refine fd_e_th ?_
  refine fd_e_itp (Int32.toInt_inj.mp (by omega)) ?_
  refine fd_e_ite (fun c_39 => ?_) (fun c_39 => ?_)
  ·
    have d_40 := congrArg Int32.toInt c_39
    refine fd_e_gd (by unfold vp_in; decide) ?_
    have eN : (μ.1 1).toNatClampNeg = (σ.1 1).toNatClampNeg := fd_te (by omega)
    have eM := fd_ctmk (a := σ.1 3) (b := μ.1 4) (by omega) (by omega) (by omega)
    have o2 := (fd_un y_23) (by omega) (σ.2.2 15) (by rw [← rr0, ← rr1, ← rr2, eN]; exact ex)
    refine fd_e_itp (fd_lgL (((fd_un y_6) (by omega)).trans (by rw [o2, eM]))) ?_
    refine fd_e_lt (fun y_41 ey_41 => ?_)
    have t_42 := fd_la ey_41 (by omega) (by omega)
    have r_43 : fd_R s_2 s_19 := ⟨by omega, by omega, by omega, by omega, by omega, by omega, by omega, e_35, e_36, e_37, e_38⟩
    exact hK _ _ _ i_3 i_20 r_43 (by omega)
  ·
    refine fd_e_lt (fun y_44 ey_44 => ?_)
    have t_45 := fd_la ey_44 (by omega) (by omega)
    have r_46 : fd_R s_2 s_19 := ⟨by omega, by omega, by omega, by omega, by omega, by omega, by omega, e_35, e_36, e_37, e_38⟩
    exact hK _ _ _ i_3 i_20 r_46 (by omega)
set_option maxHeartbeats 4000000 in
theorem u_c6 (N L : Nat) (hN : 1000 ≤ N) (hL : L ≤ 3072) (xs : Nat → Int32) (K : Int32 → fd_St → fd_St → Option Int32) (i : Int32) (σ μ : fd_St) (iC : fd_InvC σ) (iM : fd_InvM μ) (r : fd_R σ μ) (h0 : 0 ≤ i.toInt) (h1 : i.toInt + 6 ≤ (L : Int)) (hK : ∀ (j : Int32) (σ1 μ1 : fd_St), fd_InvC σ1 → fd_InvM μ1 → fd_R σ1 μ1 → j.toInt = i.toInt + 6 → K j σ1 μ1 = some 1) : f_law_c6 N L xs K i σ μ = some 1 := by
  have lit0 : (0 : Int32).toInt = 0 := by decide
  have lit6 : (6 : Int32).toInt = 6 := by decide
  obtain ⟨r0, r1, r2, r3, r4, r5, r6, rr0, rr1, rr2, ex⟩ := r
  have rg : (0 : Int) ≤ (σ.1 1).toInt ∧ (σ.1 1).toInt ≤ 200 := iC.1 1
  have rh : (0 : Int) ≤ (μ.1 4).toInt ∧ (μ.1 4).toInt ≤ 64 := iM.1 4
  unfold f_law_c6
  generalize xs (i + (1 : Int32)).toNatClampNeg = b1
  generalize xs (i + (2 : Int32)).toNatClampNeg = b2
  generalize xs (i + (3 : Int32)).toNatClampNeg = b3
  refine fd_e_gd (fd_gk h0 h1 hL (by decide)) ?_
  refine fd_e_gd (fd_gk h0 h1 hL (by decide)) ?_
  refine fd_e_gd (fd_gk h0 h1 hL (by decide)) ?_
  refine fd_e_bd (s_L_fail_0_39 N hN _ _ _ iC) ?_
  rintro v_1 s_2 ⟨i_3, f_4, x_5, y_6, y_7⟩
  have t_8 : (s_2.1 1).toInt = (σ.1 1).toInt := congrArg Int32.toInt (f_4.1 1 (by decide))
  have t_9 : (s_2.1 2).toInt = (σ.1 2).toInt := congrArg Int32.toInt (f_4.1 2 (by decide))
  have t_10 : (s_2.1 3).toInt = (σ.1 3).toInt := congrArg Int32.toInt (f_4.1 3 (by decide))
  have t_11 : (s_2.1 4).toInt = (σ.1 4).toInt := congrArg Int32.toInt (f_4.1 4 (by decide))
  have t_12 : (s_2.1 16).toInt = (σ.1 16).toInt := congrArg Int32.toInt (f_4.1 16 (by decide))
  have t_13 : (s_2.1 17).toInt = (σ.1 17).toInt := congrArg Int32.toInt (f_4.1 17 (by decide))
  have t_14 : (s_2.1 18).toInt = (σ.1 18).toInt := congrArg Int32.toInt (f_4.1 18 (by decide))
  have w_15 : s_2.2.1 12 = σ.2.1 12 := f_4.2.1 12 (by decide)
  have w_16 : s_2.2.1 13 = σ.2.1 13 := f_4.2.1 13 (by decide)
  have w_17 : s_2.2.1 14 = σ.2.1 14 := f_4.2.1 14 (by decide)
  have w_18 : s_2.2.2 15 = σ.2.2 15 := f_4.2.2 15 (by decide)
  refine fd_e_gd (fd_gk h0 h1 hL (by decide)) ?_
  refine fd_e_gd (fd_gk h0 h1 hL (by decide)) ?_
  refine fd_e_gd (fd_gk h0 h1 hL (by decide)) ?_
  refine fd_e_bd (s_X11_fail_0 N hN _ _ _ iM) ?_
  rintro v_19 s_20 ⟨i_21, f_22, x_23, y_24, y_25⟩
  have t_26 : (s_20.1 1).toInt = (μ.1 1).toInt := congrArg Int32.toInt (f_22.1 1 (by decide))
  have t_27 : (s_20.1 2).toInt = (μ.1 2).toInt := congrArg Int32.toInt (f_22.1 2 (by decide))
  have t_28 : (s_20.1 4).toInt = (μ.1 4).toInt := congrArg Int32.toInt (f_22.1 4 (by decide))
  have t_29 : (s_20.1 3).toInt = (μ.1 3).toInt := congrArg Int32.toInt (f_22.1 3 (by decide))
  have t_30 : (s_20.1 12).toInt = (μ.1 12).toInt := congrArg Int32.toInt (f_22.1 12 (by decide))
  have t_31 : (s_20.1 13).toInt = (μ.1 13).toInt := congrArg Int32.toInt (f_22.1 13 (by decide))
  have t_32 : (s_20.1 14).toInt = (μ.1 14).toInt := congrArg Int32.toInt (f_22.1 14 (by decide))
  have w_33 : s_20.2.1 1 = μ.2.1 1 := f_22.2.1 1 (by decide)
  have w_34 : s_20.2.1 2 = μ.2.1 2 := f_22.2.1 2 (by decide)
  have w_35 : s_20.2.1 3 = μ.2.1 3 := f_22.2.1 3 (by decide)
  have w_36 : s_20.2.2 4 = μ.2.2 4 := f_22.2.2 4 (by decide)
  have e_37 : s_2.2.1 12 = s_20.2.1 1 := (w_15.trans rr0).trans w_33.symm
  have e_38 : s_2.2.1 13 = s_20.2.1 2 := (w_16.trans rr1).trans w_34.symm
  have e_39 : s_2.2.1 14 = s_20.2.1 3 := (w_17.trans rr2).trans w_35.symm
  have e_40 : fd_E (s_2.2.1 12) (s_2.2.1 13) (s_2.2.1 14) (s_2.2.2 15) (s_20.2.2 4) (s_2.1 1).toNatClampNeg := by
    have n1 : s_2.1 1 = σ.1 1 := Int32.toInt_inj.mp (by omega); rw [w_15, w_16, w_17, w_18, w_36, n1]; exact ex
  refine fd_e_lt (fun y_41 ey_41 => ?_)
  have t_42 := fd_la ey_41 (by omega) (by omega)
  have r_43 : fd_R s_2 s_20 := ⟨by omega, by omega, by omega, by omega, by omega, by omega, by omega, e_37, e_38, e_39, e_40⟩
  exact hK _ _ _ i_3 i_21 r_43 (by omega)
set_option maxHeartbeats 4000000 in
theorem u_c7 (N L : Nat) (hN : 1000 ≤ N) (hL : L ≤ 3072) (xs : Nat → Int32) (K : Int32 → fd_St → fd_St → Option Int32) (i : Int32) (σ μ : fd_St) (iC : fd_InvC σ) (iM : fd_InvM μ) (r : fd_R σ μ) (h0 : 0 ≤ i.toInt) (h1 : i.toInt + 6 ≤ (L : Int)) (hK : ∀ (j : Int32) (σ1 μ1 : fd_St), fd_InvC σ1 → fd_InvM μ1 → fd_R σ1 μ1 → j.toInt = i.toInt + 6 → K j σ1 μ1 = some 1) : f_law_c7 N L xs K i σ μ = some 1 := by
  have lit0 : (0 : Int32).toInt = 0 := by decide
  have lit6 : (6 : Int32).toInt = 6 := by decide
  obtain ⟨r0, r1, r2, r3, r4, r5, r6, rr0, rr1, rr2, ex⟩ := r
  have rg : (0 : Int) ≤ (σ.1 1).toInt ∧ (σ.1 1).toInt ≤ 200 := iC.1 1
  have rh : (0 : Int) ≤ (μ.1 4).toInt ∧ (μ.1 4).toInt ≤ 64 := iM.1 4
  unfold f_law_c7
  generalize xs (i + (1 : Int32)).toNatClampNeg = b1
  generalize xs (i + (2 : Int32)).toNatClampNeg = b2
  refine fd_e_gd (fd_gk h0 h1 hL (by decide)) ?_
  refine fd_e_gd (fd_gk h0 h1 hL (by decide)) ?_
  refine fd_e_bd (s_L_near_0_39 N hN _ _ _ iC) ?_
  rintro v_1 s_2 ⟨i_3, f_4, x_5⟩
  have t_6 : (s_2.1 1).toInt = (σ.1 1).toInt := congrArg Int32.toInt (f_4.1 1 (by decide))
  have t_7 : (s_2.1 2).toInt = (σ.1 2).toInt := congrArg Int32.toInt (f_4.1 2 (by decide))
  have t_8 : (s_2.1 3).toInt = (σ.1 3).toInt := congrArg Int32.toInt (f_4.1 3 (by decide))
  have t_9 : (s_2.1 4).toInt = (σ.1 4).toInt := congrArg Int32.toInt (f_4.1 4 (by decide))
  have t_10 : (s_2.1 16).toInt = (σ.1 16).toInt := congrArg Int32.toInt (f_4.1 16 (by decide))
  have t_11 : (s_2.1 17).toInt = (σ.1 17).toInt := congrArg Int32.toInt (f_4.1 17 (by decide))
  have t_12 : (s_2.1 18).toInt = (σ.1 18).toInt := congrArg Int32.toInt (f_4.1 18 (by decide))
  have w_13 : s_2.2.1 12 = σ.2.1 12 := f_4.2.1 12 (by decide)
  have w_14 : s_2.2.1 13 = σ.2.1 13 := f_4.2.1 13 (by decide)
  have w_15 : s_2.2.1 14 = σ.2.1 14 := f_4.2.1 14 (by decide)
  have w_16 : s_2.2.2 15 = σ.2.2 15 := f_4.2.2 15 (by decide)
  refine fd_e_gd (fd_gk h0 h1 hL (by decide)) ?_
  refine fd_e_gd (fd_gk h0 h1 hL (by decide)) ?_
  refine fd_e_bd (s_X11_near_0 N hN _ _ _ iM) ?_
  rintro v_17 s_18 ⟨i_19, f_20, x_21⟩
  have t_22 : (s_18.1 1).toInt = (μ.1 1).toInt := congrArg Int32.toInt (f_20.1 1 (by decide))
  have t_23 : (s_18.1 2).toInt = (μ.1 2).toInt := congrArg Int32.toInt (f_20.1 2 (by decide))
  have t_24 : (s_18.1 4).toInt = (μ.1 4).toInt := congrArg Int32.toInt (f_20.1 4 (by decide))
  have t_25 : (s_18.1 3).toInt = (μ.1 3).toInt := congrArg Int32.toInt (f_20.1 3 (by decide))
  have t_26 : (s_18.1 12).toInt = (μ.1 12).toInt := congrArg Int32.toInt (f_20.1 12 (by decide))
  have t_27 : (s_18.1 13).toInt = (μ.1 13).toInt := congrArg Int32.toInt (f_20.1 13 (by decide))
  have t_28 : (s_18.1 14).toInt = (μ.1 14).toInt := congrArg Int32.toInt (f_20.1 14 (by decide))
  have w_29 : s_18.2.1 1 = μ.2.1 1 := f_20.2.1 1 (by decide)
  have w_30 : s_18.2.1 2 = μ.2.1 2 := f_20.2.1 2 (by decide)
  have w_31 : s_18.2.1 3 = μ.2.1 3 := f_20.2.1 3 (by decide)
  have w_32 : s_18.2.2 4 = μ.2.2 4 := f_20.2.2 4 (by decide)
  have e_33 : s_2.2.1 12 = s_18.2.1 1 := (w_13.trans rr0).trans w_29.symm
  have e_34 : s_2.2.1 13 = s_18.2.1 2 := (w_14.trans rr1).trans w_30.symm
  have e_35 : s_2.2.1 14 = s_18.2.1 3 := (w_15.trans rr2).trans w_31.symm
  have e_36 : fd_E (s_2.2.1 12) (s_2.2.1 13) (s_2.2.1 14) (s_2.2.2 15) (s_18.2.2 4) (s_2.1 1).toNatClampNeg := by
    have n1 : s_2.1 1 = σ.1 1 := Int32.toInt_inj.mp (by omega); rw [w_13, w_14, w_15, w_16, w_32, n1]; exact ex
  refine fd_e_lt (fun y_37 ey_37 => ?_)
  have t_38 := fd_la ey_37 (by omega) (by omega)
  have r_39 : fd_R s_2 s_18 := ⟨by omega, by omega, by omega, by omega, by omega, by omega, by omega, e_33, e_34, e_35, e_36⟩
  exact hK _ _ _ i_3 i_19 r_39 (by omega)
