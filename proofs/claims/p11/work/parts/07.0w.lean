theorem fd_xm (a b m : Int64) : (a &&& m) ^^^ (b &&& m) = (a ^^^ b) &&& m := by
  refine fd_bits (fun i hi => ?_)
  simp only [Int64.toBitVec_and, Int64.toBitVec_xor, BitVec.getLsbD_and, BitVec.getLsbD_xor]
  cases a.toBitVec.getLsbD i <;> cases b.toBitVec.getLsbD i <;> cases m.toBitVec.getLsbD i <;> rfl
theorem q_X11_workFault_0 {N : Nat} {p1 p2 : Int32} {σ : fd_St} {v : Unit} {s : fd_St} (h : f_X11_workFault_0 N p1 p2 σ = some (v, s)) : 0 ≤ p1.toInt → ∀ (r w : Nat → Int64), (∀ i, i < (σ.1 1).toNatClampNeg → σ.2.2 9 i = r i &&& fd_mk (σ.1 4)) → (0 ≤ (fd_qa p1 p2 (σ.2.1 7)).toInt ∧ (fd_qa p1 p2 (σ.2.1 7)).toInt < (σ.1 1).toInt) → (0 ≤ (fd_qa p1 p2 (σ.2.1 8)).toInt ∧ (fd_qa p1 p2 (σ.2.1 8)).toInt < (σ.1 1).toInt) → fd_Go (σ.2.1 1) (σ.2.1 2) (σ.2.1 3) (σ.1 1).toNatClampNeg → fd_F (σ.2.1 1) (σ.2.1 2) (σ.2.1 3) (σ.2.2 4) (fd_qa p1 p2 (σ.2.1 7)).toNatClampNeg (fd_qr p1 (r (fd_qa p1 p2 (σ.2.1 7)).toNatClampNeg) (r (fd_qa p1 p2 (σ.2.1 8)).toNatClampNeg)) (fd_qa p1 p2 (σ.2.1 8)).toNatClampNeg (fd_qr p1 (r (fd_qa p1 p2 (σ.2.1 7)).toNatClampNeg) (r (fd_qa p1 p2 (σ.2.1 8)).toNatClampNeg)) w (σ.1 1).toNatClampNeg → (∀ i, i < (σ.1 1).toNatClampNeg → s.2.2 10 i = w i &&& fd_mk (σ.1 4)) ∧ s.2.2 9 = σ.2.2 9 ∧ s.2.1 = σ.2.1 := by
  have l0 : (0 : Int32).toNatClampNeg = 0 := by decide
  have z0 : (0 : Int32).toInt = 0 := by decide
  have z1 : (1 : Int32).toInt = 1 := by decide
  have z2 : (2 : Int32).toInt = 2 := by decide
  have nil : ∀ (w : Nat → Int64) (i : Nat), i < (0 : Int32).toNatClampNeg → σ.2.2 10 i = w i &&& fd_mk (σ.1 4) := fun w i hi => by rw [l0] at hi; exact absurd hi (Nat.not_lt_zero i)
  unfold fd_qa fd_qr
  unfold f_X11_workFault_0 at h
  by_cases c : (2 : Int32) ≤ p1
  · have h := fd_itp c h
    have c1 := Int32.le_iff_toInt_le.mp c
    have c2 : (1 : Int32) < p1 := Int32.lt_iff_toInt_lt.mpr (by omega)
    rw [if_pos c2, if_pos c2]
    intro _ r w hp ha hb ho hF
    rw [if_pos c2] at hF
    obtain ⟨_, h⟩ := fd_gds h
    obtain ⟨x3, e3, h⟩ := fd_lts h
    obtain ⟨_, h⟩ := fd_gds h
    obtain ⟨x5, e5, h⟩ := fd_lts h
    rw [← e3] at ha hF
    rw [← e5] at hb hF
    have i3 := fd_tl' ha.1 ha.2
    have i5 := fd_tl' hb.1 hb.2
    by_cases d : p1 = (2 : Int32)
    · have h := fd_itp d h
      rw [if_pos d] at hF
      obtain ⟨_, h⟩ := fd_gds h
      obtain ⟨_, h⟩ := fd_gds h
      unfold f_X11_workFault_0_J78 f_X11_work_0 at h
      obtain ⟨u, σ11, k, h⟩ := fd_bds h
      cases h
      have m : ((σ.2.2 9 x3.toNatClampNeg) &&& (σ.2.2 9 x5.toNatClampNeg)) &&& fd_mk (σ.1 4) = (r x3.toNatClampNeg &&& r x5.toNatClampNeg) &&& fd_mk (σ.1 4) := by
        rw [hp _ i3, hp _ i5]
        exact fd_tl_m 0 _ _ _
      exact q_work_L3 _ _ _ _ _ _ _ _ _ k (by decide) ha.1 hb.1 w _ _ ho m (fun _ => m) hF (nil w)
    · have h := fd_itn d h
      rw [if_neg d] at hF
      obtain ⟨_, h⟩ := fd_gds h
      obtain ⟨_, h⟩ := fd_gds h
      unfold f_X11_workFault_0_J78 f_X11_work_0 at h
      obtain ⟨u, σ11, k, h⟩ := fd_bds h
      cases h
      have m : ((σ.2.2 9 x3.toNatClampNeg) ||| (σ.2.2 9 x5.toNatClampNeg)) &&& fd_mk (σ.1 4) = (r x3.toNatClampNeg ||| r x5.toNatClampNeg) &&& fd_mk (σ.1 4) := by
        rw [hp _ i3, hp _ i5]
        exact fd_tl_m 1 _ _ _
      exact q_work_L3 _ _ _ _ _ _ _ _ _ k (by decide) ha.1 hb.1 w _ _ ho m (fun _ => m) hF (nil w)
  · have h := fd_itn c h
    have c1 := Int32.lt_iff_toInt_lt.mp (Int32.not_le.mp c)
    have c2 : ¬ (1 : Int32) < p1 := fun q => by have := Int32.lt_iff_toInt_lt.mp q; omega
    rw [if_neg c2, if_neg c2]
    intro h0 r w hp ha hb ho hF
    rw [if_neg c2] at hF
    by_cases d : p1 = (1 : Int32)
    · have h := fd_itp d h
      rw [if_neg (by rw [d]; decide)] at hF
      unfold f_X11_workFault_0_J19 f_X11_work_0 at h
      obtain ⟨u, σ11, k, h⟩ := fd_bds h
      cases h
      exact q_work_L3 _ _ _ _ _ _ _ _ _ k (by decide) ha.1 hb.1 w _ _ ho rfl (fun q => absurd rfl q) hF (nil w)
    · have h := fd_itn d h
      have d1 : p1 = 0 := Int32.toInt_inj.mp (by
        have : ¬ p1.toInt = (1 : Int32).toInt := fun q => d (Int32.toInt_inj.mp q)
        omega)
      rw [if_pos d1] at hF
      unfold f_X11_workFault_0_J19 f_X11_work_0 at h
      obtain ⟨u, σ11, k, h⟩ := fd_bds h
      cases h
      exact q_work_L3 _ _ _ _ _ _ _ _ _ k (by decide) ha.1 hb.1 w _ _ ho rfl (fun q => absurd rfl q) hF (nil w)
/-- the nets of pairs and of outputs are there -/
def fd_Q (n pr ou : Int32) (A B O : Nat → Int32) : Prop := (∀ i, i < pr.toNatClampNeg → (0 ≤ (A i).toInt ∧ (A i).toInt < n.toInt) ∧ (0 ≤ (B i).toInt ∧ (B i).toInt < n.toInt)) ∧ ∀ i, i < ou.toNatClampNeg → 0 ≤ (O i).toInt ∧ (O i).toInt < n.toInt
theorem fd_Q_n {n n' pr ou : Int32} {A B O : Nat → Int32} (h : fd_Q n pr ou A B O) (hn : n.toInt ≤ n'.toInt) : fd_Q n' pr ou A B O := by
  refine ⟨fun i hi => ?_, fun i hi => ?_⟩
  · have := h.1 i hi; omega
  · have := h.2 i hi; omega
theorem fd_Q_o {n pr ou ou' j w : Int32} {A B O O' : Nat → Int32} (h : fd_Q n pr ou A B O) (h0 : 0 ≤ ou.toInt) (ho : ou'.toInt = ou.toInt + 1) (hj : j.toInt = ou.toInt) (hw : 0 ≤ w.toInt ∧ w.toInt < n.toInt) (e : O' = upd O j.toNatClampNeg w) : fd_Q n pr ou' A B O' := by
  refine ⟨h.1, fun i hi => ?_⟩
  have a1 : j = ou := Int32.toInt_inj.mp hj
  have a2 : ou'.toNatClampNeg = ou.toNatClampNeg + 1 := by
    show ou'.toInt.toNat = ou.toInt.toNat + 1; omega
  subst e; subst a1
  by_cases c : i = j.toNatClampNeg
  · rw [c, fd_uA_eq]; exact hw
  · rw [fd_uA_ne c]; exact h.2 i (by omega)
theorem fd_Q_p {n pr pr' ou a b : Int32} {A B O A' B' : Nat → Int32} {rc : Prop} (h : fd_Q n pr ou A B O) (h0 : 0 ≤ pr.toInt) (hN : fd_Nr n pr a b A B rc pr' A' B') : fd_Q n pr' ou A' B' O := by
  by_cases c : fd_Nc n pr a b A B rc
  · obtain ⟨x1, x2, x3⟩ := hN.1 c
    refine ⟨fun i hi => ?_, h.2⟩
    have a2 : pr'.toNatClampNeg = pr.toNatClampNeg + 1 := by
      show pr'.toInt.toNat = pr.toInt.toNat + 1; omega
    subst x2; subst x3
    by_cases e : i = pr.toNatClampNeg
    · rw [e, fd_uA_eq, fd_uA_eq]; exact ⟨c.1, c.2.1⟩
    · rw [fd_uA_ne e, fd_uA_ne e]; exact h.1 i (by omega)
  · obtain ⟨x1, x2, x3⟩ := hN.2 c
    rw [x1, x2, x3]; exact h
/-- a fault that there is holds nets that there are -/
theorem fd_qa_in {n pr ou kd wh : Int32} {A B O : Nat → Int32} (h : fd_Q n pr ou A B O) (h0 : 0 ≤ wh.toInt) (h1 : 1 < kd.toInt ∨ wh.toInt < n.toInt) (h2 : kd.toInt ≤ 1 ∨ wh.toInt < pr.toInt) : (0 ≤ (fd_qa kd wh A).toInt ∧ (fd_qa kd wh A).toInt < n.toInt) ∧ (0 ≤ (fd_qa kd wh B).toInt ∧ (fd_qa kd wh B).toInt < n.toInt) := by
  have l1 : (1 : Int32).toInt = 1 := by decide
  unfold fd_qa
  by_cases c : (1 : Int32) < kd
  · have c1 := Int32.lt_iff_toInt_lt.mp c
    rw [if_pos c, if_pos c]
    exact h.1 _ (fd_tl' h0 (by omega))
  · have c1 := Int32.le_iff_toInt_le.mp (Int32.not_lt.mp c)
    rw [if_neg c, if_neg c]
    omega
