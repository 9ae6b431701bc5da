theorem u_law (N L : Nat) (hN : 1000 ≤ N) (hL : L ≤ 3072) (xs : Nat → Int32) : ∀ (n : Nat) (i : Int32) (σ μ : fd_St), fd_InvC σ → fd_InvM μ → fd_R σ μ → 0 ≤ i.toInt → i.toInt ≤ (L : Int) → (L : Int) < i.toInt + 6 * (n : Int) → f_law N L xs n i σ μ = some 1 := by
  have lit6 : (6 : Int32).toInt = 6 := by decide
  have eL := fd_ofN hL
  have e6 := Jvm.Kit.i32_sub (x := Int32.ofNat L) (y := (6 : Int32)) (by omega) (by omega)
  intro n
  induction n with
  | zero => intro i σ μ _ _ _ h0 h1 h2; omega
  | succ n ih =>
    intro i σ μ iC iM r h0 h1 h2
    unfold f_law
    refine fd_e_ite (fun _ => rfl) (fun c => ?_)
    have c1 := Int32.le_iff_toInt_le.mp (Int32.not_lt.mp c)
    have h3 : i.toInt + 6 ≤ (L : Int) := by omega
    refine fd_e_gd (vp_in_iff.mpr ⟨by omega, by omega⟩) ?_
    refine fd_e_lt (fun x _ => ?_)
    have hK : ∀ (j : Int32) (σ1 μ1 : fd_St), fd_InvC σ1 → fd_InvM μ1 → fd_R σ1 μ1 → j.toInt = i.toInt + 6 → f_law N L xs n j σ1 μ1 = some 1 := fun j σ1 μ1 a b d e => ih j σ1 μ1 a b d (by omega) (by omega) (by omega)
    refine fd_e_ite (fun _ => u_c0 N L hN hL xs _ i σ μ iC iM r h0 h3 hK) (fun _ => ?_)
    refine fd_e_ite (fun _ => u_c1 N L hN hL xs _ i σ μ iC iM r h0 h3 hK) (fun _ => ?_)
    refine fd_e_ite (fun _ => u_c2 N L hN hL xs _ i σ μ iC iM r h0 h3 hK) (fun _ => ?_)
    refine fd_e_ite (fun _ => u_c3 N L hN hL xs _ i σ μ iC iM r h0 h3 hK) (fun _ => ?_)
    refine fd_e_ite (fun _ => u_c4 N L hN hL xs _ i σ μ iC iM r h0 h3 hK) (fun _ => ?_)
    refine fd_e_ite (fun _ => u_c5 N L hN hL xs _ i σ μ iC iM r h0 h3 hK) (fun _ => ?_)
    refine fd_e_ite (fun _ => u_c6 N L hN hL xs _ i σ μ iC iM r h0 h3 hK) (fun _ => ?_)
    refine fd_e_ite (fun _ => u_c7 N L hN hL xs _ i σ μ iC iM r h0 h3 hK) (fun _ => ?_)
    refine fd_e_ite (fun _ => u_c8 N L hN hL xs _ i σ μ iC iM r h0 h3 hK) (fun _ => ?_)
    refine fd_e_ite (fun _ => u_c9 N L hN hL xs _ i σ μ iC iM r h0 h3 hK) (fun _ => ?_)
    refine fd_e_ite (fun _ => u_c10 N L hN hL xs _ i σ μ iC iM r h0 h3 hK) (fun _ => ?_)
    refine fd_e_ite (fun _ => u_c11 N L hN hL xs _ i σ μ iC iM r h0 h3 hK) (fun _ => ?_)
    refine fd_e_ite (fun _ => u_c12 N L hN hL xs _ i σ μ iC iM r h0 h3 hK) (fun _ => ?_)
    refine fd_e_ite (fun _ => u_c13 N L hN hL xs _ i σ μ iC iM r h0 h3 hK) (fun _ => ?_)
    refine fd_e_ite (fun _ => u_c14 N L hN hL xs _ i σ μ iC iM r h0 h3 hK) (fun _ => ?_)
    refine fd_e_ite (fun _ => u_c15 N L hN hL xs _ i σ μ iC iM r h0 h3 hK) (fun _ => ?_)
    refine fd_e_ite (fun _ => u_c16 N L hN hL xs _ i σ μ iC iM r h0 h3 hK) (fun _ => ?_)
    refine fd_e_ite (fun _ => u_c17 N L hN hL xs _ i σ μ iC iM r h0 h3 hK) (fun _ => ?_)
    refine fd_e_ite (fun _ => u_c18 N L hN hL xs _ i σ μ iC iM r h0 h3 hK) (fun _ => ?_)
    refine fd_e_ite (fun _ => u_c19 N L hN hL xs _ i σ μ iC iM r h0 h3 hK) (fun _ => ?_)
    refine fd_e_ite (fun _ => u_c20 N L hN hL xs _ i σ μ iC iM r h0 h3 hK) (fun _ => ?_)
    refine fd_e_ite (fun _ => u_c21 N L hN hL xs _ i σ μ iC iM r h0 h3 hK) (fun _ => ?_)
    refine fd_e_lt (fun j ej => ?_)
    exact hK _ _ _ iC iM r (fd_la ej (by omega) (by omega))
theorem fd_iC0 : fd_InvC fd_s0C := by
  refine ⟨fun k => ?_, fun c i => ?_, fun i h => absurd h (show ¬ (1 : Int) < (0 : Int32).toInt by decide)⟩
  · show fd_loC k ≤ (if k = 7 then (-1 : Int32) else if k = 8 then (-1 : Int32) else 0).toInt ∧ (if k = 7 then (-1 : Int32) else if k = 8 then (-1 : Int32) else 0).toInt ≤ fd_hiC k
    by_cases a : k = 7
    · subst a; decide
    by_cases b : k = 8
    · subst b; decide
    rw [if_neg a, if_neg b]
    have e : (0 : Int32).toInt = 0 := by decide
    rw [e]
    unfold fd_loC fd_hiC
    constructor <;> split <;> first | decide | omega
  · show fd_laC c ≤ (0 : Int32).toInt ∧ (0 : Int32).toInt ≤ fd_haC c
    have e : (0 : Int32).toInt = 0 := by decide
    rw [e]
    unfold fd_laC fd_haC
    constructor <;> split <;> first | decide | omega
theorem fd_iM0 : fd_InvM fd_s0M := by
  have e : (0 : Int32).toInt = 0 := by decide
  refine ⟨fun k => ?_, fun c i => ?_, fun i h => absurd h (show ¬ (1 : Int) < (0 : Int32).toInt by decide)⟩
  · show fd_loM k ≤ (0 : Int32).toInt ∧ (0 : Int32).toInt ≤ fd_hiM k
    rw [e]
    unfold fd_loM fd_hiM
    constructor <;> split <;> first | decide | omega
  · show fd_laM c ≤ (0 : Int32).toInt ∧ (0 : Int32).toInt ≤ fd_haM c
    rw [e]
    unfold fd_laM fd_haM
    constructor <;> split <;> first | decide | omega
theorem whole_start {p : Program} {e : Env} {s : State} {m : MethodId} {below : List Frame} {meth : Method} {c : Code} (l : Launch) (hl9 : l.stackTraces = false) {b L : Nat} {xs : Nat → Int32} (hL : L ≤ 3072) (C0 : lw_At p s m meth c b L xs) : W p l e room_1 s m #[Value.ref b] below meth c s.heap [] 0 0 (lw_Z below #[Value.ref b] s) (entryFrame m ([Value.ref b] : List Value).toArray 8) := by
  obtain ⟨u, μ, hc, iM, hf, x⟩ := s_X11_clear_0 1000 (by decide) fd_s0M fd_iM0
  have lit0 : (0 : Int32).toInt = 0 := by decide
  have z1 : (fd_s0C.1 1).toInt = 0 := by decide
  have z2 : (fd_s0C.1 2).toInt = 0 := by decide
  have z3 : (fd_s0C.1 3).toInt = 0 := by decide
  have z4 : (fd_s0C.1 4).toInt = 0 := by decide
  have z16 : (fd_s0C.1 16).toInt = 0 := by decide
  have z17 : (fd_s0C.1 17).toInt = 0 := by decide
  have z18 : (fd_s0C.1 18).toInt = 0 := by decide
  have e1 : (fd_s0C.1 1).toNatClampNeg = 0 := by decide
  have e4 : (fd_s0C.1 4).toNatClampNeg = 0 := by decide
  have e5 : (fd_s0C.1 5).toNatClampNeg = 0 := by decide
  have e18 : (fd_s0C.1 18).toNatClampNeg = 0 := by decide
  have r : fd_R fd_s0C μ := ⟨by omega, by omega, by omega, by omega, by omega, by omega, by omega, (hf.2.1 22 (by decide)).symm, (hf.2.1 23 (by decide)).symm, (hf.2.1 24 (by decide)).symm, (hf.2.1 25 (by decide)).symm, (hf.2.1 26 (by decide)).symm, fun _ h => absurd h (by omega)⟩
  exact whole_walk l hl9 C0 1000 513 μ hc (by decide) (by decide) (u_law 1000 L (by decide) hL xs 513 0 fd_s0C μ fd_iC0 iM r (by omega) (by omega) (by omega))
