theorem z_fillL (N : Nat) : ∀ (n i : Nat), i ≤ 200 → 200 < i + n → f_J7_fill_53178_C_29_L5 N n 0 (nI i) 200 fd_s0C = some ((), fd_s0C) := by
  intro n
  induction n with
  | zero => intro i h1 h2; omega
  | succ n ih =>
    intro i h1 h2
    unfold f_J7_fill_53178_C_29_L5
    by_cases h : i = 200
    · subst h; rw [if_pos (by decide)]
    · have hlt : i < 200 := by omega
      rw [if_neg (by
        intro q
        have := Int32.le_iff_toInt_le.mp q
        rw [nI_toInt (by omega)] at this
        have e : (200 : Int32).toInt = 200 := by decide
        omega), fd_gdT (vp_in_nI hlt (by decide)), fd_ltE, fd_ltE, fd_sA_self fd_s0C 29 (nI i) 0 rfl]
      have e : nI i + 1 = nI (i + 1) := nI_1 i
      rw [e]
      exact ih (i + 1) (by omega) (by omega)
theorem z_fill (N : Nat) (h : 200 < N) : f_J7_fill_53178_C_29 N 0 fd_s0C = some ((), fd_s0C) := by
  unfold f_J7_fill_53178_C_29
  exact z_fillL N N 0 (by omega) (by omega)
theorem z_ge {k b : Int32} (n : Int) (hk : k.toInt = n) {j : Int32} (hj : j.toInt = n - 1) : (k ≤ b) = (j < b) := by
  rw [Int32.le_iff_toInt_le, Int32.lt_iff_toInt_lt, hk, hj]
  exact propext ⟨fun h => by omega, fun h => by omega⟩
theorem z_7 (b : Int32) : ((7 : Int32) ≤ b) = (6 < b) := z_ge 7 (by decide) (by decide)
theorem z_6 (b : Int32) : ((6 : Int32) ≤ b) = (5 < b) := z_ge 6 (by decide) (by decide)
theorem z_out {b : Int32} (h0 : ¬ b = 0) (h1 : ¬ b = 1) (h2 : ¬ b < 0) : (1 : Int32) < b := by
  rw [Int32.lt_iff_toInt_lt] at h2 ⊢
  have e0 : ¬ b.toInt = 0 := fun q => h0 (Int32.toInt_inj.mp (by rw [q]; decide))
  have e1 : ¬ b.toInt = 1 := fun q => h1 (Int32.toInt_inj.mp (by rw [q]; decide))
  have f0 : (0 : Int32).toInt = 0 := by decide
  have f1 : (1 : Int32).toInt = 1 := by decide
  omega
theorem z_nlt {b : Int32} (h : (1 : Int32) < b) : ¬ b ≤ 1 := Int32.not_le.mpr h
theorem z_9 {b : Int32} (h : ∀ k : Int32, k ∈ ([0, 1, 2, 3, 4, 5, 6, 7, 8] : List Int32) → ¬ b = k) (h2 : ¬ b < 0) : (9 : Int32) ≤ b := by
  rw [Int32.le_iff_toInt_le]
  rw [Int32.lt_iff_toInt_lt] at h2
  have f0 : (0 : Int32).toInt = 0 := by decide
  have f9 : (9 : Int32).toInt = 9 := by decide
  have e : ∀ (k : Int32) (n : Int), k.toInt = n → k ∈ ([0, 1, 2, 3, 4, 5, 6, 7, 8] : List Int32) → ¬ b.toInt = n := fun k n hk hm q => h k hm (Int32.toInt_inj.mp (by rw [q, hk]))
  have a0 := e 0 0 (by decide) (by decide)
  have a1 := e 1 1 (by decide) (by decide)
  have a2 := e 2 2 (by decide) (by decide)
  have a3 := e 3 3 (by decide) (by decide)
  have a4 := e 4 4 (by decide) (by decide)
  have a5 := e 5 5 (by decide) (by decide)
  have a6 := e 6 6 (by decide) (by decide)
  have a7 := e 7 7 (by decide) (by decide)
  have a8 := e 8 8 (by decide) (by decide)
  omega
theorem z_le {p : Int32} (h : ¬ p < 0) : (0 : Int32) ≤ p := Int32.not_lt.mp h
theorem z_has (N : Nat) (p : Int32) : f_X2_has_1 N p fd_s0C = some (0, fd_s0C) := by
  unfold f_X2_has_1
  by_cases h : p < 0
  · rw [if_pos h]
  · rw [if_neg h, if_pos (show fd_s0C.1 1 ≤ p from z_le h)]
theorem z_isIn (N : Nat) (p : Int32) (σ : fd_St) : f_X11_isIn N p 0 σ = some (0, σ) := by
  unfold f_X11_isIn
  by_cases h : p < 0
  · rw [if_pos h]
  · rw [if_neg h, if_pos (z_le h)]
theorem z_need (N : Nat) (p : Int32) : f_X10_needNet_0 N p fd_s0C = some (.inr "java/lang/IndexOutOfBoundsException", fd_s0C) := by
  unfold f_X10_needNet_0
  rw [z_has, fd_bdE]; rfl
theorem z_hasFault (N : Nat) (p q : Int32) : f_X3_hasFault_4 N p q fd_s0C = some (0, fd_s0C) := by
  unfold f_X3_hasFault_4 f_X3_faultsOf_4 f_X4_size_3 f_X2_nets_1
  by_cases h : p < 0
  · rw [if_pos h]
  · rw [if_neg h]
    by_cases h2 : (3 : Int32) < p
    · rw [if_pos h2]
    · rw [if_neg h2]
      by_cases h3 : q < 0
      · rw [if_pos h3]
      · rw [if_neg h3]
        by_cases h4 : (1 : Int32) < p
        · rw [if_pos h4, fd_bdE, fd_bdE, if_pos (show fd_s0C.1 5 ≤ q from z_le h3)]
        · rw [if_neg h4, fd_bdE, fd_bdE, if_pos (show fd_s0C.1 1 ≤ q from z_le h3)]
theorem z_needO (N : Nat) (p : Int32) : f_X10_needOutput_0 N p fd_s0C = some (.inr "java/lang/IndexOutOfBoundsException", fd_s0C) := by
  by_cases h : p < 0
  · simp [f_X10_needOutput_0, f_X5_size_2, f_X10_needOutput_0_J15, h, fd_bdE]
  · simp [f_X10_needOutput_0, f_X5_size_2, f_X10_needOutput_0_J15, h, fd_bdE, show fd_s0C.1 4 ≤ p from z_le h]
theorem z_v1 : vp_in (1 : Int32) 6 := by unfold vp_in; decide
theorem z_v2 : vp_in (2 : Int32) 6 := by unfold vp_in; decide
theorem z_v3 : vp_in (3 : Int32) 6 := by unfold vp_in; decide
theorem z_v4 : vp_in (4 : Int32) 6 := by unfold vp_in; decide
theorem z_v5 : vp_in (5 : Int32) 6 := by unfold vp_in; decide
theorem z_v0 : vp_in (0 : Int32) 1 := by unfold vp_in; decide
theorem z_v200 : vp_in (0 : Int32) 200 := by unfold vp_in; decide
theorem zC_0 : fd_s0C.1 0 = 0 := rfl
theorem zC_1 : fd_s0C.1 1 = 0 := rfl
theorem zC_2 : fd_s0C.1 2 = 0 := rfl
theorem zC_3 : fd_s0C.1 3 = 0 := rfl
theorem zC_4 : fd_s0C.1 4 = 0 := rfl
theorem zC_5 : fd_s0C.1 5 = 0 := rfl
theorem zC_6 : fd_s0C.1 6 = 0 := rfl
theorem zC_7 : fd_s0C.1 7 = -1 := rfl
theorem zC_8 : fd_s0C.1 8 = -1 := rfl
theorem zC_9 : fd_s0C.1 9 = 0 := rfl
theorem zC_10 : fd_s0C.1 10 = 0 := rfl
theorem zC_11 : fd_s0C.1 11 = 0 := rfl
theorem zC_12 : fd_s0C.1 12 = 0 := rfl
theorem zC_13 : fd_s0C.1 13 = 0 := rfl
theorem zC_14 : fd_s0C.1 14 = 0 := rfl
theorem zC_15 : fd_s0C.1 15 = 0 := rfl
theorem zC_16 : fd_s0C.1 16 = 0 := rfl
theorem zC_17 : fd_s0C.1 17 = 0 := rfl
theorem zC_18 : fd_s0C.1 18 = 0 := rfl
theorem zC_19 : fd_s0C.1 19 = 0 := rfl
theorem zM_0 : fd_s0M.1 0 = 0 := rfl
theorem zM_1 : fd_s0M.1 1 = 0 := rfl
theorem zM_2 : fd_s0M.1 2 = 0 := rfl
theorem zM_3 : fd_s0M.1 3 = 0 := rfl
theorem zM_4 : fd_s0M.1 4 = 0 := rfl
theorem zM_5 : fd_s0M.1 5 = 0 := rfl
theorem zM_6 : fd_s0M.1 6 = 0 := rfl
theorem zM_7 : fd_s0M.1 7 = 0 := rfl
theorem zM_8 : fd_s0M.1 8 = 0 := rfl
theorem zM_9 : fd_s0M.1 9 = 0 := rfl
theorem zM_10 : fd_s0M.1 10 = 0 := rfl
theorem zM_11 : fd_s0M.1 11 = 0 := rfl
theorem zM_12 : fd_s0M.1 12 = 0 := rfl
theorem zM_13 : fd_s0M.1 13 = 0 := rfl
theorem zM_14 : fd_s0M.1 14 = 0 := rfl
theorem zMA (k i : Nat) : fd_s0M.2.1 k i = 0 := rfl
theorem zCA (k i : Nat) : fd_s0C.2.1 k i = 0 := rfl
theorem zML (k i : Nat) : fd_s0M.2.2 k i = 0 := rfl
theorem zCL (k i : Nat) : fd_s0C.2.2 k i = 0 := rfl
theorem z_nearL (N n : Nat) (y1 y2 y4 : Int32) (σ : fd_St) (h : σ.1 5 = 0) : f_X11_near_0_L34 N (n + 1) y1 y2 0 y4 0 σ = f_X11_near_0_J153 N y1 y2 y4 1 σ := by
  rw [f_X11_near_0_L34]; dsimp only; rw [h, if_pos (by decide), if_pos rfl]
theorem z_spanL (N n : Nat) (y1 y2 y4 : Int32) (σ : fd_St) (h : σ.1 12 = 0) : f_X11_span_0_L54 N (n + 1) y1 y2 y4 0 σ = f_X11_span_0_J102 N y4 σ := by
  rw [f_X11_span_0_L54]; dsimp only; rw [h, if_pos (by decide)]
theorem z_nearL2 (N n : Nat) (y1 y2 y4 : Int32) (σ : fd_St) (h : σ.1 5 = 0) : f_X11_near_0_L34 N (n + 201) y1 y2 0 y4 0 σ = f_X11_near_0_J153 N y1 y2 y4 1 σ := z_nearL N (n + 200) y1 y2 y4 σ h
theorem z_spanL2 (N n : Nat) (y1 y2 y4 : Int32) (σ : fd_St) (h : σ.1 12 = 0) : f_X11_span_0_L54 N (n + 201) y1 y2 y4 0 σ = f_X11_span_0_J102 N y4 σ := z_spanL N (n + 200) y1 y2 y4 σ h
theorem z_sC (k : Nat) (h : fd_s0C.1 k = 0) : fd_sI k 0 fd_s0C = fd_s0C := fd_sI_self _ _ _ h
theorem z_sC7 : fd_sI 7 (-1) fd_s0C = fd_s0C := fd_sI_self _ _ _ rfl
theorem z_sC8 : fd_sI 8 (-1) fd_s0C = fd_s0C := fd_sI_self _ _ _ rfl
theorem z_fo (N : Nat) (y : Int32) : f_X3_faultsOf_4 N y fd_s0C = some (0, fd_s0C) := by
  unfold f_X3_faultsOf_4 f_X4_size_3 f_X2_nets_1
  by_cases h : (1 : Int32) < y
  · rw [if_pos h, fd_bdE]; rfl
  · rw [if_neg h, fd_bdE]; rfl
theorem z_9s (N n : Nat) (y : Int32) (h : ¬ (3 : Int32) < y) : f_X3_findSuspects_4_L9 (N + 1) (n + 1) y fd_s0C = f_X3_findSuspects_4_L9 (N + 1) n (y + 1) fd_s0C := by
  rw [f_X3_findSuspects_4_L9]; dsimp only; rw [if_neg h, z_fo, fd_bdE, f_X3_findSuspects_4_L22]; dsimp only; rw [if_pos (by decide), fd_ltE]
theorem z_fs (N : Nat) : f_X3_findSuspects_4 (N + 201) fd_s0C = some ((), fd_s0C) := by
  unfold f_X3_findSuspects_4 f_X8_reset_5
  rw [fd_ltE, fd_bdE, z_sC 6 rfl]
  show f_X3_findSuspects_4_L9 ((N + 200) + 1) ((N + 196) + 1 + 1 + 1 + 1 + 1) 0 fd_s0C = _
  rw [z_9s _ _ _ (by decide), z_9s _ _ _ (by decide), z_9s _ _ _ (by decide), z_9s _ _ _ (by decide), f_X3_findSuspects_4_L9]; dsimp only; rw [if_pos (by decide)]
theorem z_fb (N : Nat) : f_X3_findBestPair_4 (N + 201) fd_s0C = some ((), fd_s0C) := by
  have e : f_X0_reset_6 (N + 201) fd_s0C = some ((), fd_s0C) := by
    unfold f_X0_reset_6 f_X9_reset_7
    simp only [fd_ltE, fd_bdE, z_sC7, z_sC8, z_sC 9 rfl, z_sC 10 rfl, z_sC 11 rfl]
  have e2 : f_X3_chooseForPairs_4 (N + 201) fd_s0C = some (0, fd_s0C) := by
    unfold f_X3_chooseForPairs_4
    show f_X3_chooseForPairs_4_L4 (N + 201) ((N + 200) + 1) 0 0 fd_s0C = _
    rw [f_X3_chooseForPairs_4_L4]; dsimp only; rw [f_X8_size_5, fd_bdE, if_pos (show fd_s0C.1 6 ≤ 0 by decide)]
  unfold f_X3_findBestPair_4
  rw [e, fd_bdE, e2, fd_bdE]
  show f_X3_findBestPair_4_L14 (N + 201) ((N + 200) + 1) 0 0 fd_s0C = _
  rw [f_X3_findBestPair_4_L14]; dsimp only; rw [if_pos (by decide)]
theorem z_runC (N : Nat) : ∃ σ, f_X10_run_0 (N + 201) fd_s0C = some (0, σ) := by
  refine ⟨fd_sI 0 1 fd_s0C, ?_⟩
  unfold f_X10_run_0 f_X3_find_4
  rw [z_fs, fd_bdE, z_fb, fd_bdE, fd_bdE, fd_ltE, f_X3_suspects_4, fd_bdE, f_X8_size_5, fd_bdE]
  rfl
theorem z_16s (N n : Nat) (y : Int32) (h : ¬ (4 : Int32) ≤ y) : f_X11_run_0_L16 (N + 1) (n + 1) y fd_s0M = f_X11_run_0_L16 (N + 1) n (y + 1) fd_s0M := by
  rw [f_X11_run_0_L16]; dsimp only; rw [if_neg h, f_X11_run_0_L23]; dsimp only
  by_cases h2 : (2 : Int32) ≤ y
  · rw [if_pos h2, f_X11_run_0_J40, if_pos (show fd_s0M.1 5 ≤ 0 by decide), fd_ltE]
  · rw [if_neg h2, f_X11_run_0_J40, if_pos (show fd_s0M.1 1 ≤ 0 by decide), fd_ltE]
theorem z_77s (N n : Nat) (y : Int32) (σ : fd_St) (h : ¬ (6 : Int32) ≤ y) (hv : vp_in y 6) : f_X11_run_0_L77 N (n + 1) y σ = f_X11_run_0_L77 N n (y + 1) (fd_sA 18 y 0 σ) := by
  rw [f_X11_run_0_L77]; dsimp only; rw [if_neg h, fd_gdT hv, fd_ltE, fd_ltE]
theorem z_sA1 (k : Nat) (i v : Int32) (σ : fd_St) : (fd_sA k i v σ).1 = σ.1 := rfl
theorem z_runM (N : Nat) : ∃ σ, f_X11_run_0 (N + 201) fd_s0M = some (0, σ) := by
  have e1 : f_X11_workPlain_0 (N + 201) fd_s0M = some ((), fd_s0M) := by
    unfold f_X11_workPlain_0
    show f_X11_workPlain_0_L2 (N + 201) ((N + 200) + 1) 0 fd_s0M = _
    rw [f_X11_workPlain_0_L2]; dsimp only; rw [if_pos (show fd_s0M.1 1 ≤ 0 by decide)]
  unfold f_X11_run_0
  rw [fd_ltE, fd_sI_self fd_s0M 0 0 rfl, e1, fd_bdE, fd_ltE, fd_sI_self fd_s0M 7 0 rfl]
  show ∃ σ, f_X11_run_0_L16 ((N + 200) + 1) ((N + 196) + 1 + 1 + 1 + 1 + 1) 0 fd_s0M = _
  rw [z_16s _ _ _ (by decide), z_16s _ _ _ (by decide), z_16s _ _ _ (by decide), z_16s _ _ _ (by decide), f_X11_run_0_L16]; dsimp only; rw [if_pos (by decide), fd_gdT (show vp_in (0 : Int32) 6 by unfold vp_in; decide), fd_ltE, fd_gdT (show vp_in (1 : Int32) 6 by unfold vp_in; decide), fd_ltE]
  generalize hσ : fd_sA 18 1 (-1) (fd_sA 18 0 (-1) fd_s0M) = σ
  have h0 : σ.1 = fd_s0M.1 := by rw [← hσ]; rfl
  show ∃ τ, f_X11_run_0_L77 ((N + 200) + 1) ((N + 196) + 1 + 1 + 1 + 1 + 1) 2 σ = _
  rw [z_77s _ _ _ _ (by decide) (by unfold vp_in; decide), z_77s _ _ _ _ (by decide) (by unfold vp_in; decide), z_77s _ _ _ _ (by decide) (by unfold vp_in; decide), z_77s _ _ _ _ (by decide) (by unfold vp_in; decide), f_X11_run_0_L77]; dsimp only; rw [if_pos (by decide)]
  generalize hτ : fd_sA 18 (2 + 1 + 1 + 1) 0 (fd_sA 18 (2 + 1 + 1) 0 (fd_sA 18 (2 + 1) 0 (fd_sA 18 2 0 σ))) = τ
  have h1 : τ.1 = fd_s0M.1 := by rw [← hτ, z_sA1, z_sA1, z_sA1, z_sA1, h0]
  rw [f_X11_run_0_L100]; dsimp only; rw [h1, if_pos (show fd_s0M.1 7 ≤ 0 by decide), f_X11_run_0_J138, f_X11_run_0_L140]; dsimp only; rw [if_pos (by decide), fd_ltE]
  refine ⟨fd_sI 6 1 τ, ?_⟩
  have h2 : (fd_sI 6 1 τ).1 7 = 0 := by
    show fd_up τ.1 6 1 7 = 0
    rw [h1]; rfl
  rw [h2]

set_option maxHeartbeats 4000000 in
theorem z_c0 (M : Nat) (xs : Nat → Int32) (K : Int32 → fd_St → fd_St → Option Int32) (hK : ∀ σ μ, K 6 σ μ = some 1) : f_law_c0 (M + 201) 6 xs K 0 fd_s0C fd_s0M = some 1 := by
  simp +decide [f_law_c0, f_L_input_0_39, f_X10_input_0_J25, f_X10_input_0, f_X2_inputs_1, f_X2_nets_1, f_X2_addInput_1, f_X11_input_0_J25, f_X11_input_0_J24, f_X11_input_0, f_X11_changed_0, f_X11_thrown_0, fd_sI, fd_sA, fd_sL, fd_up, upd, vp_updL, fd_mix, lg_cmp, zMA, zCA, zML, zCL, zC_0, zC_1, zC_2, zC_3, zC_4, zC_5, zC_6, zC_7, zC_8, zC_9, zC_10, zC_11, zC_12, zC_13, zC_14, zC_15, zC_16, zC_17, zC_18, zC_19, zM_0, zM_1, zM_2, zM_3, zM_4, zM_5, zM_6, zM_7, zM_8, zM_9, zM_10, zM_11, zM_12, zM_13, zM_14, fd_ltE, fd_bdE, fd_bxL, fd_bxR, fd_gdT z_v0, fd_gdT z_v1, fd_gdT z_v2, fd_gdT z_v3, fd_gdT z_v4, fd_gdT z_v5, fd_gdT z_v200, fd_mix_self, z_has, z_isIn, z_need, z_hasFault, z_needO, z_7, z_6, z_nearL2, z_spanL2, hK]
set_option maxHeartbeats 4000000 in
theorem z_c1 (M : Nat) (xs : Nat → Int32) (K : Int32 → fd_St → fd_St → Option Int32) (hK : ∀ σ μ, K 6 σ μ = some 1) : f_law_c1 (M + 201) 6 xs K 0 fd_s0C fd_s0M = some 1 := by
  by_cases h1 : (xs 1) = 5
  · simp +decide [f_law_c1, f_L_gate_0_39, f_X10_gate_0_J66, f_X10_gate_0_J97, f_X10_gate_0_J33, f_X10_gate_0_J16, f_X10_gate_0_J15, f_X10_gate_0, f_X11_gate_0_J141, f_X11_gate_0_J91, f_X11_gate_0_J86, f_X11_gate_0_J50, f_X11_gate_0_J49, f_X11_gate_0_J45, f_X11_gate_0_J16, f_X11_gate_0_J11, f_X11_gate_0, f_X11_thrown_0, fd_sI, fd_sA, fd_sL, fd_up, upd, vp_updL, fd_mix, lg_cmp, zMA, zCA, zML, zCL, zC_0, zC_1, zC_2, zC_3, zC_4, zC_5, zC_6, zC_7, zC_8, zC_9, zC_10, zC_11, zC_12, zC_13, zC_14, zC_15, zC_16, zC_17, zC_18, zC_19, zM_0, zM_1, zM_2, zM_3, zM_4, zM_5, zM_6, zM_7, zM_8, zM_9, zM_10, zM_11, zM_12, zM_13, zM_14, fd_ltE, fd_bdE, fd_bxL, fd_bxR, fd_gdT z_v0, fd_gdT z_v1, fd_gdT z_v2, fd_gdT z_v3, fd_gdT z_v4, fd_gdT z_v5, fd_gdT z_v200, fd_mix_self, z_has, z_isIn, z_need, z_hasFault, z_needO, z_7, z_6, z_nearL2, z_spanL2, hK, h1]
  · by_cases h2 : (xs 1) = 6
    · simp +decide [f_law_c1, f_L_gate_0_39, f_X10_gate_0_J66, f_X10_gate_0_J97, f_X10_gate_0_J33, f_X10_gate_0_J16, f_X10_gate_0_J15, f_X10_gate_0, f_X11_gate_0_J141, f_X11_gate_0_J91, f_X11_gate_0_J86, f_X11_gate_0_J50, f_X11_gate_0_J49, f_X11_gate_0_J45, f_X11_gate_0_J16, f_X11_gate_0_J11, f_X11_gate_0, f_X11_thrown_0, fd_sI, fd_sA, fd_sL, fd_up, upd, vp_updL, fd_mix, lg_cmp, zMA, zCA, zML, zCL, zC_0, zC_1, zC_2, zC_3, zC_4, zC_5, zC_6, zC_7, zC_8, zC_9, zC_10, zC_11, zC_12, zC_13, zC_14, zC_15, zC_16, zC_17, zC_18, zC_19, zM_0, zM_1, zM_2, zM_3, zM_4, zM_5, zM_6, zM_7, zM_8, zM_9, zM_10, zM_11, zM_12, zM_13, zM_14, fd_ltE, fd_bdE, fd_bxL, fd_bxR, fd_gdT z_v0, fd_gdT z_v1, fd_gdT z_v2, fd_gdT z_v3, fd_gdT z_v4, fd_gdT z_v5, fd_gdT z_v200, fd_mix_self, z_has, z_isIn, z_need, z_hasFault, z_needO, z_7, z_6, z_nearL2, z_spanL2, hK, h1, h2]
    · simp +decide [f_law_c1, f_L_gate_0_39, f_X10_gate_0_J66, f_X10_gate_0_J97, f_X10_gate_0_J33, f_X10_gate_0_J16, f_X10_gate_0_J15, f_X10_gate_0, f_X11_gate_0_J141, f_X11_gate_0_J91, f_X11_gate_0_J86, f_X11_gate_0_J50, f_X11_gate_0_J49, f_X11_gate_0_J45, f_X11_gate_0_J16, f_X11_gate_0_J11, f_X11_gate_0, f_X11_thrown_0, fd_sI, fd_sA, fd_sL, fd_up, upd, vp_updL, fd_mix, lg_cmp, zMA, zCA, zML, zCL, zC_0, zC_1, zC_2, zC_3, zC_4, zC_5, zC_6, zC_7, zC_8, zC_9, zC_10, zC_11, zC_12, zC_13, zC_14, zC_15, zC_16, zC_17, zC_18, zC_19, zM_0, zM_1, zM_2, zM_3, zM_4, zM_5, zM_6, zM_7, zM_8, zM_9, zM_10, zM_11, zM_12, zM_13, zM_14, fd_ltE, fd_bdE, fd_bxL, fd_bxR, fd_gdT z_v0, fd_gdT z_v1, fd_gdT z_v2, fd_gdT z_v3, fd_gdT z_v4, fd_gdT z_v5, fd_gdT z_v200, fd_mix_self, z_has, z_isIn, z_need, z_hasFault, z_needO, z_7, z_6, z_nearL2, z_spanL2, hK, h1, h2]
set_option maxHeartbeats 4000000 in
theorem z_c2 (M : Nat) (xs : Nat → Int32) (K : Int32 → fd_St → fd_St → Option Int32) (hK : ∀ σ μ, K 6 σ μ = some 1) : f_law_c2 (M + 201) 6 xs K 0 fd_s0C fd_s0M = some 1 := by
  simp +decide [f_law_c2, f_L_output_0_39, f_X10_output_0, f_X11_output_0_J30, f_X11_output_0, f_X11_thrown_0, fd_sI, fd_sA, fd_sL, fd_up, upd, vp_updL, fd_mix, lg_cmp, zMA, zCA, zML, zCL, zC_0, zC_1, zC_2, zC_3, zC_4, zC_5, zC_6, zC_7, zC_8, zC_9, zC_10, zC_11, zC_12, zC_13, zC_14, zC_15, zC_16, zC_17, zC_18, zC_19, zM_0, zM_1, zM_2, zM_3, zM_4, zM_5, zM_6, zM_7, zM_8, zM_9, zM_10, zM_11, zM_12, zM_13, zM_14, fd_ltE, fd_bdE, fd_bxL, fd_bxR, fd_gdT z_v0, fd_gdT z_v1, fd_gdT z_v2, fd_gdT z_v3, fd_gdT z_v4, fd_gdT z_v5, fd_gdT z_v200, fd_mix_self, z_has, z_isIn, z_need, z_hasFault, z_needO, z_7, z_6, z_nearL2, z_spanL2, hK]
set_option maxHeartbeats 4000000 in
theorem z_c3 (M : Nat) (xs : Nat → Int32) (K : Int32 → fd_St → fd_St → Option Int32) (hK : ∀ σ μ, K 6 σ μ = some 1) : f_law_c3 (M + 201) 6 xs K 0 fd_s0C fd_s0M = some 1 := by
  by_cases h1 : (xs 1) < 0
  · simp +decide [f_law_c3, f_L_patterns_0_39, f_X10_patterns_0_J10, f_X10_patterns_0, f_X2_putPatterns_1, f_X11_patterns_0_J16, f_X11_patterns_0_J15, f_X11_patterns_0, f_X11_changed_0, f_X11_thrown_0, fd_sI, fd_sA, fd_sL, fd_up, upd, vp_updL, fd_mix, lg_cmp, zMA, zCA, zML, zCL, zC_0, zC_1, zC_2, zC_3, zC_4, zC_5, zC_6, zC_7, zC_8, zC_9, zC_10, zC_11, zC_12, zC_13, zC_14, zC_15, zC_16, zC_17, zC_18, zC_19, zM_0, zM_1, zM_2, zM_3, zM_4, zM_5, zM_6, zM_7, zM_8, zM_9, zM_10, zM_11, zM_12, zM_13, zM_14, fd_ltE, fd_bdE, fd_bxL, fd_bxR, fd_gdT z_v0, fd_gdT z_v1, fd_gdT z_v2, fd_gdT z_v3, fd_gdT z_v4, fd_gdT z_v5, fd_gdT z_v200, fd_mix_self, z_has, z_isIn, z_need, z_hasFault, z_needO, z_7, z_6, z_nearL2, z_spanL2, hK, h1]
  · by_cases h2 : 64 < (xs 1)
    · simp +decide [f_law_c3, f_L_patterns_0_39, f_X10_patterns_0_J10, f_X10_patterns_0, f_X2_putPatterns_1, f_X11_patterns_0_J16, f_X11_patterns_0_J15, f_X11_patterns_0, f_X11_changed_0, f_X11_thrown_0, fd_sI, fd_sA, fd_sL, fd_up, upd, vp_updL, fd_mix, lg_cmp, zMA, zCA, zML, zCL, zC_0, zC_1, zC_2, zC_3, zC_4, zC_5, zC_6, zC_7, zC_8, zC_9, zC_10, zC_11, zC_12, zC_13, zC_14, zC_15, zC_16, zC_17, zC_18, zC_19, zM_0, zM_1, zM_2, zM_3, zM_4, zM_5, zM_6, zM_7, zM_8, zM_9, zM_10, zM_11, zM_12, zM_13, zM_14, fd_ltE, fd_bdE, fd_bxL, fd_bxR, fd_gdT z_v0, fd_gdT z_v1, fd_gdT z_v2, fd_gdT z_v3, fd_gdT z_v4, fd_gdT z_v5, fd_gdT z_v200, fd_mix_self, z_has, z_isIn, z_need, z_hasFault, z_needO, z_7, z_6, z_nearL2, z_spanL2, hK, h1, h2, Int32.not_le.mpr h2]
    · simp +decide [f_law_c3, f_L_patterns_0_39, f_X10_patterns_0_J10, f_X10_patterns_0, f_X2_putPatterns_1, f_X11_patterns_0_J16, f_X11_patterns_0_J15, f_X11_patterns_0, f_X11_changed_0, f_X11_thrown_0, fd_sI, fd_sA, fd_sL, fd_up, upd, vp_updL, fd_mix, lg_cmp, zMA, zCA, zML, zCL, zC_0, zC_1, zC_2, zC_3, zC_4, zC_5, zC_6, zC_7, zC_8, zC_9, zC_10, zC_11, zC_12, zC_13, zC_14, zC_15, zC_16, zC_17, zC_18, zC_19, zM_0, zM_1, zM_2, zM_3, zM_4, zM_5, zM_6, zM_7, zM_8, zM_9, zM_10, zM_11, zM_12, zM_13, zM_14, fd_ltE, fd_bdE, fd_bxL, fd_bxR, fd_gdT z_v0, fd_gdT z_v1, fd_gdT z_v2, fd_gdT z_v3, fd_gdT z_v4, fd_gdT z_v5, fd_gdT z_v200, fd_mix_self, z_has, z_isIn, z_need, z_hasFault, z_needO, z_7, z_6, z_nearL2, z_spanL2, hK, h1, h2, Int32.not_lt.mp h2]
set_option maxHeartbeats 4000000 in
theorem z_c4 (M : Nat) (xs : Nat → Int32) (K : Int32 → fd_St → fd_St → Option Int32) (hK : ∀ σ μ, K 6 σ μ = some 1) : f_law_c4 (M + 201) 6 xs K 0 fd_s0C fd_s0M = some 1 := by
  simp +decide [f_law_c4, f_L_pattern_0_39, f_X10_pattern_0, f_X2_hasInput_1, f_X11_pattern_0_J27, f_X11_pattern_0_J26, f_X11_pattern_0, f_X11_thrown_0, fd_sI, fd_sA, fd_sL, fd_up, upd, vp_updL, fd_mix, lg_cmp, zMA, zCA, zML, zCL, zC_0, zC_1, zC_2, zC_3, zC_4, zC_5, zC_6, zC_7, zC_8, zC_9, zC_10, zC_11, zC_12, zC_13, zC_14, zC_15, zC_16, zC_17, zC_18, zC_19, zM_0, zM_1, zM_2, zM_3, zM_4, zM_5, zM_6, zM_7, zM_8, zM_9, zM_10, zM_11, zM_12, zM_13, zM_14, fd_ltE, fd_bdE, fd_bxL, fd_bxR, fd_gdT z_v0, fd_gdT z_v1, fd_gdT z_v2, fd_gdT z_v3, fd_gdT z_v4, fd_gdT z_v5, fd_gdT z_v200, fd_mix_self, z_has, z_isIn, z_need, z_hasFault, z_needO, z_7, z_6, z_nearL2, z_spanL2, hK]
set_option maxHeartbeats 4000000 in
theorem z_c5 (M : Nat) (xs : Nat → Int32) (K : Int32 → fd_St → fd_St → Option Int32) (hK : ∀ σ μ, K 6 σ μ = some 1) : f_law_c5 (M + 201) 6 xs K 0 fd_s0C fd_s0M = some 1 := by
  simp +decide [f_law_c5, f_L_row_0_39, f_X10_row_0, f_X11_row_0_J17, f_X11_row_0, f_X11_thrown_0, fd_sI, fd_sA, fd_sL, fd_up, upd, vp_updL, fd_mix, lg_cmp, zMA, zCA, zML, zCL, zC_0, zC_1, zC_2, zC_3, zC_4, zC_5, zC_6, zC_7, zC_8, zC_9, zC_10, zC_11, zC_12, zC_13, zC_14, zC_15, zC_16, zC_17, zC_18, zC_19, zM_0, zM_1, zM_2, zM_3, zM_4, zM_5, zM_6, zM_7, zM_8, zM_9, zM_10, zM_11, zM_12, zM_13, zM_14, fd_ltE, fd_bdE, fd_bxL, fd_bxR, fd_gdT z_v0, fd_gdT z_v1, fd_gdT z_v2, fd_gdT z_v3, fd_gdT z_v4, fd_gdT z_v5, fd_gdT z_v200, fd_mix_self, z_has, z_isIn, z_need, z_hasFault, z_needO, z_7, z_6, z_nearL2, z_spanL2, hK]
set_option maxHeartbeats 4000000 in
theorem z_c6 (M : Nat) (xs : Nat → Int32) (K : Int32 → fd_St → fd_St → Option Int32) (hK : ∀ σ μ, K 6 σ μ = some 1) : f_law_c6 (M + 201) 6 xs K 0 fd_s0C fd_s0M = some 1 := by
  simp +decide [f_law_c6, f_L_fail_0_39, f_X10_fail_0, f_X11_fail_0_J17, f_X11_fail_0, f_X11_thrown_0, fd_sI, fd_sA, fd_sL, fd_up, upd, vp_updL, fd_mix, lg_cmp, zMA, zCA, zML, zCL, zC_0, zC_1, zC_2, zC_3, zC_4, zC_5, zC_6, zC_7, zC_8, zC_9, zC_10, zC_11, zC_12, zC_13, zC_14, zC_15, zC_16, zC_17, zC_18, zC_19, zM_0, zM_1, zM_2, zM_3, zM_4, zM_5, zM_6, zM_7, zM_8, zM_9, zM_10, zM_11, zM_12, zM_13, zM_14, fd_ltE, fd_bdE, fd_bxL, fd_bxR, fd_gdT z_v0, fd_gdT z_v1, fd_gdT z_v2, fd_gdT z_v3, fd_gdT z_v4, fd_gdT z_v5, fd_gdT z_v200, fd_mix_self, z_has, z_isIn, z_need, z_hasFault, z_needO, z_7, z_6, z_nearL2, z_spanL2, hK]
set_option maxHeartbeats 4000000 in
theorem z_c7 (M : Nat) (xs : Nat → Int32) (K : Int32 → fd_St → fd_St → Option Int32) (hK : ∀ σ μ, K 6 σ μ = some 1) : f_law_c7 (M + 201) 6 xs K 0 fd_s0C fd_s0M = some 1 := by
  have e9 := z_nearL2 (M + 201) M (xs 1) (xs 2) (-1) fd_s0M rfl
  simp +decide [f_law_c7, f_L_near_0_39, f_X10_near_0, f_X11_near_0_J153, f_X11_near_0_J148, f_X11_near_0_J27, f_X11_near_0_J26, f_X11_near_0, f_X11_thrown_0, fd_sI, fd_sA, fd_sL, fd_up, upd, vp_updL, fd_mix, lg_cmp, zMA, zCA, zML, zCL, zC_0, zC_1, zC_2, zC_3, zC_4, zC_5, zC_6, zC_7, zC_8, zC_9, zC_10, zC_11, zC_12, zC_13, zC_14, zC_15, zC_16, zC_17, zC_18, zC_19, zM_0, zM_1, zM_2, zM_3, zM_4, zM_5, zM_6, zM_7, zM_8, zM_9, zM_10, zM_11, zM_12, zM_13, zM_14, fd_ltE, fd_bdE, fd_bxL, fd_bxR, fd_gdT z_v0, fd_gdT z_v1, fd_gdT z_v2, fd_gdT z_v3, fd_gdT z_v4, fd_gdT z_v5, fd_gdT z_v200, fd_mix_self, z_has, z_isIn, z_need, z_hasFault, z_needO, z_7, z_6, z_nearL2, z_spanL2, hK, e9]
set_option maxHeartbeats 4000000 in
theorem z_c8 (M : Nat) (xs : Nat → Int32) (K : Int32 → fd_St → fd_St → Option Int32) (hK : ∀ σ μ, K 6 σ μ = some 1) : f_law_c8 (M + 201) 6 xs K 0 fd_s0C fd_s0M = some 1 := by
  by_cases h0 : (xs 1) = 0
  · simp +decide [f_law_c8, f_L_shows_0_39, f_X10_shows_0, f_X11_shows_0_J70, f_X11_shows_0_J69, f_X11_shows_0_J46, f_X11_shows_0_J41, f_X11_shows_0_J45, f_X11_shows_0_J30, f_X11_shows_0_J20, f_X11_shows_0_J9, f_X11_shows_0, f_X11_thrown_0, fd_sI, fd_sA, fd_sL, fd_up, upd, vp_updL, fd_mix, lg_cmp, zMA, zCA, zML, zCL, zC_0, zC_1, zC_2, zC_3, zC_4, zC_5, zC_6, zC_7, zC_8, zC_9, zC_10, zC_11, zC_12, zC_13, zC_14, zC_15, zC_16, zC_17, zC_18, zC_19, zM_0, zM_1, zM_2, zM_3, zM_4, zM_5, zM_6, zM_7, zM_8, zM_9, zM_10, zM_11, zM_12, zM_13, zM_14, fd_ltE, fd_bdE, fd_bxL, fd_bxR, fd_gdT z_v0, fd_gdT z_v1, fd_gdT z_v2, fd_gdT z_v3, fd_gdT z_v4, fd_gdT z_v5, fd_gdT z_v200, fd_mix_self, z_has, z_isIn, z_need, z_hasFault, z_needO, z_7, z_6, z_nearL2, z_spanL2, hK, h0]
  by_cases h1 : (xs 1) = 1
  · simp +decide [f_law_c8, f_L_shows_0_39, f_X10_shows_0, f_X11_shows_0_J70, f_X11_shows_0_J69, f_X11_shows_0_J46, f_X11_shows_0_J41, f_X11_shows_0_J45, f_X11_shows_0_J30, f_X11_shows_0_J20, f_X11_shows_0_J9, f_X11_shows_0, f_X11_thrown_0, fd_sI, fd_sA, fd_sL, fd_up, upd, vp_updL, fd_mix, lg_cmp, zMA, zCA, zML, zCL, zC_0, zC_1, zC_2, zC_3, zC_4, zC_5, zC_6, zC_7, zC_8, zC_9, zC_10, zC_11, zC_12, zC_13, zC_14, zC_15, zC_16, zC_17, zC_18, zC_19, zM_0, zM_1, zM_2, zM_3, zM_4, zM_5, zM_6, zM_7, zM_8, zM_9, zM_10, zM_11, zM_12, zM_13, zM_14, fd_ltE, fd_bdE, fd_bxL, fd_bxR, fd_gdT z_v0, fd_gdT z_v1, fd_gdT z_v2, fd_gdT z_v3, fd_gdT z_v4, fd_gdT z_v5, fd_gdT z_v200, fd_mix_self, z_has, z_isIn, z_need, z_hasFault, z_needO, z_7, z_6, z_nearL2, z_spanL2, hK, h0, h1]
  by_cases h2 : (xs 1) = 2
  · simp +decide [f_law_c8, f_L_shows_0_39, f_X10_shows_0, f_X11_shows_0_J70, f_X11_shows_0_J69, f_X11_shows_0_J46, f_X11_shows_0_J41, f_X11_shows_0_J45, f_X11_shows_0_J30, f_X11_shows_0_J20, f_X11_shows_0_J9, f_X11_shows_0, f_X11_thrown_0, fd_sI, fd_sA, fd_sL, fd_up, upd, vp_updL, fd_mix, lg_cmp, zMA, zCA, zML, zCL, zC_0, zC_1, zC_2, zC_3, zC_4, zC_5, zC_6, zC_7, zC_8, zC_9, zC_10, zC_11, zC_12, zC_13, zC_14, zC_15, zC_16, zC_17, zC_18, zC_19, zM_0, zM_1, zM_2, zM_3, zM_4, zM_5, zM_6, zM_7, zM_8, zM_9, zM_10, zM_11, zM_12, zM_13, zM_14, fd_ltE, fd_bdE, fd_bxL, fd_bxR, fd_gdT z_v0, fd_gdT z_v1, fd_gdT z_v2, fd_gdT z_v3, fd_gdT z_v4, fd_gdT z_v5, fd_gdT z_v200, fd_mix_self, z_has, z_isIn, z_need, z_hasFault, z_needO, z_7, z_6, z_nearL2, z_spanL2, hK, h0, h1, h2]
  by_cases h3 : (xs 1) = 3
  · simp +decide [f_law_c8, f_L_shows_0_39, f_X10_shows_0, f_X11_shows_0_J70, f_X11_shows_0_J69, f_X11_shows_0_J46, f_X11_shows_0_J41, f_X11_shows_0_J45, f_X11_shows_0_J30, f_X11_shows_0_J20, f_X11_shows_0_J9, f_X11_shows_0, f_X11_thrown_0, fd_sI, fd_sA, fd_sL, fd_up, upd, vp_updL, fd_mix, lg_cmp, zMA, zCA, zML, zCL, zC_0, zC_1, zC_2, zC_3, zC_4, zC_5, zC_6, zC_7, zC_8, zC_9, zC_10, zC_11, zC_12, zC_13, zC_14, zC_15, zC_16, zC_17, zC_18, zC_19, zM_0, zM_1, zM_2, zM_3, zM_4, zM_5, zM_6, zM_7, zM_8, zM_9, zM_10, zM_11, zM_12, zM_13, zM_14, fd_ltE, fd_bdE, fd_bxL, fd_bxR, fd_gdT z_v0, fd_gdT z_v1, fd_gdT z_v2, fd_gdT z_v3, fd_gdT z_v4, fd_gdT z_v5, fd_gdT z_v200, fd_mix_self, z_has, z_isIn, z_need, z_hasFault, z_needO, z_7, z_6, z_nearL2, z_spanL2, hK, h0, h1, h2, h3]
  simp +decide [f_law_c8, f_L_shows_0_39, f_X10_shows_0, f_X11_shows_0_J70, f_X11_shows_0_J69, f_X11_shows_0_J46, f_X11_shows_0_J41, f_X11_shows_0_J45, f_X11_shows_0_J30, f_X11_shows_0_J20, f_X11_shows_0_J9, f_X11_shows_0, f_X11_thrown_0, fd_sI, fd_sA, fd_sL, fd_up, upd, vp_updL, fd_mix, lg_cmp, zMA, zCA, zML, zCL, zC_0, zC_1, zC_2, zC_3, zC_4, zC_5, zC_6, zC_7, zC_8, zC_9, zC_10, zC_11, zC_12, zC_13, zC_14, zC_15, zC_16, zC_17, zC_18, zC_19, zM_0, zM_1, zM_2, zM_3, zM_4, zM_5, zM_6, zM_7, zM_8, zM_9, zM_10, zM_11, zM_12, zM_13, zM_14, fd_ltE, fd_bdE, fd_bxL, fd_bxR, fd_gdT z_v0, fd_gdT z_v1, fd_gdT z_v2, fd_gdT z_v3, fd_gdT z_v4, fd_gdT z_v5, fd_gdT z_v200, fd_mix_self, z_has, z_isIn, z_need, z_hasFault, z_needO, z_7, z_6, z_nearL2, z_spanL2, hK, h0, h1, h2, h3]
set_option maxHeartbeats 4000000 in
theorem z_c9 (M : Nat) (xs : Nat → Int32) (K : Int32 → fd_St → fd_St → Option Int32) (hK : ∀ σ μ, K 6 σ μ = some 1) : f_law_c9 (M + 201) 6 xs K 0 fd_s0C fd_s0M = some 1 := by
  obtain ⟨σ, e1⟩ := z_runC M
  obtain ⟨μ, e2⟩ := z_runM M
  rw [f_law_c9, e1, fd_bdE, fd_ltE, e2, fd_bdE, if_pos rfl, fd_ltE]
  exact hK _ _
set_option maxHeartbeats 4000000 in
theorem z_c10 (M : Nat) (xs : Nat → Int32) (K : Int32 → fd_St → fd_St → Option Int32) (hK : ∀ σ μ, K 6 σ μ = some 1) : f_law_c10 (M + 201) 6 xs K 0 fd_s0C fd_s0M = some 1 := by
  by_cases h1 : (xs 2) < 0
  · simp +decide [f_law_c10, f_L_suspect_0_39, f_X10_suspect_0_J10, f_X10_suspect_0_J42, f_X10_suspect_0, f_X10_needTold_0, f_X11_suspect_0_J68, f_X11_suspect_0_J41, f_X11_suspect_0, f_X11_thrown_0, fd_sI, fd_sA, fd_sL, fd_up, upd, vp_updL, fd_mix, lg_cmp, zMA, zCA, zML, zCL, zC_0, zC_1, zC_2, zC_3, zC_4, zC_5, zC_6, zC_7, zC_8, zC_9, zC_10, zC_11, zC_12, zC_13, zC_14, zC_15, zC_16, zC_17, zC_18, zC_19, zM_0, zM_1, zM_2, zM_3, zM_4, zM_5, zM_6, zM_7, zM_8, zM_9, zM_10, zM_11, zM_12, zM_13, zM_14, fd_ltE, fd_bdE, fd_bxL, fd_bxR, fd_gdT z_v0, fd_gdT z_v1, fd_gdT z_v2, fd_gdT z_v3, fd_gdT z_v4, fd_gdT z_v5, fd_gdT z_v200, fd_mix_self, z_has, f_X11_isIn, z_need, z_hasFault, z_needO, z_7, z_6, z_nearL2, z_spanL2, hK, h1]
  · by_cases h2 : 6 < (xs 2)
    · simp +decide [f_law_c10, f_L_suspect_0_39, f_X10_suspect_0_J10, f_X10_suspect_0_J42, f_X10_suspect_0, f_X10_needTold_0, f_X11_suspect_0_J68, f_X11_suspect_0_J41, f_X11_suspect_0, f_X11_thrown_0, fd_sI, fd_sA, fd_sL, fd_up, upd, vp_updL, fd_mix, lg_cmp, zMA, zCA, zML, zCL, zC_0, zC_1, zC_2, zC_3, zC_4, zC_5, zC_6, zC_7, zC_8, zC_9, zC_10, zC_11, zC_12, zC_13, zC_14, zC_15, zC_16, zC_17, zC_18, zC_19, zM_0, zM_1, zM_2, zM_3, zM_4, zM_5, zM_6, zM_7, zM_8, zM_9, zM_10, zM_11, zM_12, zM_13, zM_14, fd_ltE, fd_bdE, fd_bxL, fd_bxR, fd_gdT z_v0, fd_gdT z_v1, fd_gdT z_v2, fd_gdT z_v3, fd_gdT z_v4, fd_gdT z_v5, fd_gdT z_v200, fd_mix_self, z_has, f_X11_isIn, z_need, z_hasFault, z_needO, z_7, z_6, z_nearL2, z_spanL2, hK, h1, h2, Int32.not_le.mpr h2]
    · simp +decide [f_law_c10, f_L_suspect_0_39, f_X10_suspect_0_J10, f_X10_suspect_0_J42, f_X10_suspect_0, f_X10_needTold_0, f_X11_suspect_0_J68, f_X11_suspect_0_J41, f_X11_suspect_0, f_X11_thrown_0, fd_sI, fd_sA, fd_sL, fd_up, upd, vp_updL, fd_mix, lg_cmp, zMA, zCA, zML, zCL, zC_0, zC_1, zC_2, zC_3, zC_4, zC_5, zC_6, zC_7, zC_8, zC_9, zC_10, zC_11, zC_12, zC_13, zC_14, zC_15, zC_16, zC_17, zC_18, zC_19, zM_0, zM_1, zM_2, zM_3, zM_4, zM_5, zM_6, zM_7, zM_8, zM_9, zM_10, zM_11, zM_12, zM_13, zM_14, fd_ltE, fd_bdE, fd_bxL, fd_bxR, fd_gdT z_v0, fd_gdT z_v1, fd_gdT z_v2, fd_gdT z_v3, fd_gdT z_v4, fd_gdT z_v5, fd_gdT z_v200, fd_mix_self, z_has, f_X11_isIn, z_need, z_hasFault, z_needO, z_7, z_6, z_nearL2, z_spanL2, hK, h1, h2, Int32.not_lt.mp h2]
set_option maxHeartbeats 4000000 in
theorem z_c11 (M : Nat) (xs : Nat → Int32) (K : Int32 → fd_St → fd_St → Option Int32) (hK : ∀ σ μ, K 6 σ μ = some 1) : f_law_c11 (M + 201) 6 xs K 0 fd_s0C fd_s0M = some 1 := by
  by_cases h1 : (xs 1) < 0
  · simp +decide [f_law_c11, f_L_pair_0_39, f_X10_pair_0_J9, f_X10_pair_0, f_X10_needTold_0, f_X11_pair_0_J26, f_X11_pair_0, f_X11_thrown_0, fd_sI, fd_sA, fd_sL, fd_up, upd, vp_updL, fd_mix, lg_cmp, zMA, zCA, zML, zCL, zC_0, zC_1, zC_2, zC_3, zC_4, zC_5, zC_6, zC_7, zC_8, zC_9, zC_10, zC_11, zC_12, zC_13, zC_14, zC_15, zC_16, zC_17, zC_18, zC_19, zM_0, zM_1, zM_2, zM_3, zM_4, zM_5, zM_6, zM_7, zM_8, zM_9, zM_10, zM_11, zM_12, zM_13, zM_14, fd_ltE, fd_bdE, fd_bxL, fd_bxR, fd_gdT z_v0, fd_gdT z_v1, fd_gdT z_v2, fd_gdT z_v3, fd_gdT z_v4, fd_gdT z_v5, fd_gdT z_v200, fd_mix_self, z_has, f_X11_isIn, z_need, z_hasFault, z_needO, z_7, z_6, z_nearL2, z_spanL2, hK, h1]
  · by_cases h2 : 5 < (xs 1)
    · simp +decide [f_law_c11, f_L_pair_0_39, f_X10_pair_0_J9, f_X10_pair_0, f_X10_needTold_0, f_X11_pair_0_J26, f_X11_pair_0, f_X11_thrown_0, fd_sI, fd_sA, fd_sL, fd_up, upd, vp_updL, fd_mix, lg_cmp, zMA, zCA, zML, zCL, zC_0, zC_1, zC_2, zC_3, zC_4, zC_5, zC_6, zC_7, zC_8, zC_9, zC_10, zC_11, zC_12, zC_13, zC_14, zC_15, zC_16, zC_17, zC_18, zC_19, zM_0, zM_1, zM_2, zM_3, zM_4, zM_5, zM_6, zM_7, zM_8, zM_9, zM_10, zM_11, zM_12, zM_13, zM_14, fd_ltE, fd_bdE, fd_bxL, fd_bxR, fd_gdT z_v0, fd_gdT z_v1, fd_gdT z_v2, fd_gdT z_v3, fd_gdT z_v4, fd_gdT z_v5, fd_gdT z_v200, fd_mix_self, z_has, f_X11_isIn, z_need, z_hasFault, z_needO, z_7, z_6, z_nearL2, z_spanL2, hK, h1, h2, Int32.not_le.mpr h2]
    · simp +decide [f_law_c11, f_L_pair_0_39, f_X10_pair_0_J9, f_X10_pair_0, f_X10_needTold_0, f_X11_pair_0_J26, f_X11_pair_0, f_X11_thrown_0, fd_sI, fd_sA, fd_sL, fd_up, upd, vp_updL, fd_mix, lg_cmp, zMA, zCA, zML, zCL, zC_0, zC_1, zC_2, zC_3, zC_4, zC_5, zC_6, zC_7, zC_8, zC_9, zC_10, zC_11, zC_12, zC_13, zC_14, zC_15, zC_16, zC_17, zC_18, zC_19, zM_0, zM_1, zM_2, zM_3, zM_4, zM_5, zM_6, zM_7, zM_8, zM_9, zM_10, zM_11, zM_12, zM_13, zM_14, fd_ltE, fd_bdE, fd_bxL, fd_bxR, fd_gdT z_v0, fd_gdT z_v1, fd_gdT z_v2, fd_gdT z_v3, fd_gdT z_v4, fd_gdT z_v5, fd_gdT z_v200, fd_mix_self, z_has, f_X11_isIn, z_need, z_hasFault, z_needO, z_7, z_6, z_nearL2, z_spanL2, hK, h1, h2, Int32.not_lt.mp h2]
set_option maxHeartbeats 4000000 in
theorem z_c12 (M : Nat) (xs : Nat → Int32) (K : Int32 → fd_St → fd_St → Option Int32) (hK : ∀ σ μ, K 6 σ μ = some 1) : f_law_c12 (M + 201) 6 xs K 0 fd_s0C fd_s0M = some 1 := by
  simp +decide [f_law_c12, f_L_join_0_39, f_X10_join_0, f_X10_needTold_0, f_X11_join_0_J151, f_X11_join_0_J145, f_X11_join_0_J112, f_X11_join_0_J91, f_X11_join_0_J56, f_X11_join_0_J13, f_X11_join_0, f_X11_thrown_0, fd_sI, fd_sA, fd_sL, fd_up, upd, vp_updL, fd_mix, lg_cmp, zMA, zCA, zML, zCL, zC_0, zC_1, zC_2, zC_3, zC_4, zC_5, zC_6, zC_7, zC_8, zC_9, zC_10, zC_11, zC_12, zC_13, zC_14, zC_15, zC_16, zC_17, zC_18, zC_19, zM_0, zM_1, zM_2, zM_3, zM_4, zM_5, zM_6, zM_7, zM_8, zM_9, zM_10, zM_11, zM_12, zM_13, zM_14, fd_ltE, fd_bdE, fd_bxL, fd_bxR, fd_gdT z_v0, fd_gdT z_v1, fd_gdT z_v2, fd_gdT z_v3, fd_gdT z_v4, fd_gdT z_v5, fd_gdT z_v200, fd_mix_self, z_has, z_isIn, z_need, z_hasFault, z_needO, z_7, z_6, z_nearL2, z_spanL2, hK]
set_option maxHeartbeats 4000000 in
theorem z_c13 (M : Nat) (xs : Nat → Int32) (K : Int32 → fd_St → fd_St → Option Int32) (hK : ∀ σ μ, K 6 σ μ = some 1) : f_law_c13 (M + 201) 6 xs K 0 fd_s0C fd_s0M = some 1 := by
  simp +decide [f_law_c13, f_L_share_0_39, f_X10_share_0, f_X11_share_0_J17, f_X11_share_0, f_X11_thrown_0, fd_sI, fd_sA, fd_sL, fd_up, upd, vp_updL, fd_mix, lg_cmp, zMA, zCA, zML, zCL, zC_0, zC_1, zC_2, zC_3, zC_4, zC_5, zC_6, zC_7, zC_8, zC_9, zC_10, zC_11, zC_12, zC_13, zC_14, zC_15, zC_16, zC_17, zC_18, zC_19, zM_0, zM_1, zM_2, zM_3, zM_4, zM_5, zM_6, zM_7, zM_8, zM_9, zM_10, zM_11, zM_12, zM_13, zM_14, fd_ltE, fd_bdE, fd_bxL, fd_bxR, fd_gdT z_v0, fd_gdT z_v1, fd_gdT z_v2, fd_gdT z_v3, fd_gdT z_v4, fd_gdT z_v5, fd_gdT z_v200, fd_mix_self, z_has, z_isIn, z_need, z_hasFault, z_needO, z_7, z_6, z_nearL2, z_spanL2, hK]
set_option maxHeartbeats 4000000 in
theorem z_c14 (M : Nat) (xs : Nat → Int32) (K : Int32 → fd_St → fd_St → Option Int32) (hK : ∀ σ μ, K 6 σ μ = some 1) : f_law_c14 (M + 201) 6 xs K 0 fd_s0C fd_s0M = some 1 := by
  by_cases h1 : (xs 1) < 1
  · simp +decide [f_law_c14, f_L_chain_0, f_X10_chain_0_J11, f_X10_chain_0, f_X1_begin_10, f_X11_chain_0_J17, f_X11_chain_0_J16, f_X11_chain_0, f_X11_thrown_0, fd_sI, fd_sA, fd_sL, fd_up, upd, vp_updL, fd_mix, lg_cmp, zMA, zCA, zML, zCL, zC_0, zC_1, zC_2, zC_3, zC_4, zC_5, zC_6, zC_7, zC_8, zC_9, zC_10, zC_11, zC_12, zC_13, zC_14, zC_15, zC_16, zC_17, zC_18, zC_19, zM_0, zM_1, zM_2, zM_3, zM_4, zM_5, zM_6, zM_7, zM_8, zM_9, zM_10, zM_11, zM_12, zM_13, zM_14, fd_ltE, fd_bdE, fd_bxL, fd_bxR, fd_gdT z_v0, fd_gdT z_v1, fd_gdT z_v2, fd_gdT z_v3, fd_gdT z_v4, fd_gdT z_v5, fd_gdT z_v200, fd_mix_self, z_has, z_isIn, z_need, z_hasFault, z_needO, z_7, z_6, z_nearL2, z_spanL2, hK, h1]
  · by_cases h2 : 64 < (xs 1)
    · simp +decide [f_law_c14, f_L_chain_0, f_X10_chain_0_J11, f_X10_chain_0, f_X1_begin_10, f_X11_chain_0_J17, f_X11_chain_0_J16, f_X11_chain_0, f_X11_thrown_0, fd_sI, fd_sA, fd_sL, fd_up, upd, vp_updL, fd_mix, lg_cmp, zMA, zCA, zML, zCL, zC_0, zC_1, zC_2, zC_3, zC_4, zC_5, zC_6, zC_7, zC_8, zC_9, zC_10, zC_11, zC_12, zC_13, zC_14, zC_15, zC_16, zC_17, zC_18, zC_19, zM_0, zM_1, zM_2, zM_3, zM_4, zM_5, zM_6, zM_7, zM_8, zM_9, zM_10, zM_11, zM_12, zM_13, zM_14, fd_ltE, fd_bdE, fd_bxL, fd_bxR, fd_gdT z_v0, fd_gdT z_v1, fd_gdT z_v2, fd_gdT z_v3, fd_gdT z_v4, fd_gdT z_v5, fd_gdT z_v200, fd_mix_self, z_has, z_isIn, z_need, z_hasFault, z_needO, z_7, z_6, z_nearL2, z_spanL2, hK, h1, h2, Int32.not_le.mpr h2]
    · simp +decide [f_law_c14, f_L_chain_0, f_X10_chain_0_J11, f_X10_chain_0, f_X1_begin_10, f_X11_chain_0_J17, f_X11_chain_0_J16, f_X11_chain_0, f_X11_thrown_0, fd_sI, fd_sA, fd_sL, fd_up, upd, vp_updL, fd_mix, lg_cmp, zMA, zCA, zML, zCL, zC_0, zC_1, zC_2, zC_3, zC_4, zC_5, zC_6, zC_7, zC_8, zC_9, zC_10, zC_11, zC_12, zC_13, zC_14, zC_15, zC_16, zC_17, zC_18, zC_19, zM_0, zM_1, zM_2, zM_3, zM_4, zM_5, zM_6, zM_7, zM_8, zM_9, zM_10, zM_11, zM_12, zM_13, zM_14, fd_ltE, fd_bdE, fd_bxL, fd_bxR, fd_gdT z_v0, fd_gdT z_v1, fd_gdT z_v2, fd_gdT z_v3, fd_gdT z_v4, fd_gdT z_v5, fd_gdT z_v200, fd_mix_self, z_has, z_isIn, z_need, z_hasFault, z_needO, z_7, z_6, z_nearL2, z_spanL2, hK, h1, h2, Int32.not_lt.mp h2]
set_option maxHeartbeats 4000000 in
theorem z_c15 (M : Nat) (xs : Nat → Int32) (K : Int32 → fd_St → fd_St → Option Int32) (hK : ∀ σ μ, K 6 σ μ = some 1) : f_law_c15 (M + 201) 6 xs K 0 fd_s0C fd_s0M = some 1 := by
  simp +decide [f_law_c15, f_L_caught_0_39, f_X10_caught_0, f_X10_needChain_0, f_X1_begun_10, f_X11_caught_0_J22, f_X11_caught_0_J21, f_X11_caught_0, f_X11_thrown_0, fd_sI, fd_sA, fd_sL, fd_up, upd, vp_updL, fd_mix, lg_cmp, zMA, zCA, zML, zCL, zC_0, zC_1, zC_2, zC_3, zC_4, zC_5, zC_6, zC_7, zC_8, zC_9, zC_10, zC_11, zC_12, zC_13, zC_14, zC_15, zC_16, zC_17, zC_18, zC_19, zM_0, zM_1, zM_2, zM_3, zM_4, zM_5, zM_6, zM_7, zM_8, zM_9, zM_10, zM_11, zM_12, zM_13, zM_14, fd_ltE, fd_bdE, fd_bxL, fd_bxR, fd_gdT z_v0, fd_gdT z_v1, fd_gdT z_v2, fd_gdT z_v3, fd_gdT z_v4, fd_gdT z_v5, fd_gdT z_v200, fd_mix_self, z_has, z_isIn, z_need, z_hasFault, z_needO, z_7, z_6, z_nearL2, z_spanL2, hK]
set_option maxHeartbeats 4000000 in
theorem z_c16 (M : Nat) (xs : Nat → Int32) (K : Int32 → fd_St → fd_St → Option Int32) (hK : ∀ σ μ, K 6 σ μ = some 1) : f_law_c16 (M + 201) 6 xs K 0 fd_s0C fd_s0M = some 1 := by
  by_cases h0 : (xs 1) = 0
  ·
    by_cases g0 : (xs 2) = 0
    · simp +decide [f_law_c16, f_L_span_0_39, f_X10_span_0_J18, f_X10_span_0, f_X10_needChain_0, f_X1_begun_10, f_X11_span_0_J102, f_X11_span_0_J45, f_X11_span_0_J23, f_X11_span_0_J18, f_X11_span_0_J22, f_X11_span_0_J9, f_X11_span_0, f_X11_thrown_0, fd_sI, fd_sA, fd_sL, fd_up, upd, vp_updL, fd_mix, lg_cmp, zMA, zCA, zML, zCL, zC_0, zC_1, zC_2, zC_3, zC_4, zC_5, zC_6, zC_7, zC_8, zC_9, zC_10, zC_11, zC_12, zC_13, zC_14, zC_15, zC_16, zC_17, zC_18, zC_19, zM_0, zM_1, zM_2, zM_3, zM_4, zM_5, zM_6, zM_7, zM_8, zM_9, zM_10, zM_11, zM_12, zM_13, zM_14, fd_ltE, fd_bdE, fd_bxL, fd_bxR, fd_gdT z_v0, fd_gdT z_v1, fd_gdT z_v2, fd_gdT z_v3, fd_gdT z_v4, fd_gdT z_v5, fd_gdT z_v200, fd_mix_self, z_has, z_isIn, z_need, z_hasFault, z_needO, z_7, z_6, z_nearL2, z_spanL2, hK, h0, g0]
    by_cases g1 : (xs 2) = 1
    · simp +decide [f_law_c16, f_L_span_0_39, f_X10_span_0_J18, f_X10_span_0, f_X10_needChain_0, f_X1_begun_10, f_X11_span_0_J102, f_X11_span_0_J45, f_X11_span_0_J23, f_X11_span_0_J18, f_X11_span_0_J22, f_X11_span_0_J9, f_X11_span_0, f_X11_thrown_0, fd_sI, fd_sA, fd_sL, fd_up, upd, vp_updL, fd_mix, lg_cmp, zMA, zCA, zML, zCL, zC_0, zC_1, zC_2, zC_3, zC_4, zC_5, zC_6, zC_7, zC_8, zC_9, zC_10, zC_11, zC_12, zC_13, zC_14, zC_15, zC_16, zC_17, zC_18, zC_19, zM_0, zM_1, zM_2, zM_3, zM_4, zM_5, zM_6, zM_7, zM_8, zM_9, zM_10, zM_11, zM_12, zM_13, zM_14, fd_ltE, fd_bdE, fd_bxL, fd_bxR, fd_gdT z_v0, fd_gdT z_v1, fd_gdT z_v2, fd_gdT z_v3, fd_gdT z_v4, fd_gdT z_v5, fd_gdT z_v200, fd_mix_self, z_has, z_isIn, z_need, z_hasFault, z_needO, z_7, z_6, z_nearL2, z_spanL2, hK, h0, g0, g1]
    by_cases g2 : (xs 2) < 0
    · simp +decide [f_law_c16, f_L_span_0_39, f_X10_span_0_J18, f_X10_span_0, f_X10_needChain_0, f_X1_begun_10, f_X11_span_0_J102, f_X11_span_0_J45, f_X11_span_0_J23, f_X11_span_0_J18, f_X11_span_0_J22, f_X11_span_0_J9, f_X11_span_0, f_X11_thrown_0, fd_sI, fd_sA, fd_sL, fd_up, upd, vp_updL, fd_mix, lg_cmp, zMA, zCA, zML, zCL, zC_0, zC_1, zC_2, zC_3, zC_4, zC_5, zC_6, zC_7, zC_8, zC_9, zC_10, zC_11, zC_12, zC_13, zC_14, zC_15, zC_16, zC_17, zC_18, zC_19, zM_0, zM_1, zM_2, zM_3, zM_4, zM_5, zM_6, zM_7, zM_8, zM_9, zM_10, zM_11, zM_12, zM_13, zM_14, fd_ltE, fd_bdE, fd_bxL, fd_bxR, fd_gdT z_v0, fd_gdT z_v1, fd_gdT z_v2, fd_gdT z_v3, fd_gdT z_v4, fd_gdT z_v5, fd_gdT z_v200, fd_mix_self, z_has, z_isIn, z_need, z_hasFault, z_needO, z_7, z_6, z_nearL2, z_spanL2, hK, h0, g0, g1, g2]
    simp +decide [f_law_c16, f_L_span_0_39, f_X10_span_0_J18, f_X10_span_0, f_X10_needChain_0, f_X1_begun_10, f_X11_span_0_J102, f_X11_span_0_J45, f_X11_span_0_J23, f_X11_span_0_J18, f_X11_span_0_J22, f_X11_span_0_J9, f_X11_span_0, f_X11_thrown_0, fd_sI, fd_sA, fd_sL, fd_up, upd, vp_updL, fd_mix, lg_cmp, zMA, zCA, zML, zCL, zC_0, zC_1, zC_2, zC_3, zC_4, zC_5, zC_6, zC_7, zC_8, zC_9, zC_10, zC_11, zC_12, zC_13, zC_14, zC_15, zC_16, zC_17, zC_18, zC_19, zM_0, zM_1, zM_2, zM_3, zM_4, zM_5, zM_6, zM_7, zM_8, zM_9, zM_10, zM_11, zM_12, zM_13, zM_14, fd_ltE, fd_bdE, fd_bxL, fd_bxR, fd_gdT z_v0, fd_gdT z_v1, fd_gdT z_v2, fd_gdT z_v3, fd_gdT z_v4, fd_gdT z_v5, fd_gdT z_v200, fd_mix_self, z_has, z_isIn, z_need, z_hasFault, z_needO, z_7, z_6, z_nearL2, z_spanL2, hK, h0, g0, g1, g2, z_nlt (z_out g0 g1 g2)]
  by_cases h1 : (xs 1) = 1
  ·
    by_cases g0 : (xs 2) = 0
    · simp +decide [f_law_c16, f_L_span_0_39, f_X10_span_0_J18, f_X10_span_0, f_X10_needChain_0, f_X1_begun_10, f_X11_span_0_J102, f_X11_span_0_J45, f_X11_span_0_J23, f_X11_span_0_J18, f_X11_span_0_J22, f_X11_span_0_J9, f_X11_span_0, f_X11_thrown_0, fd_sI, fd_sA, fd_sL, fd_up, upd, vp_updL, fd_mix, lg_cmp, zMA, zCA, zML, zCL, zC_0, zC_1, zC_2, zC_3, zC_4, zC_5, zC_6, zC_7, zC_8, zC_9, zC_10, zC_11, zC_12, zC_13, zC_14, zC_15, zC_16, zC_17, zC_18, zC_19, zM_0, zM_1, zM_2, zM_3, zM_4, zM_5, zM_6, zM_7, zM_8, zM_9, zM_10, zM_11, zM_12, zM_13, zM_14, fd_ltE, fd_bdE, fd_bxL, fd_bxR, fd_gdT z_v0, fd_gdT z_v1, fd_gdT z_v2, fd_gdT z_v3, fd_gdT z_v4, fd_gdT z_v5, fd_gdT z_v200, fd_mix_self, z_has, z_isIn, z_need, z_hasFault, z_needO, z_7, z_6, z_nearL2, z_spanL2, hK, h0, h1, g0]
    by_cases g1 : (xs 2) = 1
    · simp +decide [f_law_c16, f_L_span_0_39, f_X10_span_0_J18, f_X10_span_0, f_X10_needChain_0, f_X1_begun_10, f_X11_span_0_J102, f_X11_span_0_J45, f_X11_span_0_J23, f_X11_span_0_J18, f_X11_span_0_J22, f_X11_span_0_J9, f_X11_span_0, f_X11_thrown_0, fd_sI, fd_sA, fd_sL, fd_up, upd, vp_updL, fd_mix, lg_cmp, zMA, zCA, zML, zCL, zC_0, zC_1, zC_2, zC_3, zC_4, zC_5, zC_6, zC_7, zC_8, zC_9, zC_10, zC_11, zC_12, zC_13, zC_14, zC_15, zC_16, zC_17, zC_18, zC_19, zM_0, zM_1, zM_2, zM_3, zM_4, zM_5, zM_6, zM_7, zM_8, zM_9, zM_10, zM_11, zM_12, zM_13, zM_14, fd_ltE, fd_bdE, fd_bxL, fd_bxR, fd_gdT z_v0, fd_gdT z_v1, fd_gdT z_v2, fd_gdT z_v3, fd_gdT z_v4, fd_gdT z_v5, fd_gdT z_v200, fd_mix_self, z_has, z_isIn, z_need, z_hasFault, z_needO, z_7, z_6, z_nearL2, z_spanL2, hK, h0, h1, g0, g1]
    by_cases g2 : (xs 2) < 0
    · simp +decide [f_law_c16, f_L_span_0_39, f_X10_span_0_J18, f_X10_span_0, f_X10_needChain_0, f_X1_begun_10, f_X11_span_0_J102, f_X11_span_0_J45, f_X11_span_0_J23, f_X11_span_0_J18, f_X11_span_0_J22, f_X11_span_0_J9, f_X11_span_0, f_X11_thrown_0, fd_sI, fd_sA, fd_sL, fd_up, upd, vp_updL, fd_mix, lg_cmp, zMA, zCA, zML, zCL, zC_0, zC_1, zC_2, zC_3, zC_4, zC_5, zC_6, zC_7, zC_8, zC_9, zC_10, zC_11, zC_12, zC_13, zC_14, zC_15, zC_16, zC_17, zC_18, zC_19, zM_0, zM_1, zM_2, zM_3, zM_4, zM_5, zM_6, zM_7, zM_8, zM_9, zM_10, zM_11, zM_12, zM_13, zM_14, fd_ltE, fd_bdE, fd_bxL, fd_bxR, fd_gdT z_v0, fd_gdT z_v1, fd_gdT z_v2, fd_gdT z_v3, fd_gdT z_v4, fd_gdT z_v5, fd_gdT z_v200, fd_mix_self, z_has, z_isIn, z_need, z_hasFault, z_needO, z_7, z_6, z_nearL2, z_spanL2, hK, h0, h1, g0, g1, g2]
    simp +decide [f_law_c16, f_L_span_0_39, f_X10_span_0_J18, f_X10_span_0, f_X10_needChain_0, f_X1_begun_10, f_X11_span_0_J102, f_X11_span_0_J45, f_X11_span_0_J23, f_X11_span_0_J18, f_X11_span_0_J22, f_X11_span_0_J9, f_X11_span_0, f_X11_thrown_0, fd_sI, fd_sA, fd_sL, fd_up, upd, vp_updL, fd_mix, lg_cmp, zMA, zCA, zML, zCL, zC_0, zC_1, zC_2, zC_3, zC_4, zC_5, zC_6, zC_7, zC_8, zC_9, zC_10, zC_11, zC_12, zC_13, zC_14, zC_15, zC_16, zC_17, zC_18, zC_19, zM_0, zM_1, zM_2, zM_3, zM_4, zM_5, zM_6, zM_7, zM_8, zM_9, zM_10, zM_11, zM_12, zM_13, zM_14, fd_ltE, fd_bdE, fd_bxL, fd_bxR, fd_gdT z_v0, fd_gdT z_v1, fd_gdT z_v2, fd_gdT z_v3, fd_gdT z_v4, fd_gdT z_v5, fd_gdT z_v200, fd_mix_self, z_has, z_isIn, z_need, z_hasFault, z_needO, z_7, z_6, z_nearL2, z_spanL2, hK, h0, h1, g0, g1, g2, z_nlt (z_out g0 g1 g2)]
  by_cases h2 : (xs 1) < 0
  · simp +decide [f_law_c16, f_L_span_0_39, f_X10_span_0_J18, f_X10_span_0, f_X10_needChain_0, f_X1_begun_10, f_X11_span_0_J102, f_X11_span_0_J45, f_X11_span_0_J23, f_X11_span_0_J18, f_X11_span_0_J22, f_X11_span_0_J9, f_X11_span_0, f_X11_thrown_0, fd_sI, fd_sA, fd_sL, fd_up, upd, vp_updL, fd_mix, lg_cmp, zMA, zCA, zML, zCL, zC_0, zC_1, zC_2, zC_3, zC_4, zC_5, zC_6, zC_7, zC_8, zC_9, zC_10, zC_11, zC_12, zC_13, zC_14, zC_15, zC_16, zC_17, zC_18, zC_19, zM_0, zM_1, zM_2, zM_3, zM_4, zM_5, zM_6, zM_7, zM_8, zM_9, zM_10, zM_11, zM_12, zM_13, zM_14, fd_ltE, fd_bdE, fd_bxL, fd_bxR, fd_gdT z_v0, fd_gdT z_v1, fd_gdT z_v2, fd_gdT z_v3, fd_gdT z_v4, fd_gdT z_v5, fd_gdT z_v200, fd_mix_self, z_has, z_isIn, z_need, z_hasFault, z_needO, z_7, z_6, z_nearL2, z_spanL2, hK, h0, h1, h2]
  simp +decide [f_law_c16, f_L_span_0_39, f_X10_span_0_J18, f_X10_span_0, f_X10_needChain_0, f_X1_begun_10, f_X11_span_0_J102, f_X11_span_0_J45, f_X11_span_0_J23, f_X11_span_0_J18, f_X11_span_0_J22, f_X11_span_0_J9, f_X11_span_0, f_X11_thrown_0, fd_sI, fd_sA, fd_sL, fd_up, upd, vp_updL, fd_mix, lg_cmp, zMA, zCA, zML, zCL, zC_0, zC_1, zC_2, zC_3, zC_4, zC_5, zC_6, zC_7, zC_8, zC_9, zC_10, zC_11, zC_12, zC_13, zC_14, zC_15, zC_16, zC_17, zC_18, zC_19, zM_0, zM_1, zM_2, zM_3, zM_4, zM_5, zM_6, zM_7, zM_8, zM_9, zM_10, zM_11, zM_12, zM_13, zM_14, fd_ltE, fd_bdE, fd_bxL, fd_bxR, fd_gdT z_v0, fd_gdT z_v1, fd_gdT z_v2, fd_gdT z_v3, fd_gdT z_v4, fd_gdT z_v5, fd_gdT z_v200, fd_mix_self, z_has, z_isIn, z_need, z_hasFault, z_needO, z_7, z_6, z_nearL2, z_spanL2, hK, h0, h1, h2, z_out h0 h1 h2]
set_option maxHeartbeats 4000000 in
theorem z_c17 (M : Nat) (xs : Nat → Int32) (K : Int32 → fd_St → fd_St → Option Int32) (hK : ∀ σ μ, K 6 σ μ = some 1) : f_law_c17 (M + 201) 6 xs K 0 fd_s0C fd_s0M = some 1 := by
  simp +decide [f_law_c17, f_L_shape_0_39, f_X10_shape_0_J45, f_X10_shape_0, f_X11_shape_0_J191, f_X11_shape_0_J82, f_X11_shape_0_J41, f_X11_shape_0_J40, f_X11_shape_0, f_X11_thrown_0, fd_sI, fd_sA, fd_sL, fd_up, upd, vp_updL, fd_mix, lg_cmp, zMA, zCA, zML, zCL, zC_0, zC_1, zC_2, zC_3, zC_4, zC_5, zC_6, zC_7, zC_8, zC_9, zC_10, zC_11, zC_12, zC_13, zC_14, zC_15, zC_16, zC_17, zC_18, zC_19, zM_0, zM_1, zM_2, zM_3, zM_4, zM_5, zM_6, zM_7, zM_8, zM_9, zM_10, zM_11, zM_12, zM_13, zM_14, fd_ltE, fd_bdE, fd_bxL, fd_bxR, fd_gdT z_v0, fd_gdT z_v1, fd_gdT z_v2, fd_gdT z_v3, fd_gdT z_v4, fd_gdT z_v5, fd_gdT z_v200, fd_mix_self, z_has, z_isIn, z_need, z_hasFault, z_needO, z_7, z_6, z_nearL2, z_spanL2, hK]
set_option maxHeartbeats 4000000 in
theorem z_c18 (M : Nat) (xs : Nat → Int32) (K : Int32 → fd_St → fd_St → Option Int32) (hK : ∀ σ μ, K 6 σ μ = some 1) : f_law_c18 (M + 201) 6 xs K 0 fd_s0C fd_s0M = some 1 := by
  simp +decide [f_law_c18, f_L_area_0_39, f_X10_area_0, f_X11_area_0_J31, f_X11_area_0_J26, f_X11_area_0, f_X11_thrown_0, fd_sI, fd_sA, fd_sL, fd_up, upd, vp_updL, fd_mix, lg_cmp, zMA, zCA, zML, zCL, zC_0, zC_1, zC_2, zC_3, zC_4, zC_5, zC_6, zC_7, zC_8, zC_9, zC_10, zC_11, zC_12, zC_13, zC_14, zC_15, zC_16, zC_17, zC_18, zC_19, zM_0, zM_1, zM_2, zM_3, zM_4, zM_5, zM_6, zM_7, zM_8, zM_9, zM_10, zM_11, zM_12, zM_13, zM_14, fd_ltE, fd_bdE, fd_bxL, fd_bxR, fd_gdT z_v0, fd_gdT z_v1, fd_gdT z_v2, fd_gdT z_v3, fd_gdT z_v4, fd_gdT z_v5, fd_gdT z_v200, fd_mix_self, z_has, z_isIn, z_need, z_hasFault, z_needO, z_7, z_6, z_nearL2, z_spanL2, hK]
set_option maxHeartbeats 4000000 in
theorem z_c19 (M : Nat) (xs : Nat → Int32) (K : Int32 → fd_St → fd_St → Option Int32) (hK : ∀ σ μ, K 6 σ μ = some 1) : f_law_c19 (M + 201) 6 xs K 0 fd_s0C fd_s0M = some 1 := by
  simp +decide [f_law_c19, f_L_common_0_39, f_X10_common_0, f_X11_common_0_J42, f_X11_common_0_J23, f_X11_common_0_J37, f_X11_common_0, f_X11_thrown_0, fd_sI, fd_sA, fd_sL, fd_up, upd, vp_updL, fd_mix, lg_cmp, zMA, zCA, zML, zCL, zC_0, zC_1, zC_2, zC_3, zC_4, zC_5, zC_6, zC_7, zC_8, zC_9, zC_10, zC_11, zC_12, zC_13, zC_14, zC_15, zC_16, zC_17, zC_18, zC_19, zM_0, zM_1, zM_2, zM_3, zM_4, zM_5, zM_6, zM_7, zM_8, zM_9, zM_10, zM_11, zM_12, zM_13, zM_14, fd_ltE, fd_bdE, fd_bxL, fd_bxR, fd_gdT z_v0, fd_gdT z_v1, fd_gdT z_v2, fd_gdT z_v3, fd_gdT z_v4, fd_gdT z_v5, fd_gdT z_v200, fd_mix_self, z_has, z_isIn, z_need, z_hasFault, z_needO, z_7, z_6, z_nearL2, z_spanL2, hK]
set_option maxHeartbeats 4000000 in
theorem z_c20 (M : Nat) (xs : Nat → Int32) (K : Int32 → fd_St → fd_St → Option Int32) (hK : ∀ σ μ, K 6 σ μ = some 1) : f_law_c20 (M + 201) 6 xs K 0 fd_s0C fd_s0M = some 1 := by
  by_cases h0 : (xs 1) = 0
  · simp +decide [f_law_c20, f_L_count_0_39, f_X10_count_0, f_X2_nets_1, f_X2_inputs_1, f_X5_size_2, f_X4_size_3, f_X6_size_11, f_X2_patternCount_1, f_X1_rows_10, f_X7_chips_9, f_X11_count_0_J15, f_X11_count_0, f_X11_thrown_0, fd_sI, fd_sA, fd_sL, fd_up, upd, vp_updL, fd_mix, lg_cmp, zMA, zCA, zML, zCL, zC_0, zC_1, zC_2, zC_3, zC_4, zC_5, zC_6, zC_7, zC_8, zC_9, zC_10, zC_11, zC_12, zC_13, zC_14, zC_15, zC_16, zC_17, zC_18, zC_19, zM_0, zM_1, zM_2, zM_3, zM_4, zM_5, zM_6, zM_7, zM_8, zM_9, zM_10, zM_11, zM_12, zM_13, zM_14, fd_ltE, fd_bdE, fd_bxL, fd_bxR, fd_gdT z_v0, fd_gdT z_v1, fd_gdT z_v2, fd_gdT z_v3, fd_gdT z_v4, fd_gdT z_v5, fd_gdT z_v200, fd_mix_self, z_has, z_need, z_hasFault, z_needO, z_7, z_6, z_nearL2, z_spanL2, hK, f_X11_isIn, h0]
  by_cases h1 : (xs 1) = 1
  · simp +decide [f_law_c20, f_L_count_0_39, f_X10_count_0, f_X2_nets_1, f_X2_inputs_1, f_X5_size_2, f_X4_size_3, f_X6_size_11, f_X2_patternCount_1, f_X1_rows_10, f_X7_chips_9, f_X11_count_0_J15, f_X11_count_0, f_X11_thrown_0, fd_sI, fd_sA, fd_sL, fd_up, upd, vp_updL, fd_mix, lg_cmp, zMA, zCA, zML, zCL, zC_0, zC_1, zC_2, zC_3, zC_4, zC_5, zC_6, zC_7, zC_8, zC_9, zC_10, zC_11, zC_12, zC_13, zC_14, zC_15, zC_16, zC_17, zC_18, zC_19, zM_0, zM_1, zM_2, zM_3, zM_4, zM_5, zM_6, zM_7, zM_8, zM_9, zM_10, zM_11, zM_12, zM_13, zM_14, fd_ltE, fd_bdE, fd_bxL, fd_bxR, fd_gdT z_v0, fd_gdT z_v1, fd_gdT z_v2, fd_gdT z_v3, fd_gdT z_v4, fd_gdT z_v5, fd_gdT z_v200, fd_mix_self, z_has, z_need, z_hasFault, z_needO, z_7, z_6, z_nearL2, z_spanL2, hK, f_X11_isIn, h0, h1]
  by_cases h2 : (xs 1) = 2
  · simp +decide [f_law_c20, f_L_count_0_39, f_X10_count_0, f_X2_nets_1, f_X2_inputs_1, f_X5_size_2, f_X4_size_3, f_X6_size_11, f_X2_patternCount_1, f_X1_rows_10, f_X7_chips_9, f_X11_count_0_J15, f_X11_count_0, f_X11_thrown_0, fd_sI, fd_sA, fd_sL, fd_up, upd, vp_updL, fd_mix, lg_cmp, zMA, zCA, zML, zCL, zC_0, zC_1, zC_2, zC_3, zC_4, zC_5, zC_6, zC_7, zC_8, zC_9, zC_10, zC_11, zC_12, zC_13, zC_14, zC_15, zC_16, zC_17, zC_18, zC_19, zM_0, zM_1, zM_2, zM_3, zM_4, zM_5, zM_6, zM_7, zM_8, zM_9, zM_10, zM_11, zM_12, zM_13, zM_14, fd_ltE, fd_bdE, fd_bxL, fd_bxR, fd_gdT z_v0, fd_gdT z_v1, fd_gdT z_v2, fd_gdT z_v3, fd_gdT z_v4, fd_gdT z_v5, fd_gdT z_v200, fd_mix_self, z_has, z_need, z_hasFault, z_needO, z_7, z_6, z_nearL2, z_spanL2, hK, f_X11_isIn, h0, h1, h2]
  by_cases h3 : (xs 1) = 3
  · simp +decide [f_law_c20, f_L_count_0_39, f_X10_count_0, f_X2_nets_1, f_X2_inputs_1, f_X5_size_2, f_X4_size_3, f_X6_size_11, f_X2_patternCount_1, f_X1_rows_10, f_X7_chips_9, f_X11_count_0_J15, f_X11_count_0, f_X11_thrown_0, fd_sI, fd_sA, fd_sL, fd_up, upd, vp_updL, fd_mix, lg_cmp, zMA, zCA, zML, zCL, zC_0, zC_1, zC_2, zC_3, zC_4, zC_5, zC_6, zC_7, zC_8, zC_9, zC_10, zC_11, zC_12, zC_13, zC_14, zC_15, zC_16, zC_17, zC_18, zC_19, zM_0, zM_1, zM_2, zM_3, zM_4, zM_5, zM_6, zM_7, zM_8, zM_9, zM_10, zM_11, zM_12, zM_13, zM_14, fd_ltE, fd_bdE, fd_bxL, fd_bxR, fd_gdT z_v0, fd_gdT z_v1, fd_gdT z_v2, fd_gdT z_v3, fd_gdT z_v4, fd_gdT z_v5, fd_gdT z_v200, fd_mix_self, z_has, z_need, z_hasFault, z_needO, z_7, z_6, z_nearL2, z_spanL2, hK, f_X11_isIn, h0, h1, h2, h3]
  by_cases h4 : (xs 1) = 4
  · simp +decide [f_law_c20, f_L_count_0_39, f_X10_count_0, f_X2_nets_1, f_X2_inputs_1, f_X5_size_2, f_X4_size_3, f_X6_size_11, f_X2_patternCount_1, f_X1_rows_10, f_X7_chips_9, f_X11_count_0_J15, f_X11_count_0, f_X11_thrown_0, fd_sI, fd_sA, fd_sL, fd_up, upd, vp_updL, fd_mix, lg_cmp, zMA, zCA, zML, zCL, zC_0, zC_1, zC_2, zC_3, zC_4, zC_5, zC_6, zC_7, zC_8, zC_9, zC_10, zC_11, zC_12, zC_13, zC_14, zC_15, zC_16, zC_17, zC_18, zC_19, zM_0, zM_1, zM_2, zM_3, zM_4, zM_5, zM_6, zM_7, zM_8, zM_9, zM_10, zM_11, zM_12, zM_13, zM_14, fd_ltE, fd_bdE, fd_bxL, fd_bxR, fd_gdT z_v0, fd_gdT z_v1, fd_gdT z_v2, fd_gdT z_v3, fd_gdT z_v4, fd_gdT z_v5, fd_gdT z_v200, fd_mix_self, z_has, z_need, z_hasFault, z_needO, z_7, z_6, z_nearL2, z_spanL2, hK, f_X11_isIn, h0, h1, h2, h3, h4]
  by_cases h5 : (xs 1) = 5
  · simp +decide [f_law_c20, f_L_count_0_39, f_X10_count_0, f_X2_nets_1, f_X2_inputs_1, f_X5_size_2, f_X4_size_3, f_X6_size_11, f_X2_patternCount_1, f_X1_rows_10, f_X7_chips_9, f_X11_count_0_J15, f_X11_count_0, f_X11_thrown_0, fd_sI, fd_sA, fd_sL, fd_up, upd, vp_updL, fd_mix, lg_cmp, zMA, zCA, zML, zCL, zC_0, zC_1, zC_2, zC_3, zC_4, zC_5, zC_6, zC_7, zC_8, zC_9, zC_10, zC_11, zC_12, zC_13, zC_14, zC_15, zC_16, zC_17, zC_18, zC_19, zM_0, zM_1, zM_2, zM_3, zM_4, zM_5, zM_6, zM_7, zM_8, zM_9, zM_10, zM_11, zM_12, zM_13, zM_14, fd_ltE, fd_bdE, fd_bxL, fd_bxR, fd_gdT z_v0, fd_gdT z_v1, fd_gdT z_v2, fd_gdT z_v3, fd_gdT z_v4, fd_gdT z_v5, fd_gdT z_v200, fd_mix_self, z_has, z_need, z_hasFault, z_needO, z_7, z_6, z_nearL2, z_spanL2, hK, f_X11_isIn, h0, h1, h2, h3, h4, h5]
  by_cases h6 : (xs 1) = 6
  · simp +decide [f_law_c20, f_L_count_0_39, f_X10_count_0, f_X2_nets_1, f_X2_inputs_1, f_X5_size_2, f_X4_size_3, f_X6_size_11, f_X2_patternCount_1, f_X1_rows_10, f_X7_chips_9, f_X11_count_0_J15, f_X11_count_0, f_X11_thrown_0, fd_sI, fd_sA, fd_sL, fd_up, upd, vp_updL, fd_mix, lg_cmp, zMA, zCA, zML, zCL, zC_0, zC_1, zC_2, zC_3, zC_4, zC_5, zC_6, zC_7, zC_8, zC_9, zC_10, zC_11, zC_12, zC_13, zC_14, zC_15, zC_16, zC_17, zC_18, zC_19, zM_0, zM_1, zM_2, zM_3, zM_4, zM_5, zM_6, zM_7, zM_8, zM_9, zM_10, zM_11, zM_12, zM_13, zM_14, fd_ltE, fd_bdE, fd_bxL, fd_bxR, fd_gdT z_v0, fd_gdT z_v1, fd_gdT z_v2, fd_gdT z_v3, fd_gdT z_v4, fd_gdT z_v5, fd_gdT z_v200, fd_mix_self, z_has, z_need, z_hasFault, z_needO, z_7, z_6, z_nearL2, z_spanL2, hK, f_X11_isIn, h0, h1, h2, h3, h4, h5, h6]
  by_cases h7 : (xs 1) = 7
  · simp +decide [f_law_c20, f_L_count_0_39, f_X10_count_0, f_X2_nets_1, f_X2_inputs_1, f_X5_size_2, f_X4_size_3, f_X6_size_11, f_X2_patternCount_1, f_X1_rows_10, f_X7_chips_9, f_X11_count_0_J15, f_X11_count_0, f_X11_thrown_0, fd_sI, fd_sA, fd_sL, fd_up, upd, vp_updL, fd_mix, lg_cmp, zMA, zCA, zML, zCL, zC_0, zC_1, zC_2, zC_3, zC_4, zC_5, zC_6, zC_7, zC_8, zC_9, zC_10, zC_11, zC_12, zC_13, zC_14, zC_15, zC_16, zC_17, zC_18, zC_19, zM_0, zM_1, zM_2, zM_3, zM_4, zM_5, zM_6, zM_7, zM_8, zM_9, zM_10, zM_11, zM_12, zM_13, zM_14, fd_ltE, fd_bdE, fd_bxL, fd_bxR, fd_gdT z_v0, fd_gdT z_v1, fd_gdT z_v2, fd_gdT z_v3, fd_gdT z_v4, fd_gdT z_v5, fd_gdT z_v200, fd_mix_self, z_has, z_need, z_hasFault, z_needO, z_7, z_6, z_nearL2, z_spanL2, hK, f_X11_isIn, h0, h1, h2, h3, h4, h5, h6, h7]
  by_cases h8 : (xs 1) = 8
  · simp +decide [f_law_c20, f_L_count_0_39, f_X10_count_0, f_X2_nets_1, f_X2_inputs_1, f_X5_size_2, f_X4_size_3, f_X6_size_11, f_X2_patternCount_1, f_X1_rows_10, f_X7_chips_9, f_X11_count_0_J15, f_X11_count_0, f_X11_thrown_0, fd_sI, fd_sA, fd_sL, fd_up, upd, vp_updL, fd_mix, lg_cmp, zMA, zCA, zML, zCL, zC_0, zC_1, zC_2, zC_3, zC_4, zC_5, zC_6, zC_7, zC_8, zC_9, zC_10, zC_11, zC_12, zC_13, zC_14, zC_15, zC_16, zC_17, zC_18, zC_19, zM_0, zM_1, zM_2, zM_3, zM_4, zM_5, zM_6, zM_7, zM_8, zM_9, zM_10, zM_11, zM_12, zM_13, zM_14, fd_ltE, fd_bdE, fd_bxL, fd_bxR, fd_gdT z_v0, fd_gdT z_v1, fd_gdT z_v2, fd_gdT z_v3, fd_gdT z_v4, fd_gdT z_v5, fd_gdT z_v200, fd_mix_self, z_has, z_need, z_hasFault, z_needO, z_7, z_6, z_nearL2, z_spanL2, hK, f_X11_isIn, h0, h1, h2, h3, h4, h5, h6, h7, h8]
  by_cases hn : (xs 1) < 0
  · simp +decide [f_law_c20, f_L_count_0_39, f_X10_count_0, f_X2_nets_1, f_X2_inputs_1, f_X5_size_2, f_X4_size_3, f_X6_size_11, f_X2_patternCount_1, f_X1_rows_10, f_X7_chips_9, f_X11_count_0_J15, f_X11_count_0, f_X11_thrown_0, fd_sI, fd_sA, fd_sL, fd_up, upd, vp_updL, fd_mix, lg_cmp, zMA, zCA, zML, zCL, zC_0, zC_1, zC_2, zC_3, zC_4, zC_5, zC_6, zC_7, zC_8, zC_9, zC_10, zC_11, zC_12, zC_13, zC_14, zC_15, zC_16, zC_17, zC_18, zC_19, zM_0, zM_1, zM_2, zM_3, zM_4, zM_5, zM_6, zM_7, zM_8, zM_9, zM_10, zM_11, zM_12, zM_13, zM_14, fd_ltE, fd_bdE, fd_bxL, fd_bxR, fd_gdT z_v0, fd_gdT z_v1, fd_gdT z_v2, fd_gdT z_v3, fd_gdT z_v4, fd_gdT z_v5, fd_gdT z_v200, fd_mix_self, z_has, z_need, z_hasFault, z_needO, z_7, z_6, z_nearL2, z_spanL2, hK, f_X11_isIn, hn, h0, h1, h2, h3, h4, h5, h6, h7, h8]
  simp +decide [f_law_c20, f_L_count_0_39, f_X10_count_0, f_X2_nets_1, f_X2_inputs_1, f_X5_size_2, f_X4_size_3, f_X6_size_11, f_X2_patternCount_1, f_X1_rows_10, f_X7_chips_9, f_X11_count_0_J15, f_X11_count_0, f_X11_thrown_0, fd_sI, fd_sA, fd_sL, fd_up, upd, vp_updL, fd_mix, lg_cmp, zMA, zCA, zML, zCL, zC_0, zC_1, zC_2, zC_3, zC_4, zC_5, zC_6, zC_7, zC_8, zC_9, zC_10, zC_11, zC_12, zC_13, zC_14, zC_15, zC_16, zC_17, zC_18, zC_19, zM_0, zM_1, zM_2, zM_3, zM_4, zM_5, zM_6, zM_7, zM_8, zM_9, zM_10, zM_11, zM_12, zM_13, zM_14, fd_ltE, fd_bdE, fd_bxL, fd_bxR, fd_gdT z_v0, fd_gdT z_v1, fd_gdT z_v2, fd_gdT z_v3, fd_gdT z_v4, fd_gdT z_v5, fd_gdT z_v200, fd_mix_self, z_has, z_need, z_hasFault, z_needO, z_7, z_6, z_nearL2, z_spanL2, hK, f_X11_isIn, hn, h0, h1, h2, h3, h4, h5, h6, h7, h8, z_9 (b := (xs 1)) (by intro k hk; simp at hk; rcases hk with rfl | rfl | rfl | rfl | rfl | rfl | rfl | rfl | rfl <;> assumption) hn]
set_option maxHeartbeats 4000000 in
theorem z_c21 (M : Nat) (xs : Nat → Int32) (K : Int32 → fd_St → fd_St → Option Int32) (hK : ∀ σ μ, K 6 σ μ = some 1) : f_law_c21 (M + 201) 6 xs K 0 fd_s0C fd_s0M = some 1 := by
  have e6 : (0 : Int32) + 6 = 6 := by decide
  simp only [f_law_c21, f_X10_clear_0, f_X2_forget_1, f_X5_forget_2, f_X4_forget_3, f_X7_forget_9, f_X1_forget_10, f_X6_forget_11, f_X11_thrown_0, e6, fd_ltE, fd_bdE, fd_sI_self fd_s0C 0 0 rfl, fd_sI_self fd_s0C 1 0 rfl, fd_sI_self fd_s0C 2 0 rfl, fd_sI_self fd_s0C 3 0 rfl, fd_sI_self fd_s0C 4 0 rfl, fd_sI_self fd_s0C 5 0 rfl, fd_sI_self fd_s0C 6 0 rfl, fd_sI_self fd_s0C 9 0 rfl, fd_sI_self fd_s0C 10 0 rfl, fd_sI_self fd_s0C 11 0 rfl, fd_sI_self fd_s0C 12 0 rfl, fd_sI_self fd_s0C 13 0 rfl, fd_sI_self fd_s0C 14 0 rfl, fd_sI_self fd_s0C 15 0 rfl, fd_sI_self fd_s0C 16 0 rfl, fd_sI_self fd_s0C 17 0 rfl, fd_sI_self fd_s0C 18 0 rfl, fd_sI_self fd_s0C 19 0 rfl, z_fill (M + 201) (by omega), z_clear (M + 201) (by omega), fd_mix_self, hK]
