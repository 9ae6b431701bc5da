theorem z_law (M L : Nat) (xs : Nat → Int32) (hL : L ≤ 6) : f_law (M + 201) L xs 2 0 fd_s0C fd_s0M = some 1 := by
  by_cases h6 : L = 6
  · subst h6
    unfold f_law
    rw [if_neg (by decide), fd_gdT (show vp_in (0 : Int32) 6 by unfold vp_in; decide), fd_ltE]
    have hK : ∀ σ μ, f_law (M + 201) 6 xs 1 6 σ μ = some 1 := fun σ μ => z_end _ _ _ _
    by_cases d0 : (xs (0 : Int32).toNatClampNeg &&& 31) = (0 : Int32)
    · rw [if_pos d0]; exact z_c0 M xs _ hK
    rw [if_neg d0]
    by_cases d1 : (xs (0 : Int32).toNatClampNeg &&& 31) = (1 : Int32)
    · rw [if_pos d1]; exact z_c1 M xs _ hK
    rw [if_neg d1]
    by_cases d2 : (xs (0 : Int32).toNatClampNeg &&& 31) = (2 : Int32)
    · rw [if_pos d2]; exact z_c2 M xs _ hK
    rw [if_neg d2]
    by_cases d3 : (xs (0 : Int32).toNatClampNeg &&& 31) = (3 : Int32)
    · rw [if_pos d3]; exact z_c3 M xs _ hK
    rw [if_neg d3]
    by_cases d4 : (xs (0 : Int32).toNatClampNeg &&& 31) = (4 : Int32)
    · rw [if_pos d4]; exact z_c4 M xs _ hK
    rw [if_neg d4]
    by_cases d5 : (xs (0 : Int32).toNatClampNeg &&& 31) = (5 : Int32)
    · rw [if_pos d5]; exact z_c5 M xs _ hK
    rw [if_neg d5]
    by_cases d6 : (xs (0 : Int32).toNatClampNeg &&& 31) = (6 : Int32)
    · rw [if_pos d6]; exact z_c6 M xs _ hK
    rw [if_neg d6]
    by_cases d7 : (xs (0 : Int32).toNatClampNeg &&& 31) = (7 : Int32)
    · rw [if_pos d7]; exact z_c7 M xs _ hK
    rw [if_neg d7]
    by_cases d8 : (xs (0 : Int32).toNatClampNeg &&& 31) = (8 : Int32)
    · rw [if_pos d8]; exact z_c8 M xs _ hK
    rw [if_neg d8]
    by_cases d9 : (xs (0 : Int32).toNatClampNeg &&& 31) = (9 : Int32)
    · rw [if_pos d9]; exact z_c9 M xs _ hK
    rw [if_neg d9]
    by_cases d10 : (xs (0 : Int32).toNatClampNeg &&& 31) = (10 : Int32)
    · rw [if_pos d10]; exact z_c10 M xs _ hK
    rw [if_neg d10]
    by_cases d11 : (xs (0 : Int32).toNatClampNeg &&& 31) = (11 : Int32)
    · rw [if_pos d11]; exact z_c11 M xs _ hK
    rw [if_neg d11]
    by_cases d12 : (xs (0 : Int32).toNatClampNeg &&& 31) = (12 : Int32)
    · rw [if_pos d12]; exact z_c12 M xs _ hK
    rw [if_neg d12]
    by_cases d13 : (xs (0 : Int32).toNatClampNeg &&& 31) = (13 : Int32)
    · rw [if_pos d13]; exact z_c13 M xs _ hK
    rw [if_neg d13]
    by_cases d14 : (xs (0 : Int32).toNatClampNeg &&& 31) = (14 : Int32)
    · rw [if_pos d14]; exact z_c14 M xs _ hK
    rw [if_neg d14]
    by_cases d15 : (xs (0 : Int32).toNatClampNeg &&& 31) = (15 : Int32)
    · rw [if_pos d15]; exact z_c15 M xs _ hK
    rw [if_neg d15]
    by_cases d16 : (xs (0 : Int32).toNatClampNeg &&& 31) = (16 : Int32)
    · rw [if_pos d16]; exact z_c16 M xs _ hK
    rw [if_neg d16]
    by_cases d17 : (xs (0 : Int32).toNatClampNeg &&& 31) = (17 : Int32)
    · rw [if_pos d17]; exact z_c17 M xs _ hK
    rw [if_neg d17]
    by_cases d18 : (xs (0 : Int32).toNatClampNeg &&& 31) = (18 : Int32)
    · rw [if_pos d18]; exact z_c18 M xs _ hK
    rw [if_neg d18]
    by_cases d19 : (xs (0 : Int32).toNatClampNeg &&& 31) = (19 : Int32)
    · rw [if_pos d19]; exact z_c19 M xs _ hK
    rw [if_neg d19]
    by_cases d20 : (xs (0 : Int32).toNatClampNeg &&& 31) = (20 : Int32)
    · rw [if_pos d20]; exact z_c20 M xs _ hK
    rw [if_neg d20]
    by_cases d21 : (xs (0 : Int32).toNatClampNeg &&& 31) = (21 : Int32)
    · rw [if_pos d21]; exact z_c21 M xs _ hK
    rw [if_neg d21]
    rw [fd_ltE]
    exact hK _ _
  · unfold f_law
    rw [if_pos]
    rcases (show L = 0 ∨ L = 1 ∨ L = 2 ∨ L = 3 ∨ L = 4 ∨ L = 5 by omega) with rfl | rfl | rfl | rfl | rfl | rfl <;> decide
theorem whole_start {p : Program} {e : Env} {s : State} {m : MethodId} {below : List Frame} {meth : Method} {c : Code} (l : Launch) (hl9 : l.stackTraces = false) {b L : Nat} {xs : Nat → Int32} (hL : L ≤ 6) (C0 : lw_At p s m meth c b L xs) : W p l e room_1 s m #[Value.ref b] below meth c s.heap [] 0 0 (lw_Z below #[Value.ref b] s) (entryFrame m ([Value.ref b] : List Value).toArray 8) :=
  whole_walk l hl9 C0 201 2 fd_s0M (z_clear 201 (by decide)) (by decide) (by decide) (z_law 0 L xs hL)
