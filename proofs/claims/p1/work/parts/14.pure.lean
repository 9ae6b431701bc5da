theorem fd_up_self {α : Type} (f : Nat → α) (k : Nat) (v : α) (h : f k = v) : fd_up f k v = f := by
  funext j
  unfold fd_up
  by_cases e : j = k
  · rw [if_pos e, e, h]
  · rw [if_neg e]
theorem fd_upd_self (f : Nat → Int32) (k : Nat) (v : Int32) (h : f k = v) : upd f k v = f := by
  funext j
  unfold upd
  by_cases e : j = k
  · rw [if_pos e, e, h]
  · rw [if_neg e]
theorem fd_sI_self (σ : fd_St) (k : Nat) (v : Int32) (h : σ.1 k = v) : fd_sI k v σ = σ := by
  unfold fd_sI; rw [fd_up_self _ _ _ h]
theorem fd_sA_self (σ : fd_St) (k : Nat) (i v : Int32) (h : σ.2.1 k i.toNatClampNeg = v) : fd_sA k i v σ = σ := by
  unfold fd_sA; rw [fd_upd_self _ _ _ h, fd_up_self _ _ _ rfl]
theorem fd_mix_self (σ : fd_St) : fd_mix σ σ = σ := by unfold fd_mix; rw [fd_up_self _ _ _ rfl]
theorem fd_gdT {β : Type} {p : Prop} {t : Option β} (h : p) : fd_gd p t = t := fd_gdp h
theorem fd_ltE {α β : Type} (x : α) (f : α → Option β) : fd_lt x f = f x := rfl
theorem fd_bdE {α β : Type} (v : α) (σ : fd_St) (f : α → fd_St → Option β) : fd_bd (some (v, σ)) f = f v σ := rfl
theorem fd_bxL {α β : Type} (v : α) (σ : fd_St) (f : α → fd_St → Option β) (g : String → fd_St → Option β) : fd_bx (some (.inl v, σ)) f g = f v σ := rfl
theorem fd_bxR {α β : Type} (E : String) (σ : fd_St) (f : α → fd_St → Option β) (g : String → fd_St → Option β) : fd_bx (some (.inr E, σ)) f g = g E σ := rfl
theorem z_vp {i : Nat} {n : Nat} (h : i < n) (hn : n < 2 ^ 31) : vp_in (nI i) n := vp_in_nI h hn
theorem z_clearL (N : Nat) : ∀ (n i : Nat), i ≤ 200 → 200 < i + n → f_X11_clear_0_L57 N n (nI i) fd_s0M = some ((), fd_s0M) := by
  intro n
  induction n with
  | zero => intro i h1 h2; omega
  | succ n ih =>
    intro i h1 h2
    unfold f_X11_clear_0_L57
    by_cases h : i = 200
    · subst h; rw [if_pos (by decide)]
    · have hlt : i < 200 := by omega
      rw [if_neg (by
        intro q
        have := Int32.le_iff_toInt_le.mp q
        rw [nI_toInt (by omega)] at this
        have e : (200 : Int32).toInt = 200 := by decide
        omega), fd_gdT (vp_in_nI hlt (by decide)), fd_ltE, fd_ltE, fd_sA_self fd_s0M 19 (nI i) 0 rfl]
      have e : nI i + 1 = nI (i + 1) := nI_1 i
      rw [e]
      exact ih (i + 1) (by omega) (by omega)
theorem z_clear (N : Nat) (h : 200 < N) : f_X11_clear_0 N fd_s0M = some ((), fd_s0M) := by
  unfold f_X11_clear_0
  simp only [fd_ltE, fd_sI_self fd_s0M _ 0 rfl]
  exact z_clearL N N 0 (by omega) (by omega)
theorem z_end (N : Nat) (xs : Nat → Int32) (σ μ : fd_St) : f_law N 6 xs 1 6 σ μ = some 1 := by
  unfold f_law
  rw [if_pos (by decide)]
