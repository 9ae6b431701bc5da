/-- sums over stretches of whole numbers -/
def fd_sm (f : Int → Int) (lo : Int) : Nat → Int
  | 0 => 0
  | n + 1 => fd_sm f lo n + f (lo + (n : Int))
theorem fd_sm_congr {f g : Int → Int} {lo : Int} : ∀ n, (∀ k : Nat, k < n → f (lo + (k : Int)) = g (lo + (k : Int))) → fd_sm f lo n = fd_sm g lo n := by
  intro n
  induction n with
  | zero => intro _; rfl
  | succ n ih =>
    intro h
    show fd_sm f lo n + _ = fd_sm g lo n + _
    rw [ih (fun k hk => h k (by omega)), h n (by omega)]
theorem fd_sm_app {f : Int → Int} {lo : Int} (m : Nat) : ∀ n, fd_sm f lo (m + n) = fd_sm f lo m + fd_sm f (lo + (m : Int)) n := by
  intro n
  induction n with
  | zero => show fd_sm f lo m = fd_sm f lo m + 0; omega
  | succ n ih =>
    show fd_sm f lo (m + n) + f (lo + ((m + n : Nat) : Int)) = fd_sm f lo m + (fd_sm f (lo + (m : Int)) n + f (lo + (m : Int) + (n : Int)))
    have e : lo + ((m + n : Nat) : Int) = lo + (m : Int) + (n : Int) := by omega
    rw [ih, e]; omega
theorem fd_sm_const {f : Int → Int} {lo c : Int} : ∀ n : Nat, (∀ k : Nat, k < n → f (lo + (k : Int)) = c) → fd_sm f lo n = (n : Int) * c := by
  intro n
  induction n with
  | zero => intro _; show (0 : Int) = ((0 : Nat) : Int) * c; rw [Int.natCast_zero, Int.zero_mul]
  | succ n ih =>
    intro h
    show fd_sm f lo n + f (lo + (n : Int)) = _
    rw [ih (fun k hk => h k (by omega)), h n (by omega)]
    have e : ((n + 1 : Nat) : Int) = (n : Int) + 1 := by omega
    rw [e, Int.add_mul, Int.one_mul]
theorem fd_sm_add {f g : Int → Int} {lo : Int} : ∀ n, fd_sm (fun x => f x + g x) lo n = fd_sm f lo n + fd_sm g lo n := by
  intro n
  induction n with
  | zero => rfl
  | succ n ih =>
    show fd_sm (fun x => f x + g x) lo n + (f (lo + (n : Int)) + g (lo + (n : Int))) = (fd_sm f lo n + f (lo + (n : Int))) + (fd_sm g lo n + g (lo + (n : Int)))
    rw [ih]; omega
theorem fd_sm_sub {f g : Int → Int} {lo : Int} : ∀ n, fd_sm (fun x => f x - g x) lo n = fd_sm f lo n - fd_sm g lo n := by
  intro n
  induction n with
  | zero => rfl
  | succ n ih =>
    show fd_sm (fun x => f x - g x) lo n + (f (lo + (n : Int)) - g (lo + (n : Int))) = (fd_sm f lo n + f (lo + (n : Int))) - (fd_sm g lo n + g (lo + (n : Int)))
    rw [ih]; omega
/-- the sum from a to b -/
def fd_rs (f : Int → Int) (a b : Int) : Int := fd_sm f a (b - a).toNat
theorem fd_rs_app {f : Int → Int} {a b c : Int} (h1 : a ≤ b) (h2 : b ≤ c) : fd_rs f a c = fd_rs f a b + fd_rs f b c := by
  unfold fd_rs
  have e : (c - a).toNat = (b - a).toNat + (c - b).toNat := by omega
  have e2 : a + ((b - a).toNat : Int) = b := by omega
  rw [e, fd_sm_app, e2]
theorem fd_rs_const {f : Int → Int} {a b c : Int} (h : a ≤ b) (hf : ∀ x, a ≤ x → x < b → f x = c) : fd_rs f a b = (b - a) * c := by
  unfold fd_rs
  have e : ((b - a).toNat : Int) = b - a := by omega
  rw [fd_sm_const (c := c) _ (fun k hk => hf _ (by omega) (by omega)), e]
theorem fd_rs_congr {f g : Int → Int} {a b : Int} (hf : ∀ x, a ≤ x → x < b → f x = g x) : fd_rs f a b = fd_rs g a b := by
  unfold fd_rs
  exact fd_sm_congr _ (fun k hk => hf _ (by omega) (by omega))
theorem fd_rs_self {f : Int → Int} {a : Int} : fd_rs f a a = 0 := by
  unfold fd_rs
  rw [Int.sub_self]; rfl
/-- strips between edges -/
def fd_ps (e : Nat → Int) (f : Int → Int) : Nat → Int
  | 0 => 0
  | k + 1 => fd_ps e f k + (e (k + 1) - e k) * f (e k)
theorem fd_le_up {e : Nat → Int} {m : Nat} (hs : ∀ k, k + 1 < m → e k ≤ e (k + 1)) : ∀ k, k < m → e 0 ≤ e k := by
  intro k
  induction k with
  | zero => intro _; omega
  | succ k ih => intro h; have := ih (by omega); have := hs k h; omega
theorem fd_ps_rs {e : Nat → Int} {f : Int → Int} {m : Nat} (hs : ∀ k, k + 1 < m → e k ≤ e (k + 1)) (hc : ∀ k, k + 1 < m → ∀ x, e k ≤ x → x < e (k + 1) → f x = f (e k)) : ∀ k, k < m → fd_ps e f k = fd_rs f (e 0) (e k) := by
  intro k
  induction k with
  | zero => intro _; rw [fd_rs_self]; rfl
  | succ k ih =>
    intro h
    show fd_ps e f k + (e (k + 1) - e k) * f (e k) = _
    rw [ih (by omega), fd_rs_app (b := e k) (fd_le_up hs k (by omega)) (hs k h), fd_rs_const (hs k h) (hc k h)]
/-- all of it: strips between sorted edges sum up what is nothing outside of them -/
theorem fd_strips {e : Nat → Int} {f : Int → Int} {m : Nat} {lo hi : Int} (hlh : lo ≤ hi) (hs : ∀ k, k + 1 < m → e k ≤ e (k + 1)) (hc : ∀ k, k + 1 < m → ∀ x, e k ≤ x → x < e (k + 1) → f x = f (e k)) (hlo : ∀ k, k < m → lo ≤ e k ∧ e k ≤ hi) (h0 : ∀ x, (∀ k, k < m → x < e k) ∨ (∀ k, k < m → e k ≤ x) → f x = 0) : fd_ps e f (m - 1) = fd_rs f lo hi := by
  by_cases hm : m = 0
  · subst hm
    rw [fd_rs_const (c := 0) hlh (fun x _ _ => h0 x (Or.inl (fun k hk => absurd hk (Nat.not_lt_zero k)))), Int.mul_zero]
    rfl
  · have hm1 : m - 1 < m := by omega
    have mono : ∀ j k, j + k < m → e j ≤ e (j + k) := by
      intro j k
      induction k with
      | zero => intro _; rw [Nat.add_zero]; omega
      | succ k ih => intro h; have a := ih (by omega); have b := hs (j + k) (by omega); rw [← Nat.add_assoc]; omega
    have up : ∀ j k, j ≤ k → k < m → e j ≤ e k := by
      intro j k h1 h2
      have a := mono j (k - j) (by omega)
      have b : j + (k - j) = k := by omega
      rw [b] at a; exact a
    have a0 := hlo 0 (by omega)
    have a1 := hlo (m - 1) hm1
    have a2 := up 0 (m - 1) (by omega) hm1
    rw [fd_ps_rs hs hc _ hm1, fd_rs_app (a := lo) (b := e 0) (c := hi) a0.1 a0.2, fd_rs_app (a := e 0) (b := e (m - 1)) (c := hi) a2 a1.2]
    have z1 : fd_rs f lo (e 0) = 0 := by
      rw [fd_rs_const (c := 0) a0.1 (fun x _ hx => h0 x (Or.inl (fun k hk => by have := up 0 k (by omega) hk; omega))), Int.mul_zero]
    have z2 : fd_rs f (e (m - 1)) hi = 0 := by
      rw [fd_rs_const (c := 0) a1.2 (fun x hx _ => h0 x (Or.inr (fun k hk => by have := up k (m - 1) (by omega) hm1; omega))), Int.mul_zero]
    omega
noncomputable def fd_in (p : Prop) : Int := @ite Int p (Classical.propDecidable p) 1 0
theorem fd_in_t {p : Prop} (h : p) : fd_in p = 1 := by unfold fd_in; exact if_pos h
theorem fd_in_f {p : Prop} (h : ¬ p) : fd_in p = 0 := by unfold fd_in; exact if_neg h
theorem fd_in_iff {p q : Prop} (h : p ↔ q) : fd_in p = fd_in q := by
  by_cases c : p
  · rw [fd_in_t c, fd_in_t (h.mp c)]
  · rw [fd_in_f c, fd_in_f (fun z => c (h.mpr z))]
/-- one shape more, from below: what it adds to a column -/
theorem fd_sweep {U : Int → Prop} {b t ct lo hi : Int} (hlo : lo ≤ b) (hct : lo ≤ ct) (hhi : t ≤ hi) (hch : ct ≤ hi) (h1 : ∀ y, U y → y < ct) (h2 : ∀ y, b ≤ y → y < ct → U y) : fd_rs (fun y => fd_in (U y ∨ (b ≤ y ∧ y < t))) lo hi = fd_rs (fun y => fd_in (U y)) lo hi + (max t (max b ct) - max b ct) := by
  have e : fd_rs (fun y => fd_in (U y ∨ (b ≤ y ∧ y < t))) lo hi = fd_rs (fun y => fd_in (U y) + fd_in (max b ct ≤ y ∧ y < t)) lo hi := by
    refine fd_rs_congr (fun y _ _ => ?_)
    show fd_in (U y ∨ (b ≤ y ∧ y < t)) = fd_in (U y) + fd_in (max b ct ≤ y ∧ y < t)
    by_cases u : U y
    · have := h1 y u
      rw [fd_in_t (Or.inl u), fd_in_t u, fd_in_f (by omega)]; omega
    · by_cases v : b ≤ y ∧ y < t
      · have w : ¬ y < ct := fun z => u (h2 y v.1 z)
        rw [fd_in_t (Or.inr v), fd_in_f u, fd_in_t (by omega)]; omega
      · rw [fd_in_f (fun z => z.elim u v), fd_in_f u, fd_in_f (by omega)]; omega
  have s : fd_rs (fun y => fd_in (U y) + fd_in (max b ct ≤ y ∧ y < t)) lo hi = fd_rs (fun y => fd_in (U y)) lo hi + fd_rs (fun y => fd_in (max b ct ≤ y ∧ y < t)) lo hi := fd_sm_add _
  rw [e, s]
  congr 1
  by_cases c : max b ct ≤ t
  · rw [fd_rs_app (a := lo) (b := max b ct) (c := hi) (by omega) (by omega), fd_rs_app (a := max b ct) (b := t) (c := hi) c hhi]
    rw [fd_rs_const (c := 0) (a := lo) (b := max b ct) (by omega) (fun y _ hy => fd_in_f (by omega)), fd_rs_const (c := 1) c (fun y hy hz => fd_in_t ⟨hy, hz⟩), fd_rs_const (c := 0) hhi (fun y hy _ => fd_in_f (by omega))]
    omega
  · rw [fd_rs_const (c := 0) (a := lo) (b := hi) (by omega) (fun y _ _ => fd_in_f (by omega))]
    omega
