def fd_ok {α : Type} (o : Option (α × fd_St)) (P : α → fd_St → Prop) : Prop := ∃ v s, o = some (v, s) ∧ P v s
theorem fd_ok_some {α : Type} {v : α} {s : fd_St} {P : α → fd_St → Prop} (h : P v s) : fd_ok (some (v, s)) P := ⟨v, s, rfl, h⟩
theorem fd_ok_lt {β α : Type} {x : β} {f : β → Option (α × fd_St)} {P : α → fd_St → Prop} (h : ∀ y, y = x → fd_ok (f y) P) : fd_ok (fd_lt x f) P := h x rfl
theorem fd_ok_gd {α : Type} {p : Prop} {t : Option (α × fd_St)} {P : α → fd_St → Prop} (hp : p) (h : fd_ok t P) : fd_ok (fd_gd p t) P := by rw [fd_gdp hp]; exact h
theorem fd_ok_ite {α : Type} {c : Prop} [Decidable c] {t e : Option (α × fd_St)} {P : α → fd_St → Prop} (ht : c → fd_ok t P) (he : ¬ c → fd_ok e P) : fd_ok (if c then t else e) P := by
  by_cases h : c
  · rw [if_pos h]; exact ht h
  · rw [if_neg h]; exact he h
theorem fd_ok_itp {α : Type} {c : Prop} [Decidable c] {t e : Option (α × fd_St)} {P : α → fd_St → Prop} (hc : c) (ht : fd_ok t P) : fd_ok (if c then t else e) P := by rw [if_pos hc]; exact ht
theorem fd_ok_itn {α : Type} {c : Prop} [Decidable c] {t e : Option (α × fd_St)} {P : α → fd_St → Prop} (hc : ¬ c) (he : fd_ok e P) : fd_ok (if c then t else e) P := by rw [if_neg hc]; exact he
theorem fd_ok_mono {α : Type} {o : Option (α × fd_St)} {P Q : α → fd_St → Prop} (h : fd_ok o P) (hPQ : ∀ v s, P v s → Q v s) : fd_ok o Q := by
  obtain ⟨v, s, h1, h2⟩ := h
  exact ⟨v, s, h1, hPQ v s h2⟩
def fd_pb {β α : Type} (f : β → fd_St → Option (α × fd_St)) (Q : α → fd_St → Prop) : β → fd_St → Prop := fun v s => fd_ok (f v s) Q
theorem fd_ok_bd {β α : Type} {o : Option (β × fd_St)} {f : β → fd_St → Option (α × fd_St)} {Q : α → fd_St → Prop} (h : fd_ok o (fd_pb f Q)) : fd_ok (fd_bd o f) Q := by
  obtain ⟨v, s, h1, h2⟩ := h
  rw [h1]; exact h2
theorem fd_ok_pb {β α : Type} {v : β} {s : fd_St} {f : β → fd_St → Option (α × fd_St)} {Q : α → fd_St → Prop} (h : fd_ok (f v s) Q) : fd_ok (some (v, s)) (fd_pb f Q) := ⟨v, s, rfl, h⟩
theorem fd_ok_cl {β α : Type} {o : Option (β × fd_St)} {P : β → fd_St → Prop} {f : β → fd_St → Option (α × fd_St)} {Q : α → fd_St → Prop} (h : fd_ok o P) (hk : ∀ v s, P v s → fd_ok (f v s) Q) : fd_ok o (fd_pb f Q) := fd_ok_mono h hk
def fd_px {β α : Type} (f : β → fd_St → Option (α × fd_St)) (g : String → fd_St → Option (α × fd_St)) (Q : α → fd_St → Prop) : (β ⊕ String) → fd_St → Prop := fun v s => match v with
  | .inl w => fd_ok (f w s) Q
  | .inr E => fd_ok (g E s) Q
theorem fd_ok_bx {β α : Type} {o : Option ((β ⊕ String) × fd_St)} {f : β → fd_St → Option (α × fd_St)} {g : String → fd_St → Option (α × fd_St)} {Q : α → fd_St → Prop} (h : fd_ok o (fd_px f g Q)) : fd_ok (fd_bx o f g) Q := by
  obtain ⟨v, s, h1, h2⟩ := h
  rw [h1]
  cases v with
  | inl w => exact h2
  | inr E => exact h2
theorem fd_ok_pl {β α : Type} {v : β} {s : fd_St} {f : β → fd_St → Option (α × fd_St)} {g : String → fd_St → Option (α × fd_St)} {Q : α → fd_St → Prop} (h : fd_ok (f v s) Q) : fd_ok (some (.inl v, s)) (fd_px f g Q) := ⟨.inl v, s, rfl, h⟩
theorem fd_ok_pr {β α : Type} {E : String} {s : fd_St} {f : β → fd_St → Option (α × fd_St)} {g : String → fd_St → Option (α × fd_St)} {Q : α → fd_St → Prop} (h : fd_ok (g E s) Q) : fd_ok (some (.inr E, s)) (fd_px f g Q) := ⟨.inr E, s, rfl, h⟩
/-- what is outside of W is as it was: scalars by their numbers, rows of ints from 100 on, rows of longs from 200 on -/
def fd_fr (W : List Nat) (σ τ : fd_St) : Prop := (∀ k, k ∉ W → τ.1 k = σ.1 k) ∧ (∀ k, k + 100 ∉ W → τ.2.1 k = σ.2.1 k) ∧ ∀ k, k + 200 ∉ W → τ.2.2 k = σ.2.2 k
theorem fd_fr_rf {W : List Nat} {σ : fd_St} : fd_fr W σ σ := ⟨fun _ _ => rfl, fun _ _ => rfl, fun _ _ => rfl⟩
theorem fd_fr_tr {W : List Nat} {σ τ ρ : fd_St} (h1 : fd_fr W σ τ) (h2 : fd_fr W τ ρ) : fd_fr W σ ρ := ⟨fun k hk => (h2.1 k hk).trans (h1.1 k hk), fun k hk => (h2.2.1 k hk).trans (h1.2.1 k hk), fun k hk => (h2.2.2 k hk).trans (h1.2.2 k hk)⟩
theorem fd_fr_mono {W V : List Nat} {σ τ : fd_St} (h : fd_fr W σ τ) (hs : ∀ k ∈ W, k ∈ V) : fd_fr V σ τ := ⟨fun k hk => h.1 k (fun q => hk (hs k q)), fun k hk => h.2.1 k (fun q => hk (hs _ q)), fun k hk => h.2.2 k (fun q => hk (hs _ q))⟩
theorem fd_fr_sI {W : List Nat} {σ τ : fd_St} {j : Nat} {v : Int32} (e : τ = fd_sI j v σ) (hj : j ∈ W) : fd_fr W σ τ := by
  subst e
  refine ⟨fun k hk => ?_, fun _ _ => rfl, fun _ _ => rfl⟩
  show fd_up σ.1 j v k = σ.1 k
  unfold fd_up
  rw [if_neg (fun e => hk (by rw [e]; exact hj))]
theorem fd_fr_sA {W : List Nat} {σ τ : fd_St} {c : Nat} {i v : Int32} (e : τ = fd_sA c i v σ) (hj : c + 100 ∈ W) : fd_fr W σ τ := by
  subst e
  refine ⟨fun _ _ => rfl, fun k hk => ?_, fun _ _ => rfl⟩
  show fd_up σ.2.1 c _ k = σ.2.1 k
  unfold fd_up
  rw [if_neg (fun e => hk (by rw [e]; exact hj))]
theorem fd_fr_sL {W : List Nat} {σ τ : fd_St} {c : Nat} {i : Int32} {v : Int64} (e : τ = fd_sL c i v σ) (hj : c + 200 ∈ W) : fd_fr W σ τ := by
  subst e
  refine ⟨fun _ _ => rfl, fun _ _ => rfl, fun k hk => ?_⟩
  show fd_up σ.2.2 c _ k = σ.2.2 k
  unfold fd_up
  rw [if_neg (fun e => hk (by rw [e]; exact hj))]
theorem fd_fr_cL {W : List Nat} {σ τ : fd_St} {j c : Nat} {a b n : Int32} (e : τ = fd_cL j c a b n σ) (hj : c + 200 ∈ W) : fd_fr W σ τ := by
  subst e
  refine ⟨fun _ _ => rfl, fun _ _ => rfl, fun k hk => ?_⟩
  show fd_up σ.2.2 c _ k = σ.2.2 k
  unfold fd_up
  rw [if_neg (fun e => hk (by rw [e]; exact hj))]
theorem fd_fr_mix {W : List Nat} {σ τ ρ : fd_St} (e : ρ = fd_mix τ σ) (h : fd_fr W σ τ) : fd_fr W σ ρ := by
  subst e
  refine ⟨h.1, h.2.1, fun k hk => ?_⟩
  show fd_up τ.2.2 39 (σ.2.2 39) k = σ.2.2 k
  unfold fd_up
  by_cases q : k = 39
  · rw [if_pos q, q]
  · rw [if_neg q]; exact h.2.2 k hk
/-- the law's row holds an int that was answered -/
theorem fd_o39 {σ τ : fd_St} {x : Int32} (e : τ = fd_sL 39 (0 : Int32) x.toInt64 σ) : (τ.2.2 39 (0 : Int32).toNatClampNeg).toInt = x.toInt := by
  subst e
  show (fd_up σ.2.2 39 (vp_updL (σ.2.2 39) (0 : Int32).toNatClampNeg x.toInt64) 39 (0 : Int32).toNatClampNeg).toInt = x.toInt
  unfold fd_up vp_updL
  rw [if_pos rfl, if_pos rfl]
  exact Int32.toInt_toInt64 x
theorem fd_o39L {σ τ : fd_St} {x : Int64} (e : τ = fd_sL 39 (0 : Int32) x σ) : τ.2.2 39 (0 : Int32).toNatClampNeg = x := by
  subst e
  show fd_up σ.2.2 39 (vp_updL (σ.2.2 39) (0 : Int32).toNatClampNeg x) 39 (0 : Int32).toNatClampNeg = x
  unfold fd_up vp_updL
  rw [if_pos rfl, if_pos rfl]
theorem fd_rng (v : Int32) : (-2147483648 : Int) ≤ v.toInt ∧ v.toInt ≤ 2147483647 := by
  have a := v.toInt_lt; have b := v.le_toInt
  omega
/-- ranges of scalars and of rows' elements; where an element of row c is over 1, that of row d is under 40 -/
def fd_inv (lo hi la ha : Nat → Int) (c0 d0 : Nat) (σ : fd_St) : Prop := (∀ k, lo k ≤ (σ.1 k).toInt ∧ (σ.1 k).toInt ≤ hi k) ∧ (∀ c i, la c ≤ (σ.2.1 c i).toInt ∧ (σ.2.1 c i).toInt ≤ ha c) ∧ ∀ i, 1 < (σ.2.1 c0 i).toInt → (σ.2.1 d0 i).toInt < 40
theorem fd_inv_sI {lo hi la ha : Nat → Int} {c0 d0 : Nat} {σ τ : fd_St} {k : Nat} {v : Int32} (e : τ = fd_sI k v σ) (h : fd_inv lo hi la ha c0 d0 σ) (hv : lo k ≤ v.toInt ∧ v.toInt ≤ hi k) : fd_inv lo hi la ha c0 d0 τ := by
  subst e
  refine ⟨fun j => ?_, h.2⟩
  show lo j ≤ (fd_up σ.1 k v j).toInt ∧ (fd_up σ.1 k v j).toInt ≤ hi j
  unfold fd_up
  by_cases e : j = k
  · rw [if_pos e, e]; exact hv
  · rw [if_neg e]; exact h.1 j
theorem fd_inv_u {la ha : Nat → Int} {σ : fd_St} {c : Nat} {i v : Int32} (h : ∀ c i, la c ≤ (σ.2.1 c i).toInt ∧ (σ.2.1 c i).toInt ≤ ha c) (hv : la c ≤ v.toInt ∧ v.toInt ≤ ha c) : ∀ d j, la d ≤ ((fd_sA c i v σ).2.1 d j).toInt ∧ ((fd_sA c i v σ).2.1 d j).toInt ≤ ha d := by
  intro d j
  show la d ≤ (fd_up σ.2.1 c (upd (σ.2.1 c) i.toNatClampNeg v) d j).toInt ∧ (fd_up σ.2.1 c (upd (σ.2.1 c) i.toNatClampNeg v) d j).toInt ≤ ha d
  unfold fd_up
  by_cases e : d = c
  · rw [if_pos e, e]
    unfold upd
    by_cases e2 : j = i.toNatClampNeg
    · rw [if_pos e2]; exact hv
    · rw [if_neg e2]; exact h c j
  · rw [if_neg e]; exact h d j
theorem fd_sA_ne {σ : fd_St} {c d : Nat} {i v : Int32} (h : d ≠ c) : (fd_sA c i v σ).2.1 d = σ.2.1 d := by
  show fd_up σ.2.1 c (upd (σ.2.1 c) i.toNatClampNeg v) d = σ.2.1 d
  unfold fd_up; rw [if_neg h]
theorem fd_sA_eq {σ : fd_St} {c : Nat} {i v : Int32} : (fd_sA c i v σ).2.1 c = upd (σ.2.1 c) i.toNatClampNeg v := by
  show fd_up σ.2.1 c (upd (σ.2.1 c) i.toNatClampNeg v) c = _
  unfold fd_up; rw [if_pos rfl]
theorem fd_inv_sA {lo hi la ha : Nat → Int} {c0 d0 : Nat} {σ τ : fd_St} {c : Nat} {i v : Int32} (e : τ = fd_sA c i v σ) (h : fd_inv lo hi la ha c0 d0 σ) (h1 : c0 ≠ c) (h2 : d0 ≠ c) (hv : la c ≤ v.toInt ∧ v.toInt ≤ ha c) : fd_inv lo hi la ha c0 d0 τ := by
  subst e
  refine ⟨h.1, fd_inv_u h.2.1 hv, fun j => ?_⟩
  rw [fd_sA_ne h1, fd_sA_ne h2]; exact h.2.2 j
/-- both rows of a suspect, one behind the other -/
theorem fd_inv_s2 {lo hi la ha : Nat → Int} {c0 d0 : Nat} {σ τ ρ : fd_St} {i j v w : Int32} (e : τ = fd_sA c0 i v σ) (e2 : ρ = fd_sA d0 j w τ) (h : fd_inv lo hi la ha c0 d0 σ) (hij : i = j) (hcd : d0 ≠ c0) (hv : la c0 ≤ v.toInt ∧ v.toInt ≤ ha c0) (hw : la d0 ≤ w.toInt ∧ w.toInt ≤ ha d0) (hx : 1 < v.toInt → w.toInt < 40) : fd_inv lo hi la ha c0 d0 ρ := by
  subst hij; subst e2; subst e
  refine ⟨h.1, fd_inv_u (fd_inv_u h.2.1 hv) hw, fun j => ?_⟩
  rw [fd_sA_ne (Ne.symm hcd), fd_sA_eq, fd_sA_eq, fd_sA_ne hcd]
  unfold upd
  by_cases e : j = i.toNatClampNeg
  · rw [if_pos e, if_pos e]; exact hx
  · rw [if_neg e, if_neg e]; exact h.2.2 j
theorem fd_inv_sL {lo hi la ha : Nat → Int} {c0 d0 : Nat} {σ τ : fd_St} {c : Nat} {i : Int32} {v : Int64} (e : τ = fd_sL c i v σ) (h : fd_inv lo hi la ha c0 d0 σ) : fd_inv lo hi la ha c0 d0 τ := by subst e; exact h
theorem fd_inv_cL {lo hi la ha : Nat → Int} {c0 d0 : Nat} {σ τ : fd_St} {j c : Nat} {a b n : Int32} (e : τ = fd_cL j c a b n σ) (h : fd_inv lo hi la ha c0 d0 σ) : fd_inv lo hi la ha c0 d0 τ := by subst e; exact h
theorem fd_tI {σ τ : fd_St} {k : Nat} {v : Int32} (e : τ = fd_sI k v σ) : τ.1 k = v := by
  subst e
  show fd_up σ.1 k v k = v
  unfold fd_up; rw [if_pos rfl]
theorem fd_tN {σ τ : fd_St} {k j : Nat} {v : Int32} (e : τ = fd_sI k v σ) (h : j ≠ k) : τ.1 j = σ.1 j := by
  subst e
  show fd_up σ.1 k v j = σ.1 j
  unfold fd_up; rw [if_neg h]
theorem fd_narrow {v : Int32} (h1 : 0 ≤ v.toInt) (h2 : v.toInt ≤ 1) : narrow .boolean (.int v) = .int v := by
  have e : v = 0 ∨ v = 1 := by
    rcases (show v.toInt = 0 ∨ v.toInt = 1 by omega) with h | h
    · exact Or.inl (Int32.toInt_inj.mp (by rw [h]; decide))
    · exact Or.inr (Int32.toInt_inj.mp (by rw [h]; decide))
  rcases e with rfl | rfl <;> rfl
theorem fd_clamp {x : Int32} (h : x.toInt ≤ 200) : (0 : Int32).toNatClampNeg + x.toNatClampNeg ≤ 200 := by
  show (0 : Int32).toInt.toNat + x.toInt.toNat ≤ 200
  have e : (0 : Int32).toInt = 0 := by decide
  omega
theorem fd_mm {a b x : Int32} {c : Prop} [Decidable c] (h : x = if c then a else b) : x.toInt = a.toInt ∨ x.toInt = b.toInt := by
  by_cases q : c
  · rw [if_pos q] at h; exact Or.inl (by rw [h])
  · rw [if_neg q] at h; exact Or.inr (by rw [h])
theorem fd_la {x a b : Int32} (e : x = a + b) (h1 : -2 ^ 31 ≤ a.toInt + b.toInt) (h2 : a.toInt + b.toInt < 2 ^ 31) : x.toInt = a.toInt + b.toInt := by subst e; exact Jvm.Kit.i32_add h1 h2
theorem fd_ls {x a b : Int32} (e : x = a - b) (h1 : -2 ^ 31 ≤ a.toInt - b.toInt) (h2 : a.toInt - b.toInt < 2 ^ 31) : x.toInt = a.toInt - b.toInt := by subst e; exact Jvm.Kit.i32_sub h1 h2
theorem fd_mul2 {y : Int32} (h1 : -1000 ≤ y.toInt) (h2 : y.toInt ≤ 1000) : ((2 : Int32) * y).toInt = 2 * y.toInt := by
  have e : (2 : Int32).toInt = 2 := by decide
  have q := Jvm.Kit.i32_mul (x := (2 : Int32)) (y := y) (by rw [e]; omega) (by rw [e]; omega)
  rw [q, e]
theorem fd_yA {σ τ : fd_St} {c : Nat} {i v : Int32} {f : Nat → Int32} (e : τ = fd_sA c i v σ) (h : σ.2.1 c = f) : τ.2.1 c = upd f i.toNatClampNeg v := by subst e; rw [fd_sA_eq, h]
theorem fd_yAn {σ τ : fd_St} {c d : Nat} {i v : Int32} {f : Nat → Int32} (e : τ = fd_sA c i v σ) (hd : d ≠ c) (h : σ.2.1 d = f) : τ.2.1 d = f := by subst e; rw [fd_sA_ne hd, h]
theorem fd_yL {σ τ : fd_St} {c : Nat} {i : Int32} {v : Int64} {f : Nat → Int64} (e : τ = fd_sL c i v σ) (h : σ.2.2 c = f) : τ.2.2 c = vp_updL f i.toNatClampNeg v := by
  subst e; subst h
  show fd_up σ.2.2 c _ c = _
  unfold fd_up; rw [if_pos rfl]
theorem fd_yLn {σ τ : fd_St} {c d : Nat} {i : Int32} {v : Int64} {f : Nat → Int64} (e : τ = fd_sL c i v σ) (hd : d ≠ c) (h : σ.2.2 d = f) : τ.2.2 d = f := by
  subst e; subst h
  show fd_up σ.2.2 c _ d = _
  unfold fd_up; rw [if_neg hd]
theorem fd_ymix {σ τ ρ : fd_St} {d : Nat} {f : Nat → Int64} (e : ρ = fd_mix τ σ) (hd : d ≠ 39) (h : τ.2.2 d = f) : ρ.2.2 d = f := by
  subst e; subst h
  show fd_up τ.2.2 39 _ d = _
  unfold fd_up; rw [if_neg hd]
theorem fd_yIA {σ τ : fd_St} {j d : Nat} {v : Int32} {f : Nat → Int32} (e : τ = fd_sI j v σ) (h : σ.2.1 d = f) : τ.2.1 d = f := by subst e; exact h
theorem fd_yIL {σ τ : fd_St} {j d : Nat} {v : Int32} {f : Nat → Int64} (e : τ = fd_sI j v σ) (h : σ.2.2 d = f) : τ.2.2 d = f := by subst e; exact h
theorem fd_yAL {σ τ : fd_St} {c d : Nat} {i v : Int32} {f : Nat → Int64} (e : τ = fd_sA c i v σ) (h : σ.2.2 d = f) : τ.2.2 d = f := by subst e; exact h
theorem fd_yLA {σ τ : fd_St} {c d : Nat} {i : Int32} {v : Int64} {f : Nat → Int32} (e : τ = fd_sL c i v σ) (h : σ.2.1 d = f) : τ.2.1 d = f := by subst e; exact h
theorem fd_yCA {σ τ : fd_St} {j c d : Nat} {a b n : Int32} {f : Nat → Int32} (e : τ = fd_cL j c a b n σ) (h : σ.2.1 d = f) : τ.2.1 d = f := by subst e; exact h
theorem fd_ymixA {σ τ ρ : fd_St} {d : Nat} {f : Nat → Int32} (e : ρ = fd_mix τ σ) (h : τ.2.1 d = f) : ρ.2.1 d = f := by subst e; exact h
/-- kept from omega's sight -/
def fd_H (P : Prop) : Prop := P
theorem fd_hd {P : Prop} (h : P) : fd_H P := h
theorem fd_un {P : Prop} (h : fd_H P) : P := h
def fd_loC : Nat → Int := fun k => match k with
  | 0 => 0
  | 1 => 0
  | 2 => 0
  | 3 => 0
  | 4 => 0
  | 5 => 0
  | 6 => 0
  | 7 => -1
  | 8 => -1
  | 16 => 0
  | 17 => 0
  | 18 => 0
  | 19 => 0
  | _ => -2147483648
def fd_hiC : Nat → Int := fun k => match k with
  | 0 => 1
  | 1 => 200
  | 2 => 32
  | 3 => 64
  | 4 => 32
  | 5 => 40
  | 6 => 480
  | 7 => 479
  | 8 => 479
  | 16 => 64
  | 17 => 30
  | 18 => 60
  | 19 => 60
  | _ => 2147483647
def fd_laC : Nat → Int := fun k => match k with
  | 13 => 0
  | 14 => 0
  | 17 => 0
  | 18 => 0
  | 20 => 0
  | 21 => 0
  | 22 => 0
  | 23 => 0
  | 24 => 0
  | 28 => 0
  | 37 => 0
  | _ => -2147483648
def fd_haC : Nat → Int := fun k => match k with
  | 13 => 199
  | 14 => 199
  | 17 => 1
  | 18 => 199
  | 20 => 199
  | 21 => 199
  | 22 => 479
  | 23 => 3
  | 24 => 199
  | 28 => 479
  | 37 => 59
  | _ => 2147483647
def fd_InvC (σ : fd_St) : Prop := fd_inv fd_loC fd_hiC fd_laC fd_haC 23 24 σ
def fd_loM : Nat → Int := fun k => match k with
  | 1 => 0
  | 2 => 0
  | 3 => 0
  | 4 => 0
  | 5 => 0
  | 6 => 0
  | 7 => 0
  | 12 => 0
  | 13 => 0
  | 14 => 0
  | _ => -2147483648
def fd_hiM : Nat → Int := fun k => match k with
  | 1 => 200
  | 2 => 32
  | 3 => 32
  | 4 => 64
  | 5 => 40
  | 6 => 1
  | 7 => 480
  | 12 => 64
  | 13 => 30
  | 14 => 60
  | _ => 2147483647
def fd_laM : Nat → Int := fun k => match k with
  | 2 => 0
  | 3 => 0
  | 5 => 0
  | 7 => 0
  | 8 => 0
  | 11 => 0
  | 12 => 0
  | 13 => 0
  | _ => -2147483648
def fd_haM : Nat → Int := fun k => match k with
  | 2 => 199
  | 3 => 199
  | 5 => 199
  | 7 => 199
  | 8 => 199
  | 11 => 1
  | 12 => 3
  | 13 => 199
  | _ => 2147483647
def fd_InvM (σ : fd_St) : Prop := fd_inv fd_loM fd_hiM fd_laM fd_haM 12 13 σ
