abbrev fd_St : Type := (Nat → Int32) × (Nat → Nat → Int32) × (Nat → Nat → Int64)
def fd_up {α : Type} (f : Nat → α) (k : Nat) (v : α) : Nat → α := fun j => if j = k then v else f j
def fd_sI (k : Nat) (v : Int32) (σ : fd_St) : fd_St := (fd_up σ.1 k v, σ.2.1, σ.2.2)
def fd_sA (k : Nat) (i v : Int32) (σ : fd_St) : fd_St := (σ.1, fd_up σ.2.1 k (upd (σ.2.1 k) i.toNatClampNeg v), σ.2.2)
def fd_sL (k : Nat) (i : Int32) (v : Int64) (σ : fd_St) : fd_St := (σ.1, σ.2.1, fd_up σ.2.2 k (vp_updL (σ.2.2 k) i.toNatClampNeg v))
/-- a row of longs is copied, from its first place on -/
def fd_cL (j k : Nat) (sp dp n : Int32) (σ : fd_St) : fd_St := (σ.1, σ.2.1, fd_up σ.2.2 k (va_cpy (σ.2.2 j) (σ.2.2 k) sp.toNatClampNeg dp.toNatClampNeg n.toNatClampNeg))
noncomputable def fd_gd {β : Type} (p : Prop) (t : Option β) : Option β := @ite (Option β) p (Classical.propDecidable p) t none
def fd_lt {α β : Type} (x : α) (f : α → Option β) : Option β := f x
def fd_bd {α β : Type} (o : Option (α × fd_St)) (f : α → fd_St → Option β) : Option β := match o with
  | none => none
  | some (v, σ) => f v σ
def fd_bx {α β : Type} (o : Option ((α ⊕ String) × fd_St)) (f : α → fd_St → Option β) (g : String → fd_St → Option β) : Option β := match o with
  | none => none
  | some (.inl v, σ) => f v σ
  | some (.inr E, σ) => g E σ
theorem fd_gds {β : Type} {p : Prop} {t : Option β} {r : β} (h : fd_gd p t = some r) : p ∧ t = some r := by
  unfold fd_gd at h
  by_cases hp : p
  · rw [if_pos hp] at h; exact ⟨hp, h⟩
  · rw [if_neg hp] at h; cases h
theorem fd_gdp {β : Type} {p : Prop} {t : Option β} (h : p) : fd_gd p t = t := by unfold fd_gd; rw [if_pos h]
theorem fd_lts {α β : Type} {x : α} {f : α → Option β} {r : β} (h : fd_lt x f = some r) : ∃ y, y = x ∧ f y = some r := ⟨x, rfl, h⟩
theorem fd_bds {α β : Type} {o : Option (α × fd_St)} {f : α → fd_St → Option β} {r : β} (h : fd_bd o f = some r) : ∃ v σ, o = some (v, σ) ∧ f v σ = some r := by
  cases o with
  | none => cases h
  | some q => exact ⟨q.1, q.2, rfl, h⟩
theorem fd_bxs {α β : Type} {o : Option ((α ⊕ String) × fd_St)} {f : α → fd_St → Option β} {g : String → fd_St → Option β} {r : β} (h : fd_bx o f g = some r) : (∃ v σ, o = some (.inl v, σ) ∧ f v σ = some r) ∨ ∃ E σ, o = some (.inr E, σ) ∧ g E σ = some r := by
  cases o with
  | none => cases h
  | some q =>
    obtain ⟨v | E, σ⟩ := q
    · exact Or.inl ⟨v, σ, rfl, h⟩
    · exact Or.inr ⟨E, σ, rfl, h⟩
theorem fd_itp {β : Type} {c : Prop} [Decidable c] {t u : Option β} {r : β} (h : c) (hf : (if c then t else u) = some r) : t = some r := by rw [if_pos h] at hf; exact hf
theorem fd_itn {β : Type} {c : Prop} [Decidable c] {t u : Option β} {r : β} (h : ¬ c) (hf : (if c then t else u) = some r) : u = some r := by rw [if_neg h] at hf; exact hf
/-- how many cells a call makes: one where it throws -/
def fd_mc {α : Type} (r : (α ⊕ String) × fd_St) : Nat := match r.1 with
  | .inl _ => 0
  | .inr _ => 1
def fd_ms {α : Type} (r : (α ⊕ String) × fd_St) : Nat := match r.1 with
  | .inl _ => 0
  | .inr _ => 6
/-- the addresses of a block of n cells, and all from sz on -/
def fd_A (n : Nat) (a : Nat → Nat) (sz : Nat) : Nat → Prop := fun q => (∃ i, i < n ∧ q = a i) ∨ sz ≤ q
def fd_I (n : Nat) (a : Nat → Nat) : Prop := ∀ i j, i < n → j < n → a i = a j → i = j
theorem fd_A_mono {n : Nat} {a : Nat → Nat} {z z' q : Nat} (h : z ≤ z') (hq : fd_A n a z' q) : fd_A n a z q := hq.elim Or.inl (fun x => Or.inr (Nat.le_trans h x))
theorem fd_A_new {n : Nat} {a : Nat → Nat} {z : Nat} : ∀ q, z ≤ q → fd_A n a z q := fun _ h => Or.inr h
theorem fd_D {n : Nat} {a : Nat → Nat} {A : Nat → Prop} {ws : va_W} (hw : ws.map (fun q => q.1) = (List.range n).map a) (hI : fd_I n a) (hA : ∀ i, i < n → A (a i)) : va_D A ws := by
  have at' : ∀ (i : Nat) (q : Nat × va_E), ws[i]? = some q → i < n ∧ q.1 = a i := by
    intro i q hq
    have h1 : (ws.map (fun q => q.1))[i]? = some q.1 := by rw [List.getElem?_map, hq]; rfl
    rw [hw, List.getElem?_map] at h1
    cases h2 : (List.range n)[i]? with
    | none => rw [h2] at h1; cases h1
    | some j =>
      rw [h2] at h1
      have h3 : i < n := by
        have := (List.getElem?_eq_some_iff.mp h2).1
        simpa using this
      have h4 : j = i := by
        rw [List.getElem?_range h3] at h2
        exact (Option.some.inj h2).symm
      subst h4
      exact ⟨h3, (Option.some.inj h1).symm⟩
  refine ⟨fun i j x y hx hy hxy => ?_, fun i x hx => ?_⟩
  · obtain ⟨h1, h2⟩ := at' i x hx
    obtain ⟨h3, h4⟩ := at' j y hy
    exact hI i j h1 h3 (by rw [← h2, ← h4]; exact hxy)
  · obtain ⟨h1, h2⟩ := at' i x hx
    rw [h2]; exact hA i h1
theorem fd_sP {D : va_G} {ws ws' : va_W} {H : Heap} (h : ws = ws') (hP : va_P D vwCl ws H) : va_P D vwCl ws' H := h ▸ hP
section FDN
variable {p : Program} {l : Launch} {e : Env} {R : Room} {s : State} {m : MethodId} {args : Array Value} {below : List Frame} {meth : Method} {c : Code} {H : Heap} {locs : List Loc} {cells slots : Nat} {Q : State → Prop} {pc : Nat} {ls : Array Slot} {rest : List Value}
theorem fd_ni {x y : Int32} (h : y = x) (k : W p l e R s m args below meth c H locs cells slots Q (F0 m pc ls (.int y :: rest))) : W p l e R s m args below meth c H locs cells slots Q (F0 m pc ls (.int x :: rest)) := h ▸ k
theorem fd_nl {x y : Int64} (h : y = x) (k : W p l e R s m args below meth c H locs cells slots Q (F0 m pc ls (.long y :: rest))) : W p l e R s m args below meth c H locs cells slots Q (F0 m pc ls (.long x :: rest)) := h ▸ k
end FDN
def fd_WC (a : Nat → Nat) (k : Nat → ClassId) (σ : fd_St) : va_W := [(a 0, .inr (10, [.ref (a 1), .ref (a 2), .ref (a 3), .ref (a 4), .ref (a 9), .ref (a 10), .ref (a 11), .int (σ.1 0)])),
  (a 1, .inr (2, [.ref (a 12), .ref (a 13), .ref (a 14), .ref (a 15), .ref (a 16), .ref (a 17), .int (σ.1 1), .int (σ.1 2), .int (σ.1 3)])),
  (a 2, .inr (5, [.ref (a 18), .ref (a 19), .int (σ.1 4)])),
  (a 3, .inr (4, [.ref (a 20), .ref (a 21), .int (σ.1 5)])),
  (a 4, .inr (3, [.ref (a 1), .ref (a 2), .ref (a 3), .ref (a 5), .ref (a 6), .ref (a 8), .ref (a 22)])),
  (a 5, .inr (8, [.ref (a 23), .ref (a 24), .ref (a 25), .ref (a 26), .ref (a 27), .ref (a 28), .int (σ.1 6)])),
  (a 6, .inr (0, [.ref (a 7), .int (σ.1 7), .int (σ.1 8)])),
  (a 7, .inr (9, [.int (σ.1 9), .int (σ.1 10), .int (σ.1 11)])),
  (a 8, .inr (9, [.int (σ.1 12), .int (σ.1 13), .int (σ.1 14)])),
  (a 9, .inr (7, [.ref (a 29), .int (σ.1 15)])),
  (a 10, .inr (1, [.ref (a 30), .ref (a 31), .int (σ.1 16), .int (σ.1 17)])),
  (a 11, .inr (6, [.ref (a 32), .ref (a 33), .ref (a 34), .ref (a 35), .ref (a 36), .ref (a 37), .ref (a 38), .int (σ.1 18), .int (σ.1 19)])),
  (a 12, .inl (k 12, 200, .inl (σ.2.1 12))),
  (a 13, .inl (k 13, 200, .inl (σ.2.1 13))),
  (a 14, .inl (k 14, 200, .inl (σ.2.1 14))),
  (a 15, .inl (k 15, 200, .inr (.inl (σ.2.2 15)))),
  (a 16, .inl (k 16, 200, .inr (.inl (σ.2.2 16)))),
  (a 17, .inl (k 17, 200, .inl (σ.2.1 17))),
  (a 18, .inl (k 18, 32, .inl (σ.2.1 18))),
  (a 19, .inl (k 19, 32, .inr (.inl (σ.2.2 19)))),
  (a 20, .inl (k 20, 40, .inl (σ.2.1 20))),
  (a 21, .inl (k 21, 40, .inl (σ.2.1 21))),
  (a 22, .inl (k 22, 12, .inl (σ.2.1 22))),
  (a 23, .inl (k 23, 480, .inl (σ.2.1 23))),
  (a 24, .inl (k 24, 480, .inl (σ.2.1 24))),
  (a 25, .inl (k 25, 480, .inl (σ.2.1 25))),
  (a 26, .inl (k 26, 480, .inl (σ.2.1 26))),
  (a 27, .inl (k 27, 480, .inl (σ.2.1 27))),
  (a 28, .inl (k 28, 480, .inl (σ.2.1 28))),
  (a 29, .inl (k 29, 200, .inl (σ.2.1 29))),
  (a 30, .inl (k 30, 30, .inr (.inl (σ.2.2 30)))),
  (a 31, .inl (k 31, 30, .inr (.inl (σ.2.2 31)))),
  (a 32, .inl (k 32, 60, .inl (σ.2.1 32))),
  (a 33, .inl (k 33, 60, .inl (σ.2.1 33))),
  (a 34, .inl (k 34, 60, .inl (σ.2.1 34))),
  (a 35, .inl (k 35, 60, .inl (σ.2.1 35))),
  (a 36, .inl (k 36, 60, .inl (σ.2.1 36))),
  (a 37, .inl (k 37, 60, .inl (σ.2.1 37))),
  (a 38, .inl (k 38, 120, .inl (σ.2.1 38)))]
def fd_tyC (k : Nat → ClassId) : List (ClassId × FieldType) := [(k 12, .int), (k 13, .int), (k 14, .int), (k 15, .long), (k 16, .long), (k 17, .boolean), (k 18, .int), (k 19, .long), (k 20, .int), (k 21, .int), (k 22, .int), (k 23, .int), (k 24, .int), (k 25, .int), (k 26, .int), (k 27, .int), (k 28, .int), (k 29, .int), (k 30, .long), (k 31, .long), (k 32, .int), (k 33, .int), (k 34, .int), (k 35, .int), (k 36, .int), (k 37, .int), (k 38, .int)]
theorem fd_WC_0 {a : Nat → Nat} {k : Nat → ClassId} {σ : fd_St} : (fd_WC a k σ)[0]? = some (a 0, .inr (10, [.ref (a 1), .ref (a 2), .ref (a 3), .ref (a 4), .ref (a 9), .ref (a 10), .ref (a 11), .int (σ.1 0)])) := rfl
theorem fd_WC_1 {a : Nat → Nat} {k : Nat → ClassId} {σ : fd_St} : (fd_WC a k σ)[1]? = some (a 1, .inr (2, [.ref (a 12), .ref (a 13), .ref (a 14), .ref (a 15), .ref (a 16), .ref (a 17), .int (σ.1 1), .int (σ.1 2), .int (σ.1 3)])) := rfl
theorem fd_WC_2 {a : Nat → Nat} {k : Nat → ClassId} {σ : fd_St} : (fd_WC a k σ)[2]? = some (a 2, .inr (5, [.ref (a 18), .ref (a 19), .int (σ.1 4)])) := rfl
theorem fd_WC_3 {a : Nat → Nat} {k : Nat → ClassId} {σ : fd_St} : (fd_WC a k σ)[3]? = some (a 3, .inr (4, [.ref (a 20), .ref (a 21), .int (σ.1 5)])) := rfl
theorem fd_WC_4 {a : Nat → Nat} {k : Nat → ClassId} {σ : fd_St} : (fd_WC a k σ)[4]? = some (a 4, .inr (3, [.ref (a 1), .ref (a 2), .ref (a 3), .ref (a 5), .ref (a 6), .ref (a 8), .ref (a 22)])) := rfl
theorem fd_WC_5 {a : Nat → Nat} {k : Nat → ClassId} {σ : fd_St} : (fd_WC a k σ)[5]? = some (a 5, .inr (8, [.ref (a 23), .ref (a 24), .ref (a 25), .ref (a 26), .ref (a 27), .ref (a 28), .int (σ.1 6)])) := rfl
theorem fd_WC_6 {a : Nat → Nat} {k : Nat → ClassId} {σ : fd_St} : (fd_WC a k σ)[6]? = some (a 6, .inr (0, [.ref (a 7), .int (σ.1 7), .int (σ.1 8)])) := rfl
theorem fd_WC_7 {a : Nat → Nat} {k : Nat → ClassId} {σ : fd_St} : (fd_WC a k σ)[7]? = some (a 7, .inr (9, [.int (σ.1 9), .int (σ.1 10), .int (σ.1 11)])) := rfl
theorem fd_WC_8 {a : Nat → Nat} {k : Nat → ClassId} {σ : fd_St} : (fd_WC a k σ)[8]? = some (a 8, .inr (9, [.int (σ.1 12), .int (σ.1 13), .int (σ.1 14)])) := rfl
theorem fd_WC_9 {a : Nat → Nat} {k : Nat → ClassId} {σ : fd_St} : (fd_WC a k σ)[9]? = some (a 9, .inr (7, [.ref (a 29), .int (σ.1 15)])) := rfl
theorem fd_WC_10 {a : Nat → Nat} {k : Nat → ClassId} {σ : fd_St} : (fd_WC a k σ)[10]? = some (a 10, .inr (1, [.ref (a 30), .ref (a 31), .int (σ.1 16), .int (σ.1 17)])) := rfl
theorem fd_WC_11 {a : Nat → Nat} {k : Nat → ClassId} {σ : fd_St} : (fd_WC a k σ)[11]? = some (a 11, .inr (6, [.ref (a 32), .ref (a 33), .ref (a 34), .ref (a 35), .ref (a 36), .ref (a 37), .ref (a 38), .int (σ.1 18), .int (σ.1 19)])) := rfl
theorem fd_WC_12 {a : Nat → Nat} {k : Nat → ClassId} {σ : fd_St} : (fd_WC a k σ)[12]? = some (a 12, .inl (k 12, 200, .inl (σ.2.1 12))) := rfl
theorem fd_WC_13 {a : Nat → Nat} {k : Nat → ClassId} {σ : fd_St} : (fd_WC a k σ)[13]? = some (a 13, .inl (k 13, 200, .inl (σ.2.1 13))) := rfl
theorem fd_WC_14 {a : Nat → Nat} {k : Nat → ClassId} {σ : fd_St} : (fd_WC a k σ)[14]? = some (a 14, .inl (k 14, 200, .inl (σ.2.1 14))) := rfl
theorem fd_WC_15 {a : Nat → Nat} {k : Nat → ClassId} {σ : fd_St} : (fd_WC a k σ)[15]? = some (a 15, .inl (k 15, 200, .inr (.inl (σ.2.2 15)))) := rfl
theorem fd_WC_16 {a : Nat → Nat} {k : Nat → ClassId} {σ : fd_St} : (fd_WC a k σ)[16]? = some (a 16, .inl (k 16, 200, .inr (.inl (σ.2.2 16)))) := rfl
theorem fd_WC_17 {a : Nat → Nat} {k : Nat → ClassId} {σ : fd_St} : (fd_WC a k σ)[17]? = some (a 17, .inl (k 17, 200, .inl (σ.2.1 17))) := rfl
theorem fd_WC_18 {a : Nat → Nat} {k : Nat → ClassId} {σ : fd_St} : (fd_WC a k σ)[18]? = some (a 18, .inl (k 18, 32, .inl (σ.2.1 18))) := rfl
theorem fd_WC_19 {a : Nat → Nat} {k : Nat → ClassId} {σ : fd_St} : (fd_WC a k σ)[19]? = some (a 19, .inl (k 19, 32, .inr (.inl (σ.2.2 19)))) := rfl
theorem fd_WC_20 {a : Nat → Nat} {k : Nat → ClassId} {σ : fd_St} : (fd_WC a k σ)[20]? = some (a 20, .inl (k 20, 40, .inl (σ.2.1 20))) := rfl
theorem fd_WC_21 {a : Nat → Nat} {k : Nat → ClassId} {σ : fd_St} : (fd_WC a k σ)[21]? = some (a 21, .inl (k 21, 40, .inl (σ.2.1 21))) := rfl
theorem fd_WC_22 {a : Nat → Nat} {k : Nat → ClassId} {σ : fd_St} : (fd_WC a k σ)[22]? = some (a 22, .inl (k 22, 12, .inl (σ.2.1 22))) := rfl
theorem fd_WC_23 {a : Nat → Nat} {k : Nat → ClassId} {σ : fd_St} : (fd_WC a k σ)[23]? = some (a 23, .inl (k 23, 480, .inl (σ.2.1 23))) := rfl
theorem fd_WC_24 {a : Nat → Nat} {k : Nat → ClassId} {σ : fd_St} : (fd_WC a k σ)[24]? = some (a 24, .inl (k 24, 480, .inl (σ.2.1 24))) := rfl
theorem fd_WC_25 {a : Nat → Nat} {k : Nat → ClassId} {σ : fd_St} : (fd_WC a k σ)[25]? = some (a 25, .inl (k 25, 480, .inl (σ.2.1 25))) := rfl
theorem fd_WC_26 {a : Nat → Nat} {k : Nat → ClassId} {σ : fd_St} : (fd_WC a k σ)[26]? = some (a 26, .inl (k 26, 480, .inl (σ.2.1 26))) := rfl
theorem fd_WC_27 {a : Nat → Nat} {k : Nat → ClassId} {σ : fd_St} : (fd_WC a k σ)[27]? = some (a 27, .inl (k 27, 480, .inl (σ.2.1 27))) := rfl
theorem fd_WC_28 {a : Nat → Nat} {k : Nat → ClassId} {σ : fd_St} : (fd_WC a k σ)[28]? = some (a 28, .inl (k 28, 480, .inl (σ.2.1 28))) := rfl
theorem fd_WC_29 {a : Nat → Nat} {k : Nat → ClassId} {σ : fd_St} : (fd_WC a k σ)[29]? = some (a 29, .inl (k 29, 200, .inl (σ.2.1 29))) := rfl
theorem fd_WC_30 {a : Nat → Nat} {k : Nat → ClassId} {σ : fd_St} : (fd_WC a k σ)[30]? = some (a 30, .inl (k 30, 30, .inr (.inl (σ.2.2 30)))) := rfl
theorem fd_WC_31 {a : Nat → Nat} {k : Nat → ClassId} {σ : fd_St} : (fd_WC a k σ)[31]? = some (a 31, .inl (k 31, 30, .inr (.inl (σ.2.2 31)))) := rfl
theorem fd_WC_32 {a : Nat → Nat} {k : Nat → ClassId} {σ : fd_St} : (fd_WC a k σ)[32]? = some (a 32, .inl (k 32, 60, .inl (σ.2.1 32))) := rfl
theorem fd_WC_33 {a : Nat → Nat} {k : Nat → ClassId} {σ : fd_St} : (fd_WC a k σ)[33]? = some (a 33, .inl (k 33, 60, .inl (σ.2.1 33))) := rfl
theorem fd_WC_34 {a : Nat → Nat} {k : Nat → ClassId} {σ : fd_St} : (fd_WC a k σ)[34]? = some (a 34, .inl (k 34, 60, .inl (σ.2.1 34))) := rfl
theorem fd_WC_35 {a : Nat → Nat} {k : Nat → ClassId} {σ : fd_St} : (fd_WC a k σ)[35]? = some (a 35, .inl (k 35, 60, .inl (σ.2.1 35))) := rfl
theorem fd_WC_36 {a : Nat → Nat} {k : Nat → ClassId} {σ : fd_St} : (fd_WC a k σ)[36]? = some (a 36, .inl (k 36, 60, .inl (σ.2.1 36))) := rfl
theorem fd_WC_37 {a : Nat → Nat} {k : Nat → ClassId} {σ : fd_St} : (fd_WC a k σ)[37]? = some (a 37, .inl (k 37, 60, .inl (σ.2.1 37))) := rfl
theorem fd_WC_38 {a : Nat → Nat} {k : Nat → ClassId} {σ : fd_St} : (fd_WC a k σ)[38]? = some (a 38, .inl (k 38, 120, .inl (σ.2.1 38))) := rfl
theorem fd_tyC_12 {k : Nat → ClassId} : (fd_tyC k)[0]? = some (k 12, .int) := rfl
theorem fd_tyC_13 {k : Nat → ClassId} : (fd_tyC k)[1]? = some (k 13, .int) := rfl
theorem fd_tyC_14 {k : Nat → ClassId} : (fd_tyC k)[2]? = some (k 14, .int) := rfl
theorem fd_tyC_15 {k : Nat → ClassId} : (fd_tyC k)[3]? = some (k 15, .long) := rfl
theorem fd_tyC_16 {k : Nat → ClassId} : (fd_tyC k)[4]? = some (k 16, .long) := rfl
theorem fd_tyC_17 {k : Nat → ClassId} : (fd_tyC k)[5]? = some (k 17, .boolean) := rfl
theorem fd_tyC_18 {k : Nat → ClassId} : (fd_tyC k)[6]? = some (k 18, .int) := rfl
theorem fd_tyC_19 {k : Nat → ClassId} : (fd_tyC k)[7]? = some (k 19, .long) := rfl
theorem fd_tyC_20 {k : Nat → ClassId} : (fd_tyC k)[8]? = some (k 20, .int) := rfl
theorem fd_tyC_21 {k : Nat → ClassId} : (fd_tyC k)[9]? = some (k 21, .int) := rfl
theorem fd_tyC_22 {k : Nat → ClassId} : (fd_tyC k)[10]? = some (k 22, .int) := rfl
theorem fd_tyC_23 {k : Nat → ClassId} : (fd_tyC k)[11]? = some (k 23, .int) := rfl
theorem fd_tyC_24 {k : Nat → ClassId} : (fd_tyC k)[12]? = some (k 24, .int) := rfl
theorem fd_tyC_25 {k : Nat → ClassId} : (fd_tyC k)[13]? = some (k 25, .int) := rfl
theorem fd_tyC_26 {k : Nat → ClassId} : (fd_tyC k)[14]? = some (k 26, .int) := rfl
theorem fd_tyC_27 {k : Nat → ClassId} : (fd_tyC k)[15]? = some (k 27, .int) := rfl
theorem fd_tyC_28 {k : Nat → ClassId} : (fd_tyC k)[16]? = some (k 28, .int) := rfl
theorem fd_tyC_29 {k : Nat → ClassId} : (fd_tyC k)[17]? = some (k 29, .int) := rfl
theorem fd_tyC_30 {k : Nat → ClassId} : (fd_tyC k)[18]? = some (k 30, .long) := rfl
theorem fd_tyC_31 {k : Nat → ClassId} : (fd_tyC k)[19]? = some (k 31, .long) := rfl
theorem fd_tyC_32 {k : Nat → ClassId} : (fd_tyC k)[20]? = some (k 32, .int) := rfl
theorem fd_tyC_33 {k : Nat → ClassId} : (fd_tyC k)[21]? = some (k 33, .int) := rfl
theorem fd_tyC_34 {k : Nat → ClassId} : (fd_tyC k)[22]? = some (k 34, .int) := rfl
theorem fd_tyC_35 {k : Nat → ClassId} : (fd_tyC k)[23]? = some (k 35, .int) := rfl
theorem fd_tyC_36 {k : Nat → ClassId} : (fd_tyC k)[24]? = some (k 36, .int) := rfl
theorem fd_tyC_37 {k : Nat → ClassId} : (fd_tyC k)[25]? = some (k 37, .int) := rfl
theorem fd_tyC_38 {k : Nat → ClassId} : (fd_tyC k)[26]? = some (k 38, .int) := rfl
theorem fd_WCi_0 {a : Nat → Nat} {k : Nat → ClassId} {σ : fd_St} {v : Int32} : (fd_WC a k σ).set 0 (a 0, .inr (10, [.ref (a 1), .ref (a 2), .ref (a 3), .ref (a 4), .ref (a 9), .ref (a 10), .ref (a 11), .int v])) = fd_WC a k (fd_sI 0 v σ) := rfl
theorem fd_WCi_1 {a : Nat → Nat} {k : Nat → ClassId} {σ : fd_St} {v : Int32} : (fd_WC a k σ).set 1 (a 1, .inr (2, [.ref (a 12), .ref (a 13), .ref (a 14), .ref (a 15), .ref (a 16), .ref (a 17), .int v, .int (σ.1 2), .int (σ.1 3)])) = fd_WC a k (fd_sI 1 v σ) := rfl
theorem fd_WCi_2 {a : Nat → Nat} {k : Nat → ClassId} {σ : fd_St} {v : Int32} : (fd_WC a k σ).set 1 (a 1, .inr (2, [.ref (a 12), .ref (a 13), .ref (a 14), .ref (a 15), .ref (a 16), .ref (a 17), .int (σ.1 1), .int v, .int (σ.1 3)])) = fd_WC a k (fd_sI 2 v σ) := rfl
theorem fd_WCi_3 {a : Nat → Nat} {k : Nat → ClassId} {σ : fd_St} {v : Int32} : (fd_WC a k σ).set 1 (a 1, .inr (2, [.ref (a 12), .ref (a 13), .ref (a 14), .ref (a 15), .ref (a 16), .ref (a 17), .int (σ.1 1), .int (σ.1 2), .int v])) = fd_WC a k (fd_sI 3 v σ) := rfl
theorem fd_WCi_4 {a : Nat → Nat} {k : Nat → ClassId} {σ : fd_St} {v : Int32} : (fd_WC a k σ).set 2 (a 2, .inr (5, [.ref (a 18), .ref (a 19), .int v])) = fd_WC a k (fd_sI 4 v σ) := rfl
theorem fd_WCi_5 {a : Nat → Nat} {k : Nat → ClassId} {σ : fd_St} {v : Int32} : (fd_WC a k σ).set 3 (a 3, .inr (4, [.ref (a 20), .ref (a 21), .int v])) = fd_WC a k (fd_sI 5 v σ) := rfl
theorem fd_WCi_6 {a : Nat → Nat} {k : Nat → ClassId} {σ : fd_St} {v : Int32} : (fd_WC a k σ).set 5 (a 5, .inr (8, [.ref (a 23), .ref (a 24), .ref (a 25), .ref (a 26), .ref (a 27), .ref (a 28), .int v])) = fd_WC a k (fd_sI 6 v σ) := rfl
theorem fd_WCi_7 {a : Nat → Nat} {k : Nat → ClassId} {σ : fd_St} {v : Int32} : (fd_WC a k σ).set 6 (a 6, .inr (0, [.ref (a 7), .int v, .int (σ.1 8)])) = fd_WC a k (fd_sI 7 v σ) := rfl
theorem fd_WCi_8 {a : Nat → Nat} {k : Nat → ClassId} {σ : fd_St} {v : Int32} : (fd_WC a k σ).set 6 (a 6, .inr (0, [.ref (a 7), .int (σ.1 7), .int v])) = fd_WC a k (fd_sI 8 v σ) := rfl
theorem fd_WCi_9 {a : Nat → Nat} {k : Nat → ClassId} {σ : fd_St} {v : Int32} : (fd_WC a k σ).set 7 (a 7, .inr (9, [.int v, .int (σ.1 10), .int (σ.1 11)])) = fd_WC a k (fd_sI 9 v σ) := rfl
theorem fd_WCi_10 {a : Nat → Nat} {k : Nat → ClassId} {σ : fd_St} {v : Int32} : (fd_WC a k σ).set 7 (a 7, .inr (9, [.int (σ.1 9), .int v, .int (σ.1 11)])) = fd_WC a k (fd_sI 10 v σ) := rfl
theorem fd_WCi_11 {a : Nat → Nat} {k : Nat → ClassId} {σ : fd_St} {v : Int32} : (fd_WC a k σ).set 7 (a 7, .inr (9, [.int (σ.1 9), .int (σ.1 10), .int v])) = fd_WC a k (fd_sI 11 v σ) := rfl
theorem fd_WCi_12 {a : Nat → Nat} {k : Nat → ClassId} {σ : fd_St} {v : Int32} : (fd_WC a k σ).set 8 (a 8, .inr (9, [.int v, .int (σ.1 13), .int (σ.1 14)])) = fd_WC a k (fd_sI 12 v σ) := rfl
theorem fd_WCi_13 {a : Nat → Nat} {k : Nat → ClassId} {σ : fd_St} {v : Int32} : (fd_WC a k σ).set 8 (a 8, .inr (9, [.int (σ.1 12), .int v, .int (σ.1 14)])) = fd_WC a k (fd_sI 13 v σ) := rfl
theorem fd_WCi_14 {a : Nat → Nat} {k : Nat → ClassId} {σ : fd_St} {v : Int32} : (fd_WC a k σ).set 8 (a 8, .inr (9, [.int (σ.1 12), .int (σ.1 13), .int v])) = fd_WC a k (fd_sI 14 v σ) := rfl
theorem fd_WCi_15 {a : Nat → Nat} {k : Nat → ClassId} {σ : fd_St} {v : Int32} : (fd_WC a k σ).set 9 (a 9, .inr (7, [.ref (a 29), .int v])) = fd_WC a k (fd_sI 15 v σ) := rfl
theorem fd_WCi_16 {a : Nat → Nat} {k : Nat → ClassId} {σ : fd_St} {v : Int32} : (fd_WC a k σ).set 10 (a 10, .inr (1, [.ref (a 30), .ref (a 31), .int v, .int (σ.1 17)])) = fd_WC a k (fd_sI 16 v σ) := rfl
theorem fd_WCi_17 {a : Nat → Nat} {k : Nat → ClassId} {σ : fd_St} {v : Int32} : (fd_WC a k σ).set 10 (a 10, .inr (1, [.ref (a 30), .ref (a 31), .int (σ.1 16), .int v])) = fd_WC a k (fd_sI 17 v σ) := rfl
theorem fd_WCi_18 {a : Nat → Nat} {k : Nat → ClassId} {σ : fd_St} {v : Int32} : (fd_WC a k σ).set 11 (a 11, .inr (6, [.ref (a 32), .ref (a 33), .ref (a 34), .ref (a 35), .ref (a 36), .ref (a 37), .ref (a 38), .int v, .int (σ.1 19)])) = fd_WC a k (fd_sI 18 v σ) := rfl
theorem fd_WCi_19 {a : Nat → Nat} {k : Nat → ClassId} {σ : fd_St} {v : Int32} : (fd_WC a k σ).set 11 (a 11, .inr (6, [.ref (a 32), .ref (a 33), .ref (a 34), .ref (a 35), .ref (a 36), .ref (a 37), .ref (a 38), .int (σ.1 18), .int v])) = fd_WC a k (fd_sI 19 v σ) := rfl
theorem fd_WCa_12 {a : Nat → Nat} {k : Nat → ClassId} {σ : fd_St} {i v : Int32} : (fd_WC a k σ).set 12 (a 12, .inl (k 12, 200, .inl (upd (σ.2.1 12) i.toNatClampNeg v))) = fd_WC a k (fd_sA 12 i v σ) := rfl
theorem fd_WCa_13 {a : Nat → Nat} {k : Nat → ClassId} {σ : fd_St} {i v : Int32} : (fd_WC a k σ).set 13 (a 13, .inl (k 13, 200, .inl (upd (σ.2.1 13) i.toNatClampNeg v))) = fd_WC a k (fd_sA 13 i v σ) := rfl
theorem fd_WCa_14 {a : Nat → Nat} {k : Nat → ClassId} {σ : fd_St} {i v : Int32} : (fd_WC a k σ).set 14 (a 14, .inl (k 14, 200, .inl (upd (σ.2.1 14) i.toNatClampNeg v))) = fd_WC a k (fd_sA 14 i v σ) := rfl
theorem fd_WCa_15 {a : Nat → Nat} {k : Nat → ClassId} {σ : fd_St} {i : Int32} {v : Int64} : (fd_WC a k σ).set 15 (a 15, .inl (k 15, 200, .inr (.inl (vp_updL (σ.2.2 15) i.toNatClampNeg v)))) = fd_WC a k (fd_sL 15 i v σ) := rfl
theorem fd_WCa_16 {a : Nat → Nat} {k : Nat → ClassId} {σ : fd_St} {i : Int32} {v : Int64} : (fd_WC a k σ).set 16 (a 16, .inl (k 16, 200, .inr (.inl (vp_updL (σ.2.2 16) i.toNatClampNeg v)))) = fd_WC a k (fd_sL 16 i v σ) := rfl
theorem fd_WCa_17 {a : Nat → Nat} {k : Nat → ClassId} {σ : fd_St} {i v : Int32} : (fd_WC a k σ).set 17 (a 17, .inl (k 17, 200, .inl (upd (σ.2.1 17) i.toNatClampNeg v))) = fd_WC a k (fd_sA 17 i v σ) := rfl
theorem fd_WCa_18 {a : Nat → Nat} {k : Nat → ClassId} {σ : fd_St} {i v : Int32} : (fd_WC a k σ).set 18 (a 18, .inl (k 18, 32, .inl (upd (σ.2.1 18) i.toNatClampNeg v))) = fd_WC a k (fd_sA 18 i v σ) := rfl
theorem fd_WCa_19 {a : Nat → Nat} {k : Nat → ClassId} {σ : fd_St} {i : Int32} {v : Int64} : (fd_WC a k σ).set 19 (a 19, .inl (k 19, 32, .inr (.inl (vp_updL (σ.2.2 19) i.toNatClampNeg v)))) = fd_WC a k (fd_sL 19 i v σ) := rfl
theorem fd_WCa_20 {a : Nat → Nat} {k : Nat → ClassId} {σ : fd_St} {i v : Int32} : (fd_WC a k σ).set 20 (a 20, .inl (k 20, 40, .inl (upd (σ.2.1 20) i.toNatClampNeg v))) = fd_WC a k (fd_sA 20 i v σ) := rfl
theorem fd_WCa_21 {a : Nat → Nat} {k : Nat → ClassId} {σ : fd_St} {i v : Int32} : (fd_WC a k σ).set 21 (a 21, .inl (k 21, 40, .inl (upd (σ.2.1 21) i.toNatClampNeg v))) = fd_WC a k (fd_sA 21 i v σ) := rfl
theorem fd_WCa_22 {a : Nat → Nat} {k : Nat → ClassId} {σ : fd_St} {i v : Int32} : (fd_WC a k σ).set 22 (a 22, .inl (k 22, 12, .inl (upd (σ.2.1 22) i.toNatClampNeg v))) = fd_WC a k (fd_sA 22 i v σ) := rfl
theorem fd_WCa_23 {a : Nat → Nat} {k : Nat → ClassId} {σ : fd_St} {i v : Int32} : (fd_WC a k σ).set 23 (a 23, .inl (k 23, 480, .inl (upd (σ.2.1 23) i.toNatClampNeg v))) = fd_WC a k (fd_sA 23 i v σ) := rfl
theorem fd_WCa_24 {a : Nat → Nat} {k : Nat → ClassId} {σ : fd_St} {i v : Int32} : (fd_WC a k σ).set 24 (a 24, .inl (k 24, 480, .inl (upd (σ.2.1 24) i.toNatClampNeg v))) = fd_WC a k (fd_sA 24 i v σ) := rfl
theorem fd_WCa_25 {a : Nat → Nat} {k : Nat → ClassId} {σ : fd_St} {i v : Int32} : (fd_WC a k σ).set 25 (a 25, .inl (k 25, 480, .inl (upd (σ.2.1 25) i.toNatClampNeg v))) = fd_WC a k (fd_sA 25 i v σ) := rfl
theorem fd_WCa_26 {a : Nat → Nat} {k : Nat → ClassId} {σ : fd_St} {i v : Int32} : (fd_WC a k σ).set 26 (a 26, .inl (k 26, 480, .inl (upd (σ.2.1 26) i.toNatClampNeg v))) = fd_WC a k (fd_sA 26 i v σ) := rfl
theorem fd_WCa_27 {a : Nat → Nat} {k : Nat → ClassId} {σ : fd_St} {i v : Int32} : (fd_WC a k σ).set 27 (a 27, .inl (k 27, 480, .inl (upd (σ.2.1 27) i.toNatClampNeg v))) = fd_WC a k (fd_sA 27 i v σ) := rfl
theorem fd_WCa_28 {a : Nat → Nat} {k : Nat → ClassId} {σ : fd_St} {i v : Int32} : (fd_WC a k σ).set 28 (a 28, .inl (k 28, 480, .inl (upd (σ.2.1 28) i.toNatClampNeg v))) = fd_WC a k (fd_sA 28 i v σ) := rfl
theorem fd_WCa_29 {a : Nat → Nat} {k : Nat → ClassId} {σ : fd_St} {i v : Int32} : (fd_WC a k σ).set 29 (a 29, .inl (k 29, 200, .inl (upd (σ.2.1 29) i.toNatClampNeg v))) = fd_WC a k (fd_sA 29 i v σ) := rfl
theorem fd_WCa_30 {a : Nat → Nat} {k : Nat → ClassId} {σ : fd_St} {i : Int32} {v : Int64} : (fd_WC a k σ).set 30 (a 30, .inl (k 30, 30, .inr (.inl (vp_updL (σ.2.2 30) i.toNatClampNeg v)))) = fd_WC a k (fd_sL 30 i v σ) := rfl
theorem fd_WCa_31 {a : Nat → Nat} {k : Nat → ClassId} {σ : fd_St} {i : Int32} {v : Int64} : (fd_WC a k σ).set 31 (a 31, .inl (k 31, 30, .inr (.inl (vp_updL (σ.2.2 31) i.toNatClampNeg v)))) = fd_WC a k (fd_sL 31 i v σ) := rfl
theorem fd_WCa_32 {a : Nat → Nat} {k : Nat → ClassId} {σ : fd_St} {i v : Int32} : (fd_WC a k σ).set 32 (a 32, .inl (k 32, 60, .inl (upd (σ.2.1 32) i.toNatClampNeg v))) = fd_WC a k (fd_sA 32 i v σ) := rfl
theorem fd_WCa_33 {a : Nat → Nat} {k : Nat → ClassId} {σ : fd_St} {i v : Int32} : (fd_WC a k σ).set 33 (a 33, .inl (k 33, 60, .inl (upd (σ.2.1 33) i.toNatClampNeg v))) = fd_WC a k (fd_sA 33 i v σ) := rfl
theorem fd_WCa_34 {a : Nat → Nat} {k : Nat → ClassId} {σ : fd_St} {i v : Int32} : (fd_WC a k σ).set 34 (a 34, .inl (k 34, 60, .inl (upd (σ.2.1 34) i.toNatClampNeg v))) = fd_WC a k (fd_sA 34 i v σ) := rfl
theorem fd_WCa_35 {a : Nat → Nat} {k : Nat → ClassId} {σ : fd_St} {i v : Int32} : (fd_WC a k σ).set 35 (a 35, .inl (k 35, 60, .inl (upd (σ.2.1 35) i.toNatClampNeg v))) = fd_WC a k (fd_sA 35 i v σ) := rfl
theorem fd_WCa_36 {a : Nat → Nat} {k : Nat → ClassId} {σ : fd_St} {i v : Int32} : (fd_WC a k σ).set 36 (a 36, .inl (k 36, 60, .inl (upd (σ.2.1 36) i.toNatClampNeg v))) = fd_WC a k (fd_sA 36 i v σ) := rfl
theorem fd_WCa_37 {a : Nat → Nat} {k : Nat → ClassId} {σ : fd_St} {i v : Int32} : (fd_WC a k σ).set 37 (a 37, .inl (k 37, 60, .inl (upd (σ.2.1 37) i.toNatClampNeg v))) = fd_WC a k (fd_sA 37 i v σ) := rfl
theorem fd_WCa_38 {a : Nat → Nat} {k : Nat → ClassId} {σ : fd_St} {i v : Int32} : (fd_WC a k σ).set 38 (a 38, .inl (k 38, 120, .inl (upd (σ.2.1 38) i.toNatClampNeg v))) = fd_WC a k (fd_sA 38 i v σ) := rfl
theorem fd_WC_map {a : Nat → Nat} {k : Nat → ClassId} {σ : fd_St} : (fd_WC a k σ).map (fun q => q.1) = (List.range 39).map a := rfl
theorem fd_DC {a : Nat → Nat} {k : Nat → ClassId} {σ : fd_St} {A : Nat → Prop} (hI : fd_I 39 a) (hA : ∀ i, i < 39 → A (a i)) : va_D A (fd_WC a k σ) := fd_D fd_WC_map hI hA
def fd_PC (D : va_G) (a : Nat → Nat) (k : Nat → ClassId) (sz : Nat) (σ : fd_St) (U : State) : Prop := U.heap.size = sz ∧ va_P D vwCl (fd_WC a k σ) U.heap ∧ va_K D vwCl (fd_tyC k) U
def fd_BC (D : va_G) (a : Nat → Nat) (k : Nat → ClassId) (σ : fd_St) (t : State) : Prop := va_P D vwCl (fd_WC a k σ) t.heap ∧ va_K D vwCl (fd_tyC k) t
theorem fd_blC {av : List Value} {D : va_G} {a : Nat → Nat} {k : Nat → ClassId} {sz : Nat} {σ : fd_St} : FrameBlind (va_Pc av (fd_PC D a k sz σ)) := fun a' U g mk q => by
  obtain ⟨q0, q1, qP, qK⟩ := q
  exact ⟨q0, q1, qP, va_K.moved (u := U) (U := U.calling g mk a') (Vm.Alike.refl U.vm) qK⟩
theorem fd_prC {av : List Value} {D : va_G} {a : Nat → Nat} {k : Nat → ClassId} {σ : fd_St} {s : State} {H : Heap} (hP : va_P D vwCl (fd_WC a k σ) H) (hK : va_K D vwCl (fd_tyC k) s) : ∀ U : State, U.heap = H → s.WarmedH U.vm → va_Pc av (fd_PC D a k H.size σ) av.toArray U := fun U hU hW => ⟨rfl, by rw [hU], by rw [hU]; exact hP, va_K.moved hW.alike hK⟩
def fd_WM (a : Nat → Nat) (k : Nat → ClassId) (σ : fd_St) : va_W := [(a 0, .inr (11, [.int (σ.1 0), .int (σ.1 1), .ref (a 1), .ref (a 2), .ref (a 3), .ref (a 4), .int (σ.1 2), .int (σ.1 3), .ref (a 5), .ref (a 6), .int (σ.1 4), .int (σ.1 5), .ref (a 7), .ref (a 8), .ref (a 9), .ref (a 10), .ref (a 11), .int (σ.1 6), .int (σ.1 7), .ref (a 12), .ref (a 13), .ref (a 14), .ref (a 15), .ref (a 16), .ref (a 17), .ref (a 18), .int (σ.1 8), .int (σ.1 9), .int (σ.1 10), .int (σ.1 11), .ref (a 19), .int (σ.1 12), .int (σ.1 13), .ref (a 20), .ref (a 21), .int (σ.1 14), .ref (a 22), .ref (a 23), .ref (a 24), .ref (a 25), .ref (a 26), .ref (a 27), .ref (a 28)])),
  (a 1, .inl (k 1, 200, .inl (σ.2.1 1))),
  (a 2, .inl (k 2, 200, .inl (σ.2.1 2))),
  (a 3, .inl (k 3, 200, .inl (σ.2.1 3))),
  (a 4, .inl (k 4, 200, .inr (.inl (σ.2.2 4)))),
  (a 5, .inl (k 5, 32, .inl (σ.2.1 5))),
  (a 6, .inl (k 6, 32, .inr (.inl (σ.2.2 6)))),
  (a 7, .inl (k 7, 40, .inl (σ.2.1 7))),
  (a 8, .inl (k 8, 40, .inl (σ.2.1 8))),
  (a 9, .inl (k 9, 200, .inr (.inl (σ.2.2 9)))),
  (a 10, .inl (k 10, 200, .inr (.inl (σ.2.2 10)))),
  (a 11, .inl (k 11, 200, .inl (σ.2.1 11))),
  (a 12, .inl (k 12, 480, .inl (σ.2.1 12))),
  (a 13, .inl (k 13, 480, .inl (σ.2.1 13))),
  (a 14, .inl (k 14, 480, .inl (σ.2.1 14))),
  (a 15, .inl (k 15, 480, .inl (σ.2.1 15))),
  (a 16, .inl (k 16, 480, .inl (σ.2.1 16))),
  (a 17, .inl (k 17, 480, .inl (σ.2.1 17))),
  (a 18, .inl (k 18, 6, .inl (σ.2.1 18))),
  (a 19, .inl (k 19, 200, .inl (σ.2.1 19))),
  (a 20, .inl (k 20, 30, .inr (.inl (σ.2.2 20)))),
  (a 21, .inl (k 21, 30, .inr (.inl (σ.2.2 21)))),
  (a 22, .inl (k 22, 60, .inl (σ.2.1 22))),
  (a 23, .inl (k 23, 60, .inl (σ.2.1 23))),
  (a 24, .inl (k 24, 60, .inl (σ.2.1 24))),
  (a 25, .inl (k 25, 60, .inl (σ.2.1 25))),
  (a 26, .inl (k 26, 60, .inl (σ.2.1 26))),
  (a 27, .inl (k 27, 122, .inl (σ.2.1 27))),
  (a 28, .inl (k 28, 122, .inl (σ.2.1 28)))]
def fd_tyM (k : Nat → ClassId) : List (ClassId × FieldType) := [(k 1, .int), (k 2, .int), (k 3, .int), (k 4, .long), (k 5, .int), (k 6, .long), (k 7, .int), (k 8, .int), (k 9, .long), (k 10, .long), (k 11, .boolean), (k 12, .int), (k 13, .int), (k 14, .int), (k 15, .int), (k 16, .int), (k 17, .int), (k 18, .int), (k 19, .int), (k 20, .long), (k 21, .long), (k 22, .int), (k 23, .int), (k 24, .int), (k 25, .int), (k 26, .int), (k 27, .int), (k 28, .int)]
theorem fd_WM_0 {a : Nat → Nat} {k : Nat → ClassId} {σ : fd_St} : (fd_WM a k σ)[0]? = some (a 0, .inr (11, [.int (σ.1 0), .int (σ.1 1), .ref (a 1), .ref (a 2), .ref (a 3), .ref (a 4), .int (σ.1 2), .int (σ.1 3), .ref (a 5), .ref (a 6), .int (σ.1 4), .int (σ.1 5), .ref (a 7), .ref (a 8), .ref (a 9), .ref (a 10), .ref (a 11), .int (σ.1 6), .int (σ.1 7), .ref (a 12), .ref (a 13), .ref (a 14), .ref (a 15), .ref (a 16), .ref (a 17), .ref (a 18), .int (σ.1 8), .int (σ.1 9), .int (σ.1 10), .int (σ.1 11), .ref (a 19), .int (σ.1 12), .int (σ.1 13), .ref (a 20), .ref (a 21), .int (σ.1 14), .ref (a 22), .ref (a 23), .ref (a 24), .ref (a 25), .ref (a 26), .ref (a 27), .ref (a 28)])) := rfl
theorem fd_WM_1 {a : Nat → Nat} {k : Nat → ClassId} {σ : fd_St} : (fd_WM a k σ)[1]? = some (a 1, .inl (k 1, 200, .inl (σ.2.1 1))) := rfl
theorem fd_WM_2 {a : Nat → Nat} {k : Nat → ClassId} {σ : fd_St} : (fd_WM a k σ)[2]? = some (a 2, .inl (k 2, 200, .inl (σ.2.1 2))) := rfl
theorem fd_WM_3 {a : Nat → Nat} {k : Nat → ClassId} {σ : fd_St} : (fd_WM a k σ)[3]? = some (a 3, .inl (k 3, 200, .inl (σ.2.1 3))) := rfl
theorem fd_WM_4 {a : Nat → Nat} {k : Nat → ClassId} {σ : fd_St} : (fd_WM a k σ)[4]? = some (a 4, .inl (k 4, 200, .inr (.inl (σ.2.2 4)))) := rfl
theorem fd_WM_5 {a : Nat → Nat} {k : Nat → ClassId} {σ : fd_St} : (fd_WM a k σ)[5]? = some (a 5, .inl (k 5, 32, .inl (σ.2.1 5))) := rfl
theorem fd_WM_6 {a : Nat → Nat} {k : Nat → ClassId} {σ : fd_St} : (fd_WM a k σ)[6]? = some (a 6, .inl (k 6, 32, .inr (.inl (σ.2.2 6)))) := rfl
theorem fd_WM_7 {a : Nat → Nat} {k : Nat → ClassId} {σ : fd_St} : (fd_WM a k σ)[7]? = some (a 7, .inl (k 7, 40, .inl (σ.2.1 7))) := rfl
theorem fd_WM_8 {a : Nat → Nat} {k : Nat → ClassId} {σ : fd_St} : (fd_WM a k σ)[8]? = some (a 8, .inl (k 8, 40, .inl (σ.2.1 8))) := rfl
theorem fd_WM_9 {a : Nat → Nat} {k : Nat → ClassId} {σ : fd_St} : (fd_WM a k σ)[9]? = some (a 9, .inl (k 9, 200, .inr (.inl (σ.2.2 9)))) := rfl
theorem fd_WM_10 {a : Nat → Nat} {k : Nat → ClassId} {σ : fd_St} : (fd_WM a k σ)[10]? = some (a 10, .inl (k 10, 200, .inr (.inl (σ.2.2 10)))) := rfl
theorem fd_WM_11 {a : Nat → Nat} {k : Nat → ClassId} {σ : fd_St} : (fd_WM a k σ)[11]? = some (a 11, .inl (k 11, 200, .inl (σ.2.1 11))) := rfl
theorem fd_WM_12 {a : Nat → Nat} {k : Nat → ClassId} {σ : fd_St} : (fd_WM a k σ)[12]? = some (a 12, .inl (k 12, 480, .inl (σ.2.1 12))) := rfl
theorem fd_WM_13 {a : Nat → Nat} {k : Nat → ClassId} {σ : fd_St} : (fd_WM a k σ)[13]? = some (a 13, .inl (k 13, 480, .inl (σ.2.1 13))) := rfl
theorem fd_WM_14 {a : Nat → Nat} {k : Nat → ClassId} {σ : fd_St} : (fd_WM a k σ)[14]? = some (a 14, .inl (k 14, 480, .inl (σ.2.1 14))) := rfl
theorem fd_WM_15 {a : Nat → Nat} {k : Nat → ClassId} {σ : fd_St} : (fd_WM a k σ)[15]? = some (a 15, .inl (k 15, 480, .inl (σ.2.1 15))) := rfl
theorem fd_WM_16 {a : Nat → Nat} {k : Nat → ClassId} {σ : fd_St} : (fd_WM a k σ)[16]? = some (a 16, .inl (k 16, 480, .inl (σ.2.1 16))) := rfl
theorem fd_WM_17 {a : Nat → Nat} {k : Nat → ClassId} {σ : fd_St} : (fd_WM a k σ)[17]? = some (a 17, .inl (k 17, 480, .inl (σ.2.1 17))) := rfl
theorem fd_WM_18 {a : Nat → Nat} {k : Nat → ClassId} {σ : fd_St} : (fd_WM a k σ)[18]? = some (a 18, .inl (k 18, 6, .inl (σ.2.1 18))) := rfl
theorem fd_WM_19 {a : Nat → Nat} {k : Nat → ClassId} {σ : fd_St} : (fd_WM a k σ)[19]? = some (a 19, .inl (k 19, 200, .inl (σ.2.1 19))) := rfl
theorem fd_WM_20 {a : Nat → Nat} {k : Nat → ClassId} {σ : fd_St} : (fd_WM a k σ)[20]? = some (a 20, .inl (k 20, 30, .inr (.inl (σ.2.2 20)))) := rfl
theorem fd_WM_21 {a : Nat → Nat} {k : Nat → ClassId} {σ : fd_St} : (fd_WM a k σ)[21]? = some (a 21, .inl (k 21, 30, .inr (.inl (σ.2.2 21)))) := rfl
theorem fd_WM_22 {a : Nat → Nat} {k : Nat → ClassId} {σ : fd_St} : (fd_WM a k σ)[22]? = some (a 22, .inl (k 22, 60, .inl (σ.2.1 22))) := rfl
theorem fd_WM_23 {a : Nat → Nat} {k : Nat → ClassId} {σ : fd_St} : (fd_WM a k σ)[23]? = some (a 23, .inl (k 23, 60, .inl (σ.2.1 23))) := rfl
theorem fd_WM_24 {a : Nat → Nat} {k : Nat → ClassId} {σ : fd_St} : (fd_WM a k σ)[24]? = some (a 24, .inl (k 24, 60, .inl (σ.2.1 24))) := rfl
theorem fd_WM_25 {a : Nat → Nat} {k : Nat → ClassId} {σ : fd_St} : (fd_WM a k σ)[25]? = some (a 25, .inl (k 25, 60, .inl (σ.2.1 25))) := rfl
theorem fd_WM_26 {a : Nat → Nat} {k : Nat → ClassId} {σ : fd_St} : (fd_WM a k σ)[26]? = some (a 26, .inl (k 26, 60, .inl (σ.2.1 26))) := rfl
theorem fd_WM_27 {a : Nat → Nat} {k : Nat → ClassId} {σ : fd_St} : (fd_WM a k σ)[27]? = some (a 27, .inl (k 27, 122, .inl (σ.2.1 27))) := rfl
theorem fd_WM_28 {a : Nat → Nat} {k : Nat → ClassId} {σ : fd_St} : (fd_WM a k σ)[28]? = some (a 28, .inl (k 28, 122, .inl (σ.2.1 28))) := rfl
theorem fd_tyM_1 {k : Nat → ClassId} : (fd_tyM k)[0]? = some (k 1, .int) := rfl
theorem fd_tyM_2 {k : Nat → ClassId} : (fd_tyM k)[1]? = some (k 2, .int) := rfl
theorem fd_tyM_3 {k : Nat → ClassId} : (fd_tyM k)[2]? = some (k 3, .int) := rfl
theorem fd_tyM_4 {k : Nat → ClassId} : (fd_tyM k)[3]? = some (k 4, .long) := rfl
theorem fd_tyM_5 {k : Nat → ClassId} : (fd_tyM k)[4]? = some (k 5, .int) := rfl
theorem fd_tyM_6 {k : Nat → ClassId} : (fd_tyM k)[5]? = some (k 6, .long) := rfl
theorem fd_tyM_7 {k : Nat → ClassId} : (fd_tyM k)[6]? = some (k 7, .int) := rfl
theorem fd_tyM_8 {k : Nat → ClassId} : (fd_tyM k)[7]? = some (k 8, .int) := rfl
theorem fd_tyM_9 {k : Nat → ClassId} : (fd_tyM k)[8]? = some (k 9, .long) := rfl
theorem fd_tyM_10 {k : Nat → ClassId} : (fd_tyM k)[9]? = some (k 10, .long) := rfl
theorem fd_tyM_11 {k : Nat → ClassId} : (fd_tyM k)[10]? = some (k 11, .boolean) := rfl
theorem fd_tyM_12 {k : Nat → ClassId} : (fd_tyM k)[11]? = some (k 12, .int) := rfl
theorem fd_tyM_13 {k : Nat → ClassId} : (fd_tyM k)[12]? = some (k 13, .int) := rfl
theorem fd_tyM_14 {k : Nat → ClassId} : (fd_tyM k)[13]? = some (k 14, .int) := rfl
theorem fd_tyM_15 {k : Nat → ClassId} : (fd_tyM k)[14]? = some (k 15, .int) := rfl
theorem fd_tyM_16 {k : Nat → ClassId} : (fd_tyM k)[15]? = some (k 16, .int) := rfl
theorem fd_tyM_17 {k : Nat → ClassId} : (fd_tyM k)[16]? = some (k 17, .int) := rfl
theorem fd_tyM_18 {k : Nat → ClassId} : (fd_tyM k)[17]? = some (k 18, .int) := rfl
theorem fd_tyM_19 {k : Nat → ClassId} : (fd_tyM k)[18]? = some (k 19, .int) := rfl
theorem fd_tyM_20 {k : Nat → ClassId} : (fd_tyM k)[19]? = some (k 20, .long) := rfl
theorem fd_tyM_21 {k : Nat → ClassId} : (fd_tyM k)[20]? = some (k 21, .long) := rfl
theorem fd_tyM_22 {k : Nat → ClassId} : (fd_tyM k)[21]? = some (k 22, .int) := rfl
theorem fd_tyM_23 {k : Nat → ClassId} : (fd_tyM k)[22]? = some (k 23, .int) := rfl
theorem fd_tyM_24 {k : Nat → ClassId} : (fd_tyM k)[23]? = some (k 24, .int) := rfl
theorem fd_tyM_25 {k : Nat → ClassId} : (fd_tyM k)[24]? = some (k 25, .int) := rfl
theorem fd_tyM_26 {k : Nat → ClassId} : (fd_tyM k)[25]? = some (k 26, .int) := rfl
theorem fd_tyM_27 {k : Nat → ClassId} : (fd_tyM k)[26]? = some (k 27, .int) := rfl
theorem fd_tyM_28 {k : Nat → ClassId} : (fd_tyM k)[27]? = some (k 28, .int) := rfl
theorem fd_WMi_0 {a : Nat → Nat} {k : Nat → ClassId} {σ : fd_St} {v : Int32} : (fd_WM a k σ).set 0 (a 0, .inr (11, [.int v, .int (σ.1 1), .ref (a 1), .ref (a 2), .ref (a 3), .ref (a 4), .int (σ.1 2), .int (σ.1 3), .ref (a 5), .ref (a 6), .int (σ.1 4), .int (σ.1 5), .ref (a 7), .ref (a 8), .ref (a 9), .ref (a 10), .ref (a 11), .int (σ.1 6), .int (σ.1 7), .ref (a 12), .ref (a 13), .ref (a 14), .ref (a 15), .ref (a 16), .ref (a 17), .ref (a 18), .int (σ.1 8), .int (σ.1 9), .int (σ.1 10), .int (σ.1 11), .ref (a 19), .int (σ.1 12), .int (σ.1 13), .ref (a 20), .ref (a 21), .int (σ.1 14), .ref (a 22), .ref (a 23), .ref (a 24), .ref (a 25), .ref (a 26), .ref (a 27), .ref (a 28)])) = fd_WM a k (fd_sI 0 v σ) := rfl
theorem fd_WMi_1 {a : Nat → Nat} {k : Nat → ClassId} {σ : fd_St} {v : Int32} : (fd_WM a k σ).set 0 (a 0, .inr (11, [.int (σ.1 0), .int v, .ref (a 1), .ref (a 2), .ref (a 3), .ref (a 4), .int (σ.1 2), .int (σ.1 3), .ref (a 5), .ref (a 6), .int (σ.1 4), .int (σ.1 5), .ref (a 7), .ref (a 8), .ref (a 9), .ref (a 10), .ref (a 11), .int (σ.1 6), .int (σ.1 7), .ref (a 12), .ref (a 13), .ref (a 14), .ref (a 15), .ref (a 16), .ref (a 17), .ref (a 18), .int (σ.1 8), .int (σ.1 9), .int (σ.1 10), .int (σ.1 11), .ref (a 19), .int (σ.1 12), .int (σ.1 13), .ref (a 20), .ref (a 21), .int (σ.1 14), .ref (a 22), .ref (a 23), .ref (a 24), .ref (a 25), .ref (a 26), .ref (a 27), .ref (a 28)])) = fd_WM a k (fd_sI 1 v σ) := rfl
theorem fd_WMi_2 {a : Nat → Nat} {k : Nat → ClassId} {σ : fd_St} {v : Int32} : (fd_WM a k σ).set 0 (a 0, .inr (11, [.int (σ.1 0), .int (σ.1 1), .ref (a 1), .ref (a 2), .ref (a 3), .ref (a 4), .int v, .int (σ.1 3), .ref (a 5), .ref (a 6), .int (σ.1 4), .int (σ.1 5), .ref (a 7), .ref (a 8), .ref (a 9), .ref (a 10), .ref (a 11), .int (σ.1 6), .int (σ.1 7), .ref (a 12), .ref (a 13), .ref (a 14), .ref (a 15), .ref (a 16), .ref (a 17), .ref (a 18), .int (σ.1 8), .int (σ.1 9), .int (σ.1 10), .int (σ.1 11), .ref (a 19), .int (σ.1 12), .int (σ.1 13), .ref (a 20), .ref (a 21), .int (σ.1 14), .ref (a 22), .ref (a 23), .ref (a 24), .ref (a 25), .ref (a 26), .ref (a 27), .ref (a 28)])) = fd_WM a k (fd_sI 2 v σ) := rfl
theorem fd_WMi_3 {a : Nat → Nat} {k : Nat → ClassId} {σ : fd_St} {v : Int32} : (fd_WM a k σ).set 0 (a 0, .inr (11, [.int (σ.1 0), .int (σ.1 1), .ref (a 1), .ref (a 2), .ref (a 3), .ref (a 4), .int (σ.1 2), .int v, .ref (a 5), .ref (a 6), .int (σ.1 4), .int (σ.1 5), .ref (a 7), .ref (a 8), .ref (a 9), .ref (a 10), .ref (a 11), .int (σ.1 6), .int (σ.1 7), .ref (a 12), .ref (a 13), .ref (a 14), .ref (a 15), .ref (a 16), .ref (a 17), .ref (a 18), .int (σ.1 8), .int (σ.1 9), .int (σ.1 10), .int (σ.1 11), .ref (a 19), .int (σ.1 12), .int (σ.1 13), .ref (a 20), .ref (a 21), .int (σ.1 14), .ref (a 22), .ref (a 23), .ref (a 24), .ref (a 25), .ref (a 26), .ref (a 27), .ref (a 28)])) = fd_WM a k (fd_sI 3 v σ) := rfl
theorem fd_WMi_4 {a : Nat → Nat} {k : Nat → ClassId} {σ : fd_St} {v : Int32} : (fd_WM a k σ).set 0 (a 0, .inr (11, [.int (σ.1 0), .int (σ.1 1), .ref (a 1), .ref (a 2), .ref (a 3), .ref (a 4), .int (σ.1 2), .int (σ.1 3), .ref (a 5), .ref (a 6), .int v, .int (σ.1 5), .ref (a 7), .ref (a 8), .ref (a 9), .ref (a 10), .ref (a 11), .int (σ.1 6), .int (σ.1 7), .ref (a 12), .ref (a 13), .ref (a 14), .ref (a 15), .ref (a 16), .ref (a 17), .ref (a 18), .int (σ.1 8), .int (σ.1 9), .int (σ.1 10), .int (σ.1 11), .ref (a 19), .int (σ.1 12), .int (σ.1 13), .ref (a 20), .ref (a 21), .int (σ.1 14), .ref (a 22), .ref (a 23), .ref (a 24), .ref (a 25), .ref (a 26), .ref (a 27), .ref (a 28)])) = fd_WM a k (fd_sI 4 v σ) := rfl
theorem fd_WMi_5 {a : Nat → Nat} {k : Nat → ClassId} {σ : fd_St} {v : Int32} : (fd_WM a k σ).set 0 (a 0, .inr (11, [.int (σ.1 0), .int (σ.1 1), .ref (a 1), .ref (a 2), .ref (a 3), .ref (a 4), .int (σ.1 2), .int (σ.1 3), .ref (a 5), .ref (a 6), .int (σ.1 4), .int v, .ref (a 7), .ref (a 8), .ref (a 9), .ref (a 10), .ref (a 11), .int (σ.1 6), .int (σ.1 7), .ref (a 12), .ref (a 13), .ref (a 14), .ref (a 15), .ref (a 16), .ref (a 17), .ref (a 18), .int (σ.1 8), .int (σ.1 9), .int (σ.1 10), .int (σ.1 11), .ref (a 19), .int (σ.1 12), .int (σ.1 13), .ref (a 20), .ref (a 21), .int (σ.1 14), .ref (a 22), .ref (a 23), .ref (a 24), .ref (a 25), .ref (a 26), .ref (a 27), .ref (a 28)])) = fd_WM a k (fd_sI 5 v σ) := rfl
theorem fd_WMi_6 {a : Nat → Nat} {k : Nat → ClassId} {σ : fd_St} {v : Int32} : (fd_WM a k σ).set 0 (a 0, .inr (11, [.int (σ.1 0), .int (σ.1 1), .ref (a 1), .ref (a 2), .ref (a 3), .ref (a 4), .int (σ.1 2), .int (σ.1 3), .ref (a 5), .ref (a 6), .int (σ.1 4), .int (σ.1 5), .ref (a 7), .ref (a 8), .ref (a 9), .ref (a 10), .ref (a 11), .int v, .int (σ.1 7), .ref (a 12), .ref (a 13), .ref (a 14), .ref (a 15), .ref (a 16), .ref (a 17), .ref (a 18), .int (σ.1 8), .int (σ.1 9), .int (σ.1 10), .int (σ.1 11), .ref (a 19), .int (σ.1 12), .int (σ.1 13), .ref (a 20), .ref (a 21), .int (σ.1 14), .ref (a 22), .ref (a 23), .ref (a 24), .ref (a 25), .ref (a 26), .ref (a 27), .ref (a 28)])) = fd_WM a k (fd_sI 6 v σ) := rfl
theorem fd_WMi_7 {a : Nat → Nat} {k : Nat → ClassId} {σ : fd_St} {v : Int32} : (fd_WM a k σ).set 0 (a 0, .inr (11, [.int (σ.1 0), .int (σ.1 1), .ref (a 1), .ref (a 2), .ref (a 3), .ref (a 4), .int (σ.1 2), .int (σ.1 3), .ref (a 5), .ref (a 6), .int (σ.1 4), .int (σ.1 5), .ref (a 7), .ref (a 8), .ref (a 9), .ref (a 10), .ref (a 11), .int (σ.1 6), .int v, .ref (a 12), .ref (a 13), .ref (a 14), .ref (a 15), .ref (a 16), .ref (a 17), .ref (a 18), .int (σ.1 8), .int (σ.1 9), .int (σ.1 10), .int (σ.1 11), .ref (a 19), .int (σ.1 12), .int (σ.1 13), .ref (a 20), .ref (a 21), .int (σ.1 14), .ref (a 22), .ref (a 23), .ref (a 24), .ref (a 25), .ref (a 26), .ref (a 27), .ref (a 28)])) = fd_WM a k (fd_sI 7 v σ) := rfl
theorem fd_WMi_8 {a : Nat → Nat} {k : Nat → ClassId} {σ : fd_St} {v : Int32} : (fd_WM a k σ).set 0 (a 0, .inr (11, [.int (σ.1 0), .int (σ.1 1), .ref (a 1), .ref (a 2), .ref (a 3), .ref (a 4), .int (σ.1 2), .int (σ.1 3), .ref (a 5), .ref (a 6), .int (σ.1 4), .int (σ.1 5), .ref (a 7), .ref (a 8), .ref (a 9), .ref (a 10), .ref (a 11), .int (σ.1 6), .int (σ.1 7), .ref (a 12), .ref (a 13), .ref (a 14), .ref (a 15), .ref (a 16), .ref (a 17), .ref (a 18), .int v, .int (σ.1 9), .int (σ.1 10), .int (σ.1 11), .ref (a 19), .int (σ.1 12), .int (σ.1 13), .ref (a 20), .ref (a 21), .int (σ.1 14), .ref (a 22), .ref (a 23), .ref (a 24), .ref (a 25), .ref (a 26), .ref (a 27), .ref (a 28)])) = fd_WM a k (fd_sI 8 v σ) := rfl
theorem fd_WMi_9 {a : Nat → Nat} {k : Nat → ClassId} {σ : fd_St} {v : Int32} : (fd_WM a k σ).set 0 (a 0, .inr (11, [.int (σ.1 0), .int (σ.1 1), .ref (a 1), .ref (a 2), .ref (a 3), .ref (a 4), .int (σ.1 2), .int (σ.1 3), .ref (a 5), .ref (a 6), .int (σ.1 4), .int (σ.1 5), .ref (a 7), .ref (a 8), .ref (a 9), .ref (a 10), .ref (a 11), .int (σ.1 6), .int (σ.1 7), .ref (a 12), .ref (a 13), .ref (a 14), .ref (a 15), .ref (a 16), .ref (a 17), .ref (a 18), .int (σ.1 8), .int v, .int (σ.1 10), .int (σ.1 11), .ref (a 19), .int (σ.1 12), .int (σ.1 13), .ref (a 20), .ref (a 21), .int (σ.1 14), .ref (a 22), .ref (a 23), .ref (a 24), .ref (a 25), .ref (a 26), .ref (a 27), .ref (a 28)])) = fd_WM a k (fd_sI 9 v σ) := rfl
theorem fd_WMi_10 {a : Nat → Nat} {k : Nat → ClassId} {σ : fd_St} {v : Int32} : (fd_WM a k σ).set 0 (a 0, .inr (11, [.int (σ.1 0), .int (σ.1 1), .ref (a 1), .ref (a 2), .ref (a 3), .ref (a 4), .int (σ.1 2), .int (σ.1 3), .ref (a 5), .ref (a 6), .int (σ.1 4), .int (σ.1 5), .ref (a 7), .ref (a 8), .ref (a 9), .ref (a 10), .ref (a 11), .int (σ.1 6), .int (σ.1 7), .ref (a 12), .ref (a 13), .ref (a 14), .ref (a 15), .ref (a 16), .ref (a 17), .ref (a 18), .int (σ.1 8), .int (σ.1 9), .int v, .int (σ.1 11), .ref (a 19), .int (σ.1 12), .int (σ.1 13), .ref (a 20), .ref (a 21), .int (σ.1 14), .ref (a 22), .ref (a 23), .ref (a 24), .ref (a 25), .ref (a 26), .ref (a 27), .ref (a 28)])) = fd_WM a k (fd_sI 10 v σ) := rfl
theorem fd_WMi_11 {a : Nat → Nat} {k : Nat → ClassId} {σ : fd_St} {v : Int32} : (fd_WM a k σ).set 0 (a 0, .inr (11, [.int (σ.1 0), .int (σ.1 1), .ref (a 1), .ref (a 2), .ref (a 3), .ref (a 4), .int (σ.1 2), .int (σ.1 3), .ref (a 5), .ref (a 6), .int (σ.1 4), .int (σ.1 5), .ref (a 7), .ref (a 8), .ref (a 9), .ref (a 10), .ref (a 11), .int (σ.1 6), .int (σ.1 7), .ref (a 12), .ref (a 13), .ref (a 14), .ref (a 15), .ref (a 16), .ref (a 17), .ref (a 18), .int (σ.1 8), .int (σ.1 9), .int (σ.1 10), .int v, .ref (a 19), .int (σ.1 12), .int (σ.1 13), .ref (a 20), .ref (a 21), .int (σ.1 14), .ref (a 22), .ref (a 23), .ref (a 24), .ref (a 25), .ref (a 26), .ref (a 27), .ref (a 28)])) = fd_WM a k (fd_sI 11 v σ) := rfl
theorem fd_WMi_12 {a : Nat → Nat} {k : Nat → ClassId} {σ : fd_St} {v : Int32} : (fd_WM a k σ).set 0 (a 0, .inr (11, [.int (σ.1 0), .int (σ.1 1), .ref (a 1), .ref (a 2), .ref (a 3), .ref (a 4), .int (σ.1 2), .int (σ.1 3), .ref (a 5), .ref (a 6), .int (σ.1 4), .int (σ.1 5), .ref (a 7), .ref (a 8), .ref (a 9), .ref (a 10), .ref (a 11), .int (σ.1 6), .int (σ.1 7), .ref (a 12), .ref (a 13), .ref (a 14), .ref (a 15), .ref (a 16), .ref (a 17), .ref (a 18), .int (σ.1 8), .int (σ.1 9), .int (σ.1 10), .int (σ.1 11), .ref (a 19), .int v, .int (σ.1 13), .ref (a 20), .ref (a 21), .int (σ.1 14), .ref (a 22), .ref (a 23), .ref (a 24), .ref (a 25), .ref (a 26), .ref (a 27), .ref (a 28)])) = fd_WM a k (fd_sI 12 v σ) := rfl
theorem fd_WMi_13 {a : Nat → Nat} {k : Nat → ClassId} {σ : fd_St} {v : Int32} : (fd_WM a k σ).set 0 (a 0, .inr (11, [.int (σ.1 0), .int (σ.1 1), .ref (a 1), .ref (a 2), .ref (a 3), .ref (a 4), .int (σ.1 2), .int (σ.1 3), .ref (a 5), .ref (a 6), .int (σ.1 4), .int (σ.1 5), .ref (a 7), .ref (a 8), .ref (a 9), .ref (a 10), .ref (a 11), .int (σ.1 6), .int (σ.1 7), .ref (a 12), .ref (a 13), .ref (a 14), .ref (a 15), .ref (a 16), .ref (a 17), .ref (a 18), .int (σ.1 8), .int (σ.1 9), .int (σ.1 10), .int (σ.1 11), .ref (a 19), .int (σ.1 12), .int v, .ref (a 20), .ref (a 21), .int (σ.1 14), .ref (a 22), .ref (a 23), .ref (a 24), .ref (a 25), .ref (a 26), .ref (a 27), .ref (a 28)])) = fd_WM a k (fd_sI 13 v σ) := rfl
theorem fd_WMi_14 {a : Nat → Nat} {k : Nat → ClassId} {σ : fd_St} {v : Int32} : (fd_WM a k σ).set 0 (a 0, .inr (11, [.int (σ.1 0), .int (σ.1 1), .ref (a 1), .ref (a 2), .ref (a 3), .ref (a 4), .int (σ.1 2), .int (σ.1 3), .ref (a 5), .ref (a 6), .int (σ.1 4), .int (σ.1 5), .ref (a 7), .ref (a 8), .ref (a 9), .ref (a 10), .ref (a 11), .int (σ.1 6), .int (σ.1 7), .ref (a 12), .ref (a 13), .ref (a 14), .ref (a 15), .ref (a 16), .ref (a 17), .ref (a 18), .int (σ.1 8), .int (σ.1 9), .int (σ.1 10), .int (σ.1 11), .ref (a 19), .int (σ.1 12), .int (σ.1 13), .ref (a 20), .ref (a 21), .int v, .ref (a 22), .ref (a 23), .ref (a 24), .ref (a 25), .ref (a 26), .ref (a 27), .ref (a 28)])) = fd_WM a k (fd_sI 14 v σ) := rfl
theorem fd_WMa_1 {a : Nat → Nat} {k : Nat → ClassId} {σ : fd_St} {i v : Int32} : (fd_WM a k σ).set 1 (a 1, .inl (k 1, 200, .inl (upd (σ.2.1 1) i.toNatClampNeg v))) = fd_WM a k (fd_sA 1 i v σ) := rfl
theorem fd_WMa_2 {a : Nat → Nat} {k : Nat → ClassId} {σ : fd_St} {i v : Int32} : (fd_WM a k σ).set 2 (a 2, .inl (k 2, 200, .inl (upd (σ.2.1 2) i.toNatClampNeg v))) = fd_WM a k (fd_sA 2 i v σ) := rfl
theorem fd_WMa_3 {a : Nat → Nat} {k : Nat → ClassId} {σ : fd_St} {i v : Int32} : (fd_WM a k σ).set 3 (a 3, .inl (k 3, 200, .inl (upd (σ.2.1 3) i.toNatClampNeg v))) = fd_WM a k (fd_sA 3 i v σ) := rfl
theorem fd_WMa_4 {a : Nat → Nat} {k : Nat → ClassId} {σ : fd_St} {i : Int32} {v : Int64} : (fd_WM a k σ).set 4 (a 4, .inl (k 4, 200, .inr (.inl (vp_updL (σ.2.2 4) i.toNatClampNeg v)))) = fd_WM a k (fd_sL 4 i v σ) := rfl
theorem fd_WMa_5 {a : Nat → Nat} {k : Nat → ClassId} {σ : fd_St} {i v : Int32} : (fd_WM a k σ).set 5 (a 5, .inl (k 5, 32, .inl (upd (σ.2.1 5) i.toNatClampNeg v))) = fd_WM a k (fd_sA 5 i v σ) := rfl
theorem fd_WMa_6 {a : Nat → Nat} {k : Nat → ClassId} {σ : fd_St} {i : Int32} {v : Int64} : (fd_WM a k σ).set 6 (a 6, .inl (k 6, 32, .inr (.inl (vp_updL (σ.2.2 6) i.toNatClampNeg v)))) = fd_WM a k (fd_sL 6 i v σ) := rfl
theorem fd_WMa_7 {a : Nat → Nat} {k : Nat → ClassId} {σ : fd_St} {i v : Int32} : (fd_WM a k σ).set 7 (a 7, .inl (k 7, 40, .inl (upd (σ.2.1 7) i.toNatClampNeg v))) = fd_WM a k (fd_sA 7 i v σ) := rfl
theorem fd_WMa_8 {a : Nat → Nat} {k : Nat → ClassId} {σ : fd_St} {i v : Int32} : (fd_WM a k σ).set 8 (a 8, .inl (k 8, 40, .inl (upd (σ.2.1 8) i.toNatClampNeg v))) = fd_WM a k (fd_sA 8 i v σ) := rfl
theorem fd_WMa_9 {a : Nat → Nat} {k : Nat → ClassId} {σ : fd_St} {i : Int32} {v : Int64} : (fd_WM a k σ).set 9 (a 9, .inl (k 9, 200, .inr (.inl (vp_updL (σ.2.2 9) i.toNatClampNeg v)))) = fd_WM a k (fd_sL 9 i v σ) := rfl
theorem fd_WMa_10 {a : Nat → Nat} {k : Nat → ClassId} {σ : fd_St} {i : Int32} {v : Int64} : (fd_WM a k σ).set 10 (a 10, .inl (k 10, 200, .inr (.inl (vp_updL (σ.2.2 10) i.toNatClampNeg v)))) = fd_WM a k (fd_sL 10 i v σ) := rfl
theorem fd_WMa_11 {a : Nat → Nat} {k : Nat → ClassId} {σ : fd_St} {i v : Int32} : (fd_WM a k σ).set 11 (a 11, .inl (k 11, 200, .inl (upd (σ.2.1 11) i.toNatClampNeg v))) = fd_WM a k (fd_sA 11 i v σ) := rfl
theorem fd_WMa_12 {a : Nat → Nat} {k : Nat → ClassId} {σ : fd_St} {i v : Int32} : (fd_WM a k σ).set 12 (a 12, .inl (k 12, 480, .inl (upd (σ.2.1 12) i.toNatClampNeg v))) = fd_WM a k (fd_sA 12 i v σ) := rfl
theorem fd_WMa_13 {a : Nat → Nat} {k : Nat → ClassId} {σ : fd_St} {i v : Int32} : (fd_WM a k σ).set 13 (a 13, .inl (k 13, 480, .inl (upd (σ.2.1 13) i.toNatClampNeg v))) = fd_WM a k (fd_sA 13 i v σ) := rfl
theorem fd_WMa_14 {a : Nat → Nat} {k : Nat → ClassId} {σ : fd_St} {i v : Int32} : (fd_WM a k σ).set 14 (a 14, .inl (k 14, 480, .inl (upd (σ.2.1 14) i.toNatClampNeg v))) = fd_WM a k (fd_sA 14 i v σ) := rfl
theorem fd_WMa_15 {a : Nat → Nat} {k : Nat → ClassId} {σ : fd_St} {i v : Int32} : (fd_WM a k σ).set 15 (a 15, .inl (k 15, 480, .inl (upd (σ.2.1 15) i.toNatClampNeg v))) = fd_WM a k (fd_sA 15 i v σ) := rfl
theorem fd_WMa_16 {a : Nat → Nat} {k : Nat → ClassId} {σ : fd_St} {i v : Int32} : (fd_WM a k σ).set 16 (a 16, .inl (k 16, 480, .inl (upd (σ.2.1 16) i.toNatClampNeg v))) = fd_WM a k (fd_sA 16 i v σ) := rfl
theorem fd_WMa_17 {a : Nat → Nat} {k : Nat → ClassId} {σ : fd_St} {i v : Int32} : (fd_WM a k σ).set 17 (a 17, .inl (k 17, 480, .inl (upd (σ.2.1 17) i.toNatClampNeg v))) = fd_WM a k (fd_sA 17 i v σ) := rfl
theorem fd_WMa_18 {a : Nat → Nat} {k : Nat → ClassId} {σ : fd_St} {i v : Int32} : (fd_WM a k σ).set 18 (a 18, .inl (k 18, 6, .inl (upd (σ.2.1 18) i.toNatClampNeg v))) = fd_WM a k (fd_sA 18 i v σ) := rfl
theorem fd_WMa_19 {a : Nat → Nat} {k : Nat → ClassId} {σ : fd_St} {i v : Int32} : (fd_WM a k σ).set 19 (a 19, .inl (k 19, 200, .inl (upd (σ.2.1 19) i.toNatClampNeg v))) = fd_WM a k (fd_sA 19 i v σ) := rfl
theorem fd_WMa_20 {a : Nat → Nat} {k : Nat → ClassId} {σ : fd_St} {i : Int32} {v : Int64} : (fd_WM a k σ).set 20 (a 20, .inl (k 20, 30, .inr (.inl (vp_updL (σ.2.2 20) i.toNatClampNeg v)))) = fd_WM a k (fd_sL 20 i v σ) := rfl
theorem fd_WMa_21 {a : Nat → Nat} {k : Nat → ClassId} {σ : fd_St} {i : Int32} {v : Int64} : (fd_WM a k σ).set 21 (a 21, .inl (k 21, 30, .inr (.inl (vp_updL (σ.2.2 21) i.toNatClampNeg v)))) = fd_WM a k (fd_sL 21 i v σ) := rfl
theorem fd_WMa_22 {a : Nat → Nat} {k : Nat → ClassId} {σ : fd_St} {i v : Int32} : (fd_WM a k σ).set 22 (a 22, .inl (k 22, 60, .inl (upd (σ.2.1 22) i.toNatClampNeg v))) = fd_WM a k (fd_sA 22 i v σ) := rfl
theorem fd_WMa_23 {a : Nat → Nat} {k : Nat → ClassId} {σ : fd_St} {i v : Int32} : (fd_WM a k σ).set 23 (a 23, .inl (k 23, 60, .inl (upd (σ.2.1 23) i.toNatClampNeg v))) = fd_WM a k (fd_sA 23 i v σ) := rfl
theorem fd_WMa_24 {a : Nat → Nat} {k : Nat → ClassId} {σ : fd_St} {i v : Int32} : (fd_WM a k σ).set 24 (a 24, .inl (k 24, 60, .inl (upd (σ.2.1 24) i.toNatClampNeg v))) = fd_WM a k (fd_sA 24 i v σ) := rfl
theorem fd_WMa_25 {a : Nat → Nat} {k : Nat → ClassId} {σ : fd_St} {i v : Int32} : (fd_WM a k σ).set 25 (a 25, .inl (k 25, 60, .inl (upd (σ.2.1 25) i.toNatClampNeg v))) = fd_WM a k (fd_sA 25 i v σ) := rfl
theorem fd_WMa_26 {a : Nat → Nat} {k : Nat → ClassId} {σ : fd_St} {i v : Int32} : (fd_WM a k σ).set 26 (a 26, .inl (k 26, 60, .inl (upd (σ.2.1 26) i.toNatClampNeg v))) = fd_WM a k (fd_sA 26 i v σ) := rfl
theorem fd_WMa_27 {a : Nat → Nat} {k : Nat → ClassId} {σ : fd_St} {i v : Int32} : (fd_WM a k σ).set 27 (a 27, .inl (k 27, 122, .inl (upd (σ.2.1 27) i.toNatClampNeg v))) = fd_WM a k (fd_sA 27 i v σ) := rfl
theorem fd_WMa_28 {a : Nat → Nat} {k : Nat → ClassId} {σ : fd_St} {i v : Int32} : (fd_WM a k σ).set 28 (a 28, .inl (k 28, 122, .inl (upd (σ.2.1 28) i.toNatClampNeg v))) = fd_WM a k (fd_sA 28 i v σ) := rfl
theorem fd_WM_map {a : Nat → Nat} {k : Nat → ClassId} {σ : fd_St} : (fd_WM a k σ).map (fun q => q.1) = (List.range 29).map a := rfl
theorem fd_DM {a : Nat → Nat} {k : Nat → ClassId} {σ : fd_St} {A : Nat → Prop} (hI : fd_I 29 a) (hA : ∀ i, i < 29 → A (a i)) : va_D A (fd_WM a k σ) := fd_D fd_WM_map hI hA
def fd_PM (D : va_G) (a : Nat → Nat) (k : Nat → ClassId) (sz : Nat) (σ : fd_St) (U : State) : Prop := U.heap.size = sz ∧ va_P D vwCl (fd_WM a k σ) U.heap ∧ va_K D vwCl (fd_tyM k) U
def fd_BM (D : va_G) (a : Nat → Nat) (k : Nat → ClassId) (σ : fd_St) (t : State) : Prop := va_P D vwCl (fd_WM a k σ) t.heap ∧ va_K D vwCl (fd_tyM k) t
theorem fd_blM {av : List Value} {D : va_G} {a : Nat → Nat} {k : Nat → ClassId} {sz : Nat} {σ : fd_St} : FrameBlind (va_Pc av (fd_PM D a k sz σ)) := fun a' U g mk q => by
  obtain ⟨q0, q1, qP, qK⟩ := q
  exact ⟨q0, q1, qP, va_K.moved (u := U) (U := U.calling g mk a') (Vm.Alike.refl U.vm) qK⟩
theorem fd_prM {av : List Value} {D : va_G} {a : Nat → Nat} {k : Nat → ClassId} {σ : fd_St} {s : State} {H : Heap} (hP : va_P D vwCl (fd_WM a k σ) H) (hK : va_K D vwCl (fd_tyM k) s) : ∀ U : State, U.heap = H → s.WarmedH U.vm → va_Pc av (fd_PM D a k H.size σ) av.toArray U := fun U hU hW => ⟨rfl, by rw [hU], by rw [hU]; exact hP, va_K.moved hW.alike hK⟩
def fd_strs : List (Nat × String) := [(73, "no room for an input"), (85, "no room for a net"), (89, "no such kind of gate"), (99, "no room for an output"), (105, "patterns are 0 to 64"), (116, "no such input"), (134, "no room for a near pair"), (140, "one net reaches the other"), (149, "no such fault"), (165, "of a suspect there is 0 to 6"), (170, "no such suspect"), (175, "of the best pair there is 0 to 5"), (193, "cells are 1 to 64"), (204, "no room for a row of the chain"), (210, "v and end are 0 or 1"), (219, "no room for a shape"), (224, "no such rectangle"), (244, "there is 0 to 8 to count"), (257, "no such net"), (259, "no such output"), (261, "no suspects are told"), (267, "there is no chain"), (269, "shapes grow by 0 to 100")]
def fd_es : List String := ["java/lang/IllegalArgumentException", "java/lang/IllegalStateException", "java/lang/IndexOutOfBoundsException"]
/-- the words of a throw that no method carries among its own -/
def fd_bad (E : String) : List Cond := [.castable E E, .declares ⟨"java/lang/RuntimeException", "<init>", "(Ljava/lang/String;)V"⟩, .declares ⟨"java/lang/Exception", "<init>", "(Ljava/lang/String;)V"⟩, .declares ⟨"java/lang/Throwable", "<init>", "(Ljava/lang/String;)V"⟩]
def fd_ncs : List (String × String) := [("java/lang/IllegalArgumentException", "java/lang/IllegalStateException"), ("java/lang/IllegalArgumentException", "java/lang/IndexOutOfBoundsException"), ("java/lang/IllegalStateException", "java/lang/IllegalArgumentException"), ("java/lang/IllegalStateException", "java/lang/IndexOutOfBoundsException"), ("java/lang/IndexOutOfBoundsException", "java/lang/IllegalArgumentException"), ("java/lang/IndexOutOfBoundsException", "java/lang/IllegalStateException")]
/-- what the start gives for throws: two statics of Throwable, the texts, which exceptions are which -/
def fd_Z (A : Nat → Prop) (U : State) (H : Heap) : Prop := vx_Zq Bundle.tN "UNASSIGNED_STACK" Bundle.steD A U H ∧ vx_Zq Bundle.tN "SUPPRESSED_SENTINEL" Bundle.listD A U H ∧ (∀ q ∈ fd_strs, ∃ sa, vk_R RX10 q.1 q.2 sa U) ∧ (∀ E ∈ fd_es, ∀ w ∈ fd_bad E, va_Nw w U) ∧ ∀ q ∈ fd_ncs, va_Nc q.1 q.2 U
theorem fd_Z.un {A : Nat → Prop} {U : State} {H : Heap} (h : fd_Z A U H) : vx_Zq Bundle.tN "UNASSIGNED_STACK" Bundle.steD A U H := h.1
theorem fd_Z.su {A : Nat → Prop} {U : State} {H : Heap} (h : fd_Z A U H) : vx_Zq Bundle.tN "SUPPRESSED_SENTINEL" Bundle.listD A U H := h.2.1
theorem fd_Z.str {A : Nat → Prop} {U : State} {H : Heap} (h : fd_Z A U H) (k : Nat) (tx : String) (hq : (k, tx) ∈ fd_strs) : ∃ sa, vk_R RX10 k tx sa U := h.2.2.1 _ hq
theorem fd_bad_tab {E : String} : ∀ w ∈ fd_bad E, w.onTables = true := by
  intro w hw
  rcases List.mem_cons.mp hw with rfl | hw
  · rfl
  rcases List.mem_cons.mp hw with rfl | hw
  · rfl
  rcases List.mem_cons.mp hw with rfl | hw
  · rfl
  rcases List.mem_cons.mp hw with rfl | hw
  · rfl
  cases hw
theorem fd_Z.bad {A : Nat → Prop} {U : State} {H : Heap} {args : Array Value} (h : fd_Z A U H) (E : String) (hE : E ∈ fd_es) : ∀ w ∈ fd_bad E, w.before args U = true := fun w hw => va_Nw.use (fd_bad_tab w hw) (h.2.2.2.1 E hE w hw)
theorem fd_Z.nc {A : Nat → Prop} {U : State} {H : Heap} (h : fd_Z A U H) (E T : String) (hq : (E, T) ∈ fd_ncs) : va_Nc E T U := h.2.2.2.2 _ hq
theorem fd_Z.cast {A : Nat → Prop} {U : State} {H : Heap} {args : Array Value} (h : fd_Z A U H) (E : String) (hE : E ∈ fd_es) : (Cond.castable E E).before args U = true := h.bad E hE _ List.mem_cons_self
theorem fd_Z.mv {A A' : Nat → Prop} {s U : State} {H H' : Heap} (h : fd_Z A s H) (hW : s.WarmedH U.vm) (hk : ∀ a : Nat, a < H.size → ¬ A a → H'[a]? = H[a]?) (hA : ∀ q, A' q → A q) : fd_Z A' U H' := by
  obtain ⟨h1, h2, h3, h4, h5⟩ := h
  refine ⟨((h1.moved hW.alike).kept hk).narrow hA, ((h2.moved hW.alike).kept hk).narrow hA, fun q hq => ?_, fun E hE w hw => ?_, fun q hq => (h5 q hq).moved hW.alike⟩
  · obtain ⟨sa, hs⟩ := h3 q hq
    exact ⟨sa, hs.warm hW⟩
  · have hz := h4 E hE w hw
    rcases List.mem_cons.mp hw with rfl | hw
    · exact hz.warmC hW
    rcases List.mem_cons.mp hw with rfl | hw
    · exact hz.warmD hW
    rcases List.mem_cons.mp hw with rfl | hw
    · exact hz.warmD hW
    rcases List.mem_cons.mp hw with rfl | hw
    · exact hz.warmD hW
    cases hw
theorem fd_Z.same {A : Nat → Prop} {s U : State} {H : Heap} (h : fd_Z A s H) (hv : U.vm = s.vm) : fd_Z A U H := by
  have ha : s.vm.Alike U.vm := by rw [hv]; exact Vm.Alike.refl _
  obtain ⟨h1, h2, h3, h4, h5⟩ := h
  refine ⟨h1.moved ha, h2.moved ha, fun q hq => ?_, fun E hE w hw => (h4 E hE w hw).same (fd_bad_tab w hw) hv.symm, fun q hq => (h5 q hq).moved ha⟩
  obtain ⟨sa, hs⟩ := h3 q hq
  exact ⟨sa, vk_R.same hv hs⟩
def fd_PZ (D : va_G) (a : Nat → Nat) (k : Nat → ClassId) (sz : Nat) (σ : fd_St) (U : State) : Prop := fd_PC D a k sz σ U ∧ fd_Z (fd_A 39 a sz) U U.heap
theorem fd_blZ {av : List Value} {D : va_G} {a : Nat → Nat} {k : Nat → ClassId} {sz : Nat} {σ : fd_St} : FrameBlind (va_Pc av (fd_PZ D a k sz σ)) := fun a' U g mk q => by
  obtain ⟨q0, q1, q2⟩ := q
  obtain ⟨r0, r1⟩ := fd_blC (av := av) a' U g mk ⟨q0, q1⟩
  exact ⟨r0, r1, q2.same rfl⟩
theorem fd_prZ {av : List Value} {D : va_G} {a : Nat → Nat} {k : Nat → ClassId} {σ : fd_St} {s : State} {H : Heap} {locs : List Loc} (hP : va_P D vwCl (fd_WC a k σ) H) (hK : va_K D vwCl (fd_tyC k) s) (hZ : fd_Z (fd_A 39 a s.heap.size) s s.heap) (hS : va_S (fd_A 39 a s.heap.size) s.heap H locs) : ∀ U : State, U.heap = H → s.WarmedH U.vm → va_Pc av (fd_PZ D a k H.size σ) av.toArray U := fun U hU hW =>
  ⟨(fd_prC (av := av) hP hK U hU hW).1, (fd_prC (av := av) hP hK U hU hW).2, hZ.mv hW (fun q h1 h2 => by rw [hU]; exact hS.2.1 q h1 h2) (fun q h => fd_A_mono hS.1 h)⟩
theorem fd_inr {α β : Type} {E E' : String} {u u' : fd_St} (h : (@Sum.inr α String E, u) = (Sum.inr E', u')) : (@Sum.inr β String E, u) = (Sum.inr E', u') := by
  obtain ⟨h1, h2⟩ := Prod.mk.inj h
  rw [Sum.inr.inj h1, h2]
/-- the end by a throw -/
def fd_X {α : Type} (D : va_G) (a : Nat → Nat) (k : Nat → ClassId) (A : Nat → Prop) (r : (α ⊕ String) × fd_St) : String → State → State → Prop := vx_X (fun _ : fd_St => True) (fun E u t => (Sum.inr E, u) = r ∧ fd_BC D a k u t) A
/-- the class's cells and the law's row of one long (cell 39) -/
def fd_WH (a : Nat → Nat) (k : Nat → ClassId) (σ : fd_St) : va_W := fd_WC a k σ ++ [(a 39, .inl (k 39, 1, .inr (.inl (σ.2.2 39))))]
def fd_tyH (k : Nat → ClassId) : List (ClassId × FieldType) := fd_tyC k ++ [(k 39, .long)]
theorem fd_WH_39 {a : Nat → Nat} {k : Nat → ClassId} {σ : fd_St} : (fd_WH a k σ)[39]? = some (a 39, .inl (k 39, 1, .inr (.inl (σ.2.2 39)))) := rfl
theorem fd_tyH_39 {k : Nat → ClassId} : (fd_tyH k)[27]? = some (k 39, .long) := rfl
theorem fd_WHa_39 {a : Nat → Nat} {k : Nat → ClassId} {σ : fd_St} {i : Int32} {v : Int64} : (fd_WH a k σ).set 39 (a 39, .inl (k 39, 1, .inr (.inl (vp_updL (σ.2.2 39) i.toNatClampNeg v)))) = fd_WH a k (fd_sL 39 i v σ) := rfl
theorem fd_WH_map {a : Nat → Nat} {k : Nat → ClassId} {σ : fd_St} : (fd_WH a k σ).map (fun q => q.1) = (List.range 40).map a := rfl
theorem fd_DH {a : Nat → Nat} {k : Nat → ClassId} {σ : fd_St} {A : Nat → Prop} (hI : fd_I 40 a) (hA : ∀ i, i < 40 → A (a i)) : va_D A (fd_WH a k σ) := fd_D fd_WH_map hI hA
def fd_mix (u σ : fd_St) : fd_St := (u.1, u.2.1, fd_up u.2.2 39 (σ.2.2 39))
theorem fd_appL {D : va_G} {A B : va_W} {H : Heap} (h : va_P D vwCl (A ++ B) H) : va_P D vwCl A H := fun k q hq => h k q (by rw [List.getElem?_append_left (List.getElem?_eq_some_iff.mp hq).1]; exact hq)
theorem fd_HC {D : va_G} {a : Nat → Nat} {k : Nat → ClassId} {σ : fd_St} {H : Heap} (h : va_P D vwCl (fd_WH a k σ) H) : va_P D vwCl (fd_WC a k σ) H := fd_appL h
theorem fd_HK {D : va_G} {k : Nat → ClassId} {s : State} (h : va_K D vwCl (fd_tyH k) s) : va_K D vwCl (fd_tyC k) s := ⟨h.1, fun j q hq => h.2 j q (by show (fd_tyC k ++ [(k 39, FieldType.long)])[j]? = some q; rw [List.getElem?_append_left (List.getElem?_eq_some_iff.mp hq).1]; exact hq)⟩
theorem fd_I40 {a : Nat → Nat} (h : fd_I 40 a) : fd_I 39 a := fun i j hi hj e => h i j (by omega) (by omega) e
theorem fd_A_sub {a : Nat → Nat} {z z' q : Nat} (h : z ≤ z') (hq : fd_A 39 a z' q) : fd_A 40 a z q := hq.elim (fun ⟨i, hi, e⟩ => Or.inl ⟨i, by omega, e⟩) (fun x => Or.inr (Nat.le_trans h x))
/-- behind a call on the class's cells: the row of one long is as it was -/
theorem fd_HJ {D : va_G} {a : Nat → Nat} {k : Nat → ClassId} {σ u : fd_St} {H H1 : Heap} (hI : fd_I 40 a) (hP : va_P D vwCl (fd_WH a k σ) H) (hP1 : va_P D vwCl (fd_WC a k u) H1) (hk : ∀ q : Nat, q < H.size → ¬ fd_A 39 a H.size q → H1[q]? = H[q]?) : va_P D vwCl (fd_WH a k (fd_mix u σ)) H1 := by
  have ho := hP 39 _ fd_WH_39
  have hl : a 39 < H.size := ho.lt
  have hn : ¬ fd_A 39 a H.size (a 39) := by
    rintro (⟨i, hi, e⟩ | h)
    · have := hI 39 i (by omega) (by omega) e
      omega
    · omega
  have hP2 : va_P D vwCl (fd_WC a k (fd_mix u σ)) H1 := hP1
  refine va_P.app hP2 (fun j q hq => ?_)
  have hz : j < 1 := (List.getElem?_eq_some_iff.mp hq).1
  rw [show j = 0 by omega] at hq
  cases hq
  exact ho.kept (hk _ hl hn)
def fd_PH (D : va_G) (a : Nat → Nat) (k : Nat → ClassId) (sz : Nat) (σ : fd_St) (U : State) : Prop := U.heap.size = sz ∧ va_P D vwCl (fd_WH a k σ) U.heap ∧ va_K D vwCl (fd_tyH k) U ∧ fd_Z (fd_A 40 a sz) U U.heap
def fd_BH (D : va_G) (a : Nat → Nat) (k : Nat → ClassId) (σ : fd_St) (t : State) : Prop := va_P D vwCl (fd_WH a k σ) t.heap ∧ va_K D vwCl (fd_tyH k) t
theorem fd_blH {av : List Value} {D : va_G} {a : Nat → Nat} {k : Nat → ClassId} {sz : Nat} {σ : fd_St} : FrameBlind (va_Pc av (fd_PH D a k sz σ)) := fun a' U g mk q => by
  obtain ⟨q0, q1, qP, qK, qZ⟩ := q
  exact ⟨q0, q1, qP, va_K.moved (u := U) (U := U.calling g mk a') (Vm.Alike.refl U.vm) qK, qZ.same rfl⟩
theorem fd_prHZ {av : List Value} {D : va_G} {a : Nat → Nat} {k : Nat → ClassId} {σ : fd_St} {s : State} {H : Heap} {locs : List Loc} (hP : va_P D vwCl (fd_WH a k σ) H) (hK : va_K D vwCl (fd_tyH k) s) (hZ : fd_Z (fd_A 40 a s.heap.size) s s.heap) (hS : va_S (fd_A 40 a s.heap.size) s.heap H locs) : ∀ U : State, U.heap = H → s.WarmedH U.vm → va_Pc av (fd_PZ D a k H.size σ) av.toArray U := fun U hU hW =>
  ⟨(fd_prC (av := av) (fd_HC hP) (fd_HK hK) U hU hW).1, (fd_prC (av := av) (fd_HC hP) (fd_HK hK) U hU hW).2, hZ.mv hW (fun q h1 h2 => by rw [hU]; exact hS.2.1 q h1 h2) (fun q h => fd_A_sub hS.1 h)⟩
/-- a contract of a method with a table of handlers, that returns -/
theorem fd_ofWT {l : Launch} {y : MethodName} {ws ws' : List Cond} {rm : Room} {Pc : Array Value → State → Prop} {Qc : Array Value → State → Outcome → State → Prop} {mc ms : Nat} {free : Addr → Prop} {cc : ByteArray} {maxL : Nat} {ret : Option FieldType} {hh : List (Nat × Nat × Nat × Nat)}
    (hy : plainName y.cls = true) (hw : ws = Cond.codeWith y cc maxL ret hh :: ws')
    (body : ∀ p e s m args below meth c s₁, BodyLoose p l y (headSpec ws rm) cc maxL ret e s m args below meth c s₁ → c.maxLocals = maxL → c.exceptionTable.toList = tableOf hh → Pc args s →
      W p l e (headSpec ws rm).room s m args below meth c s.heap [] 0 0 (MQ below Qc args s mc ms free) (entryFrame m args maxL)) : Met l y ws rm Pc Qc mc ms free := by
  have hmem : Cond.codeWith y cc maxL ret hh ∈ ws := by rw [hw]; exact List.mem_cons_self
  refine MetFree.of_bodyS (code := cc) (maxLocals := maxL) (ret := ret) hy ?_ ?_
  · intro args s m h hn
    obtain ⟨m9, meth, c, hn9, h1, h2, h3, h4, -, h5, h6, -⟩ := Cond.codeWith_spec (atoms_spec (ws := ws) h _ hmem)
    cases hn.symm.trans hn9
    exact ⟨meth, c, h1, h2, h3, h4, h5, h6⟩
  · intro p e s m args below meth c s₁ B hml hP _
    have hh0 : s₁.heap = s.heap := by rw [B.state]; rfl
    obtain ⟨t, a1, o, b1, b2, b3⟩ := body p e s m args below meth c s₁ B hml (vx_table (x := y) B (atoms_spec (ws := ws) B.pre _ hmem)) hP s₁ hh0 (Stand.of_body B)
    exact ⟨t, o, a1, b1, b2, ⟨b3.1, b3.2⟩⟩
