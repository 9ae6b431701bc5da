theorem fd_str0 {s : State} {args : Array Value} {k : Nat} {tx : String} (h1 : (Cond.stringRef RX10 k tx).before args s = true) (h2 : (Cond.exactly (.string RX10 k) "java/lang/String").before args s = true) : ∃ sa, vk_R RX10 k tx sa s := by
  obtain ⟨b, -, -, -, hb, -⟩ := Cond.exactly_spec h2
  exact ⟨b, vk_R.of (A := args) h1 hb⟩
theorem fd_Z0 {s : State} {b : Nat} (hts : ∀ w ∈ lw_tbl, w.before #[Value.ref b] s = true) (hgv : (Jvm.Cond.and given_1 narrow_1).before #[Value.ref b] s = true) : fd_Z (fun q => s.heap.size ≤ q) s s.heap := by
  have hs := flat_of_before _ hgv
  have hA : ∀ a : Nat, a < s.heap.size → ¬ (fun q : Nat => s.heap.size ≤ q) a := fun a h => Nat.not_le.mpr h
  refine ⟨vx_Zqof (hts _ (by decide +kernel)) (hts (.initialized Bundle.tN) (by decide +kernel)) (hs _ (by decide +kernel)) hA, vx_Zqof (hts _ (by decide +kernel)) (hts (.initialized Bundle.tN) (by decide +kernel)) (hs _ (by decide +kernel)) hA, ?_, ?_, ?_⟩
  · intro q hq
    rcases List.mem_cons.mp hq with rfl | hq
    · exact fd_str0 (hts (.stringRef RX10 73 "no room for an input") (by decide +kernel)) (hs (.exactly (.string RX10 73) "java/lang/String") (by decide +kernel))
    rcases List.mem_cons.mp hq with rfl | hq
    · exact fd_str0 (hts (.stringRef RX10 85 "no room for a net") (by decide +kernel)) (hs (.exactly (.string RX10 85) "java/lang/String") (by decide +kernel))
    rcases List.mem_cons.mp hq with rfl | hq
    · exact fd_str0 (hts (.stringRef RX10 89 "no such kind of gate") (by decide +kernel)) (hs (.exactly (.string RX10 89) "java/lang/String") (by decide +kernel))
    rcases List.mem_cons.mp hq with rfl | hq
    · exact fd_str0 (hts (.stringRef RX10 99 "no room for an output") (by decide +kernel)) (hs (.exactly (.string RX10 99) "java/lang/String") (by decide +kernel))
    rcases List.mem_cons.mp hq with rfl | hq
    · exact fd_str0 (hts (.stringRef RX10 105 "patterns are 0 to 64") (by decide +kernel)) (hs (.exactly (.string RX10 105) "java/lang/String") (by decide +kernel))
    rcases List.mem_cons.mp hq with rfl | hq
    · exact fd_str0 (hts (.stringRef RX10 116 "no such input") (by decide +kernel)) (hs (.exactly (.string RX10 116) "java/lang/String") (by decide +kernel))
    rcases List.mem_cons.mp hq with rfl | hq
    · exact fd_str0 (hts (.stringRef RX10 134 "no room for a near pair") (by decide +kernel)) (hs (.exactly (.string RX10 134) "java/lang/String") (by decide +kernel))
    rcases List.mem_cons.mp hq with rfl | hq
    · exact fd_str0 (hts (.stringRef RX10 140 "one net reaches the other") (by decide +kernel)) (hs (.exactly (.string RX10 140) "java/lang/String") (by decide +kernel))
    rcases List.mem_cons.mp hq with rfl | hq
    · exact fd_str0 (hts (.stringRef RX10 149 "no such fault") (by decide +kernel)) (hs (.exactly (.string RX10 149) "java/lang/String") (by decide +kernel))
    rcases List.mem_cons.mp hq with rfl | hq
    · exact fd_str0 (hts (.stringRef RX10 165 "of a suspect there is 0 to 6") (by decide +kernel)) (hs (.exactly (.string RX10 165) "java/lang/String") (by decide +kernel))
    rcases List.mem_cons.mp hq with rfl | hq
    · exact fd_str0 (hts (.stringRef RX10 170 "no such suspect") (by decide +kernel)) (hs (.exactly (.string RX10 170) "java/lang/String") (by decide +kernel))
    rcases List.mem_cons.mp hq with rfl | hq
    · exact fd_str0 (hts (.stringRef RX10 175 "of the best pair there is 0 to 5") (by decide +kernel)) (hs (.exactly (.string RX10 175) "java/lang/String") (by decide +kernel))
    rcases List.mem_cons.mp hq with rfl | hq
    · exact fd_str0 (hts (.stringRef RX10 193 "cells are 1 to 64") (by decide +kernel)) (hs (.exactly (.string RX10 193) "java/lang/String") (by decide +kernel))
    rcases List.mem_cons.mp hq with rfl | hq
    · exact fd_str0 (hts (.stringRef RX10 204 "no room for a row of the chain") (by decide +kernel)) (hs (.exactly (.string RX10 204) "java/lang/String") (by decide +kernel))
    rcases List.mem_cons.mp hq with rfl | hq
    · exact fd_str0 (hts (.stringRef RX10 210 "v and end are 0 or 1") (by decide +kernel)) (hs (.exactly (.string RX10 210) "java/lang/String") (by decide +kernel))
    rcases List.mem_cons.mp hq with rfl | hq
    · exact fd_str0 (hts (.stringRef RX10 219 "no room for a shape") (by decide +kernel)) (hs (.exactly (.string RX10 219) "java/lang/String") (by decide +kernel))
    rcases List.mem_cons.mp hq with rfl | hq
    · exact fd_str0 (hts (.stringRef RX10 224 "no such rectangle") (by decide +kernel)) (hs (.exactly (.string RX10 224) "java/lang/String") (by decide +kernel))
    rcases List.mem_cons.mp hq with rfl | hq
    · exact fd_str0 (hts (.stringRef RX10 244 "there is 0 to 8 to count") (by decide +kernel)) (hs (.exactly (.string RX10 244) "java/lang/String") (by decide +kernel))
    rcases List.mem_cons.mp hq with rfl | hq
    · exact fd_str0 (hts (.stringRef RX10 257 "no such net") (by decide +kernel)) (hs (.exactly (.string RX10 257) "java/lang/String") (by decide +kernel))
    rcases List.mem_cons.mp hq with rfl | hq
    · exact fd_str0 (hts (.stringRef RX10 259 "no such output") (by decide +kernel)) (hs (.exactly (.string RX10 259) "java/lang/String") (by decide +kernel))
    rcases List.mem_cons.mp hq with rfl | hq
    · exact fd_str0 (hts (.stringRef RX10 261 "no suspects are told") (by decide +kernel)) (hs (.exactly (.string RX10 261) "java/lang/String") (by decide +kernel))
    rcases List.mem_cons.mp hq with rfl | hq
    · exact fd_str0 (hts (.stringRef RX10 267 "there is no chain") (by decide +kernel)) (hs (.exactly (.string RX10 267) "java/lang/String") (by decide +kernel))
    rcases List.mem_cons.mp hq with rfl | hq
    · exact fd_str0 (hts (.stringRef RX10 269 "shapes grow by 0 to 100") (by decide +kernel)) (hs (.exactly (.string RX10 269) "java/lang/String") (by decide +kernel))
    cases hq
  · intro E hE
    rcases List.mem_cons.mp hE with rfl | hE
    · intro w hw
      rcases List.mem_cons.mp hw with rfl | hw
      · exact va_Nw.of rfl (hts _ (by decide +kernel))
      rcases List.mem_cons.mp hw with rfl | hw
      · exact va_Nw.of rfl (hts _ (by decide +kernel))
      rcases List.mem_cons.mp hw with rfl | hw
      · exact va_Nw.of rfl (hts _ (by decide +kernel))
      rcases List.mem_cons.mp hw with rfl | hw
      · exact va_Nw.of rfl (hts _ (by decide +kernel))
      cases hw
    rcases List.mem_cons.mp hE with rfl | hE
    · intro w hw
      rcases List.mem_cons.mp hw with rfl | hw
      · exact va_Nw.of rfl (hts _ (by decide +kernel))
      rcases List.mem_cons.mp hw with rfl | hw
      · exact va_Nw.of rfl (hts _ (by decide +kernel))
      rcases List.mem_cons.mp hw with rfl | hw
      · exact va_Nw.of rfl (hts _ (by decide +kernel))
      rcases List.mem_cons.mp hw with rfl | hw
      · exact va_Nw.of rfl (hts _ (by decide +kernel))
      cases hw
    rcases List.mem_cons.mp hE with rfl | hE
    · intro w hw
      rcases List.mem_cons.mp hw with rfl | hw
      · exact va_Nw.of rfl (hts _ (by decide +kernel))
      rcases List.mem_cons.mp hw with rfl | hw
      · exact va_Nw.of rfl (hts _ (by decide +kernel))
      rcases List.mem_cons.mp hw with rfl | hw
      · exact va_Nw.of rfl (hts _ (by decide +kernel))
      rcases List.mem_cons.mp hw with rfl | hw
      · exact va_Nw.of rfl (hts _ (by decide +kernel))
      cases hw
    cases hE
  · intro q hq
    rcases List.mem_cons.mp hq with rfl | hq
    · exact va_Nc.of (hs (.not (.castable "java/lang/IllegalArgumentException" "java/lang/IllegalStateException")) (by decide +kernel))
    rcases List.mem_cons.mp hq with rfl | hq
    · exact va_Nc.of (hs (.not (.castable "java/lang/IllegalArgumentException" "java/lang/IndexOutOfBoundsException")) (by decide +kernel))
    rcases List.mem_cons.mp hq with rfl | hq
    · exact va_Nc.of (hs (.not (.castable "java/lang/IllegalStateException" "java/lang/IllegalArgumentException")) (by decide +kernel))
    rcases List.mem_cons.mp hq with rfl | hq
    · exact va_Nc.of (hs (.not (.castable "java/lang/IllegalStateException" "java/lang/IndexOutOfBoundsException")) (by decide +kernel))
    rcases List.mem_cons.mp hq with rfl | hq
    · exact va_Nc.of (hs (.not (.castable "java/lang/IndexOutOfBoundsException" "java/lang/IllegalArgumentException")) (by decide +kernel))
    rcases List.mem_cons.mp hq with rfl | hq
    · exact va_Nc.of (hs (.not (.castable "java/lang/IndexOutOfBoundsException" "java/lang/IllegalStateException")) (by decide +kernel))
    cases hq
theorem fd_N00 {s : State} {b : Nat} (hts : ∀ w ∈ lw_tbl, w.before #[Value.ref b] s = true) : ∀ w ∈ fd_nest, va_Nw w s := by
  intro w hw
  rcases List.mem_cons.mp hw with rfl | hw
  · exact va_Nw.of rfl (hts _ (by decide +kernel))
  rcases List.mem_cons.mp hw with rfl | hw
  · exact va_Nw.of rfl (hts _ (by decide +kernel))
  rcases List.mem_cons.mp hw with rfl | hw
  · exact va_Nw.of rfl (hts _ (by decide +kernel))
  rcases List.mem_cons.mp hw with rfl | hw
  · exact va_Nw.of rfl (hts _ (by decide +kernel))
  rcases List.mem_cons.mp hw with rfl | hw
  · exact va_Nw.of rfl (hts _ (by decide +kernel))
  rcases List.mem_cons.mp hw with rfl | hw
  · exact va_Nw.of rfl (hts _ (by decide +kernel))
  rcases List.mem_cons.mp hw with rfl | hw
  · exact va_Nw.of rfl (hts _ (by decide +kernel))
  rcases List.mem_cons.mp hw with rfl | hw
  · exact va_Nw.of rfl (hts _ (by decide +kernel))
  rcases List.mem_cons.mp hw with rfl | hw
  · exact va_Nw.of rfl (hts _ (by decide +kernel))
  rcases List.mem_cons.mp hw with rfl | hw
  · exact va_Nw.of rfl (hts _ (by decide +kernel))
  cases hw
theorem fd_dis0 {n n2 : Nat} {a a2 : Nat → Nat} {A : Nat → Prop} {w1 w2 : va_W} (hD : va_D A (w1 ++ w2)) (h1 : w1.map (fun q => q.1) = (List.range n).map a) (h2 : w2.map (fun q => q.1) = (List.range n2).map a2) : ∀ i j, i < n → j < n2 → a i ≠ a2 j := by
  intro i j hi hj e
  obtain ⟨q, q1, q2⟩ := fd_D_at h1 i hi
  obtain ⟨r, r1, r2⟩ := fd_D_at h2 j hj
  have hl : i < w1.length := (List.getElem?_eq_some_iff.mp q1).1
  have e1 : (w1 ++ w2)[i]? = some q := by rw [List.getElem?_append_left hl]; exact q1
  have e2 : (w1 ++ w2)[w1.length + j]? = some r := by rw [List.getElem?_append_right (by omega), Nat.add_sub_cancel_left]; exact r1
  have := hD.1 i (w1.length + j) q r e1 e2 (by rw [q2, r2]; exact e)
  omega
theorem fd_liftL {A B : va_W} {k : Nat} {q : Nat × va_E} (h : A[k]? = some q) : (A ++ B)[k]? = some q := by rw [List.getElem?_append_left (List.getElem?_eq_some_iff.mp h).1]; exact h
theorem fd_liftR {A B : va_W} {k : Nat} {q : Nat × va_E} (h : B[k]? = some q) : (A ++ B)[A.length + k]? = some q := by rw [List.getElem?_append_right (by omega), Nat.add_sub_cancel_left]; exact h
theorem fd_appR {D : va_G} {A B : va_W} {H : Heap} (h : va_P D vwCl (A ++ B) H) : va_P D vwCl B H := fun k q hq => h (A.length + k) q (fd_liftR hq)
theorem fd_DL {A0 : Nat → Prop} {A B : va_W} (h : va_D A0 (A ++ B)) : va_D A0 A := ⟨fun i j p q hi hj e => h.1 i j p q (fd_liftL hi) (fd_liftL hj) e, fun k q hq => h.2 k q (fd_liftL hq)⟩
theorem fd_DR {A0 : Nat → Prop} {A B : va_W} (h : va_D A0 (A ++ B)) : va_D A0 B := ⟨fun i j p q hi hj e => by have := h.1 _ _ p q (fd_liftR (A := A) hi) (fd_liftR (A := A) hj) e; omega, fun k q hq => h.2 _ q (fd_liftR (A := A) hq)⟩
theorem fd_apart {A0 : Nat → Prop} {A B : va_W} (h : va_D A0 (A ++ B)) {i j : Nat} {p q : Nat × va_E} (hi : A[i]? = some p) (hj : B[j]? = some q) : p.1 ≠ q.1 := fun e => by
  have h1 := h.1 _ _ p q (fd_liftL hi) (fd_liftR (A := A) hj) e
  have h2 := (List.getElem?_eq_some_iff.mp hi).1
  omega
/-- behind a call on the last cells: those ahead are as they were -/
theorem fd_jn {D : va_G} {A0 : Nat → Prop} {A wc w1 : va_W} {H H1 : Heap} (hP : va_P D vwCl (A ++ wc) H) (hD : va_D A0 (A ++ wc)) (hk : ∀ q : Nat, q < H.size → ¬ va_A wc H.size q → H1[q]? = H[q]?) (hF : ∀ q, va_A wc H.size q → A0 q) (hP1 : va_P D vwCl w1 H1) (hD1 : va_D (va_A wc H.size) w1) : va_P D vwCl (A ++ w1) H1 ∧ va_D A0 (A ++ w1) := by
  have out : ∀ (k : Nat) (q : Nat × va_E), A[k]? = some q → q.1 < H.size ∧ ¬ va_A wc H.size q.1 := by
    intro k q hq
    have hl := (hP k q (fd_liftL hq)).lt
    refine ⟨hl, ?_⟩
    rintro (⟨j, e, hj⟩ | h)
    · exact fd_apart hD hq hj rfl
    · omega
  refine ⟨va_P.app (fun k q hq => ?_) hP1, va_D.app (fd_DL hD) (hD1.weaken (fun k q _ h => hF q.1 h)) (fun i j x y hx hy hxy => ?_)⟩
  · obtain ⟨g1, g2⟩ := out k q hq
    exact (hP k q (fd_liftL hq)).kept (hk q.1 g1 g2)
  · exact (out i x hx).2 (by rw [hxy]; exact hD1.2 j y hy)
theorem fd_WC_up {a : Nat → Nat} {k : Nat → ClassId} {σ : fd_St} {q : Nat} {c : ClassId} : fd_WC (fd_up a 39 q) (fd_up k 39 c) σ = fd_WC a k σ := rfl
theorem fd_tyC_up {k : Nat → ClassId} {c : ClassId} : fd_tyC (fd_up k 39 c) = fd_tyC k := rfl
theorem fd_I_up {a : Nat → Nat} {q : Nat} (h : fd_I 39 a) (hq : ∀ i, i < 39 → a i ≠ q) : fd_I 40 (fd_up a 39 q) := by
  intro i j hi hj e
  unfold fd_up at e
  by_cases e1 : i = 39 <;> by_cases e2 : j = 39
  · omega
  · rw [if_pos e1, if_neg e2] at e; exact absurd e.symm (hq j (by omega))
  · rw [if_neg e1, if_pos e2] at e; exact absurd e (hq i (by omega))
  · rw [if_neg e1, if_neg e2] at e; exact h i j (by omega) (by omega) e
theorem fd_all_up {a : Nat → Nat} {q : Nat} {p : Nat → Prop} (h : ∀ i, i < 39 → p (a i)) (hq : p q) : ∀ i, i < 40 → p (fd_up a 39 q i) := by
  intro i hi
  unfold fd_up
  by_cases e1 : i = 39
  · rw [if_pos e1]; exact hq
  · rw [if_neg e1]; exact h i (by omega)
def fd_iS (l : List (Nat → Nat)) (k : Nat) : Nat → Nat := (l[k]?).getD (fun _ => 0)
