theorem fd_ok_x {α : Type} {o : Option (α × fd_St)} {A B : fd_St → Prop} {X : α → fd_St → Prop} (h : fd_ok o (fun v s => A s ∧ B s ∧ (True))) (q : ∀ v s, o = some (v, s) → X v s) : fd_ok o (fun v s => A s ∧ B s ∧ X v s) := by
  obtain ⟨v, s, e, a, b, _⟩ := h
  exact ⟨v, s, e, a, b, q v s e⟩
theorem fd_t1 {x y : Int32} (e : x = y + 1) (h0 : 0 ≤ y.toInt) (h1 : y.toInt < 1000) : x.toInt = y.toInt + 1 ∧ x.toNatClampNeg = y.toNatClampNeg + 1 := by
  have l1 : (1 : Int32).toInt = 1 := by decide
  have a := fd_la e (by omega) (by omega)
  have b : x.toInt = y.toInt + 1 := by omega
  refine ⟨b, ?_⟩
  show x.toInt.toNat = y.toInt.toNat + 1
  omega
theorem fd_tn {x y : Int32} (h : x.toInt ≤ y.toInt) : x.toNatClampNeg ≤ y.toNatClampNeg := by
  show x.toInt.toNat ≤ y.toInt.toNat; omega
theorem fd_tl' {x y : Int32} (h0 : 0 ≤ x.toInt) (h : x.toInt < y.toInt) : x.toNatClampNeg < y.toNatClampNeg := by
  show x.toInt.toNat < y.toInt.toNat; omega
theorem fd_te {x y : Int32} (h : x.toInt = y.toInt) : x.toNatClampNeg = y.toNatClampNeg := by
  show x.toInt.toNat = y.toInt.toNat; omega
theorem fd_uL_ne {f : Nat → Int64} {k j : Nat} {v : Int64} (h : j ≠ k) : vp_updL f k v j = f j := by unfold vp_updL; rw [if_neg h]
theorem fd_uL_eq {f : Nat → Int64} {k : Nat} {v : Int64} : vp_updL f k v k = v := by unfold vp_updL; rw [if_pos rfl]
theorem fd_uA_ne {f : Nat → Int32} {k j : Nat} {v : Int32} (h : j ≠ k) : upd f k v j = f j := by unfold upd; rw [if_neg h]
theorem fd_uA_eq {f : Nat → Int32} {k : Nat} {v : Int32} : upd f k v k = v := by unfold upd; rw [if_pos rfl]
/-- how many of the row's elements, from y3 to m, are y1 -/
def fd_cl (m : Int32) (f : Nat → Int32) (y1 : Int32) : Nat → Int32 → Int32 → Int32
  | 0 => fun y2 _ => y2
  | n + 1 => fun y2 y3 => if m ≤ y3 then y2 else if f y3.toNatClampNeg = y1 then fd_cl m f y1 n (y2 + 1) (y3 + 1) else fd_cl m f y1 n y2 (y3 + 1)
theorem q_X6_shapesOf_11_L4 {N : Nat} : ∀ (n : Nat) (y1 y2 y3 : Int32) (σ : fd_St) (v : Int32) (s : fd_St), f_X6_shapesOf_11_L4 N n y1 y2 y3 σ = some (v, s) → v = fd_cl (σ.1 18) (σ.2.1 32) y1 n y2 y3 := by
  intro n
  induction n with
  | zero => intro y1 y2 y3 σ v s h; cases h
  | succ n ih =>
    intro y1 y2 y3 σ v s h
    unfold f_X6_shapesOf_11_L4 at h
    unfold fd_cl
    by_cases c : σ.1 18 ≤ y3
    · have h := fd_itp c h
      rw [if_pos c]; cases h; rfl
    · have h := fd_itn c h
      rw [if_neg c]
      obtain ⟨g, h⟩ := fd_gds h
      by_cases d : σ.2.1 32 y3.toNatClampNeg = y1
      · have h := fd_itp d h
        rw [if_pos d]
        obtain ⟨x, ex, h⟩ := fd_lts h
        unfold f_X6_shapesOf_11_J25 at h
        obtain ⟨z, ez, h⟩ := fd_lts h
        have a := ih _ _ _ _ _ _ h
        rw [a, ex, ez]
      · have h := fd_itn d h
        rw [if_neg d]
        unfold f_X6_shapesOf_11_J25 at h
        obtain ⟨z, ez, h⟩ := fd_lts h
        have a := ih _ _ _ _ _ _ h
        rw [a, ez]
theorem q_X11_shape_0_L162 {N : Nat} : ∀ (n : Nat) (y1 y2 y3 : Int32) (σ : fd_St) (v : Int32) (s : fd_St), f_X11_shape_0_L162 N n y1 y2 y3 σ = some (v, s) → v = fd_cl (σ.1 14) (σ.2.1 22) y1 n y2 y3 := by
  intro n
  induction n with
  | zero => intro y1 y2 y3 σ v s h; cases h
  | succ n ih =>
    intro y1 y2 y3 σ v s h
    unfold f_X11_shape_0_L162 at h
    unfold fd_cl
    by_cases c : σ.1 14 ≤ y3
    · have h := fd_itp c h
      rw [if_pos c]; cases h; rfl
    · have h := fd_itn c h
      rw [if_neg c]
      obtain ⟨g, h⟩ := fd_gds h
      by_cases d : σ.2.1 22 y3.toNatClampNeg = y1
      · have h := fd_itp d h
        rw [if_pos d]
        unfold f_X11_shape_0_J191 at h
        obtain ⟨z, ez, h⟩ := fd_lts h
        have a := ih _ _ _ _ _ _ h
        rw [a, ez]
      · have h := fd_itn d h
        rw [if_neg d]
        unfold f_X11_shape_0_J191 at h
        obtain ⟨z, ez, h⟩ := fd_lts h
        have a := ih _ _ _ _ _ _ h
        rw [a, ez]
/-- what a gate of kind k makes of two rows -/
def fd_tl (k : Int32) (a b : Int64) : Int64 := if k = 0 then a &&& b else if k = 1 then a ||| b else if k = 2 then a ^^^ b else if k = 3 then (a &&& b) ^^^ (-1) else if k = 4 then (a ||| b) ^^^ (-1) else if k = 5 then a ^^^ (-1) else a
theorem q_tl {k : Int32} {a b : Int64} {σ : fd_St} {r : Int64 × fd_St} (h : (if k = (0 : Int32) then (some (a &&& b, σ)) else (if k = (1 : Int32) then (some (a ||| b, σ)) else (if k = (2 : Int32) then (some (a ^^^ b, σ)) else (if k = (3 : Int32) then (some ((a &&& b) ^^^ (-1 : Int64), σ)) else (if k = (4 : Int32) then (some ((a ||| b) ^^^ (-1 : Int64), σ)) else (if k = (5 : Int32) then (some (a ^^^ (-1 : Int64), σ)) else (some (a, σ)))))))) = some r) : r.1 = fd_tl k a b ∧ r.2 = σ := by
  unfold fd_tl
  by_cases c0 : k = 0
  · have h := fd_itp c0 h; rw [if_pos c0]; cases h; exact ⟨rfl, rfl⟩
  have h := fd_itn c0 h; rw [if_neg c0]
  by_cases c1 : k = 1
  · have h := fd_itp c1 h; rw [if_pos c1]; cases h; exact ⟨rfl, rfl⟩
  have h := fd_itn c1 h; rw [if_neg c1]
  by_cases c2 : k = 2
  · have h := fd_itp c2 h; rw [if_pos c2]; cases h; exact ⟨rfl, rfl⟩
  have h := fd_itn c2 h; rw [if_neg c2]
  by_cases c3 : k = 3
  · have h := fd_itp c3 h; rw [if_pos c3]; cases h; exact ⟨rfl, rfl⟩
  have h := fd_itn c3 h; rw [if_neg c3]
  by_cases c4 : k = 4
  · have h := fd_itp c4 h; rw [if_pos c4]; cases h; exact ⟨rfl, rfl⟩
  have h := fd_itn c4 h; rw [if_neg c4]
  by_cases c5 : k = 5
  · have h := fd_itp c5 h; rw [if_pos c5]; cases h; exact ⟨rfl, rfl⟩
  have h := fd_itn c5 h; rw [if_neg c5]
  cases h; exact ⟨rfl, rfl⟩
theorem q_X2_gateRow_1_15' {N : Nat} {p1 : Int32} {σ : fd_St} {v : Int64} {s : fd_St} (h : f_X2_gateRow_1_15 N p1 σ = some (v, s)) : v = fd_tl (σ.2.1 12 p1.toNatClampNeg) (σ.2.2 15 (σ.2.1 13 p1.toNatClampNeg).toNatClampNeg) (σ.2.2 15 (σ.2.1 14 p1.toNatClampNeg).toNatClampNeg) ∧ s = σ := by
  unfold f_X2_gateRow_1_15 at h
  obtain ⟨_, h⟩ := fd_gds h
  obtain ⟨_, h⟩ := fd_gds h
  obtain ⟨x3, e3, h⟩ := fd_lts h
  obtain ⟨_, h⟩ := fd_gds h
  obtain ⟨_, h⟩ := fd_gds h
  obtain ⟨x6, e6, h⟩ := fd_lts h
  obtain ⟨_, h⟩ := fd_gds h
  obtain ⟨x8, e8, h⟩ := fd_lts h
  rw [← e3, ← e6, ← e8]
  exact q_tl h
theorem q_X2_gateRow_1_15 {N : Nat} {p1 : Int32} {σ : fd_St} {v : Int64} {s : fd_St} (h : f_X2_gateRow_1_15 N p1 σ = some (v, s)) : v = fd_tl (σ.2.1 12 p1.toNatClampNeg) (σ.2.2 15 (σ.2.1 13 p1.toNatClampNeg).toNatClampNeg) (σ.2.2 15 (σ.2.1 14 p1.toNatClampNeg).toNatClampNeg) := (q_X2_gateRow_1_15' h).1
def fd_Go (k f g : Nat → Int32) (n : Nat) : Prop := ∀ i, i < n → k i ≠ -1 → (f i).toNatClampNeg < i ∧ (g i).toNatClampNeg < i
def fd_Gr (k f g : Nat → Int32) (r : Nat → Int64) (n : Nat) : Prop := ∀ i, i < n → k i ≠ -1 → r i = fd_tl (k i) (r (f i).toNatClampNeg) (r (g i).toNatClampNeg)
theorem fd_Go_le {k f g : Nat → Int32} {n m : Nat} (h : fd_Go k f g n) (hm : m ≤ n) : fd_Go k f g m := fun i hi hk => h i (by omega) hk
theorem fd_Gr_s {k f g : Nat → Int32} {r : Nat → Int64} {m : Nat} (ho : fd_Go k f g (m + 1)) (hr : fd_Gr k f g r m) : fd_Gr k f g (vp_updL r m (fd_tl (k m) (r (f m).toNatClampNeg) (r (g m).toNatClampNeg))) (m + 1) := by
  intro i hi hk
  obtain ⟨a, b⟩ := ho i hi hk
  have e1 : ∀ v, vp_updL r m v (f i).toNatClampNeg = r (f i).toNatClampNeg := fun v => fd_uL_ne (by omega)
  have e2 : ∀ v, vp_updL r m v (g i).toNatClampNeg = r (g i).toNatClampNeg := fun v => fd_uL_ne (by omega)
  rw [e1, e2]
  by_cases e : i = m
  · subst e; exact fd_uL_eq
  · rw [fd_uL_ne e]; exact hr i (by omega) hk
theorem fd_Gr_p {k f g : Nat → Int32} {r : Nat → Int64} {n p : Nat} {v : Int64} (ho : fd_Go k f g n) (hr : fd_Gr k f g r n) (hp : p < n) (hk : k p = -1) : fd_Gr k f g (vp_updL r p v) (p + 1) := by
  intro i hi hki
  have hne : i ≠ p := fun e => hki (by rw [e]; exact hk)
  obtain ⟨a, b⟩ := ho i (by omega) hki
  have e1 : vp_updL r p v (f i).toNatClampNeg = r (f i).toNatClampNeg := fd_uL_ne (by omega)
  have e2 : vp_updL r p v (g i).toNatClampNeg = r (g i).toNatClampNeg := fd_uL_ne (by omega)
  rw [e1, e2, fd_uL_ne hne]
  exact hr i (by omega) hki
theorem q_X2_putRow_1_L20 {N : Nat} : ∀ (n : Nat) (y4 : Int64) (y6 : Int32) (σ : fd_St) (v : Int64) (s : fd_St), f_X2_putRow_1_L20 N n y4 y6 σ = some (v, s) → v = y4 ∧ (∀ i, σ.2.1 12 i = -1 → s.2.2 15 i = σ.2.2 15 i) ∧ (0 ≤ y6.toInt → fd_Go (σ.2.1 12) (σ.2.1 13) (σ.2.1 14) (σ.1 1).toNatClampNeg → fd_Gr (σ.2.1 12) (σ.2.1 13) (σ.2.1 14) (σ.2.2 15) y6.toNatClampNeg → fd_Gr (σ.2.1 12) (σ.2.1 13) (σ.2.1 14) (s.2.2 15) (σ.1 1).toNatClampNeg) := by
  intro n
  induction n with
  | zero => intro y4 y6 σ v s h; cases h
  | succ n ih =>
    intro y4 y6 σ v s h
    unfold f_X2_putRow_1_L20 at h
    by_cases c : σ.1 1 ≤ y6
    · have h := fd_itp c h
      cases h
      have c1 := fd_tn (Int32.le_iff_toInt_le.mp c)
      exact ⟨rfl, fun _ _ => rfl, fun _ _ hr i hi hk => hr i (by omega) hk⟩
    · have h := fd_itn c h
      have c1 := Int32.lt_iff_toInt_lt.mp (Int32.not_le.mp c)
      obtain ⟨g1, h⟩ := fd_gds h
      have g2 := vp_in_iff.mp g1
      by_cases d : σ.2.1 12 y6.toNatClampNeg = (-1 : Int32)
      · have h := fd_itp d h
        unfold f_X2_putRow_1_J57 at h
        obtain ⟨x9, e9, h⟩ := fd_lts h
        obtain ⟨a1, a2, a3⟩ := ih _ _ _ _ _ h
        refine ⟨a1, a2, fun h0 ho hr => ?_⟩
        obtain ⟨t1, t2⟩ := fd_t1 e9 h0 (by omega)
        refine a3 (by omega) ho ?_
        rw [t2]
        intro i hi hk
        by_cases e : i = y6.toNatClampNeg
        · exact absurd d (by rw [← e]; exact hk)
        · exact hr i (by omega) hk
      · have h := fd_itn d h
        obtain ⟨v11, σ12, h1, h2⟩ := fd_bds h
        obtain ⟨ev, es⟩ := q_X2_gateRow_1_15' h1
        rw [es] at h2
        obtain ⟨_, h3⟩ := fd_gds h2
        obtain ⟨σ16, e16, h4⟩ := fd_lts h3
        unfold f_X2_putRow_1_J57 at h4
        obtain ⟨x9, e9, h5⟩ := fd_lts h4
        obtain ⟨a1, a2, a3⟩ := ih _ _ _ _ _ h5
        have b1 : σ16.1 = σ.1 := by subst e16; rfl
        have b2 : σ16.2.1 = σ.2.1 := by subst e16; rfl
        have b3 : σ16.2.2 15 = vp_updL (σ.2.2 15) y6.toNatClampNeg v11 := fd_yL e16 rfl
        rw [b1, b2, b3] at a3
        rw [b2, b3] at a2
        refine ⟨a1, fun i hi => ?_, fun h0 ho hr => ?_⟩
        · rw [a2 i hi]
          exact fd_uL_ne (fun e => d (by rw [← e]; exact hi))
        · obtain ⟨t1, t2⟩ := fd_t1 e9 h0 (by omega)
          refine a3 (by omega) ho ?_
          rw [t2, ev]
          exact fd_Gr_s (fd_Go_le ho (by have := fd_tl' h0 c1; omega)) hr
theorem fd_G_gate {k f g : Nat → Int32} {r : Nat → Int64} {n : Nat} {a b c : Int32} (ho : fd_Go k f g n) (hr : fd_Gr k f g r n) (hb : b.toNatClampNeg < n) (hc : c.toNatClampNeg < n) : fd_Go (upd k n a) (upd f n b) (upd g n c) (n + 1) ∧ fd_Gr (upd k n a) (upd f n b) (upd g n c) (vp_updL r n (fd_tl (upd k n a n) (r (upd f n b n).toNatClampNeg) (r (upd g n c n).toNatClampNeg))) (n + 1) := by
  have ho' : fd_Go (upd k n a) (upd f n b) (upd g n c) (n + 1) := by
    intro i hi hk
    by_cases e : i = n
    · subst e; rw [fd_uA_eq, fd_uA_eq]; exact ⟨hb, hc⟩
    · rw [fd_uA_ne e] at hk
      rw [fd_uA_ne e, fd_uA_ne e]; exact ho i (by omega) hk
  refine ⟨ho', fd_Gr_s ho' ?_⟩
  intro i hi hk
  have e : i ≠ n := by omega
  rw [fd_uA_ne e] at hk
  rw [fd_uA_ne e, fd_uA_ne e, fd_uA_ne e]
  exact hr i hi hk
theorem fd_G_input {k f g : Nat → Int32} {r : Nat → Int64} {n : Nat} {v : Int64} (ho : fd_Go k f g n) (hr : fd_Gr k f g r n) : fd_Go (upd k n (-1)) f g (n + 1) ∧ fd_Gr (upd k n (-1)) f g (vp_updL r n v) (n + 1) := by
  refine ⟨fun i hi hk => ?_, fun i hi hk => ?_⟩
  · by_cases e : i = n
    · subst e; exact absurd fd_uA_eq hk
    · rw [fd_uA_ne e] at hk; exact ho i (by omega) hk
  · by_cases e : i = n
    · subst e; exact absurd fd_uA_eq hk
    · rw [fd_uA_ne e] at hk
      obtain ⟨a, b⟩ := ho i (by omega) hk
      have e1 : vp_updL r n v (f i).toNatClampNeg = r (f i).toNatClampNeg := fd_uL_ne (by omega)
      have e2 : vp_updL r n v (g i).toNatClampNeg = r (g i).toNatClampNeg := fd_uL_ne (by omega)
      rw [e1, e2, fd_uL_ne e, fd_uA_ne e]
      exact hr i (by omega) hk
/-- the class's rows of nets stand to the reference's as they should -/
def fd_E (k f g : Nat → Int32) (r p : Nat → Int64) (n : Nat) : Prop := (∀ i, k i = -1 → r i = p i) ∧ fd_Go k f g n ∧ fd_Gr k f g r n
theorem fd_E_input {k f g : Nat → Int32} {r p : Nat → Int64} {N M j w j2 j3 : Int32} (h : fd_E k f g r p N.toNatClampNeg) (h0 : 0 ≤ N.toInt) (hM : M.toInt = N.toInt + 1) (hj : j.toInt = N.toInt) (hw : w.toInt = -1) (hj2 : j2.toInt = N.toInt) (hj3 : j3.toInt = N.toInt) : fd_E (upd k j.toNatClampNeg w) f g (vp_updL r j2.toNatClampNeg 0) (vp_updL p j3.toNatClampNeg 0) M.toNatClampNeg := by
  have a1 : j = N := Int32.toInt_inj.mp hj
  have a2 : j2 = N := Int32.toInt_inj.mp hj2
  have a3 : j3 = N := Int32.toInt_inj.mp hj3
  have a4 : w = -1 := Int32.toInt_inj.mp (by rw [hw]; decide)
  have a5 : M.toNatClampNeg = N.toNatClampNeg + 1 := by
    show M.toInt.toNat = N.toInt.toNat + 1; omega
  rw [a1, a2, a3, a4, a5]
  obtain ⟨e1, e2, e3⟩ := h
  obtain ⟨b1, b2⟩ := fd_G_input (v := 0) e2 e3
  refine ⟨fun i hi => ?_, b1, b2⟩
  by_cases e : i = N.toNatClampNeg
  · rw [e, fd_uL_eq, fd_uL_eq]
  · rw [fd_uA_ne e] at hi
    rw [fd_uL_ne e, fd_uL_ne e]; exact e1 i hi
theorem fd_E_gate {k f g k' f' g' : Nat → Int32} {r r' p : Nat → Int64} {N M j w j2 w2 j3 w3 j4 : Int32} (h : fd_E k f g r p N.toNatClampNeg) (h0 : 0 ≤ N.toInt) (hM : M.toInt = N.toInt + 1) (hj : j.toInt = N.toInt) (hw : 0 ≤ w.toInt) (ek : k' = upd k j.toNatClampNeg w) (hj2 : j2.toInt = N.toInt) (hw2 : w2.toInt < N.toInt) (ef : f' = upd f j2.toNatClampNeg w2) (hj3 : j3.toInt = N.toInt) (hw3 : w3.toInt < N.toInt) (eg : g' = upd g j3.toNatClampNeg w3) (hj4 : j4.toInt = N.toInt) (er : r' = vp_updL r j4.toNatClampNeg (fd_tl (k' j4.toNatClampNeg) (r (f' j4.toNatClampNeg).toNatClampNeg) (r (g' j4.toNatClampNeg).toNatClampNeg))) (hN : 0 < N.toInt) : fd_E k' f' g' r' p M.toNatClampNeg := by
  have a1 : j = N := Int32.toInt_inj.mp hj
  have a2 : j2 = N := Int32.toInt_inj.mp hj2
  have a3 : j3 = N := Int32.toInt_inj.mp hj3
  have a4 : j4 = N := Int32.toInt_inj.mp hj4
  have a5 : M.toNatClampNeg = N.toNatClampNeg + 1 := by
    show M.toInt.toNat = N.toInt.toNat + 1; omega
  rw [a1] at ek
  rw [a2] at ef
  rw [a3] at eg
  rw [a4] at er
  subst ek; subst ef; subst eg; subst er
  rw [a5]
  obtain ⟨e1, e2, e3⟩ := h
  obtain ⟨b1, b2⟩ := fd_G_gate (a := w) (b := w2) (c := w3) e2 e3 (by show w2.toInt.toNat < N.toInt.toNat; omega) (by show w3.toInt.toNat < N.toInt.toNat; omega)
  refine ⟨fun i hi => ?_, b1, b2⟩
  by_cases e : i = N.toNatClampNeg
  · rw [e, fd_uA_eq] at hi
    rw [hi] at hw
    exact absurd hw (by decide)
  · rw [fd_uA_ne e] at hi
    rw [fd_uL_ne e]; exact e1 i hi
theorem fd_E_pattern {k f g : Nat → Int32} {r r' p p' : Nat → Int64} {n : Nat} {q j : Int32} {v : Int64} (h : fd_E k f g r p n) (a : ∀ i, k i = -1 → r' i = vp_updL r q.toNatClampNeg v i) (b : fd_Go k f g n → fd_Gr k f g r n → fd_Gr k f g r' n) (hj : j.toInt = q.toInt) (e : p' = vp_updL p j.toNatClampNeg v) : fd_E k f g r' p' n := by
  obtain ⟨e1, e2, e3⟩ := h
  have ej : j = q := Int32.toInt_inj.mp hj
  subst ej; subst e
  refine ⟨fun i hi => ?_, e2, b e2 e3⟩
  rw [a i hi]
  by_cases c : i = j.toNatClampNeg
  · rw [c, fd_uL_eq, fd_uL_eq]
  · rw [fd_uL_ne c, fd_uL_ne c]; exact e1 i hi
/-- the bits of the patterns that there are, as the class has them, and as the reference has -/
def fd_ct (m : Int32) : Int64 := if m = 0 then 0 else ((-1 : Int64).toUInt64 >>> (((64 : Int32) - m).toInt64.toUInt64 &&& Int64.toUInt64 63)).toInt64
def fd_mk (m : Int32) : Int64 := if m = (64 : Int32) then -1 else ((1 : Int64) <<< (m.toInt64 &&& 63)) - (1 : Int64)
theorem fd_ctmk {a b : Int32} (h : a.toInt = b.toInt) (h0 : 0 ≤ b.toInt) (h1 : b.toInt ≤ 64) : fd_ct a = fd_mk b := by
  have e : a = b := Int32.toInt_inj.mp h
  subst e
  have key : ∀ j : Fin 65, fd_ct (Int32.ofNat j.val) = fd_mk (Int32.ofNat j.val) := by decide +kernel
  have e1 : (Int32.ofNat a.toInt.toNat).toInt = (a.toInt.toNat : Int) := nI_toInt (n := a.toInt.toNat) (by omega)
  have e2 : a = Int32.ofNat a.toInt.toNat := Int32.toInt_inj.mp (by rw [e1]; omega)
  rw [e2]
  exact key ⟨a.toInt.toNat, by omega⟩
theorem q_X2_counted_1 {N : Nat} {σ : fd_St} {v : Int64} {s : fd_St} (h : f_X2_counted_1 N σ = some (v, s)) : v = fd_ct (σ.1 3) := by
  unfold f_X2_counted_1 at h
  unfold fd_ct
  by_cases c : σ.1 3 = 0
  · have h := fd_itp c h
    rw [if_pos c]; cases h; rfl
  · have h := fd_itn c h
    rw [if_neg c]; cases h; rfl
theorem q_X11_mask_0 {N : Nat} {σ : fd_St} {v : Int64} {s : fd_St} (h : f_X11_mask_0 N σ = some (v, s)) : v = fd_mk (σ.1 4) ∧ s = σ := by
  unfold f_X11_mask_0 at h
  unfold fd_mk
  by_cases c : σ.1 4 = 64
  · have h := fd_itp c h
    rw [if_pos c]; cases h; exact ⟨rfl, rfl⟩
  · have h := fd_itn c h
    rw [if_neg c]; cases h; exact ⟨rfl, rfl⟩
theorem fd_bits {a b : Int64} (h : ∀ i, i < 64 → a.toBitVec.getLsbD i = b.toBitVec.getLsbD i) : a = b := Int64.toBitVec_inj.mp (BitVec.eq_of_getLsbD_eq h)
theorem fd_bm1 {i : Nat} (h : i < 64) : (-1 : Int64).toBitVec.getLsbD i = true := by
  have e : (-1 : Int64).toBitVec = BitVec.allOnes 64 := by decide
  rw [e, BitVec.getLsbD_allOnes]; exact decide_eq_true h
theorem fd_tl_m (k : Int32) (a b m : Int64) : fd_tl k (a &&& m) (b &&& m) &&& m = fd_tl k a b &&& m := by
  unfold fd_tl
  by_cases c0 : k = 0
  · rw [if_pos c0, if_pos c0]
    refine fd_bits (fun i hi => ?_)
    simp only [Int64.toBitVec_and, BitVec.getLsbD_and]
    cases a.toBitVec.getLsbD i <;> cases b.toBitVec.getLsbD i <;> cases m.toBitVec.getLsbD i <;> rfl
  rw [if_neg c0, if_neg c0]
  by_cases c1 : k = 1
  · rw [if_pos c1, if_pos c1]
    refine fd_bits (fun i hi => ?_)
    simp only [Int64.toBitVec_and, Int64.toBitVec_or, BitVec.getLsbD_and, BitVec.getLsbD_or]
    cases a.toBitVec.getLsbD i <;> cases b.toBitVec.getLsbD i <;> cases m.toBitVec.getLsbD i <;> rfl
  rw [if_neg c1, if_neg c1]
  by_cases c2 : k = 2
  · rw [if_pos c2, if_pos c2]
    refine fd_bits (fun i hi => ?_)
    simp only [Int64.toBitVec_and, Int64.toBitVec_xor, BitVec.getLsbD_and, BitVec.getLsbD_xor]
    cases a.toBitVec.getLsbD i <;> cases b.toBitVec.getLsbD i <;> cases m.toBitVec.getLsbD i <;> rfl
  rw [if_neg c2, if_neg c2]
  by_cases c3 : k = 3
  · rw [if_pos c3, if_pos c3]
    refine fd_bits (fun i hi => ?_)
    simp only [Int64.toBitVec_and, Int64.toBitVec_xor, BitVec.getLsbD_and, BitVec.getLsbD_xor, fd_bm1 hi]
    cases a.toBitVec.getLsbD i <;> cases b.toBitVec.getLsbD i <;> cases m.toBitVec.getLsbD i <;> rfl
  rw [if_neg c3, if_neg c3]
  by_cases c4 : k = 4
  · rw [if_pos c4, if_pos c4]
    refine fd_bits (fun i hi => ?_)
    simp only [Int64.toBitVec_and, Int64.toBitVec_or, Int64.toBitVec_xor, BitVec.getLsbD_and, BitVec.getLsbD_or, BitVec.getLsbD_xor, fd_bm1 hi]
    cases a.toBitVec.getLsbD i <;> cases b.toBitVec.getLsbD i <;> cases m.toBitVec.getLsbD i <;> rfl
  rw [if_neg c4, if_neg c4]
  by_cases c5 : k = 5
  · rw [if_pos c5, if_pos c5]
    refine fd_bits (fun i hi => ?_)
    simp only [Int64.toBitVec_and, Int64.toBitVec_xor, BitVec.getLsbD_and, BitVec.getLsbD_xor, fd_bm1 hi]
    cases a.toBitVec.getLsbD i <;> cases m.toBitVec.getLsbD i <;> rfl
  rw [if_neg c5, if_neg c5]
  refine fd_bits (fun i hi => ?_)
  simp only [Int64.toBitVec_and, BitVec.getLsbD_and]
  cases a.toBitVec.getLsbD i <;> cases m.toBitVec.getLsbD i <;> rfl
theorem q_X11_own_0_9 {N : Nat} {p1 : Int32} {σ : fd_St} {v : Int64} {s : fd_St} (h : f_X11_own_0_9 N p1 σ = some (v, s)) : s = σ ∧ v = (if σ.2.1 1 p1.toNatClampNeg = (-1 : Int32) then σ.2.2 4 p1.toNatClampNeg else fd_tl (σ.2.1 1 p1.toNatClampNeg) (σ.2.2 9 (σ.2.1 2 p1.toNatClampNeg).toNatClampNeg) (σ.2.2 9 (σ.2.1 3 p1.toNatClampNeg).toNatClampNeg)) &&& fd_mk (σ.1 4) := by
  unfold f_X11_own_0_9 at h
  obtain ⟨_, h⟩ := fd_gds h
  by_cases c : σ.2.1 1 p1.toNatClampNeg = (-1 : Int32)
  · have h := fd_itp c h
    rw [if_pos c]
    obtain ⟨_, h⟩ := fd_gds h
    unfold f_X11_own_0_9_J44 at h
    obtain ⟨m, τ, h1, h3⟩ := fd_bds h
    obtain ⟨a, b⟩ := q_X11_mask_0 h1
    rw [a, b] at h3
    cases h3; exact ⟨rfl, rfl⟩
  · have h := fd_itn c h
    rw [if_neg c]
    obtain ⟨_, h⟩ := fd_gds h
    obtain ⟨_, h⟩ := fd_gds h
    obtain ⟨_, h⟩ := fd_gds h
    obtain ⟨_, h⟩ := fd_gds h
    obtain ⟨_, h⟩ := fd_gds h
    obtain ⟨w, ρ, h0, h⟩ := fd_bds h
    unfold f_X11_tell at h0
    obtain ⟨w1, w2⟩ := q_tl h0
    have w1 : w = _ := w1
    have w2 : ρ = σ := w2
    rw [w1, w2] at h
    unfold f_X11_own_0_9_J44 at h
    obtain ⟨m, τ, h1, h3⟩ := fd_bds h
    obtain ⟨a, b⟩ := q_X11_mask_0 h1
    rw [a, b] at h3
    cases h3; exact ⟨rfl, rfl⟩
theorem q_X11_workPlain_0_L2 {N : Nat} : ∀ (n : Nat) (y1 : Int32) (σ : fd_St) (v : Unit) (s : fd_St), f_X11_workPlain_0_L2 N n y1 σ = some (v, s) → (0 ≤ y1.toInt → ∀ r : Nat → Int64, fd_E (σ.2.1 1) (σ.2.1 2) (σ.2.1 3) r (σ.2.2 4) (σ.1 1).toNatClampNeg → (∀ i, i < y1.toNatClampNeg → σ.2.2 9 i = r i &&& fd_mk (σ.1 4)) → ∀ i, i < (σ.1 1).toNatClampNeg → s.2.2 9 i = r i &&& fd_mk (σ.1 4)) := by
  intro n
  induction n with
  | zero => intro y1 σ v s h; cases h
  | succ n ih =>
    intro y1 σ v s h h0 r hE hp i hi
    unfold f_X11_workPlain_0_L2 at h
    by_cases c : σ.1 1 ≤ y1
    · have h := fd_itp c h
      have c1 := fd_tn (Int32.le_iff_toInt_le.mp c)
      cases h
      exact hp i (by omega)
    · have h := fd_itn c h
      have c1 := Int32.lt_iff_toInt_lt.mp (Int32.not_le.mp c)
      have c2 := fd_tl' h0 c1
      obtain ⟨v3, σ4, h1, h2⟩ := fd_bds h
      obtain ⟨es, ev⟩ := q_X11_own_0_9 h1
      rw [es] at h2
      obtain ⟨g1, h3⟩ := fd_gds h2
      have g2 := vp_in_iff.mp g1
      obtain ⟨σ8, e8, h4⟩ := fd_lts h3
      obtain ⟨x9, e9, h5⟩ := fd_lts h4
      obtain ⟨t1, t2⟩ := fd_t1 e9 h0 (by omega)
      have b1 : σ8.1 = σ.1 := by subst e8; rfl
      have b2 : σ8.2.1 = σ.2.1 := by subst e8; rfl
      have b3 : σ8.2.2 4 = σ.2.2 4 := fd_yLn e8 (by decide) rfl
      have b4 : σ8.2.2 9 = vp_updL (σ.2.2 9) y1.toNatClampNeg v3 := fd_yL e8 rfl
      have a := ih _ _ _ _ h5 (by omega) r (by rw [b1, b2, b3]; exact hE)
      rw [b1, b4, t2] at a
      refine a (fun j hj => ?_) i hi
      by_cases e : j = y1.toNatClampNeg
      · subst e
        rw [fd_uL_eq, ev]
        by_cases d : σ.2.1 1 y1.toNatClampNeg = (-1 : Int32)
        · rw [if_pos d, hE.1 _ d]
        · rw [if_neg d]
          obtain ⟨o1, o2⟩ := hE.2.1 _ c2 d
          rw [hp _ o1, hp _ o2, fd_tl_m, ← hE.2.2 _ c2 d]
      · rw [fd_uL_ne e]; exact hp j (by omega)
