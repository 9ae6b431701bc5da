theorem fd_teq {x y : Int32} (hx : 0 ≤ x.toInt) (hy : 0 ≤ y.toInt) : x = y ↔ x.toNatClampNeg = y.toNatClampNeg := by
  constructor
  · intro h; rw [h]
  · intro h
    have h : x.toInt.toNat = y.toInt.toNat := h
    exact Int32.toInt_inj.mp (by omega)
theorem fd_tle {x y : Int32} (hx : 0 ≤ x.toInt) (hy : 0 ≤ y.toInt) : x ≤ y ↔ x.toNatClampNeg ≤ y.toNatClampNeg := by
  constructor
  · intro h; exact fd_tn (Int32.le_iff_toInt_le.mp h)
  · intro h
    have h : x.toInt.toNat ≤ y.toInt.toNat := h
    exact Int32.le_iff_toInt_le.mpr (by omega)
/-- q holds the nets that a reaches, as the reference finds them -/
def fd_Rx (k f g : Nat → Int32) (a : Nat) (q : Nat → Int32) (n : Nat) : Prop := ∀ i, i < n → (q i ≠ 0 ↔ (i = a ∨ (k i ≠ -1 ∧ (q (f i).toNatClampNeg ≠ 0 ∨ q (g i).toNatClampNeg ≠ 0))))
theorem fd_Rx_s {k f g q : Nat → Int32} {a n : Nat} {z : Int32} (ho : fd_Go k f g (n + 1)) (h : fd_Rx k f g a q n) (hz : z ≠ 0 ↔ (n = a ∨ (k n ≠ -1 ∧ (q (f n).toNatClampNeg ≠ 0 ∨ q (g n).toNatClampNeg ≠ 0)))) : fd_Rx k f g a (upd q n z) (n + 1) := by
  have cong : ∀ i, i < n + 1 → ((i = a ∨ (k i ≠ -1 ∧ (upd q n z (f i).toNatClampNeg ≠ 0 ∨ upd q n z (g i).toNatClampNeg ≠ 0))) ↔ (i = a ∨ (k i ≠ -1 ∧ (q (f i).toNatClampNeg ≠ 0 ∨ q (g i).toNatClampNeg ≠ 0)))) := by
    intro i hi
    by_cases hk : k i = -1
    · constructor
      · rintro (e | ⟨e, _⟩)
        · exact Or.inl e
        · exact absurd hk e
      · rintro (e | ⟨e, _⟩)
        · exact Or.inl e
        · exact absurd hk e
    · obtain ⟨o1, o2⟩ := ho i hi hk
      have e1 : upd q n z (f i).toNatClampNeg = q (f i).toNatClampNeg := fd_uA_ne (by omega)
      have e2 : upd q n z (g i).toNatClampNeg = q (g i).toNatClampNeg := fd_uA_ne (by omega)
      rw [e1, e2]
  intro i hi
  rw [cong i hi]
  by_cases e : i = n
  · rw [e, fd_uA_eq]; exact hz
  · rw [fd_uA_ne e]; exact h i (by omega)
theorem fd_nar1 : vp_nar .boolean (1 : Int32) = 1 := by decide
theorem fd_nar0 : vp_nar .boolean (0 : Int32) = 0 := by decide
theorem q_X11_reaches_0_L2 {N : Nat} : ∀ (n : Nat) (y1 y2 y3 : Int32) (σ : fd_St) (v : Int32) (s : fd_St), f_X11_reaches_0_L2 N n y1 y2 y3 σ = some (v, s) → (0 ≤ y3.toInt → 0 ≤ y1.toInt → fd_Go (σ.2.1 1) (σ.2.1 2) (σ.2.1 3) (σ.1 1).toNatClampNeg → fd_Rx (σ.2.1 1) (σ.2.1 2) (σ.2.1 3) y1.toNatClampNeg (σ.2.1 11) y3.toNatClampNeg → ∃ q, fd_Rx (σ.2.1 1) (σ.2.1 2) (σ.2.1 3) y1.toNatClampNeg q (σ.1 1).toNatClampNeg ∧ v = q y2.toNatClampNeg) := by
  intro n
  induction n with
  | zero => intro y1 y2 y3 σ v s h; cases h
  | succ n ih =>
    intro y1 y2 y3 σ v s h h0 h1 ho hr
    unfold f_X11_reaches_0_L2 at h
    by_cases c : σ.1 1 ≤ y3
    · have h := fd_itp c h
      have c1 := fd_tn (Int32.le_iff_toInt_le.mp c)
      obtain ⟨_, h⟩ := fd_gds h
      obtain ⟨_, h⟩ := fd_gds h
      cases h
      exact ⟨σ.2.1 11, fun i hi => hr i (by omega), rfl⟩
    · have h := fd_itn c h
      have c1 := Int32.lt_iff_toInt_lt.mp (Int32.not_le.mp c)
      have c2 := fd_tl' h0 c1
      have step : ∀ z2 : Int32, vp_nar .boolean z2 = z2 → (z2 ≠ 0 ↔ (y3.toNatClampNeg = y1.toNatClampNeg ∨ (σ.2.1 1 y3.toNatClampNeg ≠ -1 ∧ (σ.2.1 11 (σ.2.1 2 y3.toNatClampNeg).toNatClampNeg ≠ 0 ∨ σ.2.1 11 (σ.2.1 3 y3.toNatClampNeg).toNatClampNeg ≠ 0)))) → f_X11_reaches_0_J63 N (f_X11_reaches_0_L2 N n) y1 y2 y3 y3 z2 σ = some (v, s) → ∃ q, fd_Rx (σ.2.1 1) (σ.2.1 2) (σ.2.1 3) y1.toNatClampNeg q (σ.1 1).toNatClampNeg ∧ v = q y2.toNatClampNeg := by
        intro z2 hn hz h
        unfold f_X11_reaches_0_J63 at h
        obtain ⟨g1, h⟩ := fd_gds h
        have g2 := vp_in_iff.mp g1
        obtain ⟨σ6, e6, h⟩ := fd_lts h
        obtain ⟨x7, e7, h⟩ := fd_lts h
        obtain ⟨t1, t2⟩ := fd_t1 e7 h0 (by omega)
        rw [hn] at e6
        have b1 : σ6.1 = σ.1 := by subst e6; rfl
        have b2 := fd_yAn (d := 1) e6 (by decide) rfl
        have b3 := fd_yAn (d := 2) e6 (by decide) rfl
        have b4 := fd_yAn (d := 3) e6 (by decide) rfl
        have b5 := fd_yA e6 rfl
        have a := ih _ _ _ _ _ _ h (by omega) h1
        rw [b1, b2, b3, b4, b5, t2] at a
        exact a ho (fd_Rx_s (fd_Go_le ho (by omega)) hr hz)
      by_cases d : y3 = y1
      · have h := fd_itp d h
        unfold f_X11_reaches_0_J58 at h
        exact step 1 fd_nar1 ⟨fun _ => Or.inl (by rw [d]), fun _ => by decide⟩ h
      · have h := fd_itn d h
        have d1 : ¬ y3.toNatClampNeg = y1.toNatClampNeg := fun q => d ((fd_teq h0 h1).mpr q)
        obtain ⟨_, h⟩ := fd_gds h
        by_cases k : σ.2.1 1 y3.toNatClampNeg = (-1 : Int32)
        · have h := fd_itp k h
          unfold f_X11_reaches_0_J62 at h
          refine step 0 fd_nar0 ⟨fun q => absurd rfl q, ?_⟩ h
          rintro (q | ⟨q, _⟩)
          · exact absurd q d1
          · exact absurd k q
        · have h := fd_itn k h
          obtain ⟨_, h⟩ := fd_gds h
          obtain ⟨_, h⟩ := fd_gds h
          by_cases a1 : σ.2.1 11 (σ.2.1 2 y3.toNatClampNeg).toNatClampNeg = 0
          · have h := fd_itp a1 h
            obtain ⟨_, h⟩ := fd_gds h
            obtain ⟨_, h⟩ := fd_gds h
            by_cases a2 : σ.2.1 11 (σ.2.1 3 y3.toNatClampNeg).toNatClampNeg = 0
            · have h := fd_itp a2 h
              unfold f_X11_reaches_0_J62 at h
              refine step 0 fd_nar0 ⟨fun q => absurd rfl q, ?_⟩ h
              rintro (q | ⟨_, q | q⟩)
              · exact absurd q d1
              · exact absurd a1 q
              · exact absurd a2 q
            · have h := fd_itn a2 h
              unfold f_X11_reaches_0_J58 at h
              exact step 1 fd_nar1 ⟨fun _ => Or.inr ⟨k, Or.inr a2⟩, fun _ => by decide⟩ h
          · have h := fd_itn a1 h
            unfold f_X11_reaches_0_J58 at h
            exact step 1 fd_nar1 ⟨fun _ => Or.inr ⟨k, Or.inl a1⟩, fun _ => by decide⟩ h
/-- the same as the class finds them, from the lower net on -/
def fd_Rc (k f g : Nat → Int32) (low : Int32) (q : Nat → Int32) (n : Nat) : Prop := ∀ i, low.toNatClampNeg ≤ i → i < n → (q i ≠ 0 ↔ (i = low.toNatClampNeg ∨ (k i ≠ -1 ∧ ((low ≤ f i ∧ q (f i).toNatClampNeg ≠ 0) ∨ (low ≤ g i ∧ q (g i).toNatClampNeg ≠ 0)))))
theorem fd_Rc_s {k f g q : Nat → Int32} {low : Int32} {n : Nat} {z : Int32} (ho : fd_Go k f g (n + 1)) (h : fd_Rc k f g low q n) (hz : z ≠ 0 ↔ (n = low.toNatClampNeg ∨ (k n ≠ -1 ∧ ((low ≤ f n ∧ q (f n).toNatClampNeg ≠ 0) ∨ (low ≤ g n ∧ q (g n).toNatClampNeg ≠ 0))))) : fd_Rc k f g low (upd q n z) (n + 1) := by
  have cong : ∀ i, i < n + 1 → ((i = low.toNatClampNeg ∨ (k i ≠ -1 ∧ ((low ≤ f i ∧ upd q n z (f i).toNatClampNeg ≠ 0) ∨ (low ≤ g i ∧ upd q n z (g i).toNatClampNeg ≠ 0)))) ↔ (i = low.toNatClampNeg ∨ (k i ≠ -1 ∧ ((low ≤ f i ∧ q (f i).toNatClampNeg ≠ 0) ∨ (low ≤ g i ∧ q (g i).toNatClampNeg ≠ 0))))) := by
    intro i hi
    by_cases hk : k i = -1
    · constructor
      · rintro (e | ⟨e, _⟩)
        · exact Or.inl e
        · exact absurd hk e
      · rintro (e | ⟨e, _⟩)
        · exact Or.inl e
        · exact absurd hk e
    · obtain ⟨o1, o2⟩ := ho i hi hk
      have e1 : upd q n z (f i).toNatClampNeg = q (f i).toNatClampNeg := fd_uA_ne (by omega)
      have e2 : upd q n z (g i).toNatClampNeg = q (g i).toNatClampNeg := fd_uA_ne (by omega)
      rw [e1, e2]
  intro i hl hi
  rw [cong i hi]
  by_cases e : i = n
  · rw [e, fd_uA_eq]; exact hz
  · rw [fd_uA_ne e]; exact h i hl (by omega)
theorem q_isReached {N : Nat} {p1 p2 : Int32} {σ : fd_St} {v : Int32} {s : fd_St} (h : f_X2_isReached_1 N p1 p2 σ = some (v, s)) : s = σ ∧ (v ≠ 0 ↔ (p2 ≤ p1 ∧ σ.2.1 17 p1.toNatClampNeg ≠ 0)) := by
  unfold f_X2_isReached_1 at h
  by_cases c : p1 < p2
  · have h := fd_itp c h
    cases h
    exact ⟨rfl, fun q => absurd rfl q, fun q => absurd c (Int32.not_lt.mpr q.1)⟩
  · have h := fd_itn c h
    obtain ⟨_, h⟩ := fd_gds h
    by_cases d : σ.2.1 17 p1.toNatClampNeg = 0
    · have h := fd_itp d h
      cases h
      exact ⟨rfl, fun q => absurd rfl q, fun q => absurd d q.2⟩
    · have h := fd_itn d h
      cases h
      exact ⟨rfl, fun _ => ⟨Int32.not_lt.mp c, d⟩, fun _ => by decide⟩
theorem q_X2_oneReachesTheOther_1_L25 {N : Nat} : ∀ (n : Nat) (y3 y4 y5 : Int32) (σ : fd_St) (v : Int32) (s : fd_St), f_X2_oneReachesTheOther_1_L25 N n y3 y4 y5 σ = some (v, s) → (0 ≤ y3.toInt → y3.toInt < y5.toInt → y5.toInt ≤ y4.toInt + 1 → y4.toInt < (σ.1 1).toInt → fd_Go (σ.2.1 12) (σ.2.1 13) (σ.2.1 14) (σ.1 1).toNatClampNeg → fd_Rc (σ.2.1 12) (σ.2.1 13) (σ.2.1 14) y3 (σ.2.1 17) y5.toNatClampNeg → ∃ q, fd_Rc (σ.2.1 12) (σ.2.1 13) (σ.2.1 14) y3 q (y4.toNatClampNeg + 1) ∧ v = q y4.toNatClampNeg) := by
  intro n
  induction n with
  | zero => intro y3 y4 y5 σ v s h; cases h
  | succ n ih =>
    intro y3 y4 y5 σ v s h h3 h5 h4 hn ho hr
    unfold f_X2_oneReachesTheOther_1_L25 at h
    by_cases c : y4 < y5
    · have h := fd_itp c h
      have c1 := Int32.lt_iff_toInt_lt.mp c
      obtain ⟨_, h⟩ := fd_gds h
      obtain ⟨_, h⟩ := fd_gds h
      have e : y5.toNatClampNeg = y4.toNatClampNeg + 1 := by
        show y5.toInt.toNat = y4.toInt.toNat + 1; omega
      rw [e] at hr
      cases h
      exact ⟨σ.2.1 17, hr, rfl⟩
    · have h := fd_itn c h
      have c1 := Int32.le_iff_toInt_le.mp (Int32.not_lt.mp c)
      have c2 := fd_tl' (x := y5) (y := σ.1 1) (by omega) (by omega)
      have c3 := fd_tl' h3 h5
      obtain ⟨_, h⟩ := fd_gds h
      have step : ∀ z2 : Int32, vp_nar .boolean z2 = z2 → (z2 ≠ 0 ↔ (y5.toNatClampNeg = y3.toNatClampNeg ∨ (σ.2.1 12 y5.toNatClampNeg ≠ -1 ∧ ((y3 ≤ σ.2.1 13 y5.toNatClampNeg ∧ σ.2.1 17 (σ.2.1 13 y5.toNatClampNeg).toNatClampNeg ≠ 0) ∨ (y3 ≤ σ.2.1 14 y5.toNatClampNeg ∧ σ.2.1 17 (σ.2.1 14 y5.toNatClampNeg).toNatClampNeg ≠ 0))))) → f_X2_oneReachesTheOther_1_J84 N (f_X2_oneReachesTheOther_1_L25 N n) y3 y4 y5 y5 z2 σ = some (v, s) → ∃ q, fd_Rc (σ.2.1 12) (σ.2.1 13) (σ.2.1 14) y3 q (y4.toNatClampNeg + 1) ∧ v = q y4.toNatClampNeg := by
        intro z2 hna hz h
        unfold f_X2_oneReachesTheOther_1_J84 at h
        obtain ⟨g1, h⟩ := fd_gds h
        have g2 := vp_in_iff.mp g1
        obtain ⟨σ6, e6, h⟩ := fd_lts h
        obtain ⟨x7, e7, h⟩ := fd_lts h
        obtain ⟨t1, t2⟩ := fd_t1 e7 (by omega) (by omega)
        rw [hna] at e6
        have b1 : σ6.1 = σ.1 := by subst e6; rfl
        have b2 := fd_yAn (d := 12) e6 (by decide) rfl
        have b3 := fd_yAn (d := 13) e6 (by decide) rfl
        have b4 := fd_yAn (d := 14) e6 (by decide) rfl
        have b5 := fd_yA e6 rfl
        have a := ih _ _ _ _ _ _ h h3 (by omega) (by omega)
        rw [b1, b2, b3, b4, b5, t2] at a
        exact a hn ho (fd_Rc_s (fd_Go_le ho (by omega)) hr hz)
      by_cases k : σ.2.1 12 y5.toNatClampNeg = (-1 : Int32)
      · have h := fd_itp k h
        unfold f_X2_oneReachesTheOther_1_J83 at h
        refine step 0 fd_nar0 ⟨fun q => absurd rfl q, ?_⟩ h
        rintro (q | ⟨q, _⟩)
        · omega
        · exact absurd k q
      · have h := fd_itn k h
        obtain ⟨_, h⟩ := fd_gds h
        obtain ⟨v16, σ17, k1, h9⟩ := fd_bds h
        obtain ⟨es, a1⟩ := q_isReached k1
        rw [es] at h9
        by_cases d : v16 = 0
        · have h := fd_itp d h9
          obtain ⟨_, h⟩ := fd_gds h
          obtain ⟨v23, σ24, k2, h8⟩ := fd_bds h
          obtain ⟨es2, a2⟩ := q_isReached k2
          rw [es2] at h8
          have n1 : ¬ (y3 ≤ σ.2.1 13 y5.toNatClampNeg ∧ σ.2.1 17 (σ.2.1 13 y5.toNatClampNeg).toNatClampNeg ≠ 0) := fun q => a1.mpr q d
          by_cases d2 : v23 = 0
          · have h := fd_itp d2 h8
            unfold f_X2_oneReachesTheOther_1_J83 at h
            refine step 0 fd_nar0 ⟨fun q => absurd rfl q, ?_⟩ h
            rintro (q | ⟨_, q | q⟩)
            · omega
            · exact absurd q n1
            · exact absurd d2 (a2.mpr q)
          · have h := fd_itn d2 h8
            unfold f_X2_oneReachesTheOther_1_J79 at h
            exact step 1 fd_nar1 ⟨fun _ => Or.inr ⟨k, Or.inr (a2.mp d2)⟩, fun _ => by decide⟩ h
        · have h := fd_itn d h9
          unfold f_X2_oneReachesTheOther_1_J79 at h
          exact step 1 fd_nar1 ⟨fun _ => Or.inr ⟨k, Or.inl (a1.mp d)⟩, fun _ => by decide⟩ h
/-- both find the same -/
theorem fd_RxRc {k f g q q' : Nat → Int32} {low : Int32} {n h : Nat} (h0 : 0 ≤ low.toInt) (ho : fd_Go k f g n) (hx : fd_Rx k f g low.toNatClampNeg q n) (hc : fd_Rc k f g low q' (h + 1)) (hh : h < n) (hl : low.toNatClampNeg ≤ h) (hf : ∀ i, 0 ≤ (f i).toInt) (hg : ∀ i, 0 ≤ (g i).toInt) : q' h ≠ 0 ↔ q h ≠ 0 := by
  have below : ∀ m i, i < m → i < low.toNatClampNeg → i < n → ¬ q i ≠ 0 := by
    intro m
    induction m with
    | zero => intro i hi; omega
    | succ m ih =>
      intro i hi hil hin
      rw [hx i hin]
      rintro (e | ⟨e, z⟩)
      · omega
      · obtain ⟨o1, o2⟩ := ho i hin e
        rcases z with z | z
        · exact ih _ (by omega) (by omega) (by omega) z
        · exact ih _ (by omega) (by omega) (by omega) z
  have same : ∀ m i, i < m → low.toNatClampNeg ≤ i → i ≤ h → (q' i ≠ 0 ↔ q i ≠ 0) := by
    intro m
    induction m with
    | zero => intro i hi; omega
    | succ m ih =>
      intro i hi hil hih
      rw [hx i (by omega), hc i hil (by omega)]
      by_cases e : i = low.toNatClampNeg
      · exact ⟨fun _ => Or.inl e, fun _ => Or.inl e⟩
      · by_cases hk : k i = -1
        · constructor
          · rintro (z | ⟨z, _⟩)
            · exact absurd z e
            · exact absurd hk z
          · rintro (z | ⟨z, _⟩)
            · exact absurd z e
            · exact absurd hk z
        · obtain ⟨o1, o2⟩ := ho i (by omega) hk
          have one : ∀ x : Int32, 0 ≤ x.toInt → x.toNatClampNeg < i → ((low ≤ x ∧ q' x.toNatClampNeg ≠ 0) ↔ q x.toNatClampNeg ≠ 0) := by
            intro x hx0 hxi
            by_cases a : low ≤ x
            · have a1 := (fd_tle h0 hx0).mp a
              have := ih x.toNatClampNeg (by omega) a1 (by omega)
              exact ⟨fun z => this.mp z.2, fun z => ⟨a, this.mpr z⟩⟩
            · have a1 : ¬ low.toNatClampNeg ≤ x.toNatClampNeg := fun z => a ((fd_tle h0 hx0).mpr z)
              have := below (x.toNatClampNeg + 1) x.toNatClampNeg (by omega) (by omega) (by omega)
              exact ⟨fun z => absurd z.1 a, fun z => absurd z this⟩
          rw [one _ (hf i) o1, one _ (hg i) o2]
  exact same (h + 1) h (by omega) hl (by omega)
theorem fd_Rx_hi {k f g q : Nat → Int32} {a n : Nat} (ho : fd_Go k f g n) (hx : fd_Rx k f g a q n) : ∀ m i, i < m → i < a → i < n → ¬ q i ≠ 0 := by
  intro m
  induction m with
  | zero => intro i hi; omega
  | succ m ih =>
    intro i hi hil hin
    rw [hx i hin]
    rintro (e | ⟨e, z⟩)
    · omega
    · obtain ⟨o1, o2⟩ := ho i hin e
      rcases z with z | z
      · exact ih _ (by omega) (by omega) (by omega) z
      · exact ih _ (by omega) (by omega) (by omega) z
