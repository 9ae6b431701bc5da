/-- elements of a list, by the gaps between them -/
def fd_pick {α : Type} : List Nat → List α → List α
  | [], _ => []
  | d :: ds, l => match l.drop d with
    | [] => []
    | x :: r => x :: fd_pick ds r
theorem fd_pick_in {α : Type} : ∀ (ds : List Nat) (l : List α) (x : α), x ∈ fd_pick ds l → x ∈ l := by
  intro ds
  induction ds with
  | nil => intro l x h; simp [fd_pick] at h
  | cons d ds ih =>
    intro l x h
    unfold fd_pick at h
    cases e : l.drop d with
    | nil => rw [e] at h; simp at h
    | cons y r =>
      rw [e] at h
      have h : x ∈ y :: fd_pick ds r := h
      have hm : ∀ z, z ∈ y :: r → z ∈ l := fun z hz => List.mem_of_mem_drop (i := d) (by rw [e]; exact hz)
      rcases List.mem_cons.mp h with h | h
      · exact hm x (by rw [h]; exact List.mem_cons_self)
      · exact hm x (List.mem_cons_of_mem _ (ih r x h))
theorem fd_gp {big : List Cond} (ws : List Cond) (qs ds : List Nat) (h1 : (List.range ws.length).all (fun i => decide (i ∈ qs)) = true) (h2 : qs.filterMap (fun i => ws[i]?) = fd_pick ds big) (h3 : ws.all goodWord = true) : GoodIn big ws := goodIn_sub (fun w hw => by
  obtain ⟨i, hi⟩ := List.getElem?_of_mem hw
  have hlt : i < ws.length := (List.getElem?_eq_some_iff.mp hi).1
  have hq : i ∈ qs := of_decide_eq_true (List.all_eq_true.mp h1 i (List.mem_range.mpr hlt))
  have hm : w ∈ qs.filterMap (fun i => ws[i]?) := List.mem_filterMap.mpr ⟨i, hq, hi⟩
  rw [h2] at hm
  exact fd_pick_in ds big w hm) h3
