def fd_nth : List Nat → Nat → Nat
  | [], _ => 0
  | x :: _, 0 => x
  | _ :: xs, n + 1 => fd_nth xs n
def fd_s0C : fd_St := (fun i => if i = 7 then -1 else if i = 8 then -1 else 0, fun _ _ => 0, fun _ _ => 0)
def fd_s0M : fd_St := (fun _ => 0, fun _ _ => 0, fun _ _ => 0)
def fd_nest : List Cond := [.methodLinkNest RX10 11 yX2_init RX10, .methodLinkNest RX10 18 yX5_init RX10, .methodLinkNest RX10 25 yX4_init RX10, .methodLinkNest RX3 11 yX8_init RX10, .methodLinkNest RX3 20 yX0_init RX10, .methodLinkNest RX0 11 yX9_init RX10, .methodLinkNest RX3 27 yX9_init RX10, .methodLinkNest RX10 41 yX7_init RX10, .methodLinkNest RX10 48 yX1_init RX10, .methodLinkNest RX10 55 yX6_init RX10]
theorem fd_nest_w {s U : State} (hW : s.WarmedH U.vm) (h : ∀ w ∈ fd_nest, va_Nw w s) : ∀ w ∈ fd_nest, va_Nw w U := by
  intro w hw
  have hz := h w hw
  rcases List.mem_cons.mp hw with rfl | hw
  · exact hz.warmM hW
  rcases List.mem_cons.mp hw with rfl | hw
  · exact hz.warmM hW
  rcases List.mem_cons.mp hw with rfl | hw
  · exact hz.warmM hW
  rcases List.mem_cons.mp hw with rfl | hw
  · exact hz.warmM hW
  rcases List.mem_cons.mp hw with rfl | hw
  · exact hz.warmM hW
  rcases List.mem_cons.mp hw with rfl | hw
  · exact hz.warmM hW
  rcases List.mem_cons.mp hw with rfl | hw
  · exact hz.warmM hW
  rcases List.mem_cons.mp hw with rfl | hw
  · exact hz.warmM hW
  rcases List.mem_cons.mp hw with rfl | hw
  · exact hz.warmM hW
  rcases List.mem_cons.mp hw with rfl | hw
  · exact hz.warmM hW
  cases hw
theorem fd_nest_s {u U : State} (hv : u.vm = U.vm) (h : ∀ w ∈ fd_nest, va_Nw w u) : ∀ w ∈ fd_nest, va_Nw w U := by
  intro w hw
  have hz := h w hw
  rcases List.mem_cons.mp hw with rfl | hw
  · exact hz.same rfl hv
  rcases List.mem_cons.mp hw with rfl | hw
  · exact hz.same rfl hv
  rcases List.mem_cons.mp hw with rfl | hw
  · exact hz.same rfl hv
  rcases List.mem_cons.mp hw with rfl | hw
  · exact hz.same rfl hv
  rcases List.mem_cons.mp hw with rfl | hw
  · exact hz.same rfl hv
  rcases List.mem_cons.mp hw with rfl | hw
  · exact hz.same rfl hv
  rcases List.mem_cons.mp hw with rfl | hw
  · exact hz.same rfl hv
  rcases List.mem_cons.mp hw with rfl | hw
  · exact hz.same rfl hv
  rcases List.mem_cons.mp hw with rfl | hw
  · exact hz.same rfl hv
  rcases List.mem_cons.mp hw with rfl | hw
  · exact hz.same rfl hv
  cases hw
def fd_N0 (D : va_G) (ws : va_W) (sz : Nat) (U : State) : Prop := U.heap.size = sz ∧ va_P D vwCl ws U.heap ∧ va_K D vwCl [] U ∧ va_D (fun _ => True) ws ∧ ∀ w ∈ fd_nest, va_Nw w U
theorem fd_blN {av : List Value} {D : va_G} {ws : va_W} {sz : Nat} : FrameBlind (va_Pc av (fd_N0 D ws sz)) := fun a' U g mk q => by
  obtain ⟨q0, q1, qP, qK, qD, qN⟩ := q
  exact ⟨q0, q1, qP, va_K.moved (u := U) (U := U.calling g mk a') (Vm.Alike.refl U.vm) qK, qD, fd_nest_s (u := U) (U := U.calling g mk a') rfl qN⟩
theorem fd_prN {av : List Value} {D : va_G} {ws : va_W} {A : Nat → Prop} {s : State} {H : Heap} (hP : va_P D vwCl ws H) (hK : va_K D vwCl [] s) (hD : va_D A ws) (hN : ∀ w ∈ fd_nest, va_Nw w s) : ∀ U : State, U.heap = H → s.WarmedH U.vm → va_Pc av (fd_N0 D ws H.size) av.toArray U := fun U hU hW => ⟨rfl, by rw [hU], by rw [hU]; exact hP, va_K.moved hW.alike hK, hD.weaken (fun _ _ _ _ => trivial), fd_nest_w hW hN⟩
theorem fd_D_at {n : Nat} {a : Nat → Nat} {ws : va_W} (hw : ws.map (fun q => q.1) = (List.range n).map a) (i : Nat) (hi : i < n) : ∃ q, ws[i]? = some q ∧ q.1 = a i := by
  have h1 : (ws.map (fun q => q.1))[i]? = some (a i) := by rw [hw, List.getElem?_map, List.getElem?_range hi]; rfl
  rw [List.getElem?_map] at h1
  cases h2 : ws[i]? with
  | none => rw [h2] at h1; cases h1
  | some q => rw [h2] at h1; exact ⟨q, rfl, Option.some.inj h1⟩
theorem fd_I_of {n : Nat} {a : Nat → Nat} {A : Nat → Prop} {ws : va_W} (hD : va_D A ws) (hw : ws.map (fun q => q.1) = (List.range n).map a) : fd_I n a := fun i j hi hj e => by
  obtain ⟨q, h1, h2⟩ := fd_D_at hw i hi
  obtain ⟨r, h3, h4⟩ := fd_D_at hw j hj
  exact hD.1 i j q r h1 h3 (by rw [h2, h4]; exact e)
theorem fd_D_in {n : Nat} {a : Nat → Nat} {A : Nat → Prop} {ws : va_W} (hD : va_D A ws) (hw : ws.map (fun q => q.1) = (List.range n).map a) (i : Nat) (hi : i < n) : A (a i) := by
  obtain ⟨q, h1, h2⟩ := fd_D_at hw i hi
  rw [← h2]; exact hD.2 i q h1
def fd_KX9 (h0 : Nat) (a : Nat → Nat) (k : Nat → ClassId) : va_W := [(h0, .inr (9, [.int 0, .int 0, .int 0]))]
def fd_tX9 (k : Nat → ClassId) : List (ClassId × FieldType) := []
set_option maxHeartbeats 4000000 in
set_option maxRecDepth 100000 in
theorem n_X9 (l : Launch) (D : va_G) (h0 sz : Nat) : Met l yX9_init wsX9_init ({ frames := 1, cells := 0, slots := 0, locals := 12 }) (va_Pc [.ref h0] (fd_N0 D [(h0, .inr (9, [.int 0, .int 0, .int 0]))] sz)) (va_Qv (fun _ : (Nat → Nat) × (Nat → ClassId) => True) (fun u t => va_P D vwCl (fd_KX9 h0 u.1 u.2) t.heap ∧ va_K D vwCl (fd_tX9 u.2) t ∧ va_D (va_A [(h0, .inr (9, [.int 0, .int 0, .int 0]))] sz) (fd_KX9 h0 u.1 u.2)) (va_A [(h0, .inr (9, [.int 0, .int 0, .int 0]))] sz)) 0 0 (va_A [(h0, .inr (9, [.int 0, .int 0, .int 0]))] sz) := by
  refine Met.ofW (cc := cX9_init) (maxL := 1) (ret := none) (by decide) rfl ?_
  intro p e s m args below meth c s₁ B hml hv
  obtain ⟨rfl, hsz, hP, hK, hD0, hN⟩ := hv
  have hx := B.exec
  have hb := B.bytes
  have hr := B.returns
  have hts := atoms_spec (ws := wsX9_init) B.pre
  have hown : s.vm.findClass RX9 = some m.cls := findClass_of_methodNamed B.named
  have hlocks := B.notSynchronized
  have hin : meth.name = "<init>" := (name_of_methodNamed B.named B.method).1
  subst hsz
  have hD := hD0.self (sz := s.heap.size)
  generalize hAe : va_A [(h0, .inr (9, [.int 0, .int 0, .int 0]))] s.heap.size = A at hD ⊢
  have hA : ∀ q : Nat, s.heap.size ≤ q → A q := fun q h => by rw [← hAe]; exact Or.inr h
  have hS : va_S A s.heap s.heap [] := va_S.rf
  have hP : va_P D vwCl [(h0, .inr (9, [.int 0, .int 0, .int 0]))] s.heap := hP
  have hl := lv_entry ([.ref h0]) (n := 1) (Nat.le_of_ble_eq_true rfl)
  rw [lg_entry_eq]
  generalize (lg_sl ([.ref h0]) ++ List.replicate (1 - (lg_sl ([.ref h0])).length) Slot.unset).toArray = ls at hl ⊢
  have hl : lv_has ls 1 [(0, .ref h0)] := hl
  refine lv_aload_n hx hb dX9_init_0 rfl (lv_at hl 0 rfl) ?_
  refine W.objInit hx hb hown (hts (.methodLink RX9 1 objectInit) (List.mem_of_getElem? (i := 1) (by eq_refl))) (hts (.instanceMethod objectInit) (List.mem_of_getElem? (i := 2) (by eq_refl))) (hts (.code objectInit ⟨#[0xb1]⟩ 1 none) (List.mem_of_getElem? (i := 3) (by eq_refl))) rfl (by rw [hml]; exact hl.1) rfl dX9_init_1 (Nat.le_of_ble_eq_true rfl) (Nat.le_of_ble_eq_true rfl) ?_
  refine W.eq (g2 := F0 m 4 ls []) rfl ?_
  have hP9 : va_P D vwCl (fd_KX9 h0 (fd_nth [0]) (fd_nth [0])) s.heap := hP
  have hD9 : va_D A (fd_KX9 h0 (fd_nth [0]) (fd_nth [0])) := hD
  have hK9 : va_K D vwCl (fd_tX9 (fd_nth [0])) s := hK
  refine W.widen (k := 0) (n := 0) (Nat.le_of_ble_eq_true rfl) (Nat.le_of_ble_eq_true rfl) ?_
  exact W.vret hx hb hr (fun t ht hW => ⟨⟨((fd_nth [0]), (fd_nth [0])), rfl, trivial, by rw [ht]; exact hP9, va_K.moved hW.alike hK9, hD9⟩, hS.F ht⟩) hS.2.2 dX9_init_4
