/-! THE CLAIM OUT OF ONE WALK OF THE LAW'S BODY. Your part is whole_start (and what it stands on); all else here is the same for every law, but numbers. -/
def R_law : String := "FailDiagnoseLaw"
def lw_P (b : Addr) (xs : List Int32) (args : Array Value) (s : State) : Prop := args = #[.ref b] ∧ s.IntsAt b xs ∧ xs.length ≤ 3072 ∧ (Jvm.Cond.and given_1 narrow_1).before args s = true
def lw_Q (_ : Array Value) (s : State) (o : Outcome) (t : State) : Prop := o = .returned (some (.int 1)) ∧ Framed s o t [] 1116 18645
def lw_Z (below : List Frame) (a : Array Value) (s : State) : State → Prop := fun t => ∃ o, t.status = .running ∧ Ended t below o ∧ lw_Q a s o t
/-- the law's own end, with 1 on the stack, nothing written that was there before, its room as the claim has it -/
theorem lw_ret {p : Program} {l : Launch} {e : Env} {s : State} {m : MethodId} {below : List Frame} {meth : Method} {c : Code} {b : Nat} (hx : p.tables.exec = Jvm.exec) (hb : c.code = code) (hr : meth.sig.returnType = ret) (hlocks : meth.locks = false) {pc : Nat} {H : Heap} {ls : Array Slot} (hdg : decode code pc = .ok (.ireturn, 1)) : W p l e room_1 s m #[Value.ref b] below meth c H [] 1116 18645 (lw_Z below #[Value.ref b] s) (F0 m pc ls [.int 1]) := by
  intro T hT X
  obtain ⟨fs, hret, hrun, hended, hW, hframe⟩ := X.leave (v := some (.int 1)) (hlocks := hlocks) (fun h => by rw [hr] at h; cases h)
  have hmeth' : T.vm.method? m = some meth := X.method'
  refine ⟨T.setFrames fs, ?_, .returned (some (.int 1)), hrun, hended, rfl, ⟨_, rfl⟩, hW, hframe⟩
  jvm_step X.here [X.here.top, hx, hb, hdg, hmeth', hr, ret, narrow_b1]
  (try refine ⟨rfl, ?_⟩); (try refine ⟨rfl, ?_⟩)
  first | (intro acts; rw [hret _ acts rfl rfl rfl]) | rw [hret _ _ rfl rfl rfl]
  exact Steps.refl _
/-- what holds at the law's entry: the machine, the code, the tables' words (any of lw_tbl by 'hts w (by decide +kernel)'), the script of L ints xs at the cell b, what the Statement gives of the start (any of its parts by flat_of_before) -/
def lw_At (p : Program) (s : State) (m : MethodId) (meth : Method) (c : Code) (b L : Nat) (xs : Nat → Int32) : Prop :=
  p.tables.exec = Jvm.exec ∧ c.code = code ∧ meth.sig.returnType = ret ∧ c.maxLocals = 8 ∧ s.vm.findClass R_law = some m.cls ∧ (∀ w ∈ lw_tbl, w.before #[Value.ref b] s = true) ∧ va_X b L xs s s.heap ∧ b < s.heap.size ∧ meth.locks = false ∧ (Jvm.Cond.and given_1 narrow_1).before #[Value.ref b] s = true
/-- the law's own state of things, behind its two makings -/
def fd_Cx (p : Program) (l : Launch) (s : State) (m : MethodId) (meth : Method) (c : Code) (D : va_G) (a a2 : Nat → Nat) (k k2 : Nat → ClassId) (b L : Nat) (xs : Nat → Int32) : Prop :=
  lw_At p s m meth c b L xs ∧ l.stackTraces = false ∧ fd_I 40 a ∧ fd_I 29 a2 ∧ (∀ i, i < 40 → s.heap.size ≤ a i) ∧ (∀ i, i < 29 → s.heap.size ≤ a2 i) ∧ (∀ i j, i < 40 → j < 29 → a i ≠ a2 j) ∧ va_K D vwCl (fd_tyH k) s ∧ va_K D vwCl (fd_tyM k2) s ∧ fd_Z (fun q => s.heap.size ≤ q) s s.heap
theorem fd_AL {n : Nat} {a : Nat → Nat} {z z' q : Nat} (hJ : ∀ i, i < n → z ≤ a i) (h : z ≤ z') (hq : fd_A n a z' q) : z ≤ q := hq.elim (fun ⟨i, hi, e⟩ => by rw [e]; exact hJ i hi) (fun x => Nat.le_trans h x)
theorem fd_AL3 {a : Nat → Nat} {z z' q : Nat} (hJ : ∀ i, i < 40 → z ≤ a i) (h : z ≤ z') (hq : fd_A 39 a z' q) : z ≤ q := hq.elim (fun ⟨i, hi, e⟩ => by rw [e]; exact hJ i (by omega)) (fun x => Nat.le_trans h x)
theorem fd_prL {av : List Value} {D : va_G} {a : Nat → Nat} {k : Nat → ClassId} {σ : fd_St} {s : State} {H : Heap} {locs : List Loc} (hP : va_P D vwCl (fd_WH a k σ) H) (hK : va_K D vwCl (fd_tyH k) s) (hZ : fd_Z (fun q => s.heap.size ≤ q) s s.heap) (hS : va_S (fun q => s.heap.size ≤ q) s.heap H locs) (hJ : ∀ i, i < 40 → s.heap.size ≤ a i) : ∀ U : State, U.heap = H → s.WarmedH U.vm → va_Pc av (fd_PH D a k H.size σ) av.toArray U := fun U hU hW =>
  ⟨rfl, by rw [hU], by rw [hU]; exact hP, va_K.moved hW.alike hK, hZ.mv hW (fun q h1 h2 => by rw [hU]; exact hS.2.1 q h1 h2) (fun q h => fd_AL hJ hS.1 h)⟩
theorem fd_keep {D : va_G} {n : Nat} {a : Nat → Nat} {ws : va_W} {H H1 : Heap} {A : Nat → Prop} (hw : ws.map (fun q => q.1) = (List.range n).map a) (hP : va_P D vwCl ws H) (hn : ∀ i, i < n → a i < H.size → ¬ A (a i)) (hk : ∀ q : Nat, q < H.size → ¬ A q → H1[q]? = H[q]?) : va_P D vwCl ws H1 := by
  intro i q hq
  have hl : q.1 < H.size := (hP i q hq).lt
  have h1 : (ws.map (fun q => q.1))[i]? = some q.1 := by rw [List.getElem?_map, hq]; rfl
  rw [hw, List.getElem?_map] at h1
  cases h2 : (List.range n)[i]? with
  | none => rw [h2] at h1; cases h1
  | some j =>
    rw [h2] at h1
    have e : a j = q.1 := Option.some.inj h1
    have hj : j < n := by
      have := List.mem_of_getElem? h2
      exact List.mem_range.mp this
    exact (hP i q hq).kept (hk _ hl (by rw [← e]; exact hn j hj (by rw [e]; exact hl)))
theorem fd_kM {D : va_G} {a a2 : Nat → Nat} {k2 : Nat → ClassId} {μ : fd_St} {z : Nat} {H H1 : Heap} (hdis : ∀ i j, i < 40 → j < 29 → a i ≠ a2 j) (_ : ∀ i, i < 40 → z ≤ a i) (hQ : va_P D vwCl (fd_WM a2 k2 μ) H) (_ : H.size ≤ H1.size) (hk : ∀ q : Nat, q < H.size → ¬ fd_A 40 a H.size q → H1[q]? = H[q]?) : va_P D vwCl (fd_WM a2 k2 μ) H1 :=
  fd_keep fd_WM_map hQ (fun j hj hl h => h.elim (fun ⟨i, hi, e⟩ => hdis i j hi hj e.symm) (fun h => by omega)) hk
theorem fd_kM3 {D : va_G} {a a2 : Nat → Nat} {k2 : Nat → ClassId} {μ : fd_St} {z : Nat} {H H1 : Heap} (hdis : ∀ i j, i < 40 → j < 29 → a i ≠ a2 j) (_ : ∀ i, i < 40 → z ≤ a i) (hQ : va_P D vwCl (fd_WM a2 k2 μ) H) (_ : H.size ≤ H1.size) (hk : ∀ q : Nat, q < H.size → ¬ fd_A 39 a H.size q → H1[q]? = H[q]?) : va_P D vwCl (fd_WM a2 k2 μ) H1 :=
  fd_keep fd_WM_map hQ (fun j hj hl h => h.elim (fun ⟨i, hi, e⟩ => hdis i j (by omega) hj e.symm) (fun h => by omega)) hk
theorem fd_kH {D : va_G} {a a2 : Nat → Nat} {k : Nat → ClassId} {σ : fd_St} {H H1 : Heap} (hdis : ∀ i j, i < 40 → j < 29 → a i ≠ a2 j) (hP : va_P D vwCl (fd_WH a k σ) H) (_ : H.size ≤ H1.size) (hk : ∀ q : Nat, q < H.size → ¬ fd_A 29 a2 H.size q → H1[q]? = H[q]?) : va_P D vwCl (fd_WH a k σ) H1 :=
  fd_keep fd_WH_map hP (fun i hi hl h => h.elim (fun ⟨j, hj, e⟩ => hdis i j hi hj e) (fun h => by omega)) hk
