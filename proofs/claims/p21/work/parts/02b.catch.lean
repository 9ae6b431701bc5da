section FDC
/-- one row of a table that covers the place, its class linked: taken, or passed; the tables note the link -/
theorem fd_row {e : Env} {S : State} {f : JFrame} {q : Addr} {ce : Cell} {z : ExceptionTableEntry} {t : List ExceptionTableEntry} {cz : ClassId} {kc kz : Class} (hz : covers z f.pc = true) (hz0 : z.catchType ≠ 0)
    (hl : S.vm.ClassLinks e.platform f.method.cls z.catchType cz) (hq : S.heap[q]? = some ce) (ho : ∀ k, ce.vm ≠ .statics k) (hkc : S.vm.classes[ce.cls]? = some kc) (hkz : S.vm.classes[cz]? = some kz)
    (Q : Handler → Pre) (E : CtlPost) (d : Bool) (acts : List Action) :
    wp (findHandler.go f q (z :: t)) Q E e d acts S ↔ (if S.vm.assignable ce.cls cz = true then Q (.found z.handlerPc) d acts (S.setVm (S.vm.noted f.method.cls z.catchType (.cls cz))) else wp (findHandler.go f q t) Q E e d acts (S.setVm (S.vm.noted f.method.cls z.catchType (.cls cz)))) := by
  have hn : S.vm.Alike (S.vm.noted f.method.cls z.catchType (.cls cz)) := (Vm.Alike.refl S.vm).noted _ _ _
  obtain ⟨r1, r2⟩ := (resolveClass_links e.toSetting hl).op (op := VmOp.resolveClass f.method.cls z.catchType) rfl
  obtain ⟨kc', hkc', -⟩ := hn.2.2 _ _ hkc
  obtain ⟨kz', hkz', -⟩ := hn.2.2 _ _ hkz
  have hz' := hz
  simp only [covers] at hz'
  have ha : (S.vm.noted f.method.cls z.catchType (.cls cz)).assignable ce.cls cz = S.vm.assignable ce.cls cz := hn.assignable _ _
  cases hb : S.vm.assignable ce.cls cz with
  | true =>
    rw [hb] at ha
    simp [findHandler.go, hz', hz0, r1, r2, hq, ho, hkc', hkz', ha, VmOp.dirties, VmOp.acts]
  | false =>
    rw [hb] at ha
    simp [findHandler.go, hz', hz0, r1, r2, hq, ho, hkc', hkz', ha, VmOp.dirties, VmOp.acts]
/-- what a table's row says of a thrown object: her class is linked, and takes it or not -/
def fd_says (e : Env) (s : State) (f : JFrame) (cls : ClassId) (b : Bool) (z : ExceptionTableEntry) : Prop := covers z f.pc = true ∧ z.catchType ≠ 0 ∧ ∃ cz, s.vm.ClassLinks e.platform f.method.cls z.catchType cz ∧ s.vm.assignable cls cz = b
/-- the search: rows that pass it on, then one that takes it -/
theorem fd_seek {e : Env} {s : State} {f : JFrame} {q : Addr} {ce : Cell} (ho : ∀ k, ce.vm ≠ .statics k) {kc : Class} (hkc : s.vm.classes[ce.cls]? = some kc) (x : ExceptionTableEntry) (suf : List ExceptionTableEntry) (hx : fd_says e s f ce.cls true x) :
    ∀ (pre : List ExceptionTableEntry), (∀ z ∈ pre, fd_says e s f ce.cls false z) → ∀ S : State, s.WarmedH S.vm → S.heap[q]? = some ce →
      ∃ vm', s.WarmedH vm' ∧ ∀ (Q : Handler → Pre) (E : CtlPost) (d : Bool) (acts : List Action), wp (findHandler.go f q (pre ++ x :: suf)) Q E e d acts S ↔ Q (.found x.handlerPc) d acts (S.setVm vm') := by
  have one : ∀ (b : Bool) (z : ExceptionTableEntry), fd_says e s f ce.cls b z → ∀ S : State, s.WarmedH S.vm → S.heap[q]? = some ce → ∃ vm', s.WarmedH vm' ∧ ∀ (t : List ExceptionTableEntry) (Q : Handler → Pre) (E : CtlPost) (d : Bool) (acts : List Action),
      wp (findHandler.go f q (z :: t)) Q E e d acts S ↔ (if b = true then Q (.found z.handlerPc) d acts (S.setVm vm') else wp (findHandler.go f q t) Q E e d acts (S.setVm vm')) := by
    intro b z hz S hW hq
    obtain ⟨h1, h2, cz, hl, hb⟩ := hz
    obtain ⟨dk, _, _, kt, hd, _, _, _, _, hkt, _, hopen⟩ := hl.here
    obtain ⟨kt', hkt', -⟩ := hW.alike.2.2 _ _ hkt
    obtain ⟨kc', hkc', -⟩ := hW.alike.2.2 _ _ hkc
    refine ⟨_, hW.noted hd hopen (State.rightAt_cls hl), fun t Q E d acts => ?_⟩
    rw [fd_row h1 h2 (hW.classLinks hl) hq ho hkc' hkt', hW.alike.assignable, hb]
  intro pre
  induction pre with
  | nil =>
    intro _ S hW hq
    obtain ⟨vm', hW', h⟩ := one true x hx S hW hq
    exact ⟨vm', hW', fun Q E d acts => by rw [List.nil_append, h suf Q E d acts]; simp⟩
  | cons z zs ih =>
    intro hp S hW hq
    obtain ⟨vm1, hW1, h1⟩ := one false z (hp z List.mem_cons_self) S hW hq
    obtain ⟨vm2, hW2, h2⟩ := ih (fun y hy => hp y (List.mem_cons_of_mem _ hy)) (S.setVm vm1) hW1 hq
    exact ⟨vm2, hW2, fun Q E d acts => by rw [List.cons_append, h1 (zs ++ x :: suf) Q E d acts, if_neg (by decide)]; exact h2 Q E d acts⟩
variable {p : Program} {l : Launch} {e : Env} {R : Room} {s : State} {m : MethodId} {args : Array Value} {below : List Frame} {meth : Method} {c : Code} {H : Heap} {locs : List Loc} {cells slots : Nat} {Q : State → Prop}
/-- a thrown object is taken by the row x of this method's own table, behind rows that all cover the place and name other classes -/
theorem fd_catch {own name : String} {E : String} {ce : Cell} {q : Addr} {pc : Nat} {ls : Array Slot} {rest : List Value} (hown : s.vm.findClass own = some m.cls) (pre : List ExceptionTableEntry) (x : ExceptionTableEntry) (suf : List ExceptionTableEntry) (hsplit : c.exceptionTable.toList = pre ++ x :: suf)
    (hpass : ∀ z ∈ pre, covers z pc = true ∧ z.catchType ≠ 0 ∧ ∃ nm : String, (Cond.classLink own z.catchType nm).before args s = true ∧ va_Nc E nm s) (hx : covers x pc = true) (h0 : x.catchType ≠ 0)
    (hlink : (Cond.classLink own x.catchType name).before args s = true) (hcast : (Cond.castable E name).before args s = true) (hcell : H[q]? = some ce) (hv : ce.vm = .none) (hcl : s.vm.findClass E = some ce.cls)
    (kk : W p l e R s m args below meth c H locs cells slots Q (F0 m x.handlerPc ls [.ref q])) : vx_W p l e R s m args below meth c H locs cells slots Q (F0 m pc ls rest) q := by
  intro T hT X
  have hpl : e.platform.magicAccessors = ({} : Platform).magicAccessors := by rw [X.admits.platform]
  obtain ⟨c3, c4, hc3, hc4, hasg⟩ := Cond.castable_spec hcast
  have e3 : c3 = ce.cls := Option.some.inj (hc3.symm.trans hcl)
  subst e3
  obtain ⟨c5, hc5, hcl5⟩ := Cond.classLink_spec hown hlink e.platform hpl
  have e5 : c4 = c5 := Option.some.inj (hc4.symm.trans hc5)
  subst e5
  obtain ⟨kc, hkc, -⟩ := Vm.findClass_spec hcl
  have hq : ((T.setTop (F0 m pc ls rest)).pushFrame (.throwing q)).heap[q]? = some ce := by
    rw [Stand.throwing_heap, hT]; exact hcell
  obtain ⟨vm', hW', hf⟩ := fd_seek (e := e) (s := s) (f := F0 m pc ls rest) (q := q) (ce := ce) (fun k h => by rw [hv] at h; cases h) hkc x suf ⟨hx, h0, c4, hcl5, hasg⟩ pre
    (fun z hz => by
      obtain ⟨z1, z2, nm, hl1, a8, b8, h1, h2, h3⟩ := hpass z hz
      obtain ⟨c6, hc6, hcl6⟩ := Cond.classLink_spec hown hl1 e.platform hpl
      have e8 : a8 = ce.cls := Option.some.inj (h1.symm.trans hcl)
      have e6 : b8 = c6 := Option.some.inj (h2.symm.trans hc6)
      subst e8
      subst e6
      exact ⟨z1, z2, b8, hcl6, h3⟩) ((T.setTop (F0 m pc ls rest)).pushFrame (.throwing q)) (by rw [Stand.throwing_vm]; exact X.warmed) hq
  have hfind : ∀ (Q : Handler → Pre) (E : CtlPost) (d : Bool) (acts : List Action), wp (findHandler (F0 m pc ls rest) q) Q E e d acts ((T.setTop (F0 m pc ls rest)).pushFrame (.throwing q)) ↔ Q (.found x.handlerPc) d acts (((T.setTop (F0 m pc ls rest)).pushFrame (.throwing q)).setVm vm') := by
    intro Q E d acts
    rw [W.findHandler_eq (meth := meth) (code := c) (by rw [Stand.throwing_vm]; exact X.method') X.code, hsplit]
    exact hf Q E d acts
  obtain ⟨t, a1, b1⟩ := kk (T.setVm vm') hT (X.noted hW')
  refine ⟨t, ?_, b1⟩
  have hAt : At T (F0 m pc ls rest).method c below := X.here
  obtain ⟨hgo, hw⟩ := hAt.throwing q
  refine Steps.head hgo hw ?_
  have hstep : (stepThrowing e ((T.setTop (F0 m pc ls rest)).pushFrame (.throwing q)) q (.java (F0 m pc ls rest) :: T.frames.tail)).Is ((((T.setTop (F0 m pc ls rest)).pushFrame (.throwing q)).setVm vm').setFrames (.java { F0 m pc ls rest with pc := x.handlerPc, stack := [.ref q] } :: T.frames.tail)) [] := by
    simp only [stepThrowing, searchFrame, vmDo]
    generalize hr : Sem.go _ e false [] ((T.setTop (F0 m pc ls rest)).pushFrame (.throwing q)) = res
    obtain ⟨as, rfl, ha⟩ := Sem.eq_ok_of hr (a := Handler.found x.handlerPc) (s' := ((T.setTop (F0 m pc ls rest)).pushFrame (.throwing q)).setVm vm') (acts' := []) (by simp [hfind _ _ _ _])
    exact ⟨rfl, ha⟩
  rw [stepThread_throwing (frames_entered hAt.top _), hstep.1]
  obtain ⟨g₀, hg⟩ := Option.isSome_iff_exists.mp hAt.top
  obtain ⟨r, hr⟩ := State.topJava?_eq_some.mp hg
  have hr' : (T.setVm vm').frames = .java g₀ :: r := hr
  rw [State.setTop_of_frames _ hr'] at a1
  have ex : ∀ (u : State) (F G : List Frame), ((u.setFrames F).setVm vm').setFrames G = (u.setVm vm').setFrames G := by
    intro u F G
    have h1 : (u.setFrames F).setVm vm' = (u.setVm vm').setFrames F := rfl
    rw [h1, State.setFrames_setFrames]
  rw [hr, List.tail_cons, State.pushFrame, ex, State.setTop_of_frames _ hr, ex]
  exact a1
end FDC
