def fd_KX2 (h0 : Nat) (a : Nat → Nat) (k : Nat → ClassId) : va_W := [(h0, .inr (2, [.ref (a 1), .ref (a 2), .ref (a 3), .ref (a 4), .ref (a 5), .ref (a 6), .int 0, .int 0, .int 0])), ((a 1), .inl ((k 1), 200, .inl (fun _ => 0))), ((a 2), .inl ((k 2), 200, .inl (fun _ => 0))), ((a 3), .inl ((k 3), 200, .inl (fun _ => 0))), ((a 4), .inl ((k 4), 200, .inr (.inl (fun _ => 0)))), ((a 5), .inl ((k 5), 200, .inr (.inl (fun _ => 0)))), ((a 6), .inl ((k 6), 200, .inl (fun _ => 0)))]
def fd_tX2 (k : Nat → ClassId) : List (ClassId × FieldType) := [(k 1, .int), (k 2, .int), (k 3, .int), (k 4, .long), (k 5, .long), (k 6, .boolean)]
set_option maxHeartbeats 4000000 in
set_option maxRecDepth 100000 in
theorem n_X2 (l : Launch) (D : va_G) (h0 sz : Nat) : Met l yX2_init wsX2_init ({ frames := 1, cells := 6, slots := 1200, locals := 12 }) (va_Pc [.ref h0] (fd_N0 D [(h0, .inr (2, [.null, .null, .null, .null, .null, .null, .int 0, .int 0, .int 0]))] sz)) (va_Qv (fun _ : (Nat → Nat) × (Nat → ClassId) => True) (fun u t => va_P D vwCl (fd_KX2 h0 u.1 u.2) t.heap ∧ va_K D vwCl (fd_tX2 u.2) t ∧ va_D (va_A [(h0, .inr (2, [.null, .null, .null, .null, .null, .null, .int 0, .int 0, .int 0]))] sz) (fd_KX2 h0 u.1 u.2)) (va_A [(h0, .inr (2, [.null, .null, .null, .null, .null, .null, .int 0, .int 0, .int 0]))] sz)) 6 1200 (va_A [(h0, .inr (2, [.null, .null, .null, .null, .null, .null, .int 0, .int 0, .int 0]))] sz) := by
  refine Met.ofW (cc := cX2_init) (maxL := 1) (ret := none) (by decide) rfl ?_
  intro p e s m args below meth c s₁ B hml hv
  obtain ⟨rfl, hsz, hP, hK, hD0, hN⟩ := hv
  have hx := B.exec
  have hb := B.bytes
  have hr := B.returns
  have hts := atoms_spec (ws := wsX2_init) B.pre
  have hown : s.vm.findClass RX2 = some m.cls := findClass_of_methodNamed B.named
  have hlocks := B.notSynchronized
  have hin : meth.name = "<init>" := (name_of_methodNamed B.named B.method).1
  subst hsz
  have hD := hD0.self (sz := s.heap.size)
  generalize hAe : va_A [(h0, .inr (2, [.null, .null, .null, .null, .null, .null, .int 0, .int 0, .int 0]))] s.heap.size = A at hD ⊢
  have hA : ∀ q : Nat, s.heap.size ≤ q → A q := fun q h => by rw [← hAe]; exact Or.inr h
  have hS : va_S A s.heap s.heap [] := va_S.rf
  have hP : va_P D vwCl [(h0, .inr (2, [.null, .null, .null, .null, .null, .null, .int 0, .int 0, .int 0]))] s.heap := hP
  have hl := lv_entry ([.ref h0]) (n := 1) (Nat.le_of_ble_eq_true rfl)
  rw [lg_entry_eq]
  generalize (lg_sl ([.ref h0]) ++ List.replicate (1 - (lg_sl ([.ref h0])).length) Slot.unset).toArray = ls at hl ⊢
  have hl : lv_has ls 1 [(0, .ref h0)] := hl
  have h9 : ∀ w ∈ u_ws RX2 TX2 9, w ∈ wsX2_init := fd_su [13, 14, 15, 16, 17, 18, 19, 20, 21] (by eq_refl)
  refine lv_aload_n hx hb dX2_init_0 rfl (lv_at hl 0 rfl) ?_
  refine W.objInit hx hb hown (hts (.methodLink RX2 3 objectInit) (List.mem_of_getElem? (i := 1) (by eq_refl))) (hts (.instanceMethod objectInit) (List.mem_of_getElem? (i := 2) (by eq_refl))) (hts (.code objectInit ⟨#[0xb1]⟩ 1 none) (List.mem_of_getElem? (i := 3) (by eq_refl))) rfl (by rw [hml]; exact hl.1) rfl dX2_init_1 (Nat.le_of_ble_eq_true rfl) (Nat.le_of_ble_eq_true rfl) ?_
  refine W.eq (g2 := F0 m 4 ls []) rfl ?_
  refine lv_aload_n hx hb dX2_init_4 rfl (lv_at hl 0 rfl) ?_
  refine lv_sipush (v := (200 : Int32)) hx hb dX2_init_5 (by decide) ?_
  refine va_newa (atype := .int) (N' := 200) (n := (200 : Int32)) (ty := .int) (a0 := (200, .inl (fun _ => 0))) hx hb (hts (.arrayClass .int) (List.mem_of_getElem? (i := 4) (by eq_refl))) rfl hK hP hD hS hA (fun _ => rfl) (by decide) (by decide) (by decide) (Nat.le_of_ble_eq_true rfl) (Nat.le_of_ble_eq_true rfl) dX2_init_8 (fun q1 c1 H hK hP hD hS => ?_)
  have hP : va_P D vwCl [(h0, .inr (2, [.null, .null, .null, .null, .null, .null, .int 0, .int 0, .int 0])), (q1, .inl (c1, 200, .inl (fun _ => 0)))] H := hP
  have hD : va_D A [(h0, .inr (2, [.null, .null, .null, .null, .null, .null, .int 0, .int 0, .int 0])), (q1, .inl (c1, 200, .inl (fun _ => 0)))] := hD
  have hK : va_K D vwCl [(c1, .int)] s := hK
  refine va_putF (ci := 2) (v := .ref q1) (ty := .array .int) (C := RX2) (T := TX2) (N := 9) hx hb hts h9 tyX2 tyX2_ok nmX2 hown hK hP hD hS 0 rfl rfl 0 (by decide) (hts (.fieldLink RX2 9 "FailDiagnose$Circuit" "kinds" "[I") (List.mem_of_getElem? (i := 5) (by eq_refl))) (fun _ h9 => h9) rfl hin rfl (by decide +kernel) rfl rfl (Nat.le_of_ble_eq_true rfl) dX2_init_10 (fun H locs hP hD hS => ?_)
  have hP : va_P D vwCl [(h0, .inr (2, [.ref q1, .null, .null, .null, .null, .null, .int 0, .int 0, .int 0])), (q1, .inl (c1, 200, .inl (fun _ => 0)))] H := hP
  have hD : va_D A [(h0, .inr (2, [.ref q1, .null, .null, .null, .null, .null, .int 0, .int 0, .int 0])), (q1, .inl (c1, 200, .inl (fun _ => 0)))] := hD
  refine lv_aload_n hx hb dX2_init_13 rfl (lv_at hl 0 rfl) ?_
  refine lv_sipush (v := (200 : Int32)) hx hb dX2_init_14 (by decide) ?_
  refine va_newa (atype := .int) (N' := 200) (n := (200 : Int32)) (ty := .int) (a0 := (200, .inl (fun _ => 0))) hx hb (hts (.arrayClass .int) (List.mem_of_getElem? (i := 4) (by eq_refl))) rfl hK hP hD hS hA (fun _ => rfl) (by decide) (by decide) (by decide) (Nat.le_of_ble_eq_true rfl) (Nat.le_of_ble_eq_true rfl) dX2_init_17 (fun q2 c2 H hK hP hD hS => ?_)
  have hP : va_P D vwCl [(h0, .inr (2, [.ref q1, .null, .null, .null, .null, .null, .int 0, .int 0, .int 0])), (q1, .inl (c1, 200, .inl (fun _ => 0))), (q2, .inl (c2, 200, .inl (fun _ => 0)))] H := hP
  have hD : va_D A [(h0, .inr (2, [.ref q1, .null, .null, .null, .null, .null, .int 0, .int 0, .int 0])), (q1, .inl (c1, 200, .inl (fun _ => 0))), (q2, .inl (c2, 200, .inl (fun _ => 0)))] := hD
  have hK : va_K D vwCl [(c1, .int), (c2, .int)] s := hK
  refine va_putF (ci := 2) (v := .ref q2) (ty := .array .int) (C := RX2) (T := TX2) (N := 9) hx hb hts h9 tyX2 tyX2_ok nmX2 hown hK hP hD hS 0 rfl rfl 1 (by decide) (hts (.fieldLink RX2 15 "FailDiagnose$Circuit" "firsts" "[I") (List.mem_of_getElem? (i := 6) (by eq_refl))) (fun _ h9 => h9) rfl hin rfl (by decide +kernel) rfl rfl (Nat.le_of_ble_eq_true rfl) dX2_init_19 (fun H locs hP hD hS => ?_)
  have hP : va_P D vwCl [(h0, .inr (2, [.ref q1, .ref q2, .null, .null, .null, .null, .int 0, .int 0, .int 0])), (q1, .inl (c1, 200, .inl (fun _ => 0))), (q2, .inl (c2, 200, .inl (fun _ => 0)))] H := hP
  have hD : va_D A [(h0, .inr (2, [.ref q1, .ref q2, .null, .null, .null, .null, .int 0, .int 0, .int 0])), (q1, .inl (c1, 200, .inl (fun _ => 0))), (q2, .inl (c2, 200, .inl (fun _ => 0)))] := hD
  refine lv_aload_n hx hb dX2_init_22 rfl (lv_at hl 0 rfl) ?_
  refine lv_sipush (v := (200 : Int32)) hx hb dX2_init_23 (by decide) ?_
  refine va_newa (atype := .int) (N' := 200) (n := (200 : Int32)) (ty := .int) (a0 := (200, .inl (fun _ => 0))) hx hb (hts (.arrayClass .int) (List.mem_of_getElem? (i := 4) (by eq_refl))) rfl hK hP hD hS hA (fun _ => rfl) (by decide) (by decide) (by decide) (Nat.le_of_ble_eq_true rfl) (Nat.le_of_ble_eq_true rfl) dX2_init_26 (fun q3 c3 H hK hP hD hS => ?_)
  have hP : va_P D vwCl [(h0, .inr (2, [.ref q1, .ref q2, .null, .null, .null, .null, .int 0, .int 0, .int 0])), (q1, .inl (c1, 200, .inl (fun _ => 0))), (q2, .inl (c2, 200, .inl (fun _ => 0))), (q3, .inl (c3, 200, .inl (fun _ => 0)))] H := hP
  have hD : va_D A [(h0, .inr (2, [.ref q1, .ref q2, .null, .null, .null, .null, .int 0, .int 0, .int 0])), (q1, .inl (c1, 200, .inl (fun _ => 0))), (q2, .inl (c2, 200, .inl (fun _ => 0))), (q3, .inl (c3, 200, .inl (fun _ => 0)))] := hD
  have hK : va_K D vwCl [(c1, .int), (c2, .int), (c3, .int)] s := hK
  refine va_putF (ci := 2) (v := .ref q3) (ty := .array .int) (C := RX2) (T := TX2) (N := 9) hx hb hts h9 tyX2 tyX2_ok nmX2 hown hK hP hD hS 0 rfl rfl 2 (by decide) (hts (.fieldLink RX2 18 "FailDiagnose$Circuit" "seconds" "[I") (List.mem_of_getElem? (i := 7) (by eq_refl))) (fun _ h9 => h9) rfl hin rfl (by decide +kernel) rfl rfl (Nat.le_of_ble_eq_true rfl) dX2_init_28 (fun H locs hP hD hS => ?_)
  have hP : va_P D vwCl [(h0, .inr (2, [.ref q1, .ref q2, .ref q3, .null, .null, .null, .int 0, .int 0, .int 0])), (q1, .inl (c1, 200, .inl (fun _ => 0))), (q2, .inl (c2, 200, .inl (fun _ => 0))), (q3, .inl (c3, 200, .inl (fun _ => 0)))] H := hP
  have hD : va_D A [(h0, .inr (2, [.ref q1, .ref q2, .ref q3, .null, .null, .null, .int 0, .int 0, .int 0])), (q1, .inl (c1, 200, .inl (fun _ => 0))), (q2, .inl (c2, 200, .inl (fun _ => 0))), (q3, .inl (c3, 200, .inl (fun _ => 0)))] := hD
  refine lv_aload_n hx hb dX2_init_31 rfl (lv_at hl 0 rfl) ?_
  refine lv_sipush (v := (200 : Int32)) hx hb dX2_init_32 (by decide) ?_
  refine va_newa (atype := .long) (N' := 200) (n := (200 : Int32)) (ty := .long) (a0 := (200, .inr (.inl (fun _ => 0)))) hx hb (hts (.arrayClass .long) (List.mem_of_getElem? (i := 8) (by eq_refl))) rfl hK hP hD hS hA (fun _ => rfl) (by decide) (by decide) (by decide) (Nat.le_of_ble_eq_true rfl) (Nat.le_of_ble_eq_true rfl) dX2_init_35 (fun q4 c4 H hK hP hD hS => ?_)
  have hP : va_P D vwCl [(h0, .inr (2, [.ref q1, .ref q2, .ref q3, .null, .null, .null, .int 0, .int 0, .int 0])), (q1, .inl (c1, 200, .inl (fun _ => 0))), (q2, .inl (c2, 200, .inl (fun _ => 0))), (q3, .inl (c3, 200, .inl (fun _ => 0))), (q4, .inl (c4, 200, .inr (.inl (fun _ => 0))))] H := hP
  have hD : va_D A [(h0, .inr (2, [.ref q1, .ref q2, .ref q3, .null, .null, .null, .int 0, .int 0, .int 0])), (q1, .inl (c1, 200, .inl (fun _ => 0))), (q2, .inl (c2, 200, .inl (fun _ => 0))), (q3, .inl (c3, 200, .inl (fun _ => 0))), (q4, .inl (c4, 200, .inr (.inl (fun _ => 0))))] := hD
  have hK : va_K D vwCl [(c1, .int), (c2, .int), (c3, .int), (c4, .long)] s := hK
  refine va_putF (ci := 2) (v := .ref q4) (ty := .array .long) (C := RX2) (T := TX2) (N := 9) hx hb hts h9 tyX2 tyX2_ok nmX2 hown hK hP hD hS 0 rfl rfl 3 (by decide) (hts (.fieldLink RX2 21 "FailDiagnose$Circuit" "goodRows" "[J") (List.mem_of_getElem? (i := 9) (by eq_refl))) (fun _ h9 => h9) rfl hin rfl (by decide +kernel) rfl rfl (Nat.le_of_ble_eq_true rfl) dX2_init_37 (fun H locs hP hD hS => ?_)
  have hP : va_P D vwCl [(h0, .inr (2, [.ref q1, .ref q2, .ref q3, .ref q4, .null, .null, .int 0, .int 0, .int 0])), (q1, .inl (c1, 200, .inl (fun _ => 0))), (q2, .inl (c2, 200, .inl (fun _ => 0))), (q3, .inl (c3, 200, .inl (fun _ => 0))), (q4, .inl (c4, 200, .inr (.inl (fun _ => 0))))] H := hP
  have hD : va_D A [(h0, .inr (2, [.ref q1, .ref q2, .ref q3, .ref q4, .null, .null, .int 0, .int 0, .int 0])), (q1, .inl (c1, 200, .inl (fun _ => 0))), (q2, .inl (c2, 200, .inl (fun _ => 0))), (q3, .inl (c3, 200, .inl (fun _ => 0))), (q4, .inl (c4, 200, .inr (.inl (fun _ => 0))))] := hD
  refine lv_aload_n hx hb dX2_init_40 rfl (lv_at hl 0 rfl) ?_
  refine lv_sipush (v := (200 : Int32)) hx hb dX2_init_41 (by decide) ?_
  refine va_newa (atype := .long) (N' := 200) (n := (200 : Int32)) (ty := .long) (a0 := (200, .inr (.inl (fun _ => 0)))) hx hb (hts (.arrayClass .long) (List.mem_of_getElem? (i := 8) (by eq_refl))) rfl hK hP hD hS hA (fun _ => rfl) (by decide) (by decide) (by decide) (Nat.le_of_ble_eq_true rfl) (Nat.le_of_ble_eq_true rfl) dX2_init_44 (fun q5 c5 H hK hP hD hS => ?_)
  have hP : va_P D vwCl [(h0, .inr (2, [.ref q1, .ref q2, .ref q3, .ref q4, .null, .null, .int 0, .int 0, .int 0])), (q1, .inl (c1, 200, .inl (fun _ => 0))), (q2, .inl (c2, 200, .inl (fun _ => 0))), (q3, .inl (c3, 200, .inl (fun _ => 0))), (q4, .inl (c4, 200, .inr (.inl (fun _ => 0)))), (q5, .inl (c5, 200, .inr (.inl (fun _ => 0))))] H := hP
  have hD : va_D A [(h0, .inr (2, [.ref q1, .ref q2, .ref q3, .ref q4, .null, .null, .int 0, .int 0, .int 0])), (q1, .inl (c1, 200, .inl (fun _ => 0))), (q2, .inl (c2, 200, .inl (fun _ => 0))), (q3, .inl (c3, 200, .inl (fun _ => 0))), (q4, .inl (c4, 200, .inr (.inl (fun _ => 0)))), (q5, .inl (c5, 200, .inr (.inl (fun _ => 0))))] := hD
  have hK : va_K D vwCl [(c1, .int), (c2, .int), (c3, .int), (c4, .long), (c5, .long)] s := hK
  refine va_putF (ci := 2) (v := .ref q5) (ty := .array .long) (C := RX2) (T := TX2) (N := 9) hx hb hts h9 tyX2 tyX2_ok nmX2 hown hK hP hD hS 0 rfl rfl 4 (by decide) (hts (.fieldLink RX2 25 "FailDiagnose$Circuit" "faultyRows" "[J") (List.mem_of_getElem? (i := 10) (by eq_refl))) (fun _ h9 => h9) rfl hin rfl (by decide +kernel) rfl rfl (Nat.le_of_ble_eq_true rfl) dX2_init_46 (fun H locs hP hD hS => ?_)
  have hP : va_P D vwCl [(h0, .inr (2, [.ref q1, .ref q2, .ref q3, .ref q4, .ref q5, .null, .int 0, .int 0, .int 0])), (q1, .inl (c1, 200, .inl (fun _ => 0))), (q2, .inl (c2, 200, .inl (fun _ => 0))), (q3, .inl (c3, 200, .inl (fun _ => 0))), (q4, .inl (c4, 200, .inr (.inl (fun _ => 0)))), (q5, .inl (c5, 200, .inr (.inl (fun _ => 0))))] H := hP
  have hD : va_D A [(h0, .inr (2, [.ref q1, .ref q2, .ref q3, .ref q4, .ref q5, .null, .int 0, .int 0, .int 0])), (q1, .inl (c1, 200, .inl (fun _ => 0))), (q2, .inl (c2, 200, .inl (fun _ => 0))), (q3, .inl (c3, 200, .inl (fun _ => 0))), (q4, .inl (c4, 200, .inr (.inl (fun _ => 0)))), (q5, .inl (c5, 200, .inr (.inl (fun _ => 0))))] := hD
  refine lv_aload_n hx hb dX2_init_49 rfl (lv_at hl 0 rfl) ?_
  refine lv_sipush (v := (200 : Int32)) hx hb dX2_init_50 (by decide) ?_
  refine va_newa (atype := .boolean) (N' := 200) (n := (200 : Int32)) (ty := .boolean) (a0 := (200, .inl (fun _ => 0))) hx hb (hts (.arrayClass .boolean) (List.mem_of_getElem? (i := 11) (by eq_refl))) rfl hK hP hD hS hA (fun _ => rfl) (by decide) (by decide) (by decide) (Nat.le_of_ble_eq_true rfl) (Nat.le_of_ble_eq_true rfl) dX2_init_53 (fun q6 c6 H hK hP hD hS => ?_)
  have hP : va_P D vwCl [(h0, .inr (2, [.ref q1, .ref q2, .ref q3, .ref q4, .ref q5, .null, .int 0, .int 0, .int 0])), (q1, .inl (c1, 200, .inl (fun _ => 0))), (q2, .inl (c2, 200, .inl (fun _ => 0))), (q3, .inl (c3, 200, .inl (fun _ => 0))), (q4, .inl (c4, 200, .inr (.inl (fun _ => 0)))), (q5, .inl (c5, 200, .inr (.inl (fun _ => 0)))), (q6, .inl (c6, 200, .inl (fun _ => 0)))] H := hP
  have hD : va_D A [(h0, .inr (2, [.ref q1, .ref q2, .ref q3, .ref q4, .ref q5, .null, .int 0, .int 0, .int 0])), (q1, .inl (c1, 200, .inl (fun _ => 0))), (q2, .inl (c2, 200, .inl (fun _ => 0))), (q3, .inl (c3, 200, .inl (fun _ => 0))), (q4, .inl (c4, 200, .inr (.inl (fun _ => 0)))), (q5, .inl (c5, 200, .inr (.inl (fun _ => 0)))), (q6, .inl (c6, 200, .inl (fun _ => 0)))] := hD
  have hK : va_K D vwCl [(c1, .int), (c2, .int), (c3, .int), (c4, .long), (c5, .long), (c6, .boolean)] s := hK
  refine va_putF (ci := 2) (v := .ref q6) (ty := .array .boolean) (C := RX2) (T := TX2) (N := 9) hx hb hts h9 tyX2 tyX2_ok nmX2 hown hK hP hD hS 0 rfl rfl 5 (by decide) (hts (.fieldLink RX2 28 "FailDiagnose$Circuit" "reached" "[Z") (List.mem_of_getElem? (i := 12) (by eq_refl))) (fun _ h9 => h9) rfl hin rfl (by decide +kernel) rfl rfl (Nat.le_of_ble_eq_true rfl) dX2_init_55 (fun H locs hP hD hS => ?_)
  have hP : va_P D vwCl [(h0, .inr (2, [.ref q1, .ref q2, .ref q3, .ref q4, .ref q5, .ref q6, .int 0, .int 0, .int 0])), (q1, .inl (c1, 200, .inl (fun _ => 0))), (q2, .inl (c2, 200, .inl (fun _ => 0))), (q3, .inl (c3, 200, .inl (fun _ => 0))), (q4, .inl (c4, 200, .inr (.inl (fun _ => 0)))), (q5, .inl (c5, 200, .inr (.inl (fun _ => 0)))), (q6, .inl (c6, 200, .inl (fun _ => 0)))] H := hP
  have hD : va_D A [(h0, .inr (2, [.ref q1, .ref q2, .ref q3, .ref q4, .ref q5, .ref q6, .int 0, .int 0, .int 0])), (q1, .inl (c1, 200, .inl (fun _ => 0))), (q2, .inl (c2, 200, .inl (fun _ => 0))), (q3, .inl (c3, 200, .inl (fun _ => 0))), (q4, .inl (c4, 200, .inr (.inl (fun _ => 0)))), (q5, .inl (c5, 200, .inr (.inl (fun _ => 0)))), (q6, .inl (c6, 200, .inl (fun _ => 0)))] := hD
  have hP9 : va_P D vwCl (fd_KX2 h0 (fd_nth [0, q1, q2, q3, q4, q5, q6]) (fd_nth [0, c1, c2, c3, c4, c5, c6])) H := hP
  have hD9 : va_D A (fd_KX2 h0 (fd_nth [0, q1, q2, q3, q4, q5, q6]) (fd_nth [0, c1, c2, c3, c4, c5, c6])) := hD
  have hK9 : va_K D vwCl (fd_tX2 (fd_nth [0, c1, c2, c3, c4, c5, c6])) s := hK
  refine W.widen (k := 6) (n := 1200) (Nat.le_of_ble_eq_true rfl) (Nat.le_of_ble_eq_true rfl) ?_
  exact W.vret hx hb hr (fun t ht hW => ⟨⟨((fd_nth [0, q1, q2, q3, q4, q5, q6]), (fd_nth [0, c1, c2, c3, c4, c5, c6])), rfl, trivial, by rw [ht]; exact hP9, va_K.moved hW.alike hK9, hD9⟩, hS.F ht⟩) hS.2.2 dX2_init_58
def fd_KX5 (h0 : Nat) (a : Nat → Nat) (k : Nat → ClassId) : va_W := [(h0, .inr (5, [.ref (a 1), .ref (a 2), .int 0])), ((a 1), .inl ((k 1), 32, .inl (fun _ => 0))), ((a 2), .inl ((k 2), 32, .inr (.inl (fun _ => 0))))]
def fd_tX5 (k : Nat → ClassId) : List (ClassId × FieldType) := [(k 1, .int), (k 2, .long)]
set_option maxHeartbeats 4000000 in
set_option maxRecDepth 100000 in
theorem n_X5 (l : Launch) (D : va_G) (h0 sz : Nat) : Met l yX5_init wsX5_init ({ frames := 1, cells := 2, slots := 64, locals := 12 }) (va_Pc [.ref h0] (fd_N0 D [(h0, .inr (5, [.null, .null, .int 0]))] sz)) (va_Qv (fun _ : (Nat → Nat) × (Nat → ClassId) => True) (fun u t => va_P D vwCl (fd_KX5 h0 u.1 u.2) t.heap ∧ va_K D vwCl (fd_tX5 u.2) t ∧ va_D (va_A [(h0, .inr (5, [.null, .null, .int 0]))] sz) (fd_KX5 h0 u.1 u.2)) (va_A [(h0, .inr (5, [.null, .null, .int 0]))] sz)) 2 64 (va_A [(h0, .inr (5, [.null, .null, .int 0]))] sz) := by
  refine Met.ofW (cc := cX5_init) (maxL := 1) (ret := none) (by decide) rfl ?_
  intro p e s m args below meth c s₁ B hml hv
  obtain ⟨rfl, hsz, hP, hK, hD0, hN⟩ := hv
  have hx := B.exec
  have hb := B.bytes
  have hr := B.returns
  have hts := atoms_spec (ws := wsX5_init) B.pre
  have hown : s.vm.findClass RX5 = some m.cls := findClass_of_methodNamed B.named
  have hlocks := B.notSynchronized
  have hin : meth.name = "<init>" := (name_of_methodNamed B.named B.method).1
  subst hsz
  have hD := hD0.self (sz := s.heap.size)
  generalize hAe : va_A [(h0, .inr (5, [.null, .null, .int 0]))] s.heap.size = A at hD ⊢
  have hA : ∀ q : Nat, s.heap.size ≤ q → A q := fun q h => by rw [← hAe]; exact Or.inr h
  have hS : va_S A s.heap s.heap [] := va_S.rf
  have hP : va_P D vwCl [(h0, .inr (5, [.null, .null, .int 0]))] s.heap := hP
  have hl := lv_entry ([.ref h0]) (n := 1) (Nat.le_of_ble_eq_true rfl)
  rw [lg_entry_eq]
  generalize (lg_sl ([.ref h0]) ++ List.replicate (1 - (lg_sl ([.ref h0])).length) Slot.unset).toArray = ls at hl ⊢
  have hl : lv_has ls 1 [(0, .ref h0)] := hl
  have h9 : ∀ w ∈ u_ws RX5 TX5 3, w ∈ wsX5_init := fd_su [8, 9, 10] (by eq_refl)
  refine lv_aload_n hx hb dX5_init_0 rfl (lv_at hl 0 rfl) ?_
  refine W.objInit hx hb hown (hts (.methodLink RX5 3 objectInit) (List.mem_of_getElem? (i := 1) (by eq_refl))) (hts (.instanceMethod objectInit) (List.mem_of_getElem? (i := 2) (by eq_refl))) (hts (.code objectInit ⟨#[0xb1]⟩ 1 none) (List.mem_of_getElem? (i := 3) (by eq_refl))) rfl (by rw [hml]; exact hl.1) rfl dX5_init_1 (Nat.le_of_ble_eq_true rfl) (Nat.le_of_ble_eq_true rfl) ?_
  refine W.eq (g2 := F0 m 4 ls []) rfl ?_
  refine lv_aload_n hx hb dX5_init_4 rfl (lv_at hl 0 rfl) ?_
  refine lv_bipush (v := (32 : Int32)) hx hb dX5_init_5 (by decide) ?_
  refine va_newa (atype := .int) (N' := 32) (n := (32 : Int32)) (ty := .int) (a0 := (32, .inl (fun _ => 0))) hx hb (hts (.arrayClass .int) (List.mem_of_getElem? (i := 4) (by eq_refl))) rfl hK hP hD hS hA (fun _ => rfl) (by decide) (by decide) (by decide) (Nat.le_of_ble_eq_true rfl) (Nat.le_of_ble_eq_true rfl) dX5_init_7 (fun q1 c1 H hK hP hD hS => ?_)
  have hP : va_P D vwCl [(h0, .inr (5, [.null, .null, .int 0])), (q1, .inl (c1, 32, .inl (fun _ => 0)))] H := hP
  have hD : va_D A [(h0, .inr (5, [.null, .null, .int 0])), (q1, .inl (c1, 32, .inl (fun _ => 0)))] := hD
  have hK : va_K D vwCl [(c1, .int)] s := hK
  refine va_putF (ci := 5) (v := .ref q1) (ty := .array .int) (C := RX5) (T := TX5) (N := 3) hx hb hts h9 tyX5 tyX5_ok nmX5 hown hK hP hD hS 0 rfl rfl 0 (by decide) (hts (.fieldLink RX5 9 "FailDiagnose$Outputs" "nets" "[I") (List.mem_of_getElem? (i := 5) (by eq_refl))) (fun _ h9 => h9) rfl hin rfl (by decide +kernel) rfl rfl (Nat.le_of_ble_eq_true rfl) dX5_init_9 (fun H locs hP hD hS => ?_)
  have hP : va_P D vwCl [(h0, .inr (5, [.ref q1, .null, .int 0])), (q1, .inl (c1, 32, .inl (fun _ => 0)))] H := hP
  have hD : va_D A [(h0, .inr (5, [.ref q1, .null, .int 0])), (q1, .inl (c1, 32, .inl (fun _ => 0)))] := hD
  refine lv_aload_n hx hb dX5_init_12 rfl (lv_at hl 0 rfl) ?_
  refine lv_bipush (v := (32 : Int32)) hx hb dX5_init_13 (by decide) ?_
  refine va_newa (atype := .long) (N' := 32) (n := (32 : Int32)) (ty := .long) (a0 := (32, .inr (.inl (fun _ => 0)))) hx hb (hts (.arrayClass .long) (List.mem_of_getElem? (i := 6) (by eq_refl))) rfl hK hP hD hS hA (fun _ => rfl) (by decide) (by decide) (by decide) (Nat.le_of_ble_eq_true rfl) (Nat.le_of_ble_eq_true rfl) dX5_init_15 (fun q2 c2 H hK hP hD hS => ?_)
  have hP : va_P D vwCl [(h0, .inr (5, [.ref q1, .null, .int 0])), (q1, .inl (c1, 32, .inl (fun _ => 0))), (q2, .inl (c2, 32, .inr (.inl (fun _ => 0))))] H := hP
  have hD : va_D A [(h0, .inr (5, [.ref q1, .null, .int 0])), (q1, .inl (c1, 32, .inl (fun _ => 0))), (q2, .inl (c2, 32, .inr (.inl (fun _ => 0))))] := hD
  have hK : va_K D vwCl [(c1, .int), (c2, .long)] s := hK
  refine va_putF (ci := 5) (v := .ref q2) (ty := .array .long) (C := RX5) (T := TX5) (N := 3) hx hb hts h9 tyX5 tyX5_ok nmX5 hown hK hP hD hS 0 rfl rfl 1 (by decide) (hts (.fieldLink RX5 15 "FailDiagnose$Outputs" "fails" "[J") (List.mem_of_getElem? (i := 7) (by eq_refl))) (fun _ h9 => h9) rfl hin rfl (by decide +kernel) rfl rfl (Nat.le_of_ble_eq_true rfl) dX5_init_17 (fun H locs hP hD hS => ?_)
  have hP : va_P D vwCl [(h0, .inr (5, [.ref q1, .ref q2, .int 0])), (q1, .inl (c1, 32, .inl (fun _ => 0))), (q2, .inl (c2, 32, .inr (.inl (fun _ => 0))))] H := hP
  have hD : va_D A [(h0, .inr (5, [.ref q1, .ref q2, .int 0])), (q1, .inl (c1, 32, .inl (fun _ => 0))), (q2, .inl (c2, 32, .inr (.inl (fun _ => 0))))] := hD
  have hP9 : va_P D vwCl (fd_KX5 h0 (fd_nth [0, q1, q2]) (fd_nth [0, c1, c2])) H := hP
  have hD9 : va_D A (fd_KX5 h0 (fd_nth [0, q1, q2]) (fd_nth [0, c1, c2])) := hD
  have hK9 : va_K D vwCl (fd_tX5 (fd_nth [0, c1, c2])) s := hK
  refine W.widen (k := 2) (n := 64) (Nat.le_of_ble_eq_true rfl) (Nat.le_of_ble_eq_true rfl) ?_
  exact W.vret hx hb hr (fun t ht hW => ⟨⟨((fd_nth [0, q1, q2]), (fd_nth [0, c1, c2])), rfl, trivial, by rw [ht]; exact hP9, va_K.moved hW.alike hK9, hD9⟩, hS.F ht⟩) hS.2.2 dX5_init_20
def fd_KX4 (h0 : Nat) (a : Nat → Nat) (k : Nat → ClassId) : va_W := [(h0, .inr (4, [.ref (a 1), .ref (a 2), .int 0])), ((a 1), .inl ((k 1), 40, .inl (fun _ => 0))), ((a 2), .inl ((k 2), 40, .inl (fun _ => 0)))]
def fd_tX4 (k : Nat → ClassId) : List (ClassId × FieldType) := [(k 1, .int), (k 2, .int)]
set_option maxHeartbeats 4000000 in
set_option maxRecDepth 100000 in
theorem n_X4 (l : Launch) (D : va_G) (h0 sz : Nat) : Met l yX4_init wsX4_init ({ frames := 1, cells := 2, slots := 80, locals := 12 }) (va_Pc [.ref h0] (fd_N0 D [(h0, .inr (4, [.null, .null, .int 0]))] sz)) (va_Qv (fun _ : (Nat → Nat) × (Nat → ClassId) => True) (fun u t => va_P D vwCl (fd_KX4 h0 u.1 u.2) t.heap ∧ va_K D vwCl (fd_tX4 u.2) t ∧ va_D (va_A [(h0, .inr (4, [.null, .null, .int 0]))] sz) (fd_KX4 h0 u.1 u.2)) (va_A [(h0, .inr (4, [.null, .null, .int 0]))] sz)) 2 80 (va_A [(h0, .inr (4, [.null, .null, .int 0]))] sz) := by
  refine Met.ofW (cc := cX4_init) (maxL := 1) (ret := none) (by decide) rfl ?_
  intro p e s m args below meth c s₁ B hml hv
  obtain ⟨rfl, hsz, hP, hK, hD0, hN⟩ := hv
  have hx := B.exec
  have hb := B.bytes
  have hr := B.returns
  have hts := atoms_spec (ws := wsX4_init) B.pre
  have hown : s.vm.findClass RX4 = some m.cls := findClass_of_methodNamed B.named
  have hlocks := B.notSynchronized
  have hin : meth.name = "<init>" := (name_of_methodNamed B.named B.method).1
  subst hsz
  have hD := hD0.self (sz := s.heap.size)
  generalize hAe : va_A [(h0, .inr (4, [.null, .null, .int 0]))] s.heap.size = A at hD ⊢
  have hA : ∀ q : Nat, s.heap.size ≤ q → A q := fun q h => by rw [← hAe]; exact Or.inr h
  have hS : va_S A s.heap s.heap [] := va_S.rf
  have hP : va_P D vwCl [(h0, .inr (4, [.null, .null, .int 0]))] s.heap := hP
  have hl := lv_entry ([.ref h0]) (n := 1) (Nat.le_of_ble_eq_true rfl)
  rw [lg_entry_eq]
  generalize (lg_sl ([.ref h0]) ++ List.replicate (1 - (lg_sl ([.ref h0])).length) Slot.unset).toArray = ls at hl ⊢
  have hl : lv_has ls 1 [(0, .ref h0)] := hl
  have h9 : ∀ w ∈ u_ws RX4 TX4 3, w ∈ wsX4_init := fd_su [7, 8, 9] (by eq_refl)
  refine lv_aload_n hx hb dX4_init_0 rfl (lv_at hl 0 rfl) ?_
  refine W.objInit hx hb hown (hts (.methodLink RX4 3 objectInit) (List.mem_of_getElem? (i := 1) (by eq_refl))) (hts (.instanceMethod objectInit) (List.mem_of_getElem? (i := 2) (by eq_refl))) (hts (.code objectInit ⟨#[0xb1]⟩ 1 none) (List.mem_of_getElem? (i := 3) (by eq_refl))) rfl (by rw [hml]; exact hl.1) rfl dX4_init_1 (Nat.le_of_ble_eq_true rfl) (Nat.le_of_ble_eq_true rfl) ?_
  refine W.eq (g2 := F0 m 4 ls []) rfl ?_
  refine lv_aload_n hx hb dX4_init_4 rfl (lv_at hl 0 rfl) ?_
  refine lv_bipush (v := (40 : Int32)) hx hb dX4_init_5 (by decide) ?_
  refine va_newa (atype := .int) (N' := 40) (n := (40 : Int32)) (ty := .int) (a0 := (40, .inl (fun _ => 0))) hx hb (hts (.arrayClass .int) (List.mem_of_getElem? (i := 4) (by eq_refl))) rfl hK hP hD hS hA (fun _ => rfl) (by decide) (by decide) (by decide) (Nat.le_of_ble_eq_true rfl) (Nat.le_of_ble_eq_true rfl) dX4_init_7 (fun q1 c1 H hK hP hD hS => ?_)
  have hP : va_P D vwCl [(h0, .inr (4, [.null, .null, .int 0])), (q1, .inl (c1, 40, .inl (fun _ => 0)))] H := hP
  have hD : va_D A [(h0, .inr (4, [.null, .null, .int 0])), (q1, .inl (c1, 40, .inl (fun _ => 0)))] := hD
  have hK : va_K D vwCl [(c1, .int)] s := hK
  refine va_putF (ci := 4) (v := .ref q1) (ty := .array .int) (C := RX4) (T := TX4) (N := 3) hx hb hts h9 tyX4 tyX4_ok nmX4 hown hK hP hD hS 0 rfl rfl 0 (by decide) (hts (.fieldLink RX4 9 "FailDiagnose$NearPairs" "firsts" "[I") (List.mem_of_getElem? (i := 5) (by eq_refl))) (fun _ h9 => h9) rfl hin rfl (by decide +kernel) rfl rfl (Nat.le_of_ble_eq_true rfl) dX4_init_9 (fun H locs hP hD hS => ?_)
  have hP : va_P D vwCl [(h0, .inr (4, [.ref q1, .null, .int 0])), (q1, .inl (c1, 40, .inl (fun _ => 0)))] H := hP
  have hD : va_D A [(h0, .inr (4, [.ref q1, .null, .int 0])), (q1, .inl (c1, 40, .inl (fun _ => 0)))] := hD
  refine lv_aload_n hx hb dX4_init_12 rfl (lv_at hl 0 rfl) ?_
  refine lv_bipush (v := (40 : Int32)) hx hb dX4_init_13 (by decide) ?_
  refine va_newa (atype := .int) (N' := 40) (n := (40 : Int32)) (ty := .int) (a0 := (40, .inl (fun _ => 0))) hx hb (hts (.arrayClass .int) (List.mem_of_getElem? (i := 4) (by eq_refl))) rfl hK hP hD hS hA (fun _ => rfl) (by decide) (by decide) (by decide) (Nat.le_of_ble_eq_true rfl) (Nat.le_of_ble_eq_true rfl) dX4_init_15 (fun q2 c2 H hK hP hD hS => ?_)
  have hP : va_P D vwCl [(h0, .inr (4, [.ref q1, .null, .int 0])), (q1, .inl (c1, 40, .inl (fun _ => 0))), (q2, .inl (c2, 40, .inl (fun _ => 0)))] H := hP
  have hD : va_D A [(h0, .inr (4, [.ref q1, .null, .int 0])), (q1, .inl (c1, 40, .inl (fun _ => 0))), (q2, .inl (c2, 40, .inl (fun _ => 0)))] := hD
  have hK : va_K D vwCl [(c1, .int), (c2, .int)] s := hK
  refine va_putF (ci := 4) (v := .ref q2) (ty := .array .int) (C := RX4) (T := TX4) (N := 3) hx hb hts h9 tyX4 tyX4_ok nmX4 hown hK hP hD hS 0 rfl rfl 1 (by decide) (hts (.fieldLink RX4 15 "FailDiagnose$NearPairs" "seconds" "[I") (List.mem_of_getElem? (i := 6) (by eq_refl))) (fun _ h9 => h9) rfl hin rfl (by decide +kernel) rfl rfl (Nat.le_of_ble_eq_true rfl) dX4_init_17 (fun H locs hP hD hS => ?_)
  have hP : va_P D vwCl [(h0, .inr (4, [.ref q1, .ref q2, .int 0])), (q1, .inl (c1, 40, .inl (fun _ => 0))), (q2, .inl (c2, 40, .inl (fun _ => 0)))] H := hP
  have hD : va_D A [(h0, .inr (4, [.ref q1, .ref q2, .int 0])), (q1, .inl (c1, 40, .inl (fun _ => 0))), (q2, .inl (c2, 40, .inl (fun _ => 0)))] := hD
  have hP9 : va_P D vwCl (fd_KX4 h0 (fd_nth [0, q1, q2]) (fd_nth [0, c1, c2])) H := hP
  have hD9 : va_D A (fd_KX4 h0 (fd_nth [0, q1, q2]) (fd_nth [0, c1, c2])) := hD
  have hK9 : va_K D vwCl (fd_tX4 (fd_nth [0, c1, c2])) s := hK
  refine W.widen (k := 2) (n := 80) (Nat.le_of_ble_eq_true rfl) (Nat.le_of_ble_eq_true rfl) ?_
  exact W.vret hx hb hr (fun t ht hW => ⟨⟨((fd_nth [0, q1, q2]), (fd_nth [0, c1, c2])), rfl, trivial, by rw [ht]; exact hP9, va_K.moved hW.alike hK9, hD9⟩, hS.F ht⟩) hS.2.2 dX4_init_20
def fd_KX7 (h0 : Nat) (a : Nat → Nat) (k : Nat → ClassId) : va_W := [(h0, .inr (7, [.ref (a 1), .int 0])), ((a 1), .inl ((k 1), 200, .inl (fun _ => 0)))]
def fd_tX7 (k : Nat → ClassId) : List (ClassId × FieldType) := [(k 1, .int)]
set_option maxHeartbeats 4000000 in
set_option maxRecDepth 100000 in
theorem n_X7 (l : Launch) (D : va_G) (h0 sz : Nat) : Met l yX7_init wsX7_init ({ frames := 1, cells := 1, slots := 200, locals := 12 }) (va_Pc [.ref h0] (fd_N0 D [(h0, .inr (7, [.null, .int 0]))] sz)) (va_Qv (fun _ : (Nat → Nat) × (Nat → ClassId) => True) (fun u t => va_P D vwCl (fd_KX7 h0 u.1 u.2) t.heap ∧ va_K D vwCl (fd_tX7 u.2) t ∧ va_D (va_A [(h0, .inr (7, [.null, .int 0]))] sz) (fd_KX7 h0 u.1 u.2)) (va_A [(h0, .inr (7, [.null, .int 0]))] sz)) 1 200 (va_A [(h0, .inr (7, [.null, .int 0]))] sz) := by
  refine Met.ofW (cc := cX7_init) (maxL := 1) (ret := none) (by decide) rfl ?_
  intro p e s m args below meth c s₁ B hml hv
  obtain ⟨rfl, hsz, hP, hK, hD0, hN⟩ := hv
  have hx := B.exec
  have hb := B.bytes
  have hr := B.returns
  have hts := atoms_spec (ws := wsX7_init) B.pre
  have hown : s.vm.findClass RX7 = some m.cls := findClass_of_methodNamed B.named
  have hlocks := B.notSynchronized
  have hin : meth.name = "<init>" := (name_of_methodNamed B.named B.method).1
  subst hsz
  have hD := hD0.self (sz := s.heap.size)
  generalize hAe : va_A [(h0, .inr (7, [.null, .int 0]))] s.heap.size = A at hD ⊢
  have hA : ∀ q : Nat, s.heap.size ≤ q → A q := fun q h => by rw [← hAe]; exact Or.inr h
  have hS : va_S A s.heap s.heap [] := va_S.rf
  have hP : va_P D vwCl [(h0, .inr (7, [.null, .int 0]))] s.heap := hP
  have hl := lv_entry ([.ref h0]) (n := 1) (Nat.le_of_ble_eq_true rfl)
  rw [lg_entry_eq]
  generalize (lg_sl ([.ref h0]) ++ List.replicate (1 - (lg_sl ([.ref h0])).length) Slot.unset).toArray = ls at hl ⊢
  have hl : lv_has ls 1 [(0, .ref h0)] := hl
  have h9 : ∀ w ∈ u_ws RX7 TX7 2, w ∈ wsX7_init := fd_su [6, 7] (by eq_refl)
  refine lv_aload_n hx hb dX7_init_0 rfl (lv_at hl 0 rfl) ?_
  refine W.objInit hx hb hown (hts (.methodLink RX7 3 objectInit) (List.mem_of_getElem? (i := 1) (by eq_refl))) (hts (.instanceMethod objectInit) (List.mem_of_getElem? (i := 2) (by eq_refl))) (hts (.code objectInit ⟨#[0xb1]⟩ 1 none) (List.mem_of_getElem? (i := 3) (by eq_refl))) rfl (by rw [hml]; exact hl.1) rfl dX7_init_1 (Nat.le_of_ble_eq_true rfl) (Nat.le_of_ble_eq_true rfl) ?_
  refine W.eq (g2 := F0 m 4 ls []) rfl ?_
  refine lv_aload_n hx hb dX7_init_4 rfl (lv_at hl 0 rfl) ?_
  refine lv_sipush (v := (200 : Int32)) hx hb dX7_init_5 (by decide) ?_
  refine va_newa (atype := .int) (N' := 200) (n := (200 : Int32)) (ty := .int) (a0 := (200, .inl (fun _ => 0))) hx hb (hts (.arrayClass .int) (List.mem_of_getElem? (i := 4) (by eq_refl))) rfl hK hP hD hS hA (fun _ => rfl) (by decide) (by decide) (by decide) (Nat.le_of_ble_eq_true rfl) (Nat.le_of_ble_eq_true rfl) dX7_init_8 (fun q1 c1 H hK hP hD hS => ?_)
  have hP : va_P D vwCl [(h0, .inr (7, [.null, .int 0])), (q1, .inl (c1, 200, .inl (fun _ => 0)))] H := hP
  have hD : va_D A [(h0, .inr (7, [.null, .int 0])), (q1, .inl (c1, 200, .inl (fun _ => 0)))] := hD
  have hK : va_K D vwCl [(c1, .int)] s := hK
  refine va_putF (ci := 7) (v := .ref q1) (ty := .array .int) (C := RX7) (T := TX7) (N := 2) hx hb hts h9 tyX7 tyX7_ok nmX7 hown hK hP hD hS 0 rfl rfl 0 (by decide) (hts (.fieldLink RX7 9 "FailDiagnose$Shares" "given" "[I") (List.mem_of_getElem? (i := 5) (by eq_refl))) (fun _ h9 => h9) rfl hin rfl (by decide +kernel) rfl rfl (Nat.le_of_ble_eq_true rfl) dX7_init_10 (fun H locs hP hD hS => ?_)
  have hP : va_P D vwCl [(h0, .inr (7, [.ref q1, .int 0])), (q1, .inl (c1, 200, .inl (fun _ => 0)))] H := hP
  have hD : va_D A [(h0, .inr (7, [.ref q1, .int 0])), (q1, .inl (c1, 200, .inl (fun _ => 0)))] := hD
  have hP9 : va_P D vwCl (fd_KX7 h0 (fd_nth [0, q1]) (fd_nth [0, c1])) H := hP
  have hD9 : va_D A (fd_KX7 h0 (fd_nth [0, q1]) (fd_nth [0, c1])) := hD
  have hK9 : va_K D vwCl (fd_tX7 (fd_nth [0, c1])) s := hK
  refine W.widen (k := 1) (n := 200) (Nat.le_of_ble_eq_true rfl) (Nat.le_of_ble_eq_true rfl) ?_
  exact W.vret hx hb hr (fun t ht hW => ⟨⟨((fd_nth [0, q1]), (fd_nth [0, c1])), rfl, trivial, by rw [ht]; exact hP9, va_K.moved hW.alike hK9, hD9⟩, hS.F ht⟩) hS.2.2 dX7_init_13
def fd_KX1 (h0 : Nat) (a : Nat → Nat) (k : Nat → ClassId) : va_W := [(h0, .inr (1, [.ref (a 1), .ref (a 2), .int 0, .int 0])), ((a 1), .inl ((k 1), 30, .inr (.inl (fun _ => 0)))), ((a 2), .inl ((k 2), 30, .inr (.inl (fun _ => 0))))]
def fd_tX1 (k : Nat → ClassId) : List (ClassId × FieldType) := [(k 1, .long), (k 2, .long)]
set_option maxHeartbeats 4000000 in
set_option maxRecDepth 100000 in
theorem n_X1 (l : Launch) (D : va_G) (h0 sz : Nat) : Met l yX1_init wsX1_init ({ frames := 1, cells := 2, slots := 60, locals := 12 }) (va_Pc [.ref h0] (fd_N0 D [(h0, .inr (1, [.null, .null, .int 0, .int 0]))] sz)) (va_Qv (fun _ : (Nat → Nat) × (Nat → ClassId) => True) (fun u t => va_P D vwCl (fd_KX1 h0 u.1 u.2) t.heap ∧ va_K D vwCl (fd_tX1 u.2) t ∧ va_D (va_A [(h0, .inr (1, [.null, .null, .int 0, .int 0]))] sz) (fd_KX1 h0 u.1 u.2)) (va_A [(h0, .inr (1, [.null, .null, .int 0, .int 0]))] sz)) 2 60 (va_A [(h0, .inr (1, [.null, .null, .int 0, .int 0]))] sz) := by
  refine Met.ofW (cc := cX1_init) (maxL := 1) (ret := none) (by decide) rfl ?_
  intro p e s m args below meth c s₁ B hml hv
  obtain ⟨rfl, hsz, hP, hK, hD0, hN⟩ := hv
  have hx := B.exec
  have hb := B.bytes
  have hr := B.returns
  have hts := atoms_spec (ws := wsX1_init) B.pre
  have hown : s.vm.findClass RX1 = some m.cls := findClass_of_methodNamed B.named
  have hlocks := B.notSynchronized
  have hin : meth.name = "<init>" := (name_of_methodNamed B.named B.method).1
  subst hsz
  have hD := hD0.self (sz := s.heap.size)
  generalize hAe : va_A [(h0, .inr (1, [.null, .null, .int 0, .int 0]))] s.heap.size = A at hD ⊢
  have hA : ∀ q : Nat, s.heap.size ≤ q → A q := fun q h => by rw [← hAe]; exact Or.inr h
  have hS : va_S A s.heap s.heap [] := va_S.rf
  have hP : va_P D vwCl [(h0, .inr (1, [.null, .null, .int 0, .int 0]))] s.heap := hP
  have hl := lv_entry ([.ref h0]) (n := 1) (Nat.le_of_ble_eq_true rfl)
  rw [lg_entry_eq]
  generalize (lg_sl ([.ref h0]) ++ List.replicate (1 - (lg_sl ([.ref h0])).length) Slot.unset).toArray = ls at hl ⊢
  have hl : lv_has ls 1 [(0, .ref h0)] := hl
  have h9 : ∀ w ∈ u_ws RX1 TX1 4, w ∈ wsX1_init := fd_su [7, 8, 9, 10] (by eq_refl)
  refine lv_aload_n hx hb dX1_init_0 rfl (lv_at hl 0 rfl) ?_
  refine W.objInit hx hb hown (hts (.methodLink RX1 3 objectInit) (List.mem_of_getElem? (i := 1) (by eq_refl))) (hts (.instanceMethod objectInit) (List.mem_of_getElem? (i := 2) (by eq_refl))) (hts (.code objectInit ⟨#[0xb1]⟩ 1 none) (List.mem_of_getElem? (i := 3) (by eq_refl))) rfl (by rw [hml]; exact hl.1) rfl dX1_init_1 (Nat.le_of_ble_eq_true rfl) (Nat.le_of_ble_eq_true rfl) ?_
  refine W.eq (g2 := F0 m 4 ls []) rfl ?_
  refine lv_aload_n hx hb dX1_init_4 rfl (lv_at hl 0 rfl) ?_
  refine lv_bipush (v := (30 : Int32)) hx hb dX1_init_5 (by decide) ?_
  refine va_newa (atype := .long) (N' := 30) (n := (30 : Int32)) (ty := .long) (a0 := (30, .inr (.inl (fun _ => 0)))) hx hb (hts (.arrayClass .long) (List.mem_of_getElem? (i := 4) (by eq_refl))) rfl hK hP hD hS hA (fun _ => rfl) (by decide) (by decide) (by decide) (Nat.le_of_ble_eq_true rfl) (Nat.le_of_ble_eq_true rfl) dX1_init_7 (fun q1 c1 H hK hP hD hS => ?_)
  have hP : va_P D vwCl [(h0, .inr (1, [.null, .null, .int 0, .int 0])), (q1, .inl (c1, 30, .inr (.inl (fun _ => 0))))] H := hP
  have hD : va_D A [(h0, .inr (1, [.null, .null, .int 0, .int 0])), (q1, .inl (c1, 30, .inr (.inl (fun _ => 0))))] := hD
  have hK : va_K D vwCl [(c1, .long)] s := hK
  refine va_putF (ci := 1) (v := .ref q1) (ty := .array .long) (C := RX1) (T := TX1) (N := 4) hx hb hts h9 tyX1 tyX1_ok nmX1 hown hK hP hD hS 0 rfl rfl 0 (by decide) (hts (.fieldLink RX1 9 "FailDiagnose$Chain" "should" "[J") (List.mem_of_getElem? (i := 5) (by eq_refl))) (fun _ h9 => h9) rfl hin rfl (by decide +kernel) rfl rfl (Nat.le_of_ble_eq_true rfl) dX1_init_9 (fun H locs hP hD hS => ?_)
  have hP : va_P D vwCl [(h0, .inr (1, [.ref q1, .null, .int 0, .int 0])), (q1, .inl (c1, 30, .inr (.inl (fun _ => 0))))] H := hP
  have hD : va_D A [(h0, .inr (1, [.ref q1, .null, .int 0, .int 0])), (q1, .inl (c1, 30, .inr (.inl (fun _ => 0))))] := hD
  refine lv_aload_n hx hb dX1_init_12 rfl (lv_at hl 0 rfl) ?_
  refine lv_bipush (v := (30 : Int32)) hx hb dX1_init_13 (by decide) ?_
  refine va_newa (atype := .long) (N' := 30) (n := (30 : Int32)) (ty := .long) (a0 := (30, .inr (.inl (fun _ => 0)))) hx hb (hts (.arrayClass .long) (List.mem_of_getElem? (i := 4) (by eq_refl))) rfl hK hP hD hS hA (fun _ => rfl) (by decide) (by decide) (by decide) (Nat.le_of_ble_eq_true rfl) (Nat.le_of_ble_eq_true rfl) dX1_init_15 (fun q2 c2 H hK hP hD hS => ?_)
  have hP : va_P D vwCl [(h0, .inr (1, [.ref q1, .null, .int 0, .int 0])), (q1, .inl (c1, 30, .inr (.inl (fun _ => 0)))), (q2, .inl (c2, 30, .inr (.inl (fun _ => 0))))] H := hP
  have hD : va_D A [(h0, .inr (1, [.ref q1, .null, .int 0, .int 0])), (q1, .inl (c1, 30, .inr (.inl (fun _ => 0)))), (q2, .inl (c2, 30, .inr (.inl (fun _ => 0))))] := hD
  have hK : va_K D vwCl [(c1, .long), (c2, .long)] s := hK
  refine va_putF (ci := 1) (v := .ref q2) (ty := .array .long) (C := RX1) (T := TX1) (N := 4) hx hb hts h9 tyX1 tyX1_ok nmX1 hown hK hP hD hS 0 rfl rfl 1 (by decide) (hts (.fieldLink RX1 15 "FailDiagnose$Chain" "came" "[J") (List.mem_of_getElem? (i := 6) (by eq_refl))) (fun _ h9 => h9) rfl hin rfl (by decide +kernel) rfl rfl (Nat.le_of_ble_eq_true rfl) dX1_init_17 (fun H locs hP hD hS => ?_)
  have hP : va_P D vwCl [(h0, .inr (1, [.ref q1, .ref q2, .int 0, .int 0])), (q1, .inl (c1, 30, .inr (.inl (fun _ => 0)))), (q2, .inl (c2, 30, .inr (.inl (fun _ => 0))))] H := hP
  have hD : va_D A [(h0, .inr (1, [.ref q1, .ref q2, .int 0, .int 0])), (q1, .inl (c1, 30, .inr (.inl (fun _ => 0)))), (q2, .inl (c2, 30, .inr (.inl (fun _ => 0))))] := hD
  have hP9 : va_P D vwCl (fd_KX1 h0 (fd_nth [0, q1, q2]) (fd_nth [0, c1, c2])) H := hP
  have hD9 : va_D A (fd_KX1 h0 (fd_nth [0, q1, q2]) (fd_nth [0, c1, c2])) := hD
  have hK9 : va_K D vwCl (fd_tX1 (fd_nth [0, c1, c2])) s := hK
  refine W.widen (k := 2) (n := 60) (Nat.le_of_ble_eq_true rfl) (Nat.le_of_ble_eq_true rfl) ?_
  exact W.vret hx hb hr (fun t ht hW => ⟨⟨((fd_nth [0, q1, q2]), (fd_nth [0, c1, c2])), rfl, trivial, by rw [ht]; exact hP9, va_K.moved hW.alike hK9, hD9⟩, hS.F ht⟩) hS.2.2 dX1_init_20
