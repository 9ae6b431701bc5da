def fd_KX8 (h0 : Nat) (a : Nat → Nat) (k : Nat → ClassId) : va_W := [(h0, .inr (8, [.ref (a 1), .ref (a 2), .ref (a 3), .ref (a 4), .ref (a 5), .ref (a 6), .int 0])), ((a 1), .inl ((k 1), 480, .inl (fun _ => 0))), ((a 2), .inl ((k 2), 480, .inl (fun _ => 0))), ((a 3), .inl ((k 3), 480, .inl (fun _ => 0))), ((a 4), .inl ((k 4), 480, .inl (fun _ => 0))), ((a 5), .inl ((k 5), 480, .inl (fun _ => 0))), ((a 6), .inl ((k 6), 480, .inl (fun _ => 0)))]
def fd_tX8 (k : Nat → ClassId) : List (ClassId × FieldType) := [(k 1, .int), (k 2, .int), (k 3, .int), (k 4, .int), (k 5, .int), (k 6, .int)]
set_option maxHeartbeats 4000000 in
set_option maxRecDepth 100000 in
theorem n_X8 (l : Launch) (D : va_G) (h0 sz : Nat) : Met l yX8_init wsX8_init ({ frames := 1, cells := 6, slots := 2880, locals := 12 }) (va_Pc [.ref h0] (fd_N0 D [(h0, .inr (8, [.null, .null, .null, .null, .null, .null, .int 0]))] sz)) (va_Qv (fun _ : (Nat → Nat) × (Nat → ClassId) => True) (fun u t => va_P D vwCl (fd_KX8 h0 u.1 u.2) t.heap ∧ va_K D vwCl (fd_tX8 u.2) t ∧ va_D (va_A [(h0, .inr (8, [.null, .null, .null, .null, .null, .null, .int 0]))] sz) (fd_KX8 h0 u.1 u.2)) (va_A [(h0, .inr (8, [.null, .null, .null, .null, .null, .null, .int 0]))] sz)) 6 2880 (va_A [(h0, .inr (8, [.null, .null, .null, .null, .null, .null, .int 0]))] sz) := by
  refine Met.ofW (cc := cX8_init) (maxL := 1) (ret := none) (by decide) rfl ?_
  intro p e s m args below meth c s₁ B hml hv
  obtain ⟨rfl, hsz, hP, hK, hD0, hN⟩ := hv
  have hx := B.exec
  have hb := B.bytes
  have hr := B.returns
  have hts := atoms_spec (ws := wsX8_init) B.pre
  have hown : s.vm.findClass RX8 = some m.cls := findClass_of_methodNamed B.named
  have hlocks := B.notSynchronized
  have hin : meth.name = "<init>" := (name_of_methodNamed B.named B.method).1
  subst hsz
  have hD := hD0.self (sz := s.heap.size)
  generalize hAe : va_A [(h0, .inr (8, [.null, .null, .null, .null, .null, .null, .int 0]))] s.heap.size = A at hD ⊢
  have hA : ∀ q : Nat, s.heap.size ≤ q → A q := fun q h => by rw [← hAe]; exact Or.inr h
  have hS : va_S A s.heap s.heap [] := va_S.rf
  have hP : va_P D vwCl [(h0, .inr (8, [.null, .null, .null, .null, .null, .null, .int 0]))] s.heap := hP
  have hl := lv_entry ([.ref h0]) (n := 1) (Nat.le_of_ble_eq_true rfl)
  rw [lg_entry_eq]
  generalize (lg_sl ([.ref h0]) ++ List.replicate (1 - (lg_sl ([.ref h0])).length) Slot.unset).toArray = ls at hl ⊢
  have hl : lv_has ls 1 [(0, .ref h0)] := hl
  have h9 : ∀ w ∈ u_ws RX8 TX8 7, w ∈ wsX8_init := fd_su [11, 12, 13, 14, 15, 16, 17] (by eq_refl)
  refine lv_aload_n hx hb dX8_init_0 rfl (lv_at hl 0 rfl) ?_
  refine W.objInit hx hb hown (hts (.methodLink RX8 3 objectInit) (List.mem_of_getElem? (i := 1) (by eq_refl))) (hts (.instanceMethod objectInit) (List.mem_of_getElem? (i := 2) (by eq_refl))) (hts (.code objectInit ⟨#[0xb1]⟩ 1 none) (List.mem_of_getElem? (i := 3) (by eq_refl))) rfl (by rw [hml]; exact hl.1) rfl dX8_init_1 (Nat.le_of_ble_eq_true rfl) (Nat.le_of_ble_eq_true rfl) ?_
  refine W.eq (g2 := F0 m 4 ls []) rfl ?_
  refine lv_aload_n hx hb dX8_init_4 rfl (lv_at hl 0 rfl) ?_
  refine lv_sipush (v := (480 : Int32)) hx hb dX8_init_5 (by decide) ?_
  refine va_newa (atype := .int) (N' := 480) (n := (480 : Int32)) (ty := .int) (a0 := (480, .inl (fun _ => 0))) hx hb (hts (.arrayClass .int) (List.mem_of_getElem? (i := 4) (by eq_refl))) rfl hK hP hD hS hA (fun _ => rfl) (by decide) (by decide) (by decide) (Nat.le_of_ble_eq_true rfl) (Nat.le_of_ble_eq_true rfl) dX8_init_8 (fun q1 c1 H hK hP hD hS => ?_)
  have hP : va_P D vwCl [(h0, .inr (8, [.null, .null, .null, .null, .null, .null, .int 0])), (q1, .inl (c1, 480, .inl (fun _ => 0)))] H := hP
  have hD : va_D A [(h0, .inr (8, [.null, .null, .null, .null, .null, .null, .int 0])), (q1, .inl (c1, 480, .inl (fun _ => 0)))] := hD
  have hK : va_K D vwCl [(c1, .int)] s := hK
  refine va_putF (ci := 8) (v := .ref q1) (ty := .array .int) (C := RX8) (T := TX8) (N := 7) hx hb hts h9 tyX8 tyX8_ok nmX8 hown hK hP hD hS 0 rfl rfl 0 (by decide) (hts (.fieldLink RX8 9 "FailDiagnose$Suspects" "kinds" "[I") (List.mem_of_getElem? (i := 5) (by eq_refl))) (fun _ h9 => h9) rfl hin rfl (by decide +kernel) rfl rfl (Nat.le_of_ble_eq_true rfl) dX8_init_10 (fun H locs hP hD hS => ?_)
  have hP : va_P D vwCl [(h0, .inr (8, [.ref q1, .null, .null, .null, .null, .null, .int 0])), (q1, .inl (c1, 480, .inl (fun _ => 0)))] H := hP
  have hD : va_D A [(h0, .inr (8, [.ref q1, .null, .null, .null, .null, .null, .int 0])), (q1, .inl (c1, 480, .inl (fun _ => 0)))] := hD
  refine lv_aload_n hx hb dX8_init_13 rfl (lv_at hl 0 rfl) ?_
  refine lv_sipush (v := (480 : Int32)) hx hb dX8_init_14 (by decide) ?_
  refine va_newa (atype := .int) (N' := 480) (n := (480 : Int32)) (ty := .int) (a0 := (480, .inl (fun _ => 0))) hx hb (hts (.arrayClass .int) (List.mem_of_getElem? (i := 4) (by eq_refl))) rfl hK hP hD hS hA (fun _ => rfl) (by decide) (by decide) (by decide) (Nat.le_of_ble_eq_true rfl) (Nat.le_of_ble_eq_true rfl) dX8_init_17 (fun q2 c2 H hK hP hD hS => ?_)
  have hP : va_P D vwCl [(h0, .inr (8, [.ref q1, .null, .null, .null, .null, .null, .int 0])), (q1, .inl (c1, 480, .inl (fun _ => 0))), (q2, .inl (c2, 480, .inl (fun _ => 0)))] H := hP
  have hD : va_D A [(h0, .inr (8, [.ref q1, .null, .null, .null, .null, .null, .int 0])), (q1, .inl (c1, 480, .inl (fun _ => 0))), (q2, .inl (c2, 480, .inl (fun _ => 0)))] := hD
  have hK : va_K D vwCl [(c1, .int), (c2, .int)] s := hK
  refine va_putF (ci := 8) (v := .ref q2) (ty := .array .int) (C := RX8) (T := TX8) (N := 7) hx hb hts h9 tyX8 tyX8_ok nmX8 hown hK hP hD hS 0 rfl rfl 1 (by decide) (hts (.fieldLink RX8 15 "FailDiagnose$Suspects" "numbers" "[I") (List.mem_of_getElem? (i := 6) (by eq_refl))) (fun _ h9 => h9) rfl hin rfl (by decide +kernel) rfl rfl (Nat.le_of_ble_eq_true rfl) dX8_init_19 (fun H locs hP hD hS => ?_)
  have hP : va_P D vwCl [(h0, .inr (8, [.ref q1, .ref q2, .null, .null, .null, .null, .int 0])), (q1, .inl (c1, 480, .inl (fun _ => 0))), (q2, .inl (c2, 480, .inl (fun _ => 0)))] H := hP
  have hD : va_D A [(h0, .inr (8, [.ref q1, .ref q2, .null, .null, .null, .null, .int 0])), (q1, .inl (c1, 480, .inl (fun _ => 0))), (q2, .inl (c2, 480, .inl (fun _ => 0)))] := hD
  refine lv_aload_n hx hb dX8_init_22 rfl (lv_at hl 0 rfl) ?_
  refine lv_sipush (v := (480 : Int32)) hx hb dX8_init_23 (by decide) ?_
  refine va_newa (atype := .int) (N' := 480) (n := (480 : Int32)) (ty := .int) (a0 := (480, .inl (fun _ => 0))) hx hb (hts (.arrayClass .int) (List.mem_of_getElem? (i := 4) (by eq_refl))) rfl hK hP hD hS hA (fun _ => rfl) (by decide) (by decide) (by decide) (Nat.le_of_ble_eq_true rfl) (Nat.le_of_ble_eq_true rfl) dX8_init_26 (fun q3 c3 H hK hP hD hS => ?_)
  have hP : va_P D vwCl [(h0, .inr (8, [.ref q1, .ref q2, .null, .null, .null, .null, .int 0])), (q1, .inl (c1, 480, .inl (fun _ => 0))), (q2, .inl (c2, 480, .inl (fun _ => 0))), (q3, .inl (c3, 480, .inl (fun _ => 0)))] H := hP
  have hD : va_D A [(h0, .inr (8, [.ref q1, .ref q2, .null, .null, .null, .null, .int 0])), (q1, .inl (c1, 480, .inl (fun _ => 0))), (q2, .inl (c2, 480, .inl (fun _ => 0))), (q3, .inl (c3, 480, .inl (fun _ => 0)))] := hD
  have hK : va_K D vwCl [(c1, .int), (c2, .int), (c3, .int)] s := hK
  refine va_putF (ci := 8) (v := .ref q3) (ty := .array .int) (C := RX8) (T := TX8) (N := 7) hx hb hts h9 tyX8 tyX8_ok nmX8 hown hK hP hD hS 0 rfl rfl 2 (by decide) (hts (.fieldLink RX8 18 "FailDiagnose$Suspects" "explained" "[I") (List.mem_of_getElem? (i := 7) (by eq_refl))) (fun _ h9 => h9) rfl hin rfl (by decide +kernel) rfl rfl (Nat.le_of_ble_eq_true rfl) dX8_init_28 (fun H locs hP hD hS => ?_)
  have hP : va_P D vwCl [(h0, .inr (8, [.ref q1, .ref q2, .ref q3, .null, .null, .null, .int 0])), (q1, .inl (c1, 480, .inl (fun _ => 0))), (q2, .inl (c2, 480, .inl (fun _ => 0))), (q3, .inl (c3, 480, .inl (fun _ => 0)))] H := hP
  have hD : va_D A [(h0, .inr (8, [.ref q1, .ref q2, .ref q3, .null, .null, .null, .int 0])), (q1, .inl (c1, 480, .inl (fun _ => 0))), (q2, .inl (c2, 480, .inl (fun _ => 0))), (q3, .inl (c3, 480, .inl (fun _ => 0)))] := hD
  refine lv_aload_n hx hb dX8_init_31 rfl (lv_at hl 0 rfl) ?_
  refine lv_sipush (v := (480 : Int32)) hx hb dX8_init_32 (by decide) ?_
  refine va_newa (atype := .int) (N' := 480) (n := (480 : Int32)) (ty := .int) (a0 := (480, .inl (fun _ => 0))) hx hb (hts (.arrayClass .int) (List.mem_of_getElem? (i := 4) (by eq_refl))) rfl hK hP hD hS hA (fun _ => rfl) (by decide) (by decide) (by decide) (Nat.le_of_ble_eq_true rfl) (Nat.le_of_ble_eq_true rfl) dX8_init_35 (fun q4 c4 H hK hP hD hS => ?_)
  have hP : va_P D vwCl [(h0, .inr (8, [.ref q1, .ref q2, .ref q3, .null, .null, .null, .int 0])), (q1, .inl (c1, 480, .inl (fun _ => 0))), (q2, .inl (c2, 480, .inl (fun _ => 0))), (q3, .inl (c3, 480, .inl (fun _ => 0))), (q4, .inl (c4, 480, .inl (fun _ => 0)))] H := hP
  have hD : va_D A [(h0, .inr (8, [.ref q1, .ref q2, .ref q3, .null, .null, .null, .int 0])), (q1, .inl (c1, 480, .inl (fun _ => 0))), (q2, .inl (c2, 480, .inl (fun _ => 0))), (q3, .inl (c3, 480, .inl (fun _ => 0))), (q4, .inl (c4, 480, .inl (fun _ => 0)))] := hD
  have hK : va_K D vwCl [(c1, .int), (c2, .int), (c3, .int), (c4, .int)] s := hK
  refine va_putF (ci := 8) (v := .ref q4) (ty := .array .int) (C := RX8) (T := TX8) (N := 7) hx hb hts h9 tyX8 tyX8_ok nmX8 hown hK hP hD hS 0 rfl rfl 3 (by decide) (hts (.fieldLink RX8 21 "FailDiagnose$Suspects" "missed" "[I") (List.mem_of_getElem? (i := 8) (by eq_refl))) (fun _ h9 => h9) rfl hin rfl (by decide +kernel) rfl rfl (Nat.le_of_ble_eq_true rfl) dX8_init_37 (fun H locs hP hD hS => ?_)
  have hP : va_P D vwCl [(h0, .inr (8, [.ref q1, .ref q2, .ref q3, .ref q4, .null, .null, .int 0])), (q1, .inl (c1, 480, .inl (fun _ => 0))), (q2, .inl (c2, 480, .inl (fun _ => 0))), (q3, .inl (c3, 480, .inl (fun _ => 0))), (q4, .inl (c4, 480, .inl (fun _ => 0)))] H := hP
  have hD : va_D A [(h0, .inr (8, [.ref q1, .ref q2, .ref q3, .ref q4, .null, .null, .int 0])), (q1, .inl (c1, 480, .inl (fun _ => 0))), (q2, .inl (c2, 480, .inl (fun _ => 0))), (q3, .inl (c3, 480, .inl (fun _ => 0))), (q4, .inl (c4, 480, .inl (fun _ => 0)))] := hD
  refine lv_aload_n hx hb dX8_init_40 rfl (lv_at hl 0 rfl) ?_
  refine lv_sipush (v := (480 : Int32)) hx hb dX8_init_41 (by decide) ?_
  refine va_newa (atype := .int) (N' := 480) (n := (480 : Int32)) (ty := .int) (a0 := (480, .inl (fun _ => 0))) hx hb (hts (.arrayClass .int) (List.mem_of_getElem? (i := 4) (by eq_refl))) rfl hK hP hD hS hA (fun _ => rfl) (by decide) (by decide) (by decide) (Nat.le_of_ble_eq_true rfl) (Nat.le_of_ble_eq_true rfl) dX8_init_44 (fun q5 c5 H hK hP hD hS => ?_)
  have hP : va_P D vwCl [(h0, .inr (8, [.ref q1, .ref q2, .ref q3, .ref q4, .null, .null, .int 0])), (q1, .inl (c1, 480, .inl (fun _ => 0))), (q2, .inl (c2, 480, .inl (fun _ => 0))), (q3, .inl (c3, 480, .inl (fun _ => 0))), (q4, .inl (c4, 480, .inl (fun _ => 0))), (q5, .inl (c5, 480, .inl (fun _ => 0)))] H := hP
  have hD : va_D A [(h0, .inr (8, [.ref q1, .ref q2, .ref q3, .ref q4, .null, .null, .int 0])), (q1, .inl (c1, 480, .inl (fun _ => 0))), (q2, .inl (c2, 480, .inl (fun _ => 0))), (q3, .inl (c3, 480, .inl (fun _ => 0))), (q4, .inl (c4, 480, .inl (fun _ => 0))), (q5, .inl (c5, 480, .inl (fun _ => 0)))] := hD
  have hK : va_K D vwCl [(c1, .int), (c2, .int), (c3, .int), (c4, .int), (c5, .int)] s := hK
  refine va_putF (ci := 8) (v := .ref q5) (ty := .array .int) (C := RX8) (T := TX8) (N := 7) hx hb hts h9 tyX8 tyX8_ok nmX8 hown hK hP hD hS 0 rfl rfl 4 (by decide) (hts (.fieldLink RX8 24 "FailDiagnose$Suspects" "wrong" "[I") (List.mem_of_getElem? (i := 9) (by eq_refl))) (fun _ h9 => h9) rfl hin rfl (by decide +kernel) rfl rfl (Nat.le_of_ble_eq_true rfl) dX8_init_46 (fun H locs hP hD hS => ?_)
  have hP : va_P D vwCl [(h0, .inr (8, [.ref q1, .ref q2, .ref q3, .ref q4, .ref q5, .null, .int 0])), (q1, .inl (c1, 480, .inl (fun _ => 0))), (q2, .inl (c2, 480, .inl (fun _ => 0))), (q3, .inl (c3, 480, .inl (fun _ => 0))), (q4, .inl (c4, 480, .inl (fun _ => 0))), (q5, .inl (c5, 480, .inl (fun _ => 0)))] H := hP
  have hD : va_D A [(h0, .inr (8, [.ref q1, .ref q2, .ref q3, .ref q4, .ref q5, .null, .int 0])), (q1, .inl (c1, 480, .inl (fun _ => 0))), (q2, .inl (c2, 480, .inl (fun _ => 0))), (q3, .inl (c3, 480, .inl (fun _ => 0))), (q4, .inl (c4, 480, .inl (fun _ => 0))), (q5, .inl (c5, 480, .inl (fun _ => 0)))] := hD
  refine lv_aload_n hx hb dX8_init_49 rfl (lv_at hl 0 rfl) ?_
  refine lv_sipush (v := (480 : Int32)) hx hb dX8_init_50 (by decide) ?_
  refine va_newa (atype := .int) (N' := 480) (n := (480 : Int32)) (ty := .int) (a0 := (480, .inl (fun _ => 0))) hx hb (hts (.arrayClass .int) (List.mem_of_getElem? (i := 4) (by eq_refl))) rfl hK hP hD hS hA (fun _ => rfl) (by decide) (by decide) (by decide) (Nat.le_of_ble_eq_true rfl) (Nat.le_of_ble_eq_true rfl) dX8_init_53 (fun q6 c6 H hK hP hD hS => ?_)
  have hP : va_P D vwCl [(h0, .inr (8, [.ref q1, .ref q2, .ref q3, .ref q4, .ref q5, .null, .int 0])), (q1, .inl (c1, 480, .inl (fun _ => 0))), (q2, .inl (c2, 480, .inl (fun _ => 0))), (q3, .inl (c3, 480, .inl (fun _ => 0))), (q4, .inl (c4, 480, .inl (fun _ => 0))), (q5, .inl (c5, 480, .inl (fun _ => 0))), (q6, .inl (c6, 480, .inl (fun _ => 0)))] H := hP
  have hD : va_D A [(h0, .inr (8, [.ref q1, .ref q2, .ref q3, .ref q4, .ref q5, .null, .int 0])), (q1, .inl (c1, 480, .inl (fun _ => 0))), (q2, .inl (c2, 480, .inl (fun _ => 0))), (q3, .inl (c3, 480, .inl (fun _ => 0))), (q4, .inl (c4, 480, .inl (fun _ => 0))), (q5, .inl (c5, 480, .inl (fun _ => 0))), (q6, .inl (c6, 480, .inl (fun _ => 0)))] := hD
  have hK : va_K D vwCl [(c1, .int), (c2, .int), (c3, .int), (c4, .int), (c5, .int), (c6, .int)] s := hK
  refine va_putF (ci := 8) (v := .ref q6) (ty := .array .int) (C := RX8) (T := TX8) (N := 7) hx hb hts h9 tyX8 tyX8_ok nmX8 hown hK hP hD hS 0 rfl rfl 5 (by decide) (hts (.fieldLink RX8 27 "FailDiagnose$Suspects" "order" "[I") (List.mem_of_getElem? (i := 10) (by eq_refl))) (fun _ h9 => h9) rfl hin rfl (by decide +kernel) rfl rfl (Nat.le_of_ble_eq_true rfl) dX8_init_55 (fun H locs hP hD hS => ?_)
  have hP : va_P D vwCl [(h0, .inr (8, [.ref q1, .ref q2, .ref q3, .ref q4, .ref q5, .ref q6, .int 0])), (q1, .inl (c1, 480, .inl (fun _ => 0))), (q2, .inl (c2, 480, .inl (fun _ => 0))), (q3, .inl (c3, 480, .inl (fun _ => 0))), (q4, .inl (c4, 480, .inl (fun _ => 0))), (q5, .inl (c5, 480, .inl (fun _ => 0))), (q6, .inl (c6, 480, .inl (fun _ => 0)))] H := hP
  have hD : va_D A [(h0, .inr (8, [.ref q1, .ref q2, .ref q3, .ref q4, .ref q5, .ref q6, .int 0])), (q1, .inl (c1, 480, .inl (fun _ => 0))), (q2, .inl (c2, 480, .inl (fun _ => 0))), (q3, .inl (c3, 480, .inl (fun _ => 0))), (q4, .inl (c4, 480, .inl (fun _ => 0))), (q5, .inl (c5, 480, .inl (fun _ => 0))), (q6, .inl (c6, 480, .inl (fun _ => 0)))] := hD
  have hP9 : va_P D vwCl (fd_KX8 h0 (fd_nth [0, q1, q2, q3, q4, q5, q6]) (fd_nth [0, c1, c2, c3, c4, c5, c6])) H := hP
  have hD9 : va_D A (fd_KX8 h0 (fd_nth [0, q1, q2, q3, q4, q5, q6]) (fd_nth [0, c1, c2, c3, c4, c5, c6])) := hD
  have hK9 : va_K D vwCl (fd_tX8 (fd_nth [0, c1, c2, c3, c4, c5, c6])) s := hK
  refine W.widen (k := 6) (n := 2880) (Nat.le_of_ble_eq_true rfl) (Nat.le_of_ble_eq_true rfl) ?_
  exact W.vret hx hb hr (fun t ht hW => ⟨⟨((fd_nth [0, q1, q2, q3, q4, q5, q6]), (fd_nth [0, c1, c2, c3, c4, c5, c6])), rfl, trivial, by rw [ht]; exact hP9, va_K.moved hW.alike hK9, hD9⟩, hS.F ht⟩) hS.2.2 dX8_init_58
