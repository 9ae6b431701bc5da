noncomputable def f_X11_move_0 (N : Nat) (p1 : Int32) (p2 : Int32) (σ : fd_St) : Option (Unit × fd_St) := fd_gd (vp_in p1 480) (fd_gd (vp_in p2 480) (fd_lt (fd_sA 12 p2 (σ.2.1 12 p1.toNatClampNeg) σ) (fun σ3 => fd_gd (vp_in p1 480) (fd_gd (vp_in p2 480) (fd_lt (fd_sA 13 p2 (σ3.2.1 13 p1.toNatClampNeg) σ3) (fun σ6 => fd_gd (vp_in p1 480) (fd_gd (vp_in p2 480) (fd_lt (fd_sA 14 p2 (σ6.2.1 14 p1.toNatClampNeg) σ6) (fun σ9 => fd_gd (vp_in p1 480) (fd_gd (vp_in p2 480) (fd_lt (fd_sA 15 p2 (σ9.2.1 15 p1.toNatClampNeg) σ9) (fun σ12 => fd_gd (vp_in p1 480) (fd_gd (vp_in p2 480) (fd_lt (fd_sA 16 p2 (σ12.2.1 16 p1.toNatClampNeg) σ12) (fun σ15 => fd_gd (vp_in p1 480) (fd_gd (vp_in p2 480) (fd_lt (fd_sA 17 p2 (σ15.2.1 17 p1.toNatClampNeg) σ15) (fun σ18 => some ((), σ18)))))))))))))))))))
set_option maxHeartbeats 4000000 in
set_option maxRecDepth 100000 in
theorem m_X11_move_0 (l : Launch) (D : va_G) (a : Nat → Nat) (k : Nat → ClassId) (sz : Nat) (hI : fd_I 29 a) (N : Nat) (p1 : Int32) (p2 : Int32) (σ : fd_St) (r : Unit × fd_St) (hf : f_X11_move_0 N p1 p2 σ = some r) : Met l yX11_move wsX11_move ({ frames := 0, cells := 0, slots := 0, locals := 0 }) (va_Pc [.ref (a 0), .int p1, .int p2] (fd_PM D a k sz σ)) (va_Qv (fun u => ((), u) = r) (fd_BM D a k) (fd_A 29 a sz)) 0 0 (fd_A 29 a sz) := by
  refine Met.ofW (cc := cX11_move) (maxL := 3) (ret := none) (by decide) rfl ?_
  intro p e s m args below meth c s₁ B hml hv
  obtain ⟨rfl, hsz, hP, hK⟩ := hv
  have hx := B.exec
  have hb := B.bytes
  have hr := B.returns
  have hts := atoms_spec (ws := wsX11_move) B.pre
  have hown : s.vm.findClass RX11 = some m.cls := findClass_of_methodNamed B.named
  have hlocks := B.notSynchronized
  subst hsz
  have hJ : ∀ i, i < 29 → fd_A 29 a s.heap.size (a i) := fun i hi => Or.inl ⟨i, hi, rfl⟩
  have hS : va_S (fd_A 29 a s.heap.size) s.heap s.heap [] := va_S.rf
  have hl := lv_entry ([.ref (a 0), .int p1, .int p2]) (n := 3) (Nat.le_of_ble_eq_true rfl)
  rw [lg_entry_eq]
  generalize (lg_sl ([.ref (a 0), .int p1, .int p2]) ++ List.replicate (3 - (lg_sl ([.ref (a 0), .int p1, .int p2])).length) Slot.unset).toArray = ls at hl ⊢
  have hl : lv_has ls 3 [(0, .ref (a 0)), (1, .int p1), (2, .int p2)] := hl
  have h9X11 : ∀ w ∈ u_ws RX11 TX11 43, w ∈ wsX11_move := fd_su [7, 8, 9, 10, 11, 12, 13, 14, 15, 16, 17, 18, 19, 20, 21, 22, 23, 24, 25, 26, 27, 28, 29, 30, 31, 32, 33, 34, 35, 36, 37, 38, 39, 40, 41, 42, 43, 44, 45, 46, 47, 48, 49] (by eq_refl)
  unfold f_X11_move_0 at hf
  refine lv_aload_n hx hb dX11_move_0 rfl (lv_at hl 0 rfl) ?_
  refine va_get (ci := 11) (v := .ref (a 12)) (C := RX11) (T := TX11) (N := 43) hx hb hts h9X11 hown hK hP 0 fd_WM_0 rfl 19 (by decide) (hts (.fieldLink RX11 45 "FailDiagnoseModel" "suspectKind" "[I") (List.mem_of_getElem? (i := 1) (by eq_refl))) (fun _ h9 => h9) rfl dX11_move_1 ?_
  refine lv_iload_n hx hb dX11_move_4 rfl (lv_at hl 2 rfl) ?_
  refine lv_aload_n hx hb dX11_move_5 rfl (lv_at hl 0 rfl) ?_
  refine va_get (ci := 11) (v := .ref (a 12)) (C := RX11) (T := TX11) (N := 43) hx hb hts h9X11 hown hK hP 0 fd_WM_0 rfl 19 (by decide) (hts (.fieldLink RX11 45 "FailDiagnoseModel" "suspectKind" "[I") (List.mem_of_getElem? (i := 1) (by eq_refl))) (fun _ h9 => h9) rfl dX11_move_6 ?_
  refine lv_iload_n hx hb dX11_move_9 rfl (lv_at hl 1 rfl) ?_
  obtain ⟨g1, hf⟩ := fd_gds hf
  refine va_iald hx hb hK hP 12 11 fd_WM_12 fd_tyM_12 g1 dX11_move_10 ?_
  obtain ⟨g2, hf⟩ := fd_gds hf
  obtain ⟨σ3, eσ3, hf⟩ := fd_lts hf
  refine va_iast hx hb hK hP (fd_DM hI hJ) hS 12 11 fd_WM_12 fd_tyM_12 g2 dX11_move_11 (fun H locs hP _ hS => ?_)
  have hP : va_P D vwCl (fd_WM a k σ3) H := by rw [eσ3]; exact fd_sP fd_WMa_12 hP
  refine lv_aload_n hx hb dX11_move_12 rfl (lv_at hl 0 rfl) ?_
  refine va_get (ci := 11) (v := .ref (a 13)) (C := RX11) (T := TX11) (N := 43) hx hb hts h9X11 hown hK hP 0 fd_WM_0 rfl 20 (by decide) (hts (.fieldLink RX11 48 "FailDiagnoseModel" "suspectOf" "[I") (List.mem_of_getElem? (i := 2) (by eq_refl))) (fun _ h9 => h9) rfl dX11_move_13 ?_
  refine lv_iload_n hx hb dX11_move_16 rfl (lv_at hl 2 rfl) ?_
  refine lv_aload_n hx hb dX11_move_17 rfl (lv_at hl 0 rfl) ?_
  refine va_get (ci := 11) (v := .ref (a 13)) (C := RX11) (T := TX11) (N := 43) hx hb hts h9X11 hown hK hP 0 fd_WM_0 rfl 20 (by decide) (hts (.fieldLink RX11 48 "FailDiagnoseModel" "suspectOf" "[I") (List.mem_of_getElem? (i := 2) (by eq_refl))) (fun _ h9 => h9) rfl dX11_move_18 ?_
  refine lv_iload_n hx hb dX11_move_21 rfl (lv_at hl 1 rfl) ?_
  obtain ⟨g4, hf⟩ := fd_gds hf
  refine va_iald hx hb hK hP 13 12 fd_WM_13 fd_tyM_13 g4 dX11_move_22 ?_
  obtain ⟨g5, hf⟩ := fd_gds hf
  obtain ⟨σ6, eσ6, hf⟩ := fd_lts hf
  refine va_iast hx hb hK hP (fd_DM hI hJ) hS 13 12 fd_WM_13 fd_tyM_13 g5 dX11_move_23 (fun H locs hP _ hS => ?_)
  have hP : va_P D vwCl (fd_WM a k σ6) H := by rw [eσ6]; exact fd_sP fd_WMa_13 hP
  refine lv_aload_n hx hb dX11_move_24 rfl (lv_at hl 0 rfl) ?_
  refine va_get (ci := 11) (v := .ref (a 14)) (C := RX11) (T := TX11) (N := 43) hx hb hts h9X11 hown hK hP 0 fd_WM_0 rfl 21 (by decide) (hts (.fieldLink RX11 51 "FailDiagnoseModel" "suspectSum" "[I") (List.mem_of_getElem? (i := 3) (by eq_refl))) (fun _ h9 => h9) rfl dX11_move_25 ?_
  refine lv_iload_n hx hb dX11_move_28 rfl (lv_at hl 2 rfl) ?_
  refine lv_aload_n hx hb dX11_move_29 rfl (lv_at hl 0 rfl) ?_
  refine va_get (ci := 11) (v := .ref (a 14)) (C := RX11) (T := TX11) (N := 43) hx hb hts h9X11 hown hK hP 0 fd_WM_0 rfl 21 (by decide) (hts (.fieldLink RX11 51 "FailDiagnoseModel" "suspectSum" "[I") (List.mem_of_getElem? (i := 3) (by eq_refl))) (fun _ h9 => h9) rfl dX11_move_30 ?_
  refine lv_iload_n hx hb dX11_move_33 rfl (lv_at hl 1 rfl) ?_
  obtain ⟨g7, hf⟩ := fd_gds hf
  refine va_iald hx hb hK hP 14 13 fd_WM_14 fd_tyM_14 g7 dX11_move_34 ?_
  obtain ⟨g8, hf⟩ := fd_gds hf
  obtain ⟨σ9, eσ9, hf⟩ := fd_lts hf
  refine va_iast hx hb hK hP (fd_DM hI hJ) hS 14 13 fd_WM_14 fd_tyM_14 g8 dX11_move_35 (fun H locs hP _ hS => ?_)
  have hP : va_P D vwCl (fd_WM a k σ9) H := by rw [eσ9]; exact fd_sP fd_WMa_14 hP
  refine lv_aload_n hx hb dX11_move_36 rfl (lv_at hl 0 rfl) ?_
  refine va_get (ci := 11) (v := .ref (a 15)) (C := RX11) (T := TX11) (N := 43) hx hb hts h9X11 hown hK hP 0 fd_WM_0 rfl 22 (by decide) (hts (.fieldLink RX11 54 "FailDiagnoseModel" "suspectExplained" "[I") (List.mem_of_getElem? (i := 4) (by eq_refl))) (fun _ h9 => h9) rfl dX11_move_37 ?_
  refine lv_iload_n hx hb dX11_move_40 rfl (lv_at hl 2 rfl) ?_
  refine lv_aload_n hx hb dX11_move_41 rfl (lv_at hl 0 rfl) ?_
  refine va_get (ci := 11) (v := .ref (a 15)) (C := RX11) (T := TX11) (N := 43) hx hb hts h9X11 hown hK hP 0 fd_WM_0 rfl 22 (by decide) (hts (.fieldLink RX11 54 "FailDiagnoseModel" "suspectExplained" "[I") (List.mem_of_getElem? (i := 4) (by eq_refl))) (fun _ h9 => h9) rfl dX11_move_42 ?_
  refine lv_iload_n hx hb dX11_move_45 rfl (lv_at hl 1 rfl) ?_
  obtain ⟨g10, hf⟩ := fd_gds hf
  refine va_iald hx hb hK hP 15 14 fd_WM_15 fd_tyM_15 g10 dX11_move_46 ?_
  obtain ⟨g11, hf⟩ := fd_gds hf
  obtain ⟨σ12, eσ12, hf⟩ := fd_lts hf
  refine va_iast hx hb hK hP (fd_DM hI hJ) hS 15 14 fd_WM_15 fd_tyM_15 g11 dX11_move_47 (fun H locs hP _ hS => ?_)
  have hP : va_P D vwCl (fd_WM a k σ12) H := by rw [eσ12]; exact fd_sP fd_WMa_15 hP
  refine lv_aload_n hx hb dX11_move_48 rfl (lv_at hl 0 rfl) ?_
  refine va_get (ci := 11) (v := .ref (a 16)) (C := RX11) (T := TX11) (N := 43) hx hb hts h9X11 hown hK hP 0 fd_WM_0 rfl 23 (by decide) (hts (.fieldLink RX11 57 "FailDiagnoseModel" "suspectMissed" "[I") (List.mem_of_getElem? (i := 5) (by eq_refl))) (fun _ h9 => h9) rfl dX11_move_49 ?_
  refine lv_iload_n hx hb dX11_move_52 rfl (lv_at hl 2 rfl) ?_
  refine lv_aload_n hx hb dX11_move_53 rfl (lv_at hl 0 rfl) ?_
  refine va_get (ci := 11) (v := .ref (a 16)) (C := RX11) (T := TX11) (N := 43) hx hb hts h9X11 hown hK hP 0 fd_WM_0 rfl 23 (by decide) (hts (.fieldLink RX11 57 "FailDiagnoseModel" "suspectMissed" "[I") (List.mem_of_getElem? (i := 5) (by eq_refl))) (fun _ h9 => h9) rfl dX11_move_54 ?_
  refine lv_iload_n hx hb dX11_move_57 rfl (lv_at hl 1 rfl) ?_
  obtain ⟨g13, hf⟩ := fd_gds hf
  refine va_iald hx hb hK hP 16 15 fd_WM_16 fd_tyM_16 g13 dX11_move_58 ?_
  obtain ⟨g14, hf⟩ := fd_gds hf
  obtain ⟨σ15, eσ15, hf⟩ := fd_lts hf
  refine va_iast hx hb hK hP (fd_DM hI hJ) hS 16 15 fd_WM_16 fd_tyM_16 g14 dX11_move_59 (fun H locs hP _ hS => ?_)
  have hP : va_P D vwCl (fd_WM a k σ15) H := by rw [eσ15]; exact fd_sP fd_WMa_16 hP
  refine lv_aload_n hx hb dX11_move_60 rfl (lv_at hl 0 rfl) ?_
  refine va_get (ci := 11) (v := .ref (a 17)) (C := RX11) (T := TX11) (N := 43) hx hb hts h9X11 hown hK hP 0 fd_WM_0 rfl 24 (by decide) (hts (.fieldLink RX11 60 "FailDiagnoseModel" "suspectWrong" "[I") (List.mem_of_getElem? (i := 6) (by eq_refl))) (fun _ h9 => h9) rfl dX11_move_61 ?_
  refine lv_iload_n hx hb dX11_move_64 rfl (lv_at hl 2 rfl) ?_
  refine lv_aload_n hx hb dX11_move_65 rfl (lv_at hl 0 rfl) ?_
  refine va_get (ci := 11) (v := .ref (a 17)) (C := RX11) (T := TX11) (N := 43) hx hb hts h9X11 hown hK hP 0 fd_WM_0 rfl 24 (by decide) (hts (.fieldLink RX11 60 "FailDiagnoseModel" "suspectWrong" "[I") (List.mem_of_getElem? (i := 6) (by eq_refl))) (fun _ h9 => h9) rfl dX11_move_66 ?_
  refine lv_iload_n hx hb dX11_move_69 rfl (lv_at hl 1 rfl) ?_
  obtain ⟨g16, hf⟩ := fd_gds hf
  refine va_iald hx hb hK hP 17 16 fd_WM_17 fd_tyM_17 g16 dX11_move_70 ?_
  obtain ⟨g17, hf⟩ := fd_gds hf
  obtain ⟨σ18, eσ18, hf⟩ := fd_lts hf
  refine va_iast hx hb hK hP (fd_DM hI hJ) hS 17 16 fd_WM_17 fd_tyM_17 g17 dX11_move_71 (fun H locs hP _ hS => ?_)
  have hP : va_P D vwCl (fd_WM a k σ18) H := by rw [eσ18]; exact fd_sP fd_WMa_17 hP
  exact W.vret hx hb hr (fun t ht hW => ⟨⟨σ18, rfl, Option.some.inj hf, by rw [ht]; exact hP, va_K.moved hW.alike hK⟩, hS.F ht⟩) hS.2.2 dX11_move_72
noncomputable def f_X11_enter_0_J70 (N : Nat) (y1 : Int32) (y2 : Int32) (y3 : Int32) (y4 : Int32) (σ : fd_St) : Option (Unit × fd_St) := fd_gd (vp_in y4 480) (fd_lt (fd_sA 12 y4 y1 σ) (fun σ16 => fd_gd (vp_in y4 480) (fd_lt (fd_sA 13 y4 y2 σ16) (fun σ18 => fd_gd (vp_in y4 480) (fd_lt (fd_sA 14 y4 y3 σ18) (fun σ20 => fd_gd (vp_in y4 480) (fd_lt (fd_sA 15 y4 (σ20.1 8) σ20) (fun σ22 => fd_gd (vp_in y4 480) (fd_lt (fd_sA 16 y4 (σ22.1 9) σ22) (fun σ24 => fd_gd (vp_in y4 480) (fd_lt (fd_sA 17 y4 (σ24.1 10) σ24) (fun σ26 => fd_lt (fd_sI 7 ((σ26.1 7) + (1 : Int32)) σ26) (fun σ27 => some ((), σ27))))))))))))))
noncomputable def f_X11_enter_0_L36 (N : Nat) : Nat → Int32 → Int32 → Int32 → Int32 → fd_St → Option (Unit × fd_St)
  | 0 => fun _ _ _ _ _ => none
  | n + 1 => fun y1 y2 y3 y4 σ => if y4 ≤ 0 then (f_X11_enter_0_J70 N y1 y2 y3 y4 σ) else (fd_gd (vp_in (y4 - (1 : Int32)) 480) (if (σ.2.1 14 (y4 - (1 : Int32)).toNatClampNeg) ≤ y3 then (f_X11_enter_0_J70 N y1 y2 y3 y4 σ) else (fd_bd (f_X11_move_0 N (y4 - (1 : Int32)) y4 σ) (fun _ σ32 => fd_lt (y4 + (-1 : Int32)) (fun x35 => (f_X11_enter_0_L36 N n) y1 y2 y3 x35 σ32)))))
noncomputable def f_X11_enter_0 (N : Nat) (p1 : Int32) (p2 : Int32) (σ : fd_St) : Option (Unit × fd_St) := fd_bd (f_X11_workFault_0 N p1 p2 σ) (fun _ σ3 => fd_bd (f_X11_judge_0 N σ3) (fun _ σ8 => if (σ8.1 8) = 0 then (some ((), σ8)) else (fd_lt (((2 : Int32) * (σ8.1 9)) + (σ8.1 10)) (fun x12 => fd_lt (σ8.1 7) (fun x13 => f_X11_enter_0_L36 N N p1 p2 x12 x13 σ8)))))
set_option maxHeartbeats 4000000 in
set_option maxRecDepth 100000 in
theorem m_X11_enter_0 (l : Launch) (D : va_G) (a : Nat → Nat) (k : Nat → ClassId) (sz : Nat) (hI : fd_I 29 a) (N : Nat) (p1 : Int32) (p2 : Int32) (σ : fd_St) (r : Unit × fd_St) (hf : f_X11_enter_0 N p1 p2 σ = some r) : Met l yX11_enter wsX11_enter ({ frames := 4, cells := 0, slots := 0, locals := 101 }) (va_Pc [.ref (a 0), .int p1, .int p2] (fd_PM D a k sz σ)) (va_Qv (fun u => ((), u) = r) (fd_BM D a k) (fd_A 29 a sz)) 0 0 (fd_A 29 a sz) := by
  refine Met.ofW (cc := cX11_enter) (maxL := 5) (ret := none) (by decide) rfl ?_
  intro p e s m args below meth c s₁ B hml hv
  obtain ⟨rfl, hsz, hP, hK⟩ := hv
  have hx := B.exec
  have hb := B.bytes
  have hr := B.returns
  have hts := atoms_spec (ws := wsX11_enter) B.pre
  have hown : s.vm.findClass RX11 = some m.cls := findClass_of_methodNamed B.named
  have hlocks := B.notSynchronized
  subst hsz
  have hJ : ∀ i, i < 29 → fd_A 29 a s.heap.size (a i) := fun i hi => Or.inl ⟨i, hi, rfl⟩
  have hS : va_S (fd_A 29 a s.heap.size) s.heap s.heap [] := va_S.rf
  have hl := lv_entry ([.ref (a 0), .int p1, .int p2]) (n := 5) (Nat.le_of_ble_eq_true rfl)
  rw [lg_entry_eq]
  generalize (lg_sl ([.ref (a 0), .int p1, .int p2]) ++ List.replicate (5 - (lg_sl ([.ref (a 0), .int p1, .int p2])).length) Slot.unset).toArray = ls at hl ⊢
  have hl : lv_has ls 5 [(0, .ref (a 0)), (1, .int p1), (2, .int p2)] := hl
  have h9X11 : ∀ w ∈ u_ws RX11 TX11 43, w ∈ wsX11_enter := fd_su [56, 57, 58, 59, 60, 61, 62, 63, 64, 65, 66, 67, 68, 69, 70, 71, 72, 73, 74, 75, 76, 77, 78, 79, 80, 81, 82, 83, 84, 85, 86, 87, 88, 89, 90, 91, 92, 93, 94, 95, 96, 97, 98] (by eq_refl)
  have hL70 : ∀ (y1 : Int32) (y2 : Int32) (y3 : Int32) (y4 : Int32) (σ : fd_St) (H : Heap) (locs : List Loc) (ls : Array Slot), va_P D vwCl (fd_WM a k σ) H → va_S (fd_A 29 a s.heap.size) s.heap H locs → lv_has ls 5 [(0, .ref (a 0)), (1, .int y1), (2, .int y2), (3, .int y3), (4, .int y4)] → f_X11_enter_0_J70 N y1 y2 y3 y4 σ = some r → W p l e ((headSpec wsX11_enter ({ frames := 4, cells := 0, slots := 0, locals := 101 })).room) s m ([.ref (a 0), .int p1, .int p2].toArray) below meth c H locs 0 0 (MQ below (va_Qv (fun u => ((), u) = r) (fd_BM D a k) (fd_A 29 a s.heap.size)) ([.ref (a 0), .int p1, .int p2].toArray) s 0 0 (fd_A 29 a s.heap.size)) (F0 m 70 ls []) := by
    intro y1 y2 y3 y4 σ H locs ls hP hS hl hf
    unfold f_X11_enter_0_J70 at hf
    refine lv_aload_n hx hb dX11_enter_70 rfl (lv_at hl 0 rfl) ?_
    refine va_get (ci := 11) (v := .ref (a 12)) (C := RX11) (T := TX11) (N := 43) hx hb hts h9X11 hown hK hP 0 fd_WM_0 rfl 19 (by decide) (hts (.fieldLink RX11 45 "FailDiagnoseModel" "suspectKind" "[I") (List.mem_of_getElem? (i := 6) (by eq_refl))) (fun _ h9 => h9) rfl dX11_enter_71 ?_
    refine lv_iload hx hb dX11_enter_74 (lv_at hl 4 rfl) ?_
    refine lv_iload_n hx hb dX11_enter_76 rfl (lv_at hl 1 rfl) ?_
    obtain ⟨g15, hf⟩ := fd_gds hf
    obtain ⟨σ16, eσ16, hf⟩ := fd_lts hf
    refine va_iast hx hb hK hP (fd_DM hI hJ) hS 12 11 fd_WM_12 fd_tyM_12 g15 dX11_enter_77 (fun H locs hP _ hS => ?_)
    have hP : va_P D vwCl (fd_WM a k σ16) H := by rw [eσ16]; exact fd_sP fd_WMa_12 hP
    refine lv_aload_n hx hb dX11_enter_78 rfl (lv_at hl 0 rfl) ?_
    refine va_get (ci := 11) (v := .ref (a 13)) (C := RX11) (T := TX11) (N := 43) hx hb hts h9X11 hown hK hP 0 fd_WM_0 rfl 20 (by decide) (hts (.fieldLink RX11 48 "FailDiagnoseModel" "suspectOf" "[I") (List.mem_of_getElem? (i := 7) (by eq_refl))) (fun _ h9 => h9) rfl dX11_enter_79 ?_
    refine lv_iload hx hb dX11_enter_82 (lv_at hl 4 rfl) ?_
    refine lv_iload_n hx hb dX11_enter_84 rfl (lv_at hl 2 rfl) ?_
    obtain ⟨g17, hf⟩ := fd_gds hf
    obtain ⟨σ18, eσ18, hf⟩ := fd_lts hf
    refine va_iast hx hb hK hP (fd_DM hI hJ) hS 13 12 fd_WM_13 fd_tyM_13 g17 dX11_enter_85 (fun H locs hP _ hS => ?_)
    have hP : va_P D vwCl (fd_WM a k σ18) H := by rw [eσ18]; exact fd_sP fd_WMa_13 hP
    refine lv_aload_n hx hb dX11_enter_86 rfl (lv_at hl 0 rfl) ?_
    refine va_get (ci := 11) (v := .ref (a 14)) (C := RX11) (T := TX11) (N := 43) hx hb hts h9X11 hown hK hP 0 fd_WM_0 rfl 21 (by decide) (hts (.fieldLink RX11 51 "FailDiagnoseModel" "suspectSum" "[I") (List.mem_of_getElem? (i := 5) (by eq_refl))) (fun _ h9 => h9) rfl dX11_enter_87 ?_
    refine lv_iload hx hb dX11_enter_90 (lv_at hl 4 rfl) ?_
    refine lv_iload_n hx hb dX11_enter_92 rfl (lv_at hl 3 rfl) ?_
    obtain ⟨g19, hf⟩ := fd_gds hf
    obtain ⟨σ20, eσ20, hf⟩ := fd_lts hf
    refine va_iast hx hb hK hP (fd_DM hI hJ) hS 14 13 fd_WM_14 fd_tyM_14 g19 dX11_enter_93 (fun H locs hP _ hS => ?_)
    have hP : va_P D vwCl (fd_WM a k σ20) H := by rw [eσ20]; exact fd_sP fd_WMa_14 hP
    refine lv_aload_n hx hb dX11_enter_94 rfl (lv_at hl 0 rfl) ?_
    refine va_get (ci := 11) (v := .ref (a 15)) (C := RX11) (T := TX11) (N := 43) hx hb hts h9X11 hown hK hP 0 fd_WM_0 rfl 22 (by decide) (hts (.fieldLink RX11 54 "FailDiagnoseModel" "suspectExplained" "[I") (List.mem_of_getElem? (i := 8) (by eq_refl))) (fun _ h9 => h9) rfl dX11_enter_95 ?_
    refine lv_iload hx hb dX11_enter_98 (lv_at hl 4 rfl) ?_
    refine lv_aload_n hx hb dX11_enter_100 rfl (lv_at hl 0 rfl) ?_
    refine va_get (ci := 11) (v := .int (σ20.1 8)) (C := RX11) (T := TX11) (N := 43) hx hb hts h9X11 hown hK hP 0 fd_WM_0 rfl 26 (by decide) (hts (.fieldLink RX11 160 "FailDiagnoseModel" "explained" "I") (List.mem_of_getElem? (i := 1) (by eq_refl))) (fun _ h9 => h9) rfl dX11_enter_101 ?_
    obtain ⟨g21, hf⟩ := fd_gds hf
    obtain ⟨σ22, eσ22, hf⟩ := fd_lts hf
    refine va_iast hx hb hK hP (fd_DM hI hJ) hS 15 14 fd_WM_15 fd_tyM_15 g21 dX11_enter_104 (fun H locs hP _ hS => ?_)
    have hP : va_P D vwCl (fd_WM a k σ22) H := by rw [eσ22]; exact fd_sP fd_WMa_15 hP
    refine lv_aload_n hx hb dX11_enter_105 rfl (lv_at hl 0 rfl) ?_
    refine va_get (ci := 11) (v := .ref (a 16)) (C := RX11) (T := TX11) (N := 43) hx hb hts h9X11 hown hK hP 0 fd_WM_0 rfl 23 (by decide) (hts (.fieldLink RX11 57 "FailDiagnoseModel" "suspectMissed" "[I") (List.mem_of_getElem? (i := 9) (by eq_refl))) (fun _ h9 => h9) rfl dX11_enter_106 ?_
    refine lv_iload hx hb dX11_enter_109 (lv_at hl 4 rfl) ?_
    refine lv_aload_n hx hb dX11_enter_111 rfl (lv_at hl 0 rfl) ?_
    refine va_get (ci := 11) (v := .int (σ22.1 9)) (C := RX11) (T := TX11) (N := 43) hx hb hts h9X11 hown hK hP 0 fd_WM_0 rfl 27 (by decide) (hts (.fieldLink RX11 163 "FailDiagnoseModel" "missed" "I") (List.mem_of_getElem? (i := 2) (by eq_refl))) (fun _ h9 => h9) rfl dX11_enter_112 ?_
    obtain ⟨g23, hf⟩ := fd_gds hf
    obtain ⟨σ24, eσ24, hf⟩ := fd_lts hf
    refine va_iast hx hb hK hP (fd_DM hI hJ) hS 16 15 fd_WM_16 fd_tyM_16 g23 dX11_enter_115 (fun H locs hP _ hS => ?_)
    have hP : va_P D vwCl (fd_WM a k σ24) H := by rw [eσ24]; exact fd_sP fd_WMa_16 hP
    refine lv_aload_n hx hb dX11_enter_116 rfl (lv_at hl 0 rfl) ?_
    refine va_get (ci := 11) (v := .ref (a 17)) (C := RX11) (T := TX11) (N := 43) hx hb hts h9X11 hown hK hP 0 fd_WM_0 rfl 24 (by decide) (hts (.fieldLink RX11 60 "FailDiagnoseModel" "suspectWrong" "[I") (List.mem_of_getElem? (i := 10) (by eq_refl))) (fun _ h9 => h9) rfl dX11_enter_117 ?_
    refine lv_iload hx hb dX11_enter_120 (lv_at hl 4 rfl) ?_
    refine lv_aload_n hx hb dX11_enter_122 rfl (lv_at hl 0 rfl) ?_
    refine va_get (ci := 11) (v := .int (σ24.1 10)) (C := RX11) (T := TX11) (N := 43) hx hb hts h9X11 hown hK hP 0 fd_WM_0 rfl 28 (by decide) (hts (.fieldLink RX11 166 "FailDiagnoseModel" "wrong" "I") (List.mem_of_getElem? (i := 3) (by eq_refl))) (fun _ h9 => h9) rfl dX11_enter_123 ?_
    obtain ⟨g25, hf⟩ := fd_gds hf
    obtain ⟨σ26, eσ26, hf⟩ := fd_lts hf
    refine va_iast hx hb hK hP (fd_DM hI hJ) hS 17 16 fd_WM_17 fd_tyM_17 g25 dX11_enter_126 (fun H locs hP _ hS => ?_)
    have hP : va_P D vwCl (fd_WM a k σ26) H := by rw [eσ26]; exact fd_sP fd_WMa_17 hP
    refine lv_aload_n hx hb dX11_enter_127 rfl (lv_at hl 0 rfl) ?_
    refine lv_dup hx hb dX11_enter_128 rfl ?_
    refine va_get (ci := 11) (v := .int (σ26.1 7)) (C := RX11) (T := TX11) (N := 43) hx hb hts h9X11 hown hK hP 0 fd_WM_0 rfl 18 (by decide) (hts (.fieldLink RX11 107 "FailDiagnoseModel" "suspects" "I") (List.mem_of_getElem? (i := 4) (by eq_refl))) (fun _ h9 => h9) rfl dX11_enter_129 ?_
    refine lv_iconst (v := (1 : Int32)) hx hb dX11_enter_132 (by decide) ?_
    refine lv_iadd hx hb dX11_enter_133 ?_
    obtain ⟨σ27, eσ27, hf⟩ := fd_lts hf
    refine va_put (ci := 11) (v := .int ((σ26.1 7) + (1 : Int32))) (ty := .int) (C := RX11) (T := TX11) (N := 43) hx hb hts h9X11 tyX11 tyX11_ok nmX11 hown hK hP (fd_DM hI hJ) hS 0 fd_WM_0 rfl 18 (by decide) (hts (.fieldLink RX11 107 "FailDiagnoseModel" "suspects" "I") (List.mem_of_getElem? (i := 4) (by eq_refl))) (fun _ h9 => h9) rfl (by decide +kernel) rfl rfl (Nat.le_of_ble_eq_true rfl) dX11_enter_134 (fun H locs hP _ hS => ?_)
    have hP : va_P D vwCl (fd_WM a k σ27) H := by rw [eσ27]; exact fd_sP fd_WMi_7 hP
    exact W.vret hx hb hr (fun t ht hW => ⟨⟨σ27, rfl, Option.some.inj hf, by rw [ht]; exact hP, va_K.moved hW.alike hK⟩, hS.F ht⟩) hS.2.2 dX11_enter_137
  have hL36 : ∀ (n : Nat), ∀ (y1 : Int32) (y2 : Int32) (y3 : Int32) (y4 : Int32) (σ : fd_St) (H : Heap) (locs : List Loc) (ls : Array Slot), va_P D vwCl (fd_WM a k σ) H → va_S (fd_A 29 a s.heap.size) s.heap H locs → lv_has ls 5 [(0, .ref (a 0)), (1, .int y1), (2, .int y2), (3, .int y3), (4, .int y4)] → f_X11_enter_0_L36 N n y1 y2 y3 y4 σ = some r → W p l e ((headSpec wsX11_enter ({ frames := 4, cells := 0, slots := 0, locals := 101 })).room) s m ([.ref (a 0), .int p1, .int p2].toArray) below meth c H locs 0 0 (MQ below (va_Qv (fun u => ((), u) = r) (fd_BM D a k) (fd_A 29 a s.heap.size)) ([.ref (a 0), .int p1, .int p2].toArray) s 0 0 (fd_A 29 a s.heap.size)) (F0 m 36 ls []) := by
    intro n
    induction n with
    | zero =>
      intro _ _ _ _ _ _ _ _ _ _ _ hf
      cases hf
    | succ n ih =>
      intro y1 y2 y3 y4 σ H locs ls hP hS hl hf
      unfold f_X11_enter_0_L36 at hf
      refine lv_iload hx hb dX11_enter_36 (lv_at hl 4 rfl) ?_
      refine lv_if_le (tgt := 70) hx hb dX11_enter_38 (by decide) (fun c14 => ?_) (fun c14 => ?_)
      · have hf := fd_itp c14 hf
        exact hL70 y1 y2 y3 y4 σ _ _ _ hP hS (lv_sub hl [0, 1, 2, 3, 4] rfl) hf
      · have hf := fd_itn c14 hf
        refine lv_aload_n hx hb dX11_enter_41 rfl (lv_at hl 0 rfl) ?_
        refine va_get (ci := 11) (v := .ref (a 14)) (C := RX11) (T := TX11) (N := 43) hx hb hts h9X11 hown hK hP 0 fd_WM_0 rfl 21 (by decide) (hts (.fieldLink RX11 51 "FailDiagnoseModel" "suspectSum" "[I") (List.mem_of_getElem? (i := 5) (by eq_refl))) (fun _ h9 => h9) rfl dX11_enter_42 ?_
        refine lv_iload hx hb dX11_enter_45 (lv_at hl 4 rfl) ?_
        refine lv_iconst (v := (1 : Int32)) hx hb dX11_enter_47 (by decide) ?_
        refine lv_isub hx hb dX11_enter_48 ?_
        obtain ⟨g28, hf⟩ := fd_gds hf
        refine va_iald hx hb hK hP 14 13 fd_WM_14 fd_tyM_14 g28 dX11_enter_49 ?_
        refine lv_iload_n hx hb dX11_enter_50 rfl (lv_at hl 3 rfl) ?_
        refine lv_icmp_le (tgt := 70) hx hb dX11_enter_51 (by decide) (fun c29 => ?_) (fun c29 => ?_)
        · have hf := fd_itp c29 hf
          exact hL70 y1 y2 y3 y4 σ _ _ _ hP hS (lv_sub hl [0, 1, 2, 3, 4] rfl) hf
        · have hf := fd_itn c29 hf
          refine lv_aload_n hx hb dX11_enter_54 rfl (lv_at hl 0 rfl) ?_
          refine lv_iload hx hb dX11_enter_55 (lv_at hl 4 rfl) ?_
          refine lv_iconst (v := (1 : Int32)) hx hb dX11_enter_57 (by decide) ?_
          refine lv_isub hx hb dX11_enter_58 ?_
          refine lv_iload hx hb dX11_enter_59 (lv_at hl 4 rfl) ?_
          obtain ⟨w33, τ34, hc30, hf⟩ := fd_bds hf
          refine va_callv (va_runV (As := [.int (y4 - (1 : Int32)), .int y4]) (rest := []) ⟨hx, hb, hml, hown, hts⟩ (m_X11_move_0 l D a k H.size hI N (y4 - (1 : Int32)) y4 σ _ hc30) (cwV 2 hts gX11_enter_X11_move rfl rfl rfl (by decide +kernel) ⟨Nat.le_of_ble_eq_true rfl, Nat.le_of_ble_eq_true rfl⟩) ⟨fd_blM, va_recv hK hP (ci := 11) (q0 := 0) rfl fd_WM_0, fd_prM hP hK⟩ rfl rfl hl.1 rfl (lv_room (Nat.le_of_ble_eq_true rfl)) dX11_enter_61 ⟨Nat.zero_le _, Nat.zero_le _⟩) hS (fun q _ h => fd_A_mono hS.1 h) (fun q h => fd_A_mono hS.1 h) (fun u t H1 locs ht hvm hw hB hz hk hS => ?_)
          obtain ⟨hP1, hK1⟩ := hB
          rw [ht] at hP1
          have e2 := (Prod.mk.inj hw).2
          subst e2
          obtain ⟨σ32, rfl⟩ : ∃ z, z = u := ⟨_, rfl⟩
          have hP := hP1
          generalize H1 = H at hP hS ⊢
          obtain ⟨x35, ex35, hf⟩ := fd_lts hf
          refine lv_iinc (v := x35) (lv' := [(4, .int x35), (0, .ref (a 0)), (1, .int y1), (2, .int y2), (3, .int y3)]) hx hb dX11_enter_64 hl (k := 4) rfl (by rw [ex35]; rfl) (by decide) rfl (fun ls hl => ?_)
          refine lv_goto (tgt := 36) hx hb dX11_enter_67 (by decide) ?_
          exact ih y1 y2 y3 x35 σ32 _ _ _ hP hS (lv_sub hl [1, 2, 3, 4, 0] rfl) hf
  unfold f_X11_enter_0 at hf
  refine lv_aload_n hx hb dX11_enter_0 rfl (lv_at hl 0 rfl) ?_
  refine lv_iload_n hx hb dX11_enter_1 rfl (lv_at hl 1 rfl) ?_
  refine lv_iload_n hx hb dX11_enter_2 rfl (lv_at hl 2 rfl) ?_
  obtain ⟨w4, τ5, hc1, hf⟩ := fd_bds hf
  refine va_callv (va_runV (As := [.int p1, .int p2]) (rest := []) ⟨hx, hb, hml, hown, hts⟩ (m_X11_workFault_0 l D a k s.heap.size hI N p1 p2 σ _ hc1) (cwV 2 hts gX11_enter_X11_workFault rfl rfl rfl (by decide +kernel) ⟨Nat.le_of_ble_eq_true rfl, Nat.le_of_ble_eq_true rfl⟩) ⟨fd_blM, va_recv hK hP (ci := 11) (q0 := 0) rfl fd_WM_0, fd_prM hP hK⟩ rfl rfl hl.1 rfl (lv_room (Nat.le_of_ble_eq_true rfl)) dX11_enter_3 ⟨Nat.zero_le _, Nat.zero_le _⟩) hS (fun q _ h => fd_A_mono hS.1 h) (fun q h => fd_A_mono hS.1 h) (fun u t H1 locs ht hvm hw hB hz hk hS => ?_)
  obtain ⟨hP1, hK1⟩ := hB
  rw [ht] at hP1
  have e2 := (Prod.mk.inj hw).2
  subst e2
  obtain ⟨σ3, rfl⟩ : ∃ z, z = u := ⟨_, rfl⟩
  have hP := hP1
  generalize H1 = H at hP hS ⊢
  refine lv_aload_n hx hb dX11_enter_6 rfl (lv_at hl 0 rfl) ?_
  obtain ⟨w9, τ10, hc6, hf⟩ := fd_bds hf
  refine va_callv (va_runV (As := []) (rest := []) ⟨hx, hb, hml, hown, hts⟩ (m_X11_judge_0 l D a k H.size hI N σ3 _ hc6) (cwV 0 hts gX11_enter_X11_judge rfl rfl rfl (by decide +kernel) ⟨Nat.le_of_ble_eq_true rfl, Nat.le_of_ble_eq_true rfl⟩) ⟨fd_blM, va_recv hK hP (ci := 11) (q0 := 0) rfl fd_WM_0, fd_prM hP hK⟩ rfl rfl hl.1 rfl (lv_room (Nat.le_of_ble_eq_true rfl)) dX11_enter_7 ⟨Nat.zero_le _, Nat.zero_le _⟩) hS (fun q _ h => fd_A_mono hS.1 h) (fun q h => fd_A_mono hS.1 h) (fun u t H1 locs ht hvm hw hB hz hk hS => ?_)
  obtain ⟨hP1, hK1⟩ := hB
  rw [ht] at hP1
  have e2 := (Prod.mk.inj hw).2
  subst e2
  obtain ⟨σ8, rfl⟩ : ∃ z, z = u := ⟨_, rfl⟩
  have hP := hP1
  generalize H1 = H at hP hS ⊢
  refine lv_aload_n hx hb dX11_enter_10 rfl (lv_at hl 0 rfl) ?_
  refine va_get (ci := 11) (v := .int (σ8.1 8)) (C := RX11) (T := TX11) (N := 43) hx hb hts h9X11 hown hK hP 0 fd_WM_0 rfl 26 (by decide) (hts (.fieldLink RX11 160 "FailDiagnoseModel" "explained" "I") (List.mem_of_getElem? (i := 1) (by eq_refl))) (fun _ h9 => h9) rfl dX11_enter_11 ?_
  refine lv_if_ne (tgt := 18) hx hb dX11_enter_14 (by decide) (fun c11 => ?_) (fun c11 => ?_)
  · have hf := fd_itn c11 hf
    refine lv_iconst (v := (2 : Int32)) hx hb dX11_enter_18 (by decide) ?_
    refine lv_aload_n hx hb dX11_enter_19 rfl (lv_at hl 0 rfl) ?_
    refine va_get (ci := 11) (v := .int (σ8.1 9)) (C := RX11) (T := TX11) (N := 43) hx hb hts h9X11 hown hK hP 0 fd_WM_0 rfl 27 (by decide) (hts (.fieldLink RX11 163 "FailDiagnoseModel" "missed" "I") (List.mem_of_getElem? (i := 2) (by eq_refl))) (fun _ h9 => h9) rfl dX11_enter_20 ?_
    refine lv_imul hx hb dX11_enter_23 ?_
    refine lv_aload_n hx hb dX11_enter_24 rfl (lv_at hl 0 rfl) ?_
    refine va_get (ci := 11) (v := .int (σ8.1 10)) (C := RX11) (T := TX11) (N := 43) hx hb hts h9X11 hown hK hP 0 fd_WM_0 rfl 28 (by decide) (hts (.fieldLink RX11 166 "FailDiagnoseModel" "wrong" "I") (List.mem_of_getElem? (i := 3) (by eq_refl))) (fun _ h9 => h9) rfl dX11_enter_25 ?_
    refine lv_iadd hx hb dX11_enter_28 ?_
    obtain ⟨x12, ex12, hf⟩ := fd_lts hf
    refine fd_ni ex12 ?_
    refine lv_istore_n (lv' := [(3, .int x12), (0, .ref (a 0)), (1, .int p1), (2, .int p2)]) hx hb dX11_enter_29 rfl hl (by decide) rfl (fun ls hl => ?_)
    refine lv_aload_n hx hb dX11_enter_30 rfl (lv_at hl 1 rfl) ?_
    refine va_get (ci := 11) (v := .int (σ8.1 7)) (C := RX11) (T := TX11) (N := 43) hx hb hts h9X11 hown hK hP 0 fd_WM_0 rfl 18 (by decide) (hts (.fieldLink RX11 107 "FailDiagnoseModel" "suspects" "I") (List.mem_of_getElem? (i := 4) (by eq_refl))) (fun _ h9 => h9) rfl dX11_enter_31 ?_
    obtain ⟨x13, ex13, hf⟩ := fd_lts hf
    refine fd_ni ex13 ?_
    refine lv_istore (lv' := [(4, .int x13), (3, .int x12), (0, .ref (a 0)), (1, .int p1), (2, .int p2)]) hx hb dX11_enter_34 hl (by decide) rfl (fun ls hl => ?_)
    exact hL36 N p1 p2 x12 x13 σ8 _ _ _ hP hS (lv_sub hl [2, 3, 4, 1, 0] rfl) hf
  · have hf := fd_itp c11 hf
    exact W.vret hx hb hr (fun t ht hW => ⟨⟨σ8, rfl, Option.some.inj hf, by rw [ht]; exact hP, va_K.moved hW.alike hK⟩, hS.F ht⟩) hS.2.2 dX11_enter_17
noncomputable def f_X11_run_0_J200 (N : Nat) (k140 : Int32 → Int32 → fd_St → Option (Int32 × fd_St)) (k150 : Int32 → Int32 → Int32 → fd_St → Option (Int32 × fd_St)) (y1 : Int32) (y3 : Int32) (y4 : Int32) (σ : fd_St) : Option (Int32 × fd_St) := fd_lt (y4 + (1 : Int32)) (fun x22 => k150 y1 y3 x22 σ)
noncomputable def f_X11_run_0_L150 (N : Nat) (k140 : Int32 → Int32 → fd_St → Option (Int32 × fd_St)) : Nat → Int32 → Int32 → Int32 → fd_St → Option (Int32 × fd_St)
  | 0 => fun _ _ _ _ => none
  | n + 1 => fun y1 y3 y4 σ => if y1 ≤ y4 then (fd_lt (y3 + (1 : Int32)) (fun x19 => k140 y1 x19 σ)) else (fd_gd (vp_in y3 480) (if (2 : Int32) ≤ (σ.2.1 12 y3.toNatClampNeg) then (f_X11_run_0_J200 N k140 (f_X11_run_0_L150 N k140 n) y1 y3 y4 σ) else (fd_gd (vp_in y4 480) (if (2 : Int32) ≤ (σ.2.1 12 y4.toNatClampNeg) then (f_X11_run_0_J200 N k140 (f_X11_run_0_L150 N k140 n) y1 y3 y4 σ) else (fd_gd (vp_in y3 480) (fd_gd (vp_in y4 480) (if (σ.2.1 13 y3.toNatClampNeg) = (σ.2.1 13 y4.toNatClampNeg) then (f_X11_run_0_J200 N k140 (f_X11_run_0_L150 N k140 n) y1 y3 y4 σ) else (fd_bd (f_X11_tryPair_0 N y3 y4 σ) (fun _ σ30 => f_X11_run_0_J200 N k140 (f_X11_run_0_L150 N k140 n) y1 y3 y4 σ30)))))))))
noncomputable def f_X11_run_0_L140 (N : Nat) : Nat → Int32 → Int32 → fd_St → Option (Int32 × fd_St)
  | 0 => fun _ _ _ => none
  | n + 1 => fun y1 y3 σ => if y1 ≤ y3 then (fd_lt (fd_sI 6 (1 : Int32) σ) (fun σ16 => some (σ16.1 7, σ16))) else (fd_lt (y3 + (1 : Int32)) (fun x17 => f_X11_run_0_L150 N (f_X11_run_0_L140 N n) N y1 y3 x17 σ))
noncomputable def f_X11_run_0_J138 (N : Nat) (y1 : Int32) (σ : fd_St) : Option (Int32 × fd_St) := f_X11_run_0_L140 N N y1 (0 : Int32) σ
noncomputable def f_X11_run_0_J131 (N : Nat) (k100 : Int32 → Int32 → fd_St → Option (Int32 × fd_St)) (y1 : Int32) (z0 : Int32) (σ : fd_St) : Option (Int32 × fd_St) := fd_lt (y1 + (1 : Int32)) (fun x36 => k100 x36 z0 σ)
noncomputable def f_X11_run_0_L100 (N : Nat) : Nat → Int32 → Int32 → fd_St → Option (Int32 × fd_St)
  | 0 => fun _ _ _ => none
  | n + 1 => fun y1 y2 σ => if (σ.1 7) ≤ y1 then (f_X11_run_0_J138 N y1 σ) else (if (12 : Int32) ≤ y2 then (f_X11_run_0_J138 N y1 σ) else (fd_gd (vp_in y1 480) (if (2 : Int32) ≤ (σ.2.1 12 y1.toNatClampNeg) then (f_X11_run_0_J131 N (f_X11_run_0_L100 N n) y1 y2 σ) else (f_X11_run_0_J131 N (f_X11_run_0_L100 N n) y1 (y2 + (1 : Int32)) σ))))
noncomputable def f_X11_run_0_L77 (N : Nat) : Nat → Int32 → fd_St → Option (Int32 × fd_St)
  | 0 => fun _ _ => none
  | n + 1 => fun y1 σ => if (6 : Int32) ≤ y1 then (f_X11_run_0_L100 N N (0 : Int32) (0 : Int32) σ) else (fd_gd (vp_in y1 6) (fd_lt (fd_sA 18 y1 (0 : Int32) σ) (fun σ38 => fd_lt (y1 + (1 : Int32)) (fun x39 => (f_X11_run_0_L77 N n) x39 σ38))))
noncomputable def f_X11_run_0_J40 (N : Nat) (k16 : Int32 → fd_St → Option (Int32 × fd_St)) (k23 : Int32 → Int32 → fd_St → Option (Int32 × fd_St)) (y1 : Int32) (y2 : Int32) (z0 : Int32) (z1 : Int32) (σ : fd_St) : Option (Int32 × fd_St) := if z1 ≤ z0 then (fd_lt (y1 + (1 : Int32)) (fun x42 => k16 x42 σ)) else (fd_bd (f_X11_enter_0 N y1 y2 σ) (fun _ σ45 => fd_lt (y2 + (1 : Int32)) (fun x48 => k23 y1 x48 σ45)))
noncomputable def f_X11_run_0_L23 (N : Nat) (k16 : Int32 → fd_St → Option (Int32 × fd_St)) : Nat → Int32 → Int32 → fd_St → Option (Int32 × fd_St)
  | 0 => fun _ _ _ => none
  | n + 1 => fun y1 y2 σ => if (2 : Int32) ≤ y1 then (f_X11_run_0_J40 N k16 (f_X11_run_0_L23 N k16 n) y1 y2 y2 (σ.1 5) σ) else (f_X11_run_0_J40 N k16 (f_X11_run_0_L23 N k16 n) y1 y2 y2 (σ.1 1) σ)
noncomputable def f_X11_run_0_L16 (N : Nat) : Nat → Int32 → fd_St → Option (Int32 × fd_St)
  | 0 => fun _ _ => none
  | n + 1 => fun y1 σ => if (4 : Int32) ≤ y1 then (fd_gd (vp_in (0 : Int32) 6) (fd_lt (fd_sA 18 (0 : Int32) (-1 : Int32) σ) (fun σ10 => fd_gd (vp_in (1 : Int32) 6) (fd_lt (fd_sA 18 (1 : Int32) (-1 : Int32) σ10) (fun σ12 => f_X11_run_0_L77 N N (2 : Int32) σ12))))) else (f_X11_run_0_L23 N (f_X11_run_0_L16 N n) N y1 (0 : Int32) σ)
noncomputable def f_X11_run_0 (N : Nat) (σ : fd_St) : Option (Int32 × fd_St) := fd_lt (fd_sI 0 (0 : Int32) σ) (fun σ1 => fd_bd (f_X11_workPlain_0 N σ1) (fun _ σ4 => fd_lt (fd_sI 7 (0 : Int32) σ4) (fun σ7 => f_X11_run_0_L16 N N (0 : Int32) σ7)))
set_option maxHeartbeats 4000000 in
set_option maxRecDepth 100000 in
theorem m_X11_run_0 (l : Launch) (D : va_G) (a : Nat → Nat) (k : Nat → ClassId) (sz : Nat) (hI : fd_I 29 a) (N : Nat) (σ : fd_St) (r : Int32 × fd_St) (hf : f_X11_run_0 N σ = some r) : Met l yX11_run wsX11_run ({ frames := 5, cells := 0, slots := 0, locals := 125 }) (va_Pc [.ref (a 0)] (fd_PM D a k sz σ)) (va_Qi (fun v u => (v, u) = r) (fd_BM D a k) (fd_A 29 a sz)) 0 0 (fd_A 29 a sz) := by
  refine Met.ofW (cc := cX11_run) (maxL := 5) (ret := (some .int)) (by decide) rfl ?_
  intro p e s m args below meth c s₁ B hml hv
  obtain ⟨rfl, hsz, hP, hK⟩ := hv
  have hx := B.exec
  have hb := B.bytes
  have hr := B.returns
  have hts := atoms_spec (ws := wsX11_run) B.pre
  have hown : s.vm.findClass RX11 = some m.cls := findClass_of_methodNamed B.named
  have hlocks := B.notSynchronized
  subst hsz
  have hJ : ∀ i, i < 29 → fd_A 29 a s.heap.size (a i) := fun i hi => Or.inl ⟨i, hi, rfl⟩
  have hS : va_S (fd_A 29 a s.heap.size) s.heap s.heap [] := va_S.rf
  have hl := lv_entry ([.ref (a 0)]) (n := 5) (Nat.le_of_ble_eq_true rfl)
  rw [lg_entry_eq]
  generalize (lg_sl ([.ref (a 0)]) ++ List.replicate (5 - (lg_sl ([.ref (a 0)])).length) Slot.unset).toArray = ls at hl ⊢
  have hl : lv_has ls 5 [(0, .ref (a 0))] := hl
  have h9X11 : ∀ w ∈ u_ws RX11 TX11 43, w ∈ wsX11_run := fd_su [72, 73, 74, 75, 76, 77, 78, 79, 80, 81, 82, 83, 84, 85, 86, 87, 88, 89, 90, 91, 92, 93, 94, 95, 96, 97, 98, 99, 100, 101, 102, 103, 104, 105, 106, 107, 108, 109, 110, 111, 112, 113, 114] (by eq_refl)
  have hL200 : ∀ (k140 : Int32 → Int32 → fd_St → Option (Int32 × fd_St)) (hk140 : ∀ (y1 : Int32) (y3 : Int32) (σ : fd_St) (H : Heap) (locs : List Loc) (ls : Array Slot), va_P D vwCl (fd_WM a k σ) H → va_S (fd_A 29 a s.heap.size) s.heap H locs → lv_has ls 5 [(0, .ref (a 0)), (1, .int y1), (3, .int y3)] → k140 y1 y3 σ = some r → W p l e ((headSpec wsX11_run ({ frames := 5, cells := 0, slots := 0, locals := 125 })).room) s m ([.ref (a 0)].toArray) below meth c H locs 0 0 (MQ below (va_Qi (fun v u => (v, u) = r) (fd_BM D a k) (fd_A 29 a s.heap.size)) ([.ref (a 0)].toArray) s 0 0 (fd_A 29 a s.heap.size)) (F0 m 140 ls [])) (k150 : Int32 → Int32 → Int32 → fd_St → Option (Int32 × fd_St)) (hk150 : ∀ (y1 : Int32) (y3 : Int32) (y4 : Int32) (σ : fd_St) (H : Heap) (locs : List Loc) (ls : Array Slot), va_P D vwCl (fd_WM a k σ) H → va_S (fd_A 29 a s.heap.size) s.heap H locs → lv_has ls 5 [(0, .ref (a 0)), (1, .int y1), (3, .int y3), (4, .int y4)] → k150 y1 y3 y4 σ = some r → W p l e ((headSpec wsX11_run ({ frames := 5, cells := 0, slots := 0, locals := 125 })).room) s m ([.ref (a 0)].toArray) below meth c H locs 0 0 (MQ below (va_Qi (fun v u => (v, u) = r) (fd_BM D a k) (fd_A 29 a s.heap.size)) ([.ref (a 0)].toArray) s 0 0 (fd_A 29 a s.heap.size)) (F0 m 150 ls [])), ∀ (y1 : Int32) (y3 : Int32) (y4 : Int32) (σ : fd_St) (H : Heap) (locs : List Loc) (ls : Array Slot), va_P D vwCl (fd_WM a k σ) H → va_S (fd_A 29 a s.heap.size) s.heap H locs → lv_has ls 5 [(0, .ref (a 0)), (1, .int y1), (3, .int y3), (4, .int y4)] → f_X11_run_0_J200 N k140 k150 y1 y3 y4 σ = some r → W p l e ((headSpec wsX11_run ({ frames := 5, cells := 0, slots := 0, locals := 125 })).room) s m ([.ref (a 0)].toArray) below meth c H locs 0 0 (MQ below (va_Qi (fun v u => (v, u) = r) (fd_BM D a k) (fd_A 29 a s.heap.size)) ([.ref (a 0)].toArray) s 0 0 (fd_A 29 a s.heap.size)) (F0 m 200 ls []) := by
    intro k140 hk140 k150 hk150 y1 y3 y4 σ H locs ls hP hS hl hf
    unfold f_X11_run_0_J200 at hf
    obtain ⟨x22, ex22, hf⟩ := fd_lts hf
    refine lv_iinc (v := x22) (lv' := [(4, .int x22), (0, .ref (a 0)), (1, .int y1), (3, .int y3)]) hx hb dX11_run_200 hl (k := 3) rfl (by rw [ex22]; rfl) (by decide) rfl (fun ls hl => ?_)
    refine lv_goto (tgt := 150) hx hb dX11_run_203 (by decide) ?_
    exact hk150 y1 y3 x22 σ _ _ _ hP hS (lv_sub hl [1, 2, 3, 0] rfl) hf
  have hL150 : ∀ (k140 : Int32 → Int32 → fd_St → Option (Int32 × fd_St)) (hk140 : ∀ (y1 : Int32) (y3 : Int32) (σ : fd_St) (H : Heap) (locs : List Loc) (ls : Array Slot), va_P D vwCl (fd_WM a k σ) H → va_S (fd_A 29 a s.heap.size) s.heap H locs → lv_has ls 5 [(0, .ref (a 0)), (1, .int y1), (3, .int y3)] → k140 y1 y3 σ = some r → W p l e ((headSpec wsX11_run ({ frames := 5, cells := 0, slots := 0, locals := 125 })).room) s m ([.ref (a 0)].toArray) below meth c H locs 0 0 (MQ below (va_Qi (fun v u => (v, u) = r) (fd_BM D a k) (fd_A 29 a s.heap.size)) ([.ref (a 0)].toArray) s 0 0 (fd_A 29 a s.heap.size)) (F0 m 140 ls [])) (n : Nat), ∀ (y1 : Int32) (y3 : Int32) (y4 : Int32) (σ : fd_St) (H : Heap) (locs : List Loc) (ls : Array Slot), va_P D vwCl (fd_WM a k σ) H → va_S (fd_A 29 a s.heap.size) s.heap H locs → lv_has ls 5 [(0, .ref (a 0)), (1, .int y1), (3, .int y3), (4, .int y4)] → f_X11_run_0_L150 N k140 n y1 y3 y4 σ = some r → W p l e ((headSpec wsX11_run ({ frames := 5, cells := 0, slots := 0, locals := 125 })).room) s m ([.ref (a 0)].toArray) below meth c H locs 0 0 (MQ below (va_Qi (fun v u => (v, u) = r) (fd_BM D a k) (fd_A 29 a s.heap.size)) ([.ref (a 0)].toArray) s 0 0 (fd_A 29 a s.heap.size)) (F0 m 150 ls []) := by
    intro k140 hk140 n
    induction n with
    | zero =>
      intro _ _ _ _ _ _ _ _ _ _ hf
      cases hf
    | succ n ih =>
      intro y1 y3 y4 σ H locs ls hP hS hl hf
      unfold f_X11_run_0_L150 at hf
      refine lv_iload hx hb dX11_run_150 (lv_at hl 3 rfl) ?_
      refine lv_iload_n hx hb dX11_run_152 rfl (lv_at hl 1 rfl) ?_
      refine lv_icmp_ge (tgt := 206) hx hb dX11_run_153 (by decide) (fun c18 => ?_) (fun c18 => ?_)
      · have hf := fd_itp c18 hf
        obtain ⟨x19, ex19, hf⟩ := fd_lts hf
        refine lv_iinc (v := x19) (lv' := [(3, .int x19), (0, .ref (a 0)), (1, .int y1), (4, .int y4)]) hx hb dX11_run_206 hl (k := 2) rfl (by rw [ex19]; rfl) (by decide) rfl (fun ls hl => ?_)
        refine lv_goto (tgt := 140) hx hb dX11_run_209 (by decide) ?_
        exact hk140 y1 x19 σ _ _ _ hP hS (lv_sub hl [1, 2, 0] rfl) hf
      · have hf := fd_itn c18 hf
        refine lv_aload_n hx hb dX11_run_156 rfl (lv_at hl 0 rfl) ?_
        refine va_get (ci := 11) (v := .ref (a 12)) (C := RX11) (T := TX11) (N := 43) hx hb hts h9X11 hown hK hP 0 fd_WM_0 rfl 19 (by decide) (hts (.fieldLink RX11 45 "FailDiagnoseModel" "suspectKind" "[I") (List.mem_of_getElem? (i := 6) (by eq_refl))) (fun _ h9 => h9) rfl dX11_run_157 ?_
        refine lv_iload_n hx hb dX11_run_160 rfl (lv_at hl 2 rfl) ?_
        obtain ⟨g20, hf⟩ := fd_gds hf
        refine va_iald hx hb hK hP 12 11 fd_WM_12 fd_tyM_12 g20 dX11_run_161 ?_
        refine lv_iconst (v := (2 : Int32)) hx hb dX11_run_162 (by decide) ?_
        refine lv_icmp_ge (tgt := 200) hx hb dX11_run_163 (by decide) (fun c21 => ?_) (fun c21 => ?_)
        · have hf := fd_itp c21 hf
          exact hL200 k140 hk140 (f_X11_run_0_L150 N k140 n) ih y1 y3 y4 σ _ _ _ hP hS (lv_sub hl [0, 1, 2, 3] rfl) hf
        · have hf := fd_itn c21 hf
          refine lv_aload_n hx hb dX11_run_166 rfl (lv_at hl 0 rfl) ?_
          refine va_get (ci := 11) (v := .ref (a 12)) (C := RX11) (T := TX11) (N := 43) hx hb hts h9X11 hown hK hP 0 fd_WM_0 rfl 19 (by decide) (hts (.fieldLink RX11 45 "FailDiagnoseModel" "suspectKind" "[I") (List.mem_of_getElem? (i := 6) (by eq_refl))) (fun _ h9 => h9) rfl dX11_run_167 ?_
          refine lv_iload hx hb dX11_run_170 (lv_at hl 3 rfl) ?_
          obtain ⟨g23, hf⟩ := fd_gds hf
          refine va_iald hx hb hK hP 12 11 fd_WM_12 fd_tyM_12 g23 dX11_run_172 ?_
          refine lv_iconst (v := (2 : Int32)) hx hb dX11_run_173 (by decide) ?_
          refine lv_icmp_ge (tgt := 200) hx hb dX11_run_174 (by decide) (fun c24 => ?_) (fun c24 => ?_)
          · have hf := fd_itp c24 hf
            exact hL200 k140 hk140 (f_X11_run_0_L150 N k140 n) ih y1 y3 y4 σ _ _ _ hP hS (lv_sub hl [0, 1, 2, 3] rfl) hf
          · have hf := fd_itn c24 hf
            refine lv_aload_n hx hb dX11_run_177 rfl (lv_at hl 0 rfl) ?_
            refine va_get (ci := 11) (v := .ref (a 13)) (C := RX11) (T := TX11) (N := 43) hx hb hts h9X11 hown hK hP 0 fd_WM_0 rfl 20 (by decide) (hts (.fieldLink RX11 48 "FailDiagnoseModel" "suspectOf" "[I") (List.mem_of_getElem? (i := 7) (by eq_refl))) (fun _ h9 => h9) rfl dX11_run_178 ?_
            refine lv_iload_n hx hb dX11_run_181 rfl (lv_at hl 2 rfl) ?_
            obtain ⟨g25, hf⟩ := fd_gds hf
            refine va_iald hx hb hK hP 13 12 fd_WM_13 fd_tyM_13 g25 dX11_run_182 ?_
            refine lv_aload_n hx hb dX11_run_183 rfl (lv_at hl 0 rfl) ?_
            refine va_get (ci := 11) (v := .ref (a 13)) (C := RX11) (T := TX11) (N := 43) hx hb hts h9X11 hown hK hP 0 fd_WM_0 rfl 20 (by decide) (hts (.fieldLink RX11 48 "FailDiagnoseModel" "suspectOf" "[I") (List.mem_of_getElem? (i := 7) (by eq_refl))) (fun _ h9 => h9) rfl dX11_run_184 ?_
            refine lv_iload hx hb dX11_run_187 (lv_at hl 3 rfl) ?_
            obtain ⟨g26, hf⟩ := fd_gds hf
            refine va_iald hx hb hK hP 13 12 fd_WM_13 fd_tyM_13 g26 dX11_run_189 ?_
            refine lv_icmp_eq (tgt := 200) hx hb dX11_run_190 (by decide) (fun c27 => ?_) (fun c27 => ?_)
            · have hf := fd_itp c27 hf
              exact hL200 k140 hk140 (f_X11_run_0_L150 N k140 n) ih y1 y3 y4 σ _ _ _ hP hS (lv_sub hl [0, 1, 2, 3] rfl) hf
            · have hf := fd_itn c27 hf
              refine lv_aload_n hx hb dX11_run_193 rfl (lv_at hl 0 rfl) ?_
              refine lv_iload_n hx hb dX11_run_194 rfl (lv_at hl 2 rfl) ?_
              refine lv_iload hx hb dX11_run_195 (lv_at hl 3 rfl) ?_
              obtain ⟨w31, τ32, hc28, hf⟩ := fd_bds hf
              refine va_callv (va_runV (As := [.int y3, .int y4]) (rest := []) ⟨hx, hb, hml, hown, hts⟩ (m_X11_tryPair_0 l D a k H.size hI N y3 y4 σ _ hc28) (cwV 2 hts gX11_run_X11_tryPair rfl rfl rfl (by decide +kernel) ⟨Nat.le_of_ble_eq_true rfl, Nat.le_of_ble_eq_true rfl⟩) ⟨fd_blM, va_recv hK hP (ci := 11) (q0 := 0) rfl fd_WM_0, fd_prM hP hK⟩ rfl rfl hl.1 rfl (lv_room (Nat.le_of_ble_eq_true rfl)) dX11_run_197 ⟨Nat.zero_le _, Nat.zero_le _⟩) hS (fun q _ h => fd_A_mono hS.1 h) (fun q h => fd_A_mono hS.1 h) (fun u t H1 locs ht hvm hw hB hz hk hS => ?_)
              obtain ⟨hP1, hK1⟩ := hB
              rw [ht] at hP1
              have e2 := (Prod.mk.inj hw).2
              subst e2
              obtain ⟨σ30, rfl⟩ : ∃ z, z = u := ⟨_, rfl⟩
              have hP := hP1
              generalize H1 = H at hP hS ⊢
              exact hL200 k140 hk140 (f_X11_run_0_L150 N k140 n) ih y1 y3 y4 σ30 _ _ _ hP hS (lv_sub hl [0, 1, 2, 3] rfl) hf
  have hL140 : ∀ (n : Nat), ∀ (y1 : Int32) (y3 : Int32) (σ : fd_St) (H : Heap) (locs : List Loc) (ls : Array Slot), va_P D vwCl (fd_WM a k σ) H → va_S (fd_A 29 a s.heap.size) s.heap H locs → lv_has ls 5 [(0, .ref (a 0)), (1, .int y1), (3, .int y3)] → f_X11_run_0_L140 N n y1 y3 σ = some r → W p l e ((headSpec wsX11_run ({ frames := 5, cells := 0, slots := 0, locals := 125 })).room) s m ([.ref (a 0)].toArray) below meth c H locs 0 0 (MQ below (va_Qi (fun v u => (v, u) = r) (fd_BM D a k) (fd_A 29 a s.heap.size)) ([.ref (a 0)].toArray) s 0 0 (fd_A 29 a s.heap.size)) (F0 m 140 ls []) := by
    intro n
    induction n with
    | zero =>
      intro _ _ _ _ _ _ _ _ _ hf
      cases hf
    | succ n ih =>
      intro y1 y3 σ H locs ls hP hS hl hf
      unfold f_X11_run_0_L140 at hf
      refine lv_iload_n hx hb dX11_run_140 rfl (lv_at hl 2 rfl) ?_
      refine lv_iload_n hx hb dX11_run_141 rfl (lv_at hl 1 rfl) ?_
      refine lv_icmp_ge (tgt := 212) hx hb dX11_run_142 (by decide) (fun c15 => ?_) (fun c15 => ?_)
      · have hf := fd_itp c15 hf
        refine lv_aload_n hx hb dX11_run_212 rfl (lv_at hl 0 rfl) ?_
        refine lv_iconst (v := (1 : Int32)) hx hb dX11_run_213 (by decide) ?_
        obtain ⟨σ16, eσ16, hf⟩ := fd_lts hf
        refine va_put (ci := 11) (v := .int (1 : Int32)) (ty := .boolean) (C := RX11) (T := TX11) (N := 43) hx hb hts h9X11 tyX11 tyX11_ok nmX11 hown hK hP (fd_DM hI hJ) hS 0 fd_WM_0 rfl 17 (by decide) (hts (.fieldLink RX11 103 "FailDiagnoseModel" "told" "Z") (List.mem_of_getElem? (i := 8) (by eq_refl))) (fun _ h9 => h9) rfl (by decide +kernel) rfl rfl (Nat.le_of_ble_eq_true rfl) dX11_run_214 (fun H locs hP _ hS => ?_)
        have hP : va_P D vwCl (fd_WM a k σ16) H := by rw [eσ16]; exact fd_sP fd_WMi_6 hP
        refine lv_aload_n hx hb dX11_run_217 rfl (lv_at hl 0 rfl) ?_
        refine va_get (ci := 11) (v := .int (σ16.1 7)) (C := RX11) (T := TX11) (N := 43) hx hb hts h9X11 hown hK hP 0 fd_WM_0 rfl 18 (by decide) (hts (.fieldLink RX11 107 "FailDiagnoseModel" "suspects" "I") (List.mem_of_getElem? (i := 2) (by eq_refl))) (fun _ h9 => h9) rfl dX11_run_218 ?_
        exact W.iret (v := (σ16.1 7)) hx hb hr (fun t ht hW => ⟨⟨σ16.1 7, σ16, rfl, Option.some.inj hf, by rw [ht]; exact hP, va_K.moved hW.alike hK⟩, hS.F ht⟩) hS.2.2 dX11_run_221
      · have hf := fd_itn c15 hf
        refine lv_iload_n hx hb dX11_run_145 rfl (lv_at hl 2 rfl) ?_
        refine lv_iconst (v := (1 : Int32)) hx hb dX11_run_146 (by decide) ?_
        refine lv_iadd hx hb dX11_run_147 ?_
        obtain ⟨x17, ex17, hf⟩ := fd_lts hf
        refine fd_ni ex17 ?_
        refine lv_istore (lv' := [(4, .int x17), (0, .ref (a 0)), (1, .int y1), (3, .int y3)]) hx hb dX11_run_148 hl (by decide) rfl (fun ls hl => ?_)
        exact hL150 (f_X11_run_0_L140 N n) ih N y1 y3 x17 σ _ _ _ hP hS (lv_sub hl [1, 2, 3, 0] rfl) hf
  have hL138 : ∀ (y1 : Int32) (σ : fd_St) (H : Heap) (locs : List Loc) (ls : Array Slot), va_P D vwCl (fd_WM a k σ) H → va_S (fd_A 29 a s.heap.size) s.heap H locs → lv_has ls 5 [(0, .ref (a 0)), (1, .int y1)] → f_X11_run_0_J138 N y1 σ = some r → W p l e ((headSpec wsX11_run ({ frames := 5, cells := 0, slots := 0, locals := 125 })).room) s m ([.ref (a 0)].toArray) below meth c H locs 0 0 (MQ below (va_Qi (fun v u => (v, u) = r) (fd_BM D a k) (fd_A 29 a s.heap.size)) ([.ref (a 0)].toArray) s 0 0 (fd_A 29 a s.heap.size)) (F0 m 138 ls []) := by
    intro y1 σ H locs ls hP hS hl hf
    unfold f_X11_run_0_J138 at hf
    refine lv_iconst (v := (0 : Int32)) hx hb dX11_run_138 (by decide) ?_
    refine lv_istore_n (lv' := [(3, .int (0 : Int32)), (0, .ref (a 0)), (1, .int y1)]) hx hb dX11_run_139 rfl hl (by decide) rfl (fun ls hl => ?_)
    exact hL140 N y1 (0 : Int32) σ _ _ _ hP hS (lv_sub hl [1, 2, 0] rfl) hf
  have hL131 : ∀ (k100 : Int32 → Int32 → fd_St → Option (Int32 × fd_St)) (hk100 : ∀ (y1 : Int32) (y2 : Int32) (σ : fd_St) (H : Heap) (locs : List Loc) (ls : Array Slot), va_P D vwCl (fd_WM a k σ) H → va_S (fd_A 29 a s.heap.size) s.heap H locs → lv_has ls 5 [(0, .ref (a 0)), (1, .int y1), (2, .int y2)] → k100 y1 y2 σ = some r → W p l e ((headSpec wsX11_run ({ frames := 5, cells := 0, slots := 0, locals := 125 })).room) s m ([.ref (a 0)].toArray) below meth c H locs 0 0 (MQ below (va_Qi (fun v u => (v, u) = r) (fd_BM D a k) (fd_A 29 a s.heap.size)) ([.ref (a 0)].toArray) s 0 0 (fd_A 29 a s.heap.size)) (F0 m 100 ls [])), ∀ (y1 : Int32) (z0 : Int32) (σ : fd_St) (H : Heap) (locs : List Loc) (ls : Array Slot), va_P D vwCl (fd_WM a k σ) H → va_S (fd_A 29 a s.heap.size) s.heap H locs → lv_has ls 5 [(0, .ref (a 0)), (1, .int y1)] → f_X11_run_0_J131 N k100 y1 z0 σ = some r → W p l e ((headSpec wsX11_run ({ frames := 5, cells := 0, slots := 0, locals := 125 })).room) s m ([.ref (a 0)].toArray) below meth c H locs 0 0 (MQ below (va_Qi (fun v u => (v, u) = r) (fd_BM D a k) (fd_A 29 a s.heap.size)) ([.ref (a 0)].toArray) s 0 0 (fd_A 29 a s.heap.size)) (F0 m 131 ls [.int z0]) := by
    intro k100 hk100 y1 z0 σ H locs ls hP hS hl hf
    unfold f_X11_run_0_J131 at hf
    refine lv_istore_n (lv' := [(2, .int z0), (0, .ref (a 0)), (1, .int y1)]) hx hb dX11_run_131 rfl hl (by decide) rfl (fun ls hl => ?_)
    obtain ⟨x36, ex36, hf⟩ := fd_lts hf
    refine lv_iinc (v := x36) (lv' := [(1, .int x36), (2, .int z0), (0, .ref (a 0))]) hx hb dX11_run_132 hl (k := 2) rfl (by rw [ex36]; rfl) (by decide) rfl (fun ls hl => ?_)
    refine lv_goto (tgt := 100) hx hb dX11_run_135 (by decide) ?_
    exact hk100 x36 z0 σ _ _ _ hP hS (lv_sub hl [2, 0, 1] rfl) hf
  have hL100 : ∀ (n : Nat), ∀ (y1 : Int32) (y2 : Int32) (σ : fd_St) (H : Heap) (locs : List Loc) (ls : Array Slot), va_P D vwCl (fd_WM a k σ) H → va_S (fd_A 29 a s.heap.size) s.heap H locs → lv_has ls 5 [(0, .ref (a 0)), (1, .int y1), (2, .int y2)] → f_X11_run_0_L100 N n y1 y2 σ = some r → W p l e ((headSpec wsX11_run ({ frames := 5, cells := 0, slots := 0, locals := 125 })).room) s m ([.ref (a 0)].toArray) below meth c H locs 0 0 (MQ below (va_Qi (fun v u => (v, u) = r) (fd_BM D a k) (fd_A 29 a s.heap.size)) ([.ref (a 0)].toArray) s 0 0 (fd_A 29 a s.heap.size)) (F0 m 100 ls []) := by
    intro n
    induction n with
    | zero =>
      intro _ _ _ _ _ _ _ _ _ hf
      cases hf
    | succ n ih =>
      intro y1 y2 σ H locs ls hP hS hl hf
      unfold f_X11_run_0_L100 at hf
      refine lv_iload_n hx hb dX11_run_100 rfl (lv_at hl 1 rfl) ?_
      refine lv_aload_n hx hb dX11_run_101 rfl (lv_at hl 0 rfl) ?_
      refine va_get (ci := 11) (v := .int (σ.1 7)) (C := RX11) (T := TX11) (N := 43) hx hb hts h9X11 hown hK hP 0 fd_WM_0 rfl 18 (by decide) (hts (.fieldLink RX11 107 "FailDiagnoseModel" "suspects" "I") (List.mem_of_getElem? (i := 2) (by eq_refl))) (fun _ h9 => h9) rfl dX11_run_102 ?_
      refine lv_icmp_ge (tgt := 138) hx hb dX11_run_105 (by decide) (fun c14 => ?_) (fun c14 => ?_)
      · have hf := fd_itp c14 hf
        exact hL138 y1 σ _ _ _ hP hS (lv_sub hl [0, 1] rfl) hf
      · have hf := fd_itn c14 hf
        refine lv_iload_n hx hb dX11_run_108 rfl (lv_at hl 2 rfl) ?_
        refine lv_bipush (v := (12 : Int32)) hx hb dX11_run_109 (by decide) ?_
        refine lv_icmp_ge (tgt := 138) hx hb dX11_run_111 (by decide) (fun c33 => ?_) (fun c33 => ?_)
        · have hf := fd_itp c33 hf
          exact hL138 y1 σ _ _ _ hP hS (lv_sub hl [0, 1] rfl) hf
        · have hf := fd_itn c33 hf
          refine lv_aload_n hx hb dX11_run_114 rfl (lv_at hl 0 rfl) ?_
          refine va_get (ci := 11) (v := .ref (a 12)) (C := RX11) (T := TX11) (N := 43) hx hb hts h9X11 hown hK hP 0 fd_WM_0 rfl 19 (by decide) (hts (.fieldLink RX11 45 "FailDiagnoseModel" "suspectKind" "[I") (List.mem_of_getElem? (i := 6) (by eq_refl))) (fun _ h9 => h9) rfl dX11_run_115 ?_
          refine lv_iload_n hx hb dX11_run_118 rfl (lv_at hl 1 rfl) ?_
          obtain ⟨g34, hf⟩ := fd_gds hf
          refine va_iald hx hb hK hP 12 11 fd_WM_12 fd_tyM_12 g34 dX11_run_119 ?_
          refine lv_iconst (v := (2 : Int32)) hx hb dX11_run_120 (by decide) ?_
          refine lv_icmp_ge (tgt := 130) hx hb dX11_run_121 (by decide) (fun c35 => ?_) (fun c35 => ?_)
          · have hf := fd_itp c35 hf
            refine lv_iload_n hx hb dX11_run_130 rfl (lv_at hl 2 rfl) ?_
            exact hL131 (f_X11_run_0_L100 N n) ih y1 y2 σ _ _ _ hP hS (lv_sub hl [0, 1] rfl) hf
          · have hf := fd_itn c35 hf
            refine lv_iload_n hx hb dX11_run_124 rfl (lv_at hl 2 rfl) ?_
            refine lv_iconst (v := (1 : Int32)) hx hb dX11_run_125 (by decide) ?_
            refine lv_iadd hx hb dX11_run_126 ?_
            refine lv_goto (tgt := 131) hx hb dX11_run_127 (by decide) ?_
            exact hL131 (f_X11_run_0_L100 N n) ih y1 (y2 + (1 : Int32)) σ _ _ _ hP hS (lv_sub hl [0, 1] rfl) hf
  have hL77 : ∀ (n : Nat), ∀ (y1 : Int32) (σ : fd_St) (H : Heap) (locs : List Loc) (ls : Array Slot), va_P D vwCl (fd_WM a k σ) H → va_S (fd_A 29 a s.heap.size) s.heap H locs → lv_has ls 5 [(0, .ref (a 0)), (1, .int y1)] → f_X11_run_0_L77 N n y1 σ = some r → W p l e ((headSpec wsX11_run ({ frames := 5, cells := 0, slots := 0, locals := 125 })).room) s m ([.ref (a 0)].toArray) below meth c H locs 0 0 (MQ below (va_Qi (fun v u => (v, u) = r) (fd_BM D a k) (fd_A 29 a s.heap.size)) ([.ref (a 0)].toArray) s 0 0 (fd_A 29 a s.heap.size)) (F0 m 77 ls []) := by
    intro n
    induction n with
    | zero =>
      intro _ _ _ _ _ _ _ _ hf
      cases hf
    | succ n ih =>
      intro y1 σ H locs ls hP hS hl hf
      unfold f_X11_run_0_L77 at hf
      refine lv_iload_n hx hb dX11_run_77 rfl (lv_at hl 1 rfl) ?_
      refine lv_bipush (v := (6 : Int32)) hx hb dX11_run_78 (by decide) ?_
      refine lv_icmp_ge (tgt := 96) hx hb dX11_run_80 (by decide) (fun c13 => ?_) (fun c13 => ?_)
      · have hf := fd_itp c13 hf
        refine lv_iconst (v := (0 : Int32)) hx hb dX11_run_96 (by decide) ?_
        refine lv_istore_n (lv' := [(1, .int (0 : Int32)), (0, .ref (a 0))]) hx hb dX11_run_97 rfl hl (by decide) rfl (fun ls hl => ?_)
        refine lv_iconst (v := (0 : Int32)) hx hb dX11_run_98 (by decide) ?_
        refine lv_istore_n (lv' := [(2, .int (0 : Int32)), (1, .int (0 : Int32)), (0, .ref (a 0))]) hx hb dX11_run_99 rfl hl (by decide) rfl (fun ls hl => ?_)
        exact hL100 N (0 : Int32) (0 : Int32) σ _ _ _ hP hS (lv_sub hl [2, 1, 0] rfl) hf
      · have hf := fd_itn c13 hf
        refine lv_aload_n hx hb dX11_run_83 rfl (lv_at hl 0 rfl) ?_
        refine va_get (ci := 11) (v := .ref (a 18)) (C := RX11) (T := TX11) (N := 43) hx hb hts h9X11 hown hK hP 0 fd_WM_0 rfl 25 (by decide) (hts (.fieldLink RX11 63 "FailDiagnoseModel" "best" "[I") (List.mem_of_getElem? (i := 5) (by eq_refl))) (fun _ h9 => h9) rfl dX11_run_84 ?_
        refine lv_iload_n hx hb dX11_run_87 rfl (lv_at hl 1 rfl) ?_
        refine lv_iconst (v := (0 : Int32)) hx hb dX11_run_88 (by decide) ?_
        obtain ⟨g37, hf⟩ := fd_gds hf
        obtain ⟨σ38, eσ38, hf⟩ := fd_lts hf
        refine va_iast hx hb hK hP (fd_DM hI hJ) hS 18 17 fd_WM_18 fd_tyM_18 g37 dX11_run_89 (fun H locs hP _ hS => ?_)
        have hP : va_P D vwCl (fd_WM a k σ38) H := by rw [eσ38]; exact fd_sP fd_WMa_18 hP
        obtain ⟨x39, ex39, hf⟩ := fd_lts hf
        refine lv_iinc (v := x39) (lv' := [(1, .int x39), (0, .ref (a 0))]) hx hb dX11_run_90 hl (k := 1) rfl (by rw [ex39]; rfl) (by decide) rfl (fun ls hl => ?_)
        refine lv_goto (tgt := 77) hx hb dX11_run_93 (by decide) ?_
        exact ih x39 σ38 _ _ _ hP hS (lv_sub hl [1, 0] rfl) hf
  have hL40 : ∀ (k16 : Int32 → fd_St → Option (Int32 × fd_St)) (hk16 : ∀ (y1 : Int32) (σ : fd_St) (H : Heap) (locs : List Loc) (ls : Array Slot), va_P D vwCl (fd_WM a k σ) H → va_S (fd_A 29 a s.heap.size) s.heap H locs → lv_has ls 5 [(0, .ref (a 0)), (1, .int y1)] → k16 y1 σ = some r → W p l e ((headSpec wsX11_run ({ frames := 5, cells := 0, slots := 0, locals := 125 })).room) s m ([.ref (a 0)].toArray) below meth c H locs 0 0 (MQ below (va_Qi (fun v u => (v, u) = r) (fd_BM D a k) (fd_A 29 a s.heap.size)) ([.ref (a 0)].toArray) s 0 0 (fd_A 29 a s.heap.size)) (F0 m 16 ls [])) (k23 : Int32 → Int32 → fd_St → Option (Int32 × fd_St)) (hk23 : ∀ (y1 : Int32) (y2 : Int32) (σ : fd_St) (H : Heap) (locs : List Loc) (ls : Array Slot), va_P D vwCl (fd_WM a k σ) H → va_S (fd_A 29 a s.heap.size) s.heap H locs → lv_has ls 5 [(0, .ref (a 0)), (1, .int y1), (2, .int y2)] → k23 y1 y2 σ = some r → W p l e ((headSpec wsX11_run ({ frames := 5, cells := 0, slots := 0, locals := 125 })).room) s m ([.ref (a 0)].toArray) below meth c H locs 0 0 (MQ below (va_Qi (fun v u => (v, u) = r) (fd_BM D a k) (fd_A 29 a s.heap.size)) ([.ref (a 0)].toArray) s 0 0 (fd_A 29 a s.heap.size)) (F0 m 23 ls [])), ∀ (y1 : Int32) (y2 : Int32) (z0 : Int32) (z1 : Int32) (σ : fd_St) (H : Heap) (locs : List Loc) (ls : Array Slot), va_P D vwCl (fd_WM a k σ) H → va_S (fd_A 29 a s.heap.size) s.heap H locs → lv_has ls 5 [(0, .ref (a 0)), (1, .int y1), (2, .int y2)] → f_X11_run_0_J40 N k16 k23 y1 y2 z0 z1 σ = some r → W p l e ((headSpec wsX11_run ({ frames := 5, cells := 0, slots := 0, locals := 125 })).room) s m ([.ref (a 0)].toArray) below meth c H locs 0 0 (MQ below (va_Qi (fun v u => (v, u) = r) (fd_BM D a k) (fd_A 29 a s.heap.size)) ([.ref (a 0)].toArray) s 0 0 (fd_A 29 a s.heap.size)) (F0 m 40 ls [.int z1, .int z0]) := by
    intro k16 hk16 k23 hk23 y1 y2 z0 z1 σ H locs ls hP hS hl hf
    unfold f_X11_run_0_J40 at hf
    refine lv_icmp_ge (tgt := 55) hx hb dX11_run_40 (by decide) (fun c41 => ?_) (fun c41 => ?_)
    · have hf := fd_itp c41 hf
      obtain ⟨x42, ex42, hf⟩ := fd_lts hf
      refine lv_iinc (v := x42) (lv' := [(1, .int x42), (0, .ref (a 0)), (2, .int y2)]) hx hb dX11_run_55 hl (k := 1) rfl (by rw [ex42]; rfl) (by decide) rfl (fun ls hl => ?_)
      refine lv_goto (tgt := 16) hx hb dX11_run_58 (by decide) ?_
      exact hk16 x42 σ _ _ _ hP hS (lv_sub hl [1, 0] rfl) hf
    · have hf := fd_itn c41 hf
      refine lv_aload_n hx hb dX11_run_43 rfl (lv_at hl 0 rfl) ?_
      refine lv_iload_n hx hb dX11_run_44 rfl (lv_at hl 1 rfl) ?_
      refine lv_iload_n hx hb dX11_run_45 rfl (lv_at hl 2 rfl) ?_
      obtain ⟨w46, τ47, hc43, hf⟩ := fd_bds hf
      refine va_callv (va_runV (As := [.int y1, .int y2]) (rest := []) ⟨hx, hb, hml, hown, hts⟩ (m_X11_enter_0 l D a k H.size hI N y1 y2 σ _ hc43) (cwV 2 hts gX11_run_X11_enter rfl rfl rfl (by decide +kernel) ⟨Nat.le_of_ble_eq_true rfl, Nat.le_of_ble_eq_true rfl⟩) ⟨fd_blM, va_recv hK hP (ci := 11) (q0 := 0) rfl fd_WM_0, fd_prM hP hK⟩ rfl rfl hl.1 rfl (lv_room (Nat.le_of_ble_eq_true rfl)) dX11_run_46 ⟨Nat.zero_le _, Nat.zero_le _⟩) hS (fun q _ h => fd_A_mono hS.1 h) (fun q h => fd_A_mono hS.1 h) (fun u t H1 locs ht hvm hw hB hz hk hS => ?_)
      obtain ⟨hP1, hK1⟩ := hB
      rw [ht] at hP1
      have e2 := (Prod.mk.inj hw).2
      subst e2
      obtain ⟨σ45, rfl⟩ : ∃ z, z = u := ⟨_, rfl⟩
      have hP := hP1
      generalize H1 = H at hP hS ⊢
      obtain ⟨x48, ex48, hf⟩ := fd_lts hf
      refine lv_iinc (v := x48) (lv' := [(2, .int x48), (0, .ref (a 0)), (1, .int y1)]) hx hb dX11_run_49 hl (k := 2) rfl (by rw [ex48]; rfl) (by decide) rfl (fun ls hl => ?_)
      refine lv_goto (tgt := 23) hx hb dX11_run_52 (by decide) ?_
      exact hk23 y1 x48 σ45 _ _ _ hP hS (lv_sub hl [1, 2, 0] rfl) hf
  have hL23 : ∀ (k16 : Int32 → fd_St → Option (Int32 × fd_St)) (hk16 : ∀ (y1 : Int32) (σ : fd_St) (H : Heap) (locs : List Loc) (ls : Array Slot), va_P D vwCl (fd_WM a k σ) H → va_S (fd_A 29 a s.heap.size) s.heap H locs → lv_has ls 5 [(0, .ref (a 0)), (1, .int y1)] → k16 y1 σ = some r → W p l e ((headSpec wsX11_run ({ frames := 5, cells := 0, slots := 0, locals := 125 })).room) s m ([.ref (a 0)].toArray) below meth c H locs 0 0 (MQ below (va_Qi (fun v u => (v, u) = r) (fd_BM D a k) (fd_A 29 a s.heap.size)) ([.ref (a 0)].toArray) s 0 0 (fd_A 29 a s.heap.size)) (F0 m 16 ls [])) (n : Nat), ∀ (y1 : Int32) (y2 : Int32) (σ : fd_St) (H : Heap) (locs : List Loc) (ls : Array Slot), va_P D vwCl (fd_WM a k σ) H → va_S (fd_A 29 a s.heap.size) s.heap H locs → lv_has ls 5 [(0, .ref (a 0)), (1, .int y1), (2, .int y2)] → f_X11_run_0_L23 N k16 n y1 y2 σ = some r → W p l e ((headSpec wsX11_run ({ frames := 5, cells := 0, slots := 0, locals := 125 })).room) s m ([.ref (a 0)].toArray) below meth c H locs 0 0 (MQ below (va_Qi (fun v u => (v, u) = r) (fd_BM D a k) (fd_A 29 a s.heap.size)) ([.ref (a 0)].toArray) s 0 0 (fd_A 29 a s.heap.size)) (F0 m 23 ls []) := by
    intro k16 hk16 n
    induction n with
    | zero =>
      intro _ _ _ _ _ _ _ _ _ hf
      cases hf
    | succ n ih =>
      intro y1 y2 σ H locs ls hP hS hl hf
      unfold f_X11_run_0_L23 at hf
      refine lv_iload_n hx hb dX11_run_23 rfl (lv_at hl 2 rfl) ?_
      refine lv_iload_n hx hb dX11_run_24 rfl (lv_at hl 1 rfl) ?_
      refine lv_iconst (v := (2 : Int32)) hx hb dX11_run_25 (by decide) ?_
      refine lv_icmp_ge (tgt := 36) hx hb dX11_run_26 (by decide) (fun c40 => ?_) (fun c40 => ?_)
      · have hf := fd_itp c40 hf
        refine lv_aload_n hx hb dX11_run_36 rfl (lv_at hl 0 rfl) ?_
        refine va_get (ci := 11) (v := .int (σ.1 5)) (C := RX11) (T := TX11) (N := 43) hx hb hts h9X11 hown hK hP 0 fd_WM_0 rfl 11 (by decide) (hts (.fieldLink RX11 150 "FailDiagnoseModel" "pairs" "I") (List.mem_of_getElem? (i := 4) (by eq_refl))) (fun _ h9 => h9) rfl dX11_run_37 ?_
        exact hL40 k16 hk16 (f_X11_run_0_L23 N k16 n) ih y1 y2 y2 (σ.1 5) σ _ _ _ hP hS (lv_sub hl [0, 1, 2] rfl) hf
      · have hf := fd_itn c40 hf
        refine lv_aload_n hx hb dX11_run_29 rfl (lv_at hl 0 rfl) ?_
        refine va_get (ci := 11) (v := .int (σ.1 1)) (C := RX11) (T := TX11) (N := 43) hx hb hts h9X11 hown hK hP 0 fd_WM_0 rfl 1 (by decide) (hts (.fieldLink RX11 113 "FailDiagnoseModel" "nets" "I") (List.mem_of_getElem? (i := 3) (by eq_refl))) (fun _ h9 => h9) rfl dX11_run_30 ?_
        refine lv_goto (tgt := 40) hx hb dX11_run_33 (by decide) ?_
        exact hL40 k16 hk16 (f_X11_run_0_L23 N k16 n) ih y1 y2 y2 (σ.1 1) σ _ _ _ hP hS (lv_sub hl [0, 1, 2] rfl) hf
  have hL16 : ∀ (n : Nat), ∀ (y1 : Int32) (σ : fd_St) (H : Heap) (locs : List Loc) (ls : Array Slot), va_P D vwCl (fd_WM a k σ) H → va_S (fd_A 29 a s.heap.size) s.heap H locs → lv_has ls 5 [(0, .ref (a 0)), (1, .int y1)] → f_X11_run_0_L16 N n y1 σ = some r → W p l e ((headSpec wsX11_run ({ frames := 5, cells := 0, slots := 0, locals := 125 })).room) s m ([.ref (a 0)].toArray) below meth c H locs 0 0 (MQ below (va_Qi (fun v u => (v, u) = r) (fd_BM D a k) (fd_A 29 a s.heap.size)) ([.ref (a 0)].toArray) s 0 0 (fd_A 29 a s.heap.size)) (F0 m 16 ls []) := by
    intro n
    induction n with
    | zero =>
      intro _ _ _ _ _ _ _ _ hf
      cases hf
    | succ n ih =>
      intro y1 σ H locs ls hP hS hl hf
      unfold f_X11_run_0_L16 at hf
      refine lv_iload_n hx hb dX11_run_16 rfl (lv_at hl 1 rfl) ?_
      refine lv_iconst (v := (4 : Int32)) hx hb dX11_run_17 (by decide) ?_
      refine lv_icmp_ge (tgt := 61) hx hb dX11_run_18 (by decide) (fun c8 => ?_) (fun c8 => ?_)
      · have hf := fd_itp c8 hf
        refine lv_aload_n hx hb dX11_run_61 rfl (lv_at hl 0 rfl) ?_
        refine va_get (ci := 11) (v := .ref (a 18)) (C := RX11) (T := TX11) (N := 43) hx hb hts h9X11 hown hK hP 0 fd_WM_0 rfl 25 (by decide) (hts (.fieldLink RX11 63 "FailDiagnoseModel" "best" "[I") (List.mem_of_getElem? (i := 5) (by eq_refl))) (fun _ h9 => h9) rfl dX11_run_62 ?_
        refine lv_iconst (v := (0 : Int32)) hx hb dX11_run_65 (by decide) ?_
        refine lv_iconst (v := (-1 : Int32)) hx hb dX11_run_66 (by decide) ?_
        obtain ⟨g9, hf⟩ := fd_gds hf
        obtain ⟨σ10, eσ10, hf⟩ := fd_lts hf
        refine va_iast hx hb hK hP (fd_DM hI hJ) hS 18 17 fd_WM_18 fd_tyM_18 g9 dX11_run_67 (fun H locs hP _ hS => ?_)
        have hP : va_P D vwCl (fd_WM a k σ10) H := by rw [eσ10]; exact fd_sP fd_WMa_18 hP
        refine lv_aload_n hx hb dX11_run_68 rfl (lv_at hl 0 rfl) ?_
        refine va_get (ci := 11) (v := .ref (a 18)) (C := RX11) (T := TX11) (N := 43) hx hb hts h9X11 hown hK hP 0 fd_WM_0 rfl 25 (by decide) (hts (.fieldLink RX11 63 "FailDiagnoseModel" "best" "[I") (List.mem_of_getElem? (i := 5) (by eq_refl))) (fun _ h9 => h9) rfl dX11_run_69 ?_
        refine lv_iconst (v := (1 : Int32)) hx hb dX11_run_72 (by decide) ?_
        refine lv_iconst (v := (-1 : Int32)) hx hb dX11_run_73 (by decide) ?_
        obtain ⟨g11, hf⟩ := fd_gds hf
        obtain ⟨σ12, eσ12, hf⟩ := fd_lts hf
        refine va_iast hx hb hK hP (fd_DM hI hJ) hS 18 17 fd_WM_18 fd_tyM_18 g11 dX11_run_74 (fun H locs hP _ hS => ?_)
        have hP : va_P D vwCl (fd_WM a k σ12) H := by rw [eσ12]; exact fd_sP fd_WMa_18 hP
        refine lv_iconst (v := (2 : Int32)) hx hb dX11_run_75 (by decide) ?_
        refine lv_istore_n (lv' := [(1, .int (2 : Int32)), (0, .ref (a 0))]) hx hb dX11_run_76 rfl hl (by decide) rfl (fun ls hl => ?_)
        exact hL77 N (2 : Int32) σ12 _ _ _ hP hS (lv_sub hl [1, 0] rfl) hf
      · have hf := fd_itn c8 hf
        refine lv_iconst (v := (0 : Int32)) hx hb dX11_run_21 (by decide) ?_
        refine lv_istore_n (lv' := [(2, .int (0 : Int32)), (0, .ref (a 0)), (1, .int y1)]) hx hb dX11_run_22 rfl hl (by decide) rfl (fun ls hl => ?_)
        exact hL23 (f_X11_run_0_L16 N n) ih N y1 (0 : Int32) σ _ _ _ hP hS (lv_sub hl [1, 2, 0] rfl) hf
  unfold f_X11_run_0 at hf
  refine lv_aload_n hx hb dX11_run_0 rfl (lv_at hl 0 rfl) ?_
  refine lv_iconst (v := (0 : Int32)) hx hb dX11_run_1 (by decide) ?_
  obtain ⟨σ1, eσ1, hf⟩ := fd_lts hf
  refine va_put (ci := 11) (v := .int (0 : Int32)) (ty := .int) (C := RX11) (T := TX11) (N := 43) hx hb hts h9X11 tyX11 tyX11_ok nmX11 hown hK hP (fd_DM hI hJ) hS 0 fd_WM_0 rfl 0 (by decide) (hts (.fieldLink RX11 99 "FailDiagnoseModel" "thrown" "I") (List.mem_of_getElem? (i := 1) (by eq_refl))) (fun _ h9 => h9) rfl (by decide +kernel) rfl rfl (Nat.le_of_ble_eq_true rfl) dX11_run_2 (fun H locs hP _ hS => ?_)
  have hP : va_P D vwCl (fd_WM a k σ1) H := by rw [eσ1]; exact fd_sP fd_WMi_0 hP
  refine lv_aload_n hx hb dX11_run_5 rfl (lv_at hl 0 rfl) ?_
  obtain ⟨w5, τ6, hc2, hf⟩ := fd_bds hf
  refine va_callv (va_runV (As := []) (rest := []) ⟨hx, hb, hml, hown, hts⟩ (m_X11_workPlain_0 l D a k H.size hI N σ1 _ hc2) (cwV 0 hts gX11_run_X11_workPlain rfl rfl rfl (by decide +kernel) ⟨Nat.le_of_ble_eq_true rfl, Nat.le_of_ble_eq_true rfl⟩) ⟨fd_blM, va_recv hK hP (ci := 11) (q0 := 0) rfl fd_WM_0, fd_prM hP hK⟩ rfl rfl hl.1 rfl (lv_room (Nat.le_of_ble_eq_true rfl)) dX11_run_6 ⟨Nat.zero_le _, Nat.zero_le _⟩) hS (fun q _ h => fd_A_mono hS.1 h) (fun q h => fd_A_mono hS.1 h) (fun u t H1 locs ht hvm hw hB hz hk hS => ?_)
  obtain ⟨hP1, hK1⟩ := hB
  rw [ht] at hP1
  have e2 := (Prod.mk.inj hw).2
  subst e2
  obtain ⟨σ4, rfl⟩ : ∃ z, z = u := ⟨_, rfl⟩
  have hP := hP1
  generalize H1 = H at hP hS ⊢
  refine lv_aload_n hx hb dX11_run_9 rfl (lv_at hl 0 rfl) ?_
  refine lv_iconst (v := (0 : Int32)) hx hb dX11_run_10 (by decide) ?_
  obtain ⟨σ7, eσ7, hf⟩ := fd_lts hf
  refine va_put (ci := 11) (v := .int (0 : Int32)) (ty := .int) (C := RX11) (T := TX11) (N := 43) hx hb hts h9X11 tyX11 tyX11_ok nmX11 hown hK hP (fd_DM hI hJ) hS 0 fd_WM_0 rfl 18 (by decide) (hts (.fieldLink RX11 107 "FailDiagnoseModel" "suspects" "I") (List.mem_of_getElem? (i := 2) (by eq_refl))) (fun _ h9 => h9) rfl (by decide +kernel) rfl rfl (Nat.le_of_ble_eq_true rfl) dX11_run_11 (fun H locs hP _ hS => ?_)
  have hP : va_P D vwCl (fd_WM a k σ7) H := by rw [eσ7]; exact fd_sP fd_WMi_7 hP
  refine lv_iconst (v := (0 : Int32)) hx hb dX11_run_14 (by decide) ?_
  refine lv_istore_n (lv' := [(1, .int (0 : Int32)), (0, .ref (a 0))]) hx hb dX11_run_15 rfl hl (by decide) rfl (fun ls hl => ?_)
  exact hL16 N (0 : Int32) σ7 _ _ _ hP hS (lv_sub hl [1, 0] rfl) hf
noncomputable def f_X10_needTold_0 (N : Nat) (σ : fd_St) : Option ((Unit ⊕ String) × fd_St) := if (σ.1 0) = 0 then (some (.inr "java/lang/IllegalStateException", σ)) else (some (.inl (), σ))
set_option maxHeartbeats 4000000 in
set_option maxRecDepth 100000 in
theorem m_X10_needTold_0 (l : Launch) (hl9 : l.stackTraces = false) (D : va_G) (a : Nat → Nat) (k : Nat → ClassId) (sz : Nat) (hI : fd_I 39 a) (N : Nat) (σ : fd_St) (r : (Unit ⊕ String) × fd_St) (hf : f_X10_needTold_0 N σ = some r) : vx_Met l yX10_needTold wsX10_needTold ({ frames := 6, cells := fd_mc r, slots := fd_ms r, locals := 90 }) (va_Pc [.ref (a 0)] (fd_PZ D a k sz σ)) (va_Qv (fun u => (Sum.inl (), u) = r) (fd_BC D a k) (fd_A 39 a sz)) (fd_X D a k (fd_A 39 a sz) r) (fd_mc r) (fd_ms r) (fd_A 39 a sz) := by
  refine vx_ofW (cc := cX10_needTold) (maxL := 1) (ret := none) (by decide) rfl ?_
  intro p e s m args below meth c s₁ B hml hex hv
  obtain ⟨rfl, ⟨hsz, hP, hK⟩, hZ⟩ := hv
  have hx := B.exec
  have hb := B.bytes
  have hr := B.returns
  have hts := atoms_spec (ws := wsX10_needTold) B.pre
  have hown : s.vm.findClass RX10 = some m.cls := findClass_of_methodNamed B.named
  have hlocks := B.notSynchronized
  subst hsz
  have hJ : ∀ i, i < 39 → fd_A 39 a s.heap.size (a i) := fun i hi => Or.inl ⟨i, hi, rfl⟩
  have hS : va_S (fd_A 39 a s.heap.size) s.heap s.heap [] := va_S.rf
  have hl := lv_entry ([.ref (a 0)]) (n := 1) (Nat.le_of_ble_eq_true rfl)
  rw [lg_entry_eq]
  generalize (lg_sl ([.ref (a 0)]) ++ List.replicate (1 - (lg_sl ([.ref (a 0)])).length) Slot.unset).toArray = ls at hl ⊢
  have hl : lv_has ls 1 [(0, .ref (a 0))] := hl
  have h9X10 : ∀ w ∈ u_ws RX10 TX10 8, w ∈ wsX10_needTold := fd_su [4, 5, 6, 7, 8, 9, 10, 11] (by eq_refl)
  unfold f_X10_needTold_0 at hf
  refine lv_aload_n hx hb dX10_needTold_0 rfl (lv_at hl 0 rfl) ?_
  refine va_get (ci := 10) (v := .int (σ.1 0)) (C := RX10) (T := TX10) (N := 8) hx hb hts h9X10 hown hK hP 0 fd_WC_0 rfl 7 (by decide) (hts (.fieldLink RX10 60 "FailDiagnose" "told" "Z") (List.mem_of_getElem? (i := 3) (by eq_refl))) (fun _ h9 => h9) rfl dX10_needTold_1 ?_
  refine lv_if_ne (tgt := 18) hx hb dX10_needTold_4 (by decide) (fun c1 => ?_) (fun c1 => ?_)
  · have hf := fd_itn c1 hf
    refine vx_ret (W.widen (k := fd_mc r) (n := fd_ms r) (Nat.zero_le _) (Nat.zero_le _) ?_)
    exact W.vret hx hb hr (fun t ht hW => ⟨⟨σ, rfl, Option.some.inj hf, by rw [ht]; exact hP, va_K.moved hW.alike hK⟩, hS.F ht⟩) hS.2.2 dX10_needTold_18
  · have hf := fd_itp c1 hf
    have e2 := Option.some.inj hf
    subst e2
    obtain ⟨sa, hsa⟩ := hZ.str 261 "no suspects are told" (by decide +kernel)
    exact vx_throwSW (own := RX10) (cls := "java/lang/IllegalStateException") (names := ["java/lang/RuntimeException", "java/lang/Exception"]) hx hb hl9 hown fd_ex_71_75_f fd_ex_n (hts (.classLink RX10 71 "java/lang/IllegalStateException") (List.mem_of_getElem? (i := 1) (by eq_refl))) (hts (.initialized "java/lang/IllegalStateException") (List.mem_of_getElem? (i := 2) (by eq_refl))) hsa (vx_hat (L := vx_atS RX10 75 "java/lang/IllegalStateException" ["java/lang/RuntimeException", "java/lang/Exception"]) (B := fd_bad "java/lang/IllegalStateException") (fun w hw => hts w ((fun w h => List.mem_cons_of_mem _ (List.mem_append_right _ h) : ∀ w ∈ (vx_atS RX10 75 "java/lang/IllegalStateException" ["java/lang/RuntimeException", "java/lang/Exception"]).filter goodWord, w ∈ wsX10_needTold) w hw)) fd_ex_71_75_b (hZ.bad "java/lang/IllegalStateException" fd_ex_71_75_e)) fd_ex_71_75_g hZ.un hZ.su hS (hl.1.trans hml.symm) dX10_needTold_7 dX10_needTold_10 dX10_needTold_11 dX10_needTold_14 dX10_needTold_17 (fun x hx => (hex x hx).elim) (Nat.le_of_ble_eq_true rfl) (Nat.le_of_ble_eq_true rfl) (Nat.le_of_ble_eq_true rfl) (Nat.le_of_ble_eq_true rfl) hlocks (fun t ha hsz hk => ⟨σ, trivial, ⟨rfl, hP.kept (fun k q hq => hk q.1 (hP k q hq).lt), va_K.moved ha hK⟩, Nat.le_trans hS.1 hsz, fun q h1 h2 => (hk q (Nat.lt_of_lt_of_le h1 hS.1)).trans (hS.2.1 q h1 h2)⟩) hS.2.2 (Nat.le_of_ble_eq_true rfl) (Nat.le_of_ble_eq_true rfl)
noncomputable def f_X3_firstNet_4 (N : Nat) (p1 : Int32) (σ : fd_St) : Option (Int32 × fd_St) := fd_bd (f_X8_number_5 N p1 σ) (fun v2 σ3 => fd_bd (f_X8_isStuck_5 N p1 σ3) (fun v7 σ8 => if v7 = 0 then (fd_bd (f_X4_first_3 N v2 σ8) (fun v13 σ14 => some (v13, σ14))) else (some (v2, σ8))))
set_option maxHeartbeats 4000000 in
set_option maxRecDepth 100000 in
theorem m_X3_firstNet_4 (l : Launch) (D : va_G) (a : Nat → Nat) (k : Nat → ClassId) (sz : Nat) (hI : fd_I 39 a) (N : Nat) (p1 : Int32) (σ : fd_St) (r : Int32 × fd_St) (hf : f_X3_firstNet_4 N p1 σ = some r) : Met l yX3_firstNet wsX3_firstNet ({ frames := 2, cells := 0, slots := 0, locals := 42 }) (va_Pc [.ref (a 4), .int p1] (fd_PC D a k sz σ)) (va_Qi (fun v u => (v, u) = r) (fd_BC D a k) (fd_A 39 a sz)) 0 0 (fd_A 39 a sz) := by
  refine Met.ofW (cc := cX3_firstNet) (maxL := 3) (ret := (some .int)) (by decide) rfl ?_
  intro p e s m args below meth c s₁ B hml hv
  obtain ⟨rfl, hsz, hP, hK⟩ := hv
  have hx := B.exec
  have hb := B.bytes
  have hr := B.returns
  have hts := atoms_spec (ws := wsX3_firstNet) B.pre
  have hown : s.vm.findClass RX3 = some m.cls := findClass_of_methodNamed B.named
  have hlocks := B.notSynchronized
  subst hsz
  have hJ : ∀ i, i < 39 → fd_A 39 a s.heap.size (a i) := fun i hi => Or.inl ⟨i, hi, rfl⟩
  have hS : va_S (fd_A 39 a s.heap.size) s.heap s.heap [] := va_S.rf
  have hl := lv_entry ([.ref (a 4), .int p1]) (n := 3) (Nat.le_of_ble_eq_true rfl)
  rw [lg_entry_eq]
  generalize (lg_sl ([.ref (a 4), .int p1]) ++ List.replicate (3 - (lg_sl ([.ref (a 4), .int p1])).length) Slot.unset).toArray = ls at hl ⊢
  have hl : lv_has ls 3 [(0, .ref (a 4)), (1, .int p1)] := hl
  have h9X3 : ∀ w ∈ u_ws RX3 TX3 7, w ∈ wsX3_firstNet := fd_su [25, 26, 27, 28, 29, 30, 31] (by eq_refl)
  unfold f_X3_firstNet_4 at hf
  refine lv_aload_n hx hb dX3_firstNet_0 rfl (lv_at hl 0 rfl) ?_
  refine va_get (ci := 3) (v := .ref (a 5)) (C := RX3) (T := TX3) (N := 7) hx hb hts h9X3 hown hK hP 4 fd_WC_4 rfl 3 (by decide) (hts (.fieldLink RX3 12 "FailDiagnose$Diagnosis" "suspects" "LFailDiagnose$Suspects;") (List.mem_of_getElem? (i := 1) (by eq_refl))) (fun _ h9 => h9) rfl dX3_firstNet_1 ?_
  refine lv_iload_n hx hb dX3_firstNet_4 rfl (lv_at hl 1 rfl) ?_
  obtain ⟨w4, τ5, hc1, hf⟩ := fd_bds hf
  refine va_calli (va_runV (As := [.int p1]) (rest := []) ⟨hx, hb, hml, hown, hts⟩ (m_X8_number_5 l D a k s.heap.size hI N p1 σ _ hc1) (cwV 1 hts gX3_firstNet_X8_number rfl rfl rfl (by decide +kernel) ⟨Nat.le_of_ble_eq_true rfl, Nat.le_of_ble_eq_true rfl⟩) ⟨fd_blC, va_recv hK hP (ci := 8) (q0 := 5) rfl fd_WC_5, fd_prC hP hK⟩ rfl rfl hl.1 rfl (lv_room (Nat.le_of_ble_eq_true rfl)) dX3_firstNet_5 ⟨Nat.zero_le _, Nat.zero_le _⟩) hS (fun q _ h => fd_A_mono hS.1 h) (fun q h => fd_A_mono hS.1 h) (fun v2 u t H1 locs ht hvm hw hB hz hk hS => ?_)
  obtain ⟨hP1, hK1⟩ := hB
  rw [ht] at hP1
  obtain ⟨e1, e2⟩ := Prod.mk.inj hw
  subst e1
  subst e2
  obtain ⟨σ3, rfl⟩ : ∃ z, z = u := ⟨_, rfl⟩
  have hP := hP1
  generalize H1 = H at hP hS ⊢
  refine lv_istore_n (lv' := [(2, .int v2), (0, .ref (a 4)), (1, .int p1)]) hx hb dX3_firstNet_8 rfl hl (by decide) rfl (fun ls hl => ?_)
  refine lv_aload_n hx hb dX3_firstNet_9 rfl (lv_at hl 1 rfl) ?_
  refine va_get (ci := 3) (v := .ref (a 5)) (C := RX3) (T := TX3) (N := 7) hx hb hts h9X3 hown hK hP 4 fd_WC_4 rfl 3 (by decide) (hts (.fieldLink RX3 12 "FailDiagnose$Diagnosis" "suspects" "LFailDiagnose$Suspects;") (List.mem_of_getElem? (i := 1) (by eq_refl))) (fun _ h9 => h9) rfl dX3_firstNet_10 ?_
  refine lv_iload_n hx hb dX3_firstNet_13 rfl (lv_at hl 2 rfl) ?_
  obtain ⟨w9, τ10, hc6, hf⟩ := fd_bds hf
  refine va_calli (va_runV (As := [.int p1]) (rest := []) ⟨hx, hb, hml, hown, hts⟩ (m_X8_isStuck_5 l D a k H.size hI N p1 σ3 _ hc6) (cwV 1 hts gX3_firstNet_X8_isStuck rfl rfl rfl (by decide +kernel) ⟨Nat.le_of_ble_eq_true rfl, Nat.le_of_ble_eq_true rfl⟩) ⟨fd_blC, va_recv hK hP (ci := 8) (q0 := 5) rfl fd_WC_5, fd_prC hP hK⟩ rfl rfl hl.1 rfl (lv_room (Nat.le_of_ble_eq_true rfl)) dX3_firstNet_14 ⟨Nat.zero_le _, Nat.zero_le _⟩) hS (fun q _ h => fd_A_mono hS.1 h) (fun q h => fd_A_mono hS.1 h) (fun v7 u t H1 locs ht hvm hw hB hz hk hS => ?_)
  obtain ⟨hP1, hK1⟩ := hB
  rw [ht] at hP1
  obtain ⟨e1, e2⟩ := Prod.mk.inj hw
  subst e1
  subst e2
  obtain ⟨σ8, rfl⟩ : ∃ z, z = u := ⟨_, rfl⟩
  have hP := hP1
  generalize H1 = H at hP hS ⊢
  refine lv_if_eq (tgt := 24) hx hb dX3_firstNet_17 (by decide) (fun c11 => ?_) (fun c11 => ?_)
  · have hf := fd_itp c11 hf
    refine lv_aload_n hx hb dX3_firstNet_24 rfl (lv_at hl 1 rfl) ?_
    refine va_get (ci := 3) (v := .ref (a 3)) (C := RX3) (T := TX3) (N := 7) hx hb hts h9X3 hown hK hP 4 fd_WC_4 rfl 2 (by decide) (hts (.fieldLink RX3 44 "FailDiagnose$Diagnosis" "nearPairs" "LFailDiagnose$NearPairs;") (List.mem_of_getElem? (i := 2) (by eq_refl))) (fun _ h9 => h9) rfl dX3_firstNet_25 ?_
    refine lv_iload_n hx hb dX3_firstNet_28 rfl (lv_at hl 0 rfl) ?_
    obtain ⟨w15, τ16, hc12, hf⟩ := fd_bds hf
    refine va_calli (va_runV (As := [.int v2]) (rest := []) ⟨hx, hb, hml, hown, hts⟩ (m_X4_first_3 l D a k H.size hI N v2 σ8 _ hc12) (cwV 1 hts gX3_firstNet_X4_first rfl rfl rfl (by decide +kernel) ⟨Nat.le_of_ble_eq_true rfl, Nat.le_of_ble_eq_true rfl⟩) ⟨fd_blC, va_recv hK hP (ci := 4) (q0 := 3) rfl fd_WC_3, fd_prC hP hK⟩ rfl rfl hl.1 rfl (lv_room (Nat.le_of_ble_eq_true rfl)) dX3_firstNet_29 ⟨Nat.zero_le _, Nat.zero_le _⟩) hS (fun q _ h => fd_A_mono hS.1 h) (fun q h => fd_A_mono hS.1 h) (fun v13 u t H1 locs ht hvm hw hB hz hk hS => ?_)
    obtain ⟨hP1, hK1⟩ := hB
    rw [ht] at hP1
    obtain ⟨e1, e2⟩ := Prod.mk.inj hw
    subst e1
    subst e2
    obtain ⟨σ14, rfl⟩ : ∃ z, z = u := ⟨_, rfl⟩
    have hP := hP1
    generalize H1 = H at hP hS ⊢
    exact W.iret (v := v13) hx hb hr (fun t ht hW => ⟨⟨v13, σ14, rfl, Option.some.inj hf, by rw [ht]; exact hP, va_K.moved hW.alike hK⟩, hS.F ht⟩) hS.2.2 dX3_firstNet_32
  · have hf := fd_itn c11 hf
    refine lv_iload_n hx hb dX3_firstNet_20 rfl (lv_at hl 0 rfl) ?_
    refine lv_goto (tgt := 32) hx hb dX3_firstNet_21 (by decide) ?_
    exact W.iret (v := v2) hx hb hr (fun t ht hW => ⟨⟨v2, σ8, rfl, Option.some.inj hf, by rw [ht]; exact hP, va_K.moved hW.alike hK⟩, hS.F ht⟩) hS.2.2 dX3_firstNet_32
noncomputable def f_X3_secondNet_4 (N : Nat) (p1 : Int32) (σ : fd_St) : Option (Int32 × fd_St) := fd_bd (f_X8_isStuck_5 N p1 σ) (fun v2 σ3 => if v2 = 0 then (fd_bd (f_X8_number_5 N p1 σ3) (fun v8 σ9 => fd_bd (f_X4_second_3 N v8 σ9) (fun v13 σ14 => some (v13, σ14)))) else (some ((-1 : Int32), σ3)))
set_option maxHeartbeats 4000000 in
set_option maxRecDepth 100000 in
theorem m_X3_secondNet_4 (l : Launch) (D : va_G) (a : Nat → Nat) (k : Nat → ClassId) (sz : Nat) (hI : fd_I 39 a) (N : Nat) (p1 : Int32) (σ : fd_St) (r : Int32 × fd_St) (hf : f_X3_secondNet_4 N p1 σ = some r) : Met l yX3_secondNet wsX3_secondNet ({ frames := 2, cells := 0, slots := 0, locals := 42 }) (va_Pc [.ref (a 4), .int p1] (fd_PC D a k sz σ)) (va_Qi (fun v u => (v, u) = r) (fd_BC D a k) (fd_A 39 a sz)) 0 0 (fd_A 39 a sz) := by
  refine Met.ofW (cc := cX3_secondNet) (maxL := 2) (ret := (some .int)) (by decide) rfl ?_
  intro p e s m args below meth c s₁ B hml hv
  obtain ⟨rfl, hsz, hP, hK⟩ := hv
  have hx := B.exec
  have hb := B.bytes
  have hr := B.returns
  have hts := atoms_spec (ws := wsX3_secondNet) B.pre
  have hown : s.vm.findClass RX3 = some m.cls := findClass_of_methodNamed B.named
  have hlocks := B.notSynchronized
  subst hsz
  have hJ : ∀ i, i < 39 → fd_A 39 a s.heap.size (a i) := fun i hi => Or.inl ⟨i, hi, rfl⟩
  have hS : va_S (fd_A 39 a s.heap.size) s.heap s.heap [] := va_S.rf
  have hl := lv_entry ([.ref (a 4), .int p1]) (n := 2) (Nat.le_of_ble_eq_true rfl)
  rw [lg_entry_eq]
  generalize (lg_sl ([.ref (a 4), .int p1]) ++ List.replicate (2 - (lg_sl ([.ref (a 4), .int p1])).length) Slot.unset).toArray = ls at hl ⊢
  have hl : lv_has ls 2 [(0, .ref (a 4)), (1, .int p1)] := hl
  have h9X3 : ∀ w ∈ u_ws RX3 TX3 7, w ∈ wsX3_secondNet := fd_su [25, 26, 27, 28, 29, 30, 31] (by eq_refl)
  unfold f_X3_secondNet_4 at hf
  refine lv_aload_n hx hb dX3_secondNet_0 rfl (lv_at hl 0 rfl) ?_
  refine va_get (ci := 3) (v := .ref (a 5)) (C := RX3) (T := TX3) (N := 7) hx hb hts h9X3 hown hK hP 4 fd_WC_4 rfl 3 (by decide) (hts (.fieldLink RX3 12 "FailDiagnose$Diagnosis" "suspects" "LFailDiagnose$Suspects;") (List.mem_of_getElem? (i := 1) (by eq_refl))) (fun _ h9 => h9) rfl dX3_secondNet_1 ?_
  refine lv_iload_n hx hb dX3_secondNet_4 rfl (lv_at hl 1 rfl) ?_
  obtain ⟨w4, τ5, hc1, hf⟩ := fd_bds hf
  refine va_calli (va_runV (As := [.int p1]) (rest := []) ⟨hx, hb, hml, hown, hts⟩ (m_X8_isStuck_5 l D a k s.heap.size hI N p1 σ _ hc1) (cwV 1 hts gX3_secondNet_X8_isStuck rfl rfl rfl (by decide +kernel) ⟨Nat.le_of_ble_eq_true rfl, Nat.le_of_ble_eq_true rfl⟩) ⟨fd_blC, va_recv hK hP (ci := 8) (q0 := 5) rfl fd_WC_5, fd_prC hP hK⟩ rfl rfl hl.1 rfl (lv_room (Nat.le_of_ble_eq_true rfl)) dX3_secondNet_5 ⟨Nat.zero_le _, Nat.zero_le _⟩) hS (fun q _ h => fd_A_mono hS.1 h) (fun q h => fd_A_mono hS.1 h) (fun v2 u t H1 locs ht hvm hw hB hz hk hS => ?_)
  obtain ⟨hP1, hK1⟩ := hB
  rw [ht] at hP1
  obtain ⟨e1, e2⟩ := Prod.mk.inj hw
  subst e1
  subst e2
  obtain ⟨σ3, rfl⟩ : ∃ z, z = u := ⟨_, rfl⟩
  have hP := hP1
  generalize H1 = H at hP hS ⊢
  refine lv_if_eq (tgt := 15) hx hb dX3_secondNet_8 (by decide) (fun c6 => ?_) (fun c6 => ?_)
  · have hf := fd_itp c6 hf
    refine lv_aload_n hx hb dX3_secondNet_15 rfl (lv_at hl 0 rfl) ?_
    refine va_get (ci := 3) (v := .ref (a 3)) (C := RX3) (T := TX3) (N := 7) hx hb hts h9X3 hown hK hP 4 fd_WC_4 rfl 2 (by decide) (hts (.fieldLink RX3 44 "FailDiagnose$Diagnosis" "nearPairs" "LFailDiagnose$NearPairs;") (List.mem_of_getElem? (i := 2) (by eq_refl))) (fun _ h9 => h9) rfl dX3_secondNet_16 ?_
    refine lv_aload_n hx hb dX3_secondNet_19 rfl (lv_at hl 0 rfl) ?_
    refine va_get (ci := 3) (v := .ref (a 5)) (C := RX3) (T := TX3) (N := 7) hx hb hts h9X3 hown hK hP 4 fd_WC_4 rfl 3 (by decide) (hts (.fieldLink RX3 12 "FailDiagnose$Diagnosis" "suspects" "LFailDiagnose$Suspects;") (List.mem_of_getElem? (i := 1) (by eq_refl))) (fun _ h9 => h9) rfl dX3_secondNet_20 ?_
    refine lv_iload_n hx hb dX3_secondNet_23 rfl (lv_at hl 1 rfl) ?_
    obtain ⟨w10, τ11, hc7, hf⟩ := fd_bds hf
    refine va_calli (va_runV (As := [.int p1]) (rest := [.ref (a 3)]) ⟨hx, hb, hml, hown, hts⟩ (m_X8_number_5 l D a k H.size hI N p1 σ3 _ hc7) (cwV 1 hts gX3_secondNet_X8_number rfl rfl rfl (by decide +kernel) ⟨Nat.le_of_ble_eq_true rfl, Nat.le_of_ble_eq_true rfl⟩) ⟨fd_blC, va_recv hK hP (ci := 8) (q0 := 5) rfl fd_WC_5, fd_prC hP hK⟩ rfl rfl hl.1 rfl (lv_room (Nat.le_of_ble_eq_true rfl)) dX3_secondNet_24 ⟨Nat.zero_le _, Nat.zero_le _⟩) hS (fun q _ h => fd_A_mono hS.1 h) (fun q h => fd_A_mono hS.1 h) (fun v8 u t H1 locs ht hvm hw hB hz hk hS => ?_)
    obtain ⟨hP1, hK1⟩ := hB
    rw [ht] at hP1
    obtain ⟨e1, e2⟩ := Prod.mk.inj hw
    subst e1
    subst e2
    obtain ⟨σ9, rfl⟩ : ∃ z, z = u := ⟨_, rfl⟩
    have hP := hP1
    generalize H1 = H at hP hS ⊢
    obtain ⟨w15, τ16, hc12, hf⟩ := fd_bds hf
    refine va_calli (va_runV (As := [.int v8]) (rest := []) ⟨hx, hb, hml, hown, hts⟩ (m_X4_second_3 l D a k H.size hI N v8 σ9 _ hc12) (cwV 1 hts gX3_secondNet_X4_second rfl rfl rfl (by decide +kernel) ⟨Nat.le_of_ble_eq_true rfl, Nat.le_of_ble_eq_true rfl⟩) ⟨fd_blC, va_recv hK hP (ci := 4) (q0 := 3) rfl fd_WC_3, fd_prC hP hK⟩ rfl rfl hl.1 rfl (lv_room (Nat.le_of_ble_eq_true rfl)) dX3_secondNet_27 ⟨Nat.zero_le _, Nat.zero_le _⟩) hS (fun q _ h => fd_A_mono hS.1 h) (fun q h => fd_A_mono hS.1 h) (fun v13 u t H1 locs ht hvm hw hB hz hk hS => ?_)
    obtain ⟨hP1, hK1⟩ := hB
    rw [ht] at hP1
    obtain ⟨e1, e2⟩ := Prod.mk.inj hw
    subst e1
    subst e2
    obtain ⟨σ14, rfl⟩ : ∃ z, z = u := ⟨_, rfl⟩
    have hP := hP1
    generalize H1 = H at hP hS ⊢
    exact W.iret (v := v13) hx hb hr (fun t ht hW => ⟨⟨v13, σ14, rfl, Option.some.inj hf, by rw [ht]; exact hP, va_K.moved hW.alike hK⟩, hS.F ht⟩) hS.2.2 dX3_secondNet_30
  · have hf := fd_itn c6 hf
    refine lv_iconst (v := (-1 : Int32)) hx hb dX3_secondNet_11 (by decide) ?_
    refine lv_goto (tgt := 30) hx hb dX3_secondNet_12 (by decide) ?_
    exact W.iret (v := (-1 : Int32)) hx hb hr (fun t ht hW => ⟨⟨(-1 : Int32), σ3, rfl, Option.some.inj hf, by rw [ht]; exact hP, va_K.moved hW.alike hK⟩, hS.F ht⟩) hS.2.2 dX3_secondNet_30
noncomputable def f_X8_explained_5 (N : Nat) (p1 : Int32) (σ : fd_St) : Option (Int32 × fd_St) := fd_gd (vp_in p1 480) (fd_gd (vp_in (σ.2.1 28 p1.toNatClampNeg) 480) (some (σ.2.1 25 (σ.2.1 28 p1.toNatClampNeg).toNatClampNeg, σ)))
set_option maxHeartbeats 4000000 in
set_option maxRecDepth 100000 in
theorem m_X8_explained_5 (l : Launch) (D : va_G) (a : Nat → Nat) (k : Nat → ClassId) (sz : Nat) (hI : fd_I 39 a) (N : Nat) (p1 : Int32) (σ : fd_St) (r : Int32 × fd_St) (hf : f_X8_explained_5 N p1 σ = some r) : Met l yX8_explained wsX8_explained ({ frames := 0, cells := 0, slots := 0, locals := 0 }) (va_Pc [.ref (a 5), .int p1] (fd_PC D a k sz σ)) (va_Qi (fun v u => (v, u) = r) (fd_BC D a k) (fd_A 39 a sz)) 0 0 (fd_A 39 a sz) := by
  refine Met.ofW (cc := cX8_explained) (maxL := 2) (ret := (some .int)) (by decide) rfl ?_
  intro p e s m args below meth c s₁ B hml hv
  obtain ⟨rfl, hsz, hP, hK⟩ := hv
  have hx := B.exec
  have hb := B.bytes
  have hr := B.returns
  have hts := atoms_spec (ws := wsX8_explained) B.pre
  have hown : s.vm.findClass RX8 = some m.cls := findClass_of_methodNamed B.named
  have hlocks := B.notSynchronized
  subst hsz
  have hJ : ∀ i, i < 39 → fd_A 39 a s.heap.size (a i) := fun i hi => Or.inl ⟨i, hi, rfl⟩
  have hS : va_S (fd_A 39 a s.heap.size) s.heap s.heap [] := va_S.rf
  have hl := lv_entry ([.ref (a 5), .int p1]) (n := 2) (Nat.le_of_ble_eq_true rfl)
  rw [lg_entry_eq]
  generalize (lg_sl ([.ref (a 5), .int p1]) ++ List.replicate (2 - (lg_sl ([.ref (a 5), .int p1])).length) Slot.unset).toArray = ls at hl ⊢
  have hl : lv_has ls 2 [(0, .ref (a 5)), (1, .int p1)] := hl
  have h9X8 : ∀ w ∈ u_ws RX8 TX8 7, w ∈ wsX8_explained := fd_su [3, 4, 5, 6, 7, 8, 9] (by eq_refl)
  unfold f_X8_explained_5 at hf
  refine lv_aload_n hx hb dX8_explained_0 rfl (lv_at hl 0 rfl) ?_
  refine va_get (ci := 8) (v := .ref (a 25)) (C := RX8) (T := TX8) (N := 7) hx hb hts h9X8 hown hK hP 5 fd_WC_5 rfl 2 (by decide) (hts (.fieldLink RX8 18 "FailDiagnose$Suspects" "explained" "[I") (List.mem_of_getElem? (i := 1) (by eq_refl))) (fun _ h9 => h9) rfl dX8_explained_1 ?_
  refine lv_aload_n hx hb dX8_explained_4 rfl (lv_at hl 0 rfl) ?_
  refine va_get (ci := 8) (v := .ref (a 28)) (C := RX8) (T := TX8) (N := 7) hx hb hts h9X8 hown hK hP 5 fd_WC_5 rfl 5 (by decide) (hts (.fieldLink RX8 27 "FailDiagnose$Suspects" "order" "[I") (List.mem_of_getElem? (i := 2) (by eq_refl))) (fun _ h9 => h9) rfl dX8_explained_5 ?_
  refine lv_iload_n hx hb dX8_explained_8 rfl (lv_at hl 1 rfl) ?_
  obtain ⟨g1, hf⟩ := fd_gds hf
  refine va_iald hx hb hK hP 28 16 fd_WC_28 fd_tyC_28 g1 dX8_explained_9 ?_
  obtain ⟨g2, hf⟩ := fd_gds hf
  refine va_iald hx hb hK hP 25 13 fd_WC_25 fd_tyC_25 g2 dX8_explained_10 ?_
  exact W.iret (v := (σ.2.1 25 (σ.2.1 28 p1.toNatClampNeg).toNatClampNeg)) hx hb hr (fun t ht hW => ⟨⟨σ.2.1 25 (σ.2.1 28 p1.toNatClampNeg).toNatClampNeg, σ, rfl, Option.some.inj hf, by rw [ht]; exact hP, va_K.moved hW.alike hK⟩, hS.F ht⟩) hS.2.2 dX8_explained_11
noncomputable def f_X10_ofSuspect_0 (N : Nat) (p1 : Int32) (p2 : Int32) (σ : fd_St) : Option (Int32 × fd_St) := fd_bd (f_X3_suspects_4 N σ) (fun _ σ3 => if p2 = (0 : Int32) then (fd_bd (f_X8_kind_5 N p1 σ3) (fun v8 σ9 => some (v8, σ9))) else (if p2 = (1 : Int32) then (fd_bd (f_X3_firstNet_4 N p1 σ3) (fun v14 σ15 => some (v14, σ15))) else (if p2 = (2 : Int32) then (fd_bd (f_X3_secondNet_4 N p1 σ3) (fun v20 σ21 => some (v20, σ21))) else (if p2 = (3 : Int32) then (fd_bd (f_X8_sum_5 N p1 σ3) (fun v26 σ27 => some (v26, σ27))) else (if p2 = (4 : Int32) then (fd_bd (f_X8_explained_5 N p1 σ3) (fun v32 σ33 => some (v32, σ33))) else (if p2 = (5 : Int32) then (fd_bd (f_X8_missed_5 N p1 σ3) (fun v38 σ39 => some (v38, σ39))) else (fd_bd (f_X8_wrong_5 N p1 σ3) (fun v43 σ44 => some (v43, σ44)))))))))
set_option maxHeartbeats 4000000 in
set_option maxRecDepth 100000 in
theorem m_X10_ofSuspect_0 (l : Launch) (D : va_G) (a : Nat → Nat) (k : Nat → ClassId) (sz : Nat) (hI : fd_I 39 a) (N : Nat) (p1 : Int32) (p2 : Int32) (σ : fd_St) (r : Int32 × fd_St) (hf : f_X10_ofSuspect_0 N p1 p2 σ = some r) : Met l yX10_ofSuspect wsX10_ofSuspect ({ frames := 3, cells := 0, slots := 0, locals := 64 }) (va_Pc [.ref (a 0), .int p1, .int p2] (fd_PC D a k sz σ)) (va_Qi (fun v u => (v, u) = r) (fd_BC D a k) (fd_A 39 a sz)) 0 0 (fd_A 39 a sz) := by
  refine Met.ofW (cc := cX10_ofSuspect) (maxL := 4) (ret := (some .int)) (by decide) rfl ?_
  intro p e s m args below meth c s₁ B hml hv
  obtain ⟨rfl, hsz, hP, hK⟩ := hv
  have hx := B.exec
  have hb := B.bytes
  have hr := B.returns
  have hts := atoms_spec (ws := wsX10_ofSuspect) B.pre
  have hown : s.vm.findClass RX10 = some m.cls := findClass_of_methodNamed B.named
  have hlocks := B.notSynchronized
  subst hsz
  have hJ : ∀ i, i < 39 → fd_A 39 a s.heap.size (a i) := fun i hi => Or.inl ⟨i, hi, rfl⟩
  have hS : va_S (fd_A 39 a s.heap.size) s.heap s.heap [] := va_S.rf
  have hl := lv_entry ([.ref (a 0), .int p1, .int p2]) (n := 4) (Nat.le_of_ble_eq_true rfl)
  rw [lg_entry_eq]
  generalize (lg_sl ([.ref (a 0), .int p1, .int p2]) ++ List.replicate (4 - (lg_sl ([.ref (a 0), .int p1, .int p2])).length) Slot.unset).toArray = ls at hl ⊢
  have hl : lv_has ls 4 [(0, .ref (a 0)), (1, .int p1), (2, .int p2)] := hl
  have h9X10 : ∀ w ∈ u_ws RX10 TX10 8, w ∈ wsX10_ofSuspect := fd_su [66, 67, 68, 69, 70, 71, 72, 73] (by eq_refl)
  unfold f_X10_ofSuspect_0 at hf
  refine lv_aload_n hx hb dX10_ofSuspect_0 rfl (lv_at hl 0 rfl) ?_
  refine va_get (ci := 10) (v := .ref (a 4)) (C := RX10) (T := TX10) (N := 8) hx hb hts h9X10 hown hK hP 0 fd_WC_0 rfl 3 (by decide) (hts (.fieldLink RX10 35 "FailDiagnose" "diagnosis" "LFailDiagnose$Diagnosis;") (List.mem_of_getElem? (i := 1) (by eq_refl))) (fun _ h9 => h9) rfl dX10_ofSuspect_1 ?_
  obtain ⟨w4, τ5, hc1, hf⟩ := fd_bds hf
  refine va_callr (va_runV (As := []) (rest := []) ⟨hx, hb, hml, hown, hts⟩ (m_X3_suspects_4 l D a k s.heap.size hI N σ _ hc1) (cwV 0 hts gX10_ofSuspect_X3_suspects rfl rfl rfl (by decide +kernel) ⟨Nat.le_of_ble_eq_true rfl, Nat.le_of_ble_eq_true rfl⟩) ⟨fd_blC, va_recv hK hP (ci := 3) (q0 := 4) rfl fd_WC_4, fd_prC hP hK⟩ rfl rfl hl.1 rfl (lv_room (Nat.le_of_ble_eq_true rfl)) dX10_ofSuspect_4 ⟨Nat.zero_le _, Nat.zero_le _⟩) hS (fun q _ h => fd_A_mono hS.1 h) (fun q h => fd_A_mono hS.1 h) (fun u x t H1 locs ht hvm hw hB hz hk hS => ?_)
  obtain ⟨rfl, hP1, hK1⟩ := hB
  rw [ht] at hP1
  have e2 := (Prod.mk.inj hw).2
  subst e2
  obtain ⟨σ3, rfl⟩ : ∃ z, z = u := ⟨_, rfl⟩
  have hP := hP1
  generalize H1 = H at hP hS ⊢
  refine lv_astore_n (lv' := [(3, .ref (a 5)), (0, .ref (a 0)), (1, .int p1), (2, .int p2)]) hx hb dX10_ofSuspect_7 rfl hl (by decide) rfl (fun ls hl => ?_)
  refine lv_iload_n hx hb dX10_ofSuspect_8 rfl (lv_at hl 3 rfl) ?_
  by_cases c6 : p2 = (0 : Int32)
  · have hf := fd_itp c6 hf
    refine lv_tableIn (off := 39) (tgt := 48) hx hb dX10_ofSuspect_9 (by rw [c6]; decide) (by rw [c6]; decide) (by rw [c6]; decide) (by decide) ?_
    refine lv_aload_n hx hb dX10_ofSuspect_48 rfl (lv_at hl 0 rfl) ?_
    refine lv_iload_n hx hb dX10_ofSuspect_49 rfl (lv_at hl 2 rfl) ?_
    obtain ⟨w10, τ11, hc7, hf⟩ := fd_bds hf
    refine va_calli (va_runV (As := [.int p1]) (rest := []) ⟨hx, hb, hml, hown, hts⟩ (m_X8_kind_5 l D a k H.size hI N p1 σ3 _ hc7) (cwV 1 hts gX10_ofSuspect_X8_kind rfl rfl rfl (by decide +kernel) ⟨Nat.le_of_ble_eq_true rfl, Nat.le_of_ble_eq_true rfl⟩) ⟨fd_blC, va_recv hK hP (ci := 8) (q0 := 5) rfl fd_WC_5, fd_prC hP hK⟩ rfl rfl hl.1 rfl (lv_room (Nat.le_of_ble_eq_true rfl)) dX10_ofSuspect_50 ⟨Nat.zero_le _, Nat.zero_le _⟩) hS (fun q _ h => fd_A_mono hS.1 h) (fun q h => fd_A_mono hS.1 h) (fun v8 u t H1 locs ht hvm hw hB hz hk hS => ?_)
    obtain ⟨hP1, hK1⟩ := hB
    rw [ht] at hP1
    obtain ⟨e1, e2⟩ := Prod.mk.inj hw
    subst e1
    subst e2
    obtain ⟨σ9, rfl⟩ : ∃ z, z = u := ⟨_, rfl⟩
    have hP := hP1
    generalize H1 = H at hP hS ⊢
    exact W.iret (v := v8) hx hb hr (fun t ht hW => ⟨⟨v8, σ9, rfl, Option.some.inj hf, by rw [ht]; exact hP, va_K.moved hW.alike hK⟩, hS.F ht⟩) hS.2.2 dX10_ofSuspect_53
  have hf := fd_itn c6 hf
  by_cases c12 : p2 = (1 : Int32)
  · have hf := fd_itp c12 hf
    refine lv_tableIn (off := 45) (tgt := 54) hx hb dX10_ofSuspect_9 (by rw [c12]; decide) (by rw [c12]; decide) (by rw [c12]; decide) (by decide) ?_
    refine lv_aload_n hx hb dX10_ofSuspect_54 rfl (lv_at hl 1 rfl) ?_
    refine va_get (ci := 10) (v := .ref (a 4)) (C := RX10) (T := TX10) (N := 8) hx hb hts h9X10 hown hK hP 0 fd_WC_0 rfl 3 (by decide) (hts (.fieldLink RX10 35 "FailDiagnose" "diagnosis" "LFailDiagnose$Diagnosis;") (List.mem_of_getElem? (i := 1) (by eq_refl))) (fun _ h9 => h9) rfl dX10_ofSuspect_55 ?_
    refine lv_iload_n hx hb dX10_ofSuspect_58 rfl (lv_at hl 2 rfl) ?_
    obtain ⟨w16, τ17, hc13, hf⟩ := fd_bds hf
    refine va_calli (va_runV (As := [.int p1]) (rest := []) ⟨hx, hb, hml, hown, hts⟩ (m_X3_firstNet_4 l D a k H.size hI N p1 σ3 _ hc13) (cwV 1 hts gX10_ofSuspect_X3_firstNet rfl rfl rfl (by decide +kernel) ⟨Nat.le_of_ble_eq_true rfl, Nat.le_of_ble_eq_true rfl⟩) ⟨fd_blC, va_recv hK hP (ci := 3) (q0 := 4) rfl fd_WC_4, fd_prC hP hK⟩ rfl rfl hl.1 rfl (lv_room (Nat.le_of_ble_eq_true rfl)) dX10_ofSuspect_59 ⟨Nat.zero_le _, Nat.zero_le _⟩) hS (fun q _ h => fd_A_mono hS.1 h) (fun q h => fd_A_mono hS.1 h) (fun v14 u t H1 locs ht hvm hw hB hz hk hS => ?_)
    obtain ⟨hP1, hK1⟩ := hB
    rw [ht] at hP1
    obtain ⟨e1, e2⟩ := Prod.mk.inj hw
    subst e1
    subst e2
    obtain ⟨σ15, rfl⟩ : ∃ z, z = u := ⟨_, rfl⟩
    have hP := hP1
    generalize H1 = H at hP hS ⊢
    exact W.iret (v := v14) hx hb hr (fun t ht hW => ⟨⟨v14, σ15, rfl, Option.some.inj hf, by rw [ht]; exact hP, va_K.moved hW.alike hK⟩, hS.F ht⟩) hS.2.2 dX10_ofSuspect_62
  have hf := fd_itn c12 hf
  by_cases c18 : p2 = (2 : Int32)
  · have hf := fd_itp c18 hf
    refine lv_tableIn (off := 54) (tgt := 63) hx hb dX10_ofSuspect_9 (by rw [c18]; decide) (by rw [c18]; decide) (by rw [c18]; decide) (by decide) ?_
    refine lv_aload_n hx hb dX10_ofSuspect_63 rfl (lv_at hl 1 rfl) ?_
    refine va_get (ci := 10) (v := .ref (a 4)) (C := RX10) (T := TX10) (N := 8) hx hb hts h9X10 hown hK hP 0 fd_WC_0 rfl 3 (by decide) (hts (.fieldLink RX10 35 "FailDiagnose" "diagnosis" "LFailDiagnose$Diagnosis;") (List.mem_of_getElem? (i := 1) (by eq_refl))) (fun _ h9 => h9) rfl dX10_ofSuspect_64 ?_
    refine lv_iload_n hx hb dX10_ofSuspect_67 rfl (lv_at hl 2 rfl) ?_
    obtain ⟨w22, τ23, hc19, hf⟩ := fd_bds hf
    refine va_calli (va_runV (As := [.int p1]) (rest := []) ⟨hx, hb, hml, hown, hts⟩ (m_X3_secondNet_4 l D a k H.size hI N p1 σ3 _ hc19) (cwV 1 hts gX10_ofSuspect_X3_secondNet rfl rfl rfl (by decide +kernel) ⟨Nat.le_of_ble_eq_true rfl, Nat.le_of_ble_eq_true rfl⟩) ⟨fd_blC, va_recv hK hP (ci := 3) (q0 := 4) rfl fd_WC_4, fd_prC hP hK⟩ rfl rfl hl.1 rfl (lv_room (Nat.le_of_ble_eq_true rfl)) dX10_ofSuspect_68 ⟨Nat.zero_le _, Nat.zero_le _⟩) hS (fun q _ h => fd_A_mono hS.1 h) (fun q h => fd_A_mono hS.1 h) (fun v20 u t H1 locs ht hvm hw hB hz hk hS => ?_)
    obtain ⟨hP1, hK1⟩ := hB
    rw [ht] at hP1
    obtain ⟨e1, e2⟩ := Prod.mk.inj hw
    subst e1
    subst e2
    obtain ⟨σ21, rfl⟩ : ∃ z, z = u := ⟨_, rfl⟩
    have hP := hP1
    generalize H1 = H at hP hS ⊢
    exact W.iret (v := v20) hx hb hr (fun t ht hW => ⟨⟨v20, σ21, rfl, Option.some.inj hf, by rw [ht]; exact hP, va_K.moved hW.alike hK⟩, hS.F ht⟩) hS.2.2 dX10_ofSuspect_71
  have hf := fd_itn c18 hf
  by_cases c24 : p2 = (3 : Int32)
  · have hf := fd_itp c24 hf
    refine lv_tableIn (off := 63) (tgt := 72) hx hb dX10_ofSuspect_9 (by rw [c24]; decide) (by rw [c24]; decide) (by rw [c24]; decide) (by decide) ?_
    refine lv_aload_n hx hb dX10_ofSuspect_72 rfl (lv_at hl 0 rfl) ?_
    refine lv_iload_n hx hb dX10_ofSuspect_73 rfl (lv_at hl 2 rfl) ?_
    obtain ⟨w28, τ29, hc25, hf⟩ := fd_bds hf
    refine va_calli (va_runV (As := [.int p1]) (rest := []) ⟨hx, hb, hml, hown, hts⟩ (m_X8_sum_5 l D a k H.size hI N p1 σ3 _ hc25) (cwV 1 hts gX10_ofSuspect_X8_sum rfl rfl rfl (by decide +kernel) ⟨Nat.le_of_ble_eq_true rfl, Nat.le_of_ble_eq_true rfl⟩) ⟨fd_blC, va_recv hK hP (ci := 8) (q0 := 5) rfl fd_WC_5, fd_prC hP hK⟩ rfl rfl hl.1 rfl (lv_room (Nat.le_of_ble_eq_true rfl)) dX10_ofSuspect_74 ⟨Nat.zero_le _, Nat.zero_le _⟩) hS (fun q _ h => fd_A_mono hS.1 h) (fun q h => fd_A_mono hS.1 h) (fun v26 u t H1 locs ht hvm hw hB hz hk hS => ?_)
    obtain ⟨hP1, hK1⟩ := hB
    rw [ht] at hP1
    obtain ⟨e1, e2⟩ := Prod.mk.inj hw
    subst e1
    subst e2
    obtain ⟨σ27, rfl⟩ : ∃ z, z = u := ⟨_, rfl⟩
    have hP := hP1
    generalize H1 = H at hP hS ⊢
    exact W.iret (v := v26) hx hb hr (fun t ht hW => ⟨⟨v26, σ27, rfl, Option.some.inj hf, by rw [ht]; exact hP, va_K.moved hW.alike hK⟩, hS.F ht⟩) hS.2.2 dX10_ofSuspect_77
  have hf := fd_itn c24 hf
  by_cases c30 : p2 = (4 : Int32)
  · have hf := fd_itp c30 hf
    refine lv_tableIn (off := 69) (tgt := 78) hx hb dX10_ofSuspect_9 (by rw [c30]; decide) (by rw [c30]; decide) (by rw [c30]; decide) (by decide) ?_
    refine lv_aload_n hx hb dX10_ofSuspect_78 rfl (lv_at hl 0 rfl) ?_
    refine lv_iload_n hx hb dX10_ofSuspect_79 rfl (lv_at hl 2 rfl) ?_
    obtain ⟨w34, τ35, hc31, hf⟩ := fd_bds hf
    refine va_calli (va_runV (As := [.int p1]) (rest := []) ⟨hx, hb, hml, hown, hts⟩ (m_X8_explained_5 l D a k H.size hI N p1 σ3 _ hc31) (cwV 1 hts gX10_ofSuspect_X8_explained rfl rfl rfl (by decide +kernel) ⟨Nat.le_of_ble_eq_true rfl, Nat.le_of_ble_eq_true rfl⟩) ⟨fd_blC, va_recv hK hP (ci := 8) (q0 := 5) rfl fd_WC_5, fd_prC hP hK⟩ rfl rfl hl.1 rfl (lv_room (Nat.le_of_ble_eq_true rfl)) dX10_ofSuspect_80 ⟨Nat.zero_le _, Nat.zero_le _⟩) hS (fun q _ h => fd_A_mono hS.1 h) (fun q h => fd_A_mono hS.1 h) (fun v32 u t H1 locs ht hvm hw hB hz hk hS => ?_)
    obtain ⟨hP1, hK1⟩ := hB
    rw [ht] at hP1
    obtain ⟨e1, e2⟩ := Prod.mk.inj hw
    subst e1
    subst e2
    obtain ⟨σ33, rfl⟩ : ∃ z, z = u := ⟨_, rfl⟩
    have hP := hP1
    generalize H1 = H at hP hS ⊢
    exact W.iret (v := v32) hx hb hr (fun t ht hW => ⟨⟨v32, σ33, rfl, Option.some.inj hf, by rw [ht]; exact hP, va_K.moved hW.alike hK⟩, hS.F ht⟩) hS.2.2 dX10_ofSuspect_83
  have hf := fd_itn c30 hf
  by_cases c36 : p2 = (5 : Int32)
  · have hf := fd_itp c36 hf
    refine lv_tableIn (off := 75) (tgt := 84) hx hb dX10_ofSuspect_9 (by rw [c36]; decide) (by rw [c36]; decide) (by rw [c36]; decide) (by decide) ?_
    refine lv_aload_n hx hb dX10_ofSuspect_84 rfl (lv_at hl 0 rfl) ?_
    refine lv_iload_n hx hb dX10_ofSuspect_85 rfl (lv_at hl 2 rfl) ?_
    obtain ⟨w40, τ41, hc37, hf⟩ := fd_bds hf
    refine va_calli (va_runV (As := [.int p1]) (rest := []) ⟨hx, hb, hml, hown, hts⟩ (m_X8_missed_5 l D a k H.size hI N p1 σ3 _ hc37) (cwV 1 hts gX10_ofSuspect_X8_missed rfl rfl rfl (by decide +kernel) ⟨Nat.le_of_ble_eq_true rfl, Nat.le_of_ble_eq_true rfl⟩) ⟨fd_blC, va_recv hK hP (ci := 8) (q0 := 5) rfl fd_WC_5, fd_prC hP hK⟩ rfl rfl hl.1 rfl (lv_room (Nat.le_of_ble_eq_true rfl)) dX10_ofSuspect_86 ⟨Nat.zero_le _, Nat.zero_le _⟩) hS (fun q _ h => fd_A_mono hS.1 h) (fun q h => fd_A_mono hS.1 h) (fun v38 u t H1 locs ht hvm hw hB hz hk hS => ?_)
    obtain ⟨hP1, hK1⟩ := hB
    rw [ht] at hP1
    obtain ⟨e1, e2⟩ := Prod.mk.inj hw
    subst e1
    subst e2
    obtain ⟨σ39, rfl⟩ : ∃ z, z = u := ⟨_, rfl⟩
    have hP := hP1
    generalize H1 = H at hP hS ⊢
    exact W.iret (v := v38) hx hb hr (fun t ht hW => ⟨⟨v38, σ39, rfl, Option.some.inj hf, by rw [ht]; exact hP, va_K.moved hW.alike hK⟩, hS.F ht⟩) hS.2.2 dX10_ofSuspect_89
  have hf := fd_itn c36 hf
  have nc6 := lv_neT c6 (a := 0) (by decide)
  have nc12 := lv_neT c12 (a := 1) (by decide)
  have nc18 := lv_neT c18 (a := 2) (by decide)
  have nc24 := lv_neT c24 (a := 3) (by decide)
  have nc30 := lv_neT c30 (a := 4) (by decide)
  have nc36 := lv_neT c36 (a := 5) (by decide)
  refine lv_tableOut (tgt := 90) hx hb dX10_ofSuspect_9 (by omega) (by decide) ?_
  refine lv_aload_n hx hb dX10_ofSuspect_90 rfl (lv_at hl 0 rfl) ?_
  refine lv_iload_n hx hb dX10_ofSuspect_91 rfl (lv_at hl 2 rfl) ?_
  obtain ⟨w45, τ46, hc42, hf⟩ := fd_bds hf
  refine va_calli (va_runV (As := [.int p1]) (rest := []) ⟨hx, hb, hml, hown, hts⟩ (m_X8_wrong_5 l D a k H.size hI N p1 σ3 _ hc42) (cwV 1 hts gX10_ofSuspect_X8_wrong rfl rfl rfl (by decide +kernel) ⟨Nat.le_of_ble_eq_true rfl, Nat.le_of_ble_eq_true rfl⟩) ⟨fd_blC, va_recv hK hP (ci := 8) (q0 := 5) rfl fd_WC_5, fd_prC hP hK⟩ rfl rfl hl.1 rfl (lv_room (Nat.le_of_ble_eq_true rfl)) dX10_ofSuspect_92 ⟨Nat.zero_le _, Nat.zero_le _⟩) hS (fun q _ h => fd_A_mono hS.1 h) (fun q h => fd_A_mono hS.1 h) (fun v43 u t H1 locs ht hvm hw hB hz hk hS => ?_)
  obtain ⟨hP1, hK1⟩ := hB
  rw [ht] at hP1
  obtain ⟨e1, e2⟩ := Prod.mk.inj hw
  subst e1
  subst e2
  obtain ⟨σ44, rfl⟩ : ∃ z, z = u := ⟨_, rfl⟩
  have hP := hP1
  generalize H1 = H at hP hS ⊢
  exact W.iret (v := v43) hx hb hr (fun t ht hW => ⟨⟨v43, σ44, rfl, Option.some.inj hf, by rw [ht]; exact hP, va_K.moved hW.alike hK⟩, hS.F ht⟩) hS.2.2 dX10_ofSuspect_95
noncomputable def f_X10_suspect_0_J10 (N : Nat) (σ : fd_St) : Option ((Int32 ⊕ String) × fd_St) := some (.inr "java/lang/IndexOutOfBoundsException", σ)
noncomputable def f_X10_suspect_0_J42 (N : Nat) (σ : fd_St) : Option ((Int32 ⊕ String) × fd_St) := some (.inr "java/lang/IndexOutOfBoundsException", σ)
noncomputable def f_X10_suspect_0 (N : Nat) (p1 : Int32) (p2 : Int32) (σ : fd_St) : Option ((Int32 ⊕ String) × fd_St) := if p2 < 0 then (f_X10_suspect_0_J10 N σ) else (if p2 ≤ (6 : Int32) then (fd_bx (f_X10_needTold_0 N σ) (fun _ σ6 => if p1 < 0 then (f_X10_suspect_0_J42 N σ6) else (fd_bd (f_X3_suspects_4 N σ6) (fun _ σ14 => fd_bd (f_X8_size_5 N σ14) (fun v18 σ19 => if p1 < v18 then (fd_bd (f_X10_ofSuspect_0 N p1 p2 σ19) (fun v24 σ25 => some (.inl v24, σ25))) else (f_X10_suspect_0_J42 N σ19))))) (fun E τ => some (.inr E, τ))) else (f_X10_suspect_0_J10 N σ))
set_option maxHeartbeats 4000000 in
set_option maxRecDepth 100000 in
theorem m_X10_suspect_0 (l : Launch) (hl9 : l.stackTraces = false) (D : va_G) (a : Nat → Nat) (k : Nat → ClassId) (sz : Nat) (hI : fd_I 39 a) (N : Nat) (p1 : Int32) (p2 : Int32) (σ : fd_St) (r : (Int32 ⊕ String) × fd_St) (hf : f_X10_suspect_0 N p1 p2 σ = some r) : vx_Met l yX10_suspect wsX10_suspect ({ frames := 7, cells := fd_mc r, slots := fd_ms r, locals := 110 }) (va_Pc [.ref (a 0), .int p1, .int p2] (fd_PZ D a k sz σ)) (va_Qi (fun v u => (Sum.inl v, u) = r) (fd_BC D a k) (fd_A 39 a sz)) (fd_X D a k (fd_A 39 a sz) r) (fd_mc r) (fd_ms r) (fd_A 39 a sz) := by
  refine vx_ofW (cc := cX10_suspect) (maxL := 3) (ret := (some .int)) (by decide) rfl ?_
  intro p e s m args below meth c s₁ B hml hex hv
  obtain ⟨rfl, ⟨hsz, hP, hK⟩, hZ⟩ := hv
  have hx := B.exec
  have hb := B.bytes
  have hr := B.returns
  have hts := atoms_spec (ws := wsX10_suspect) B.pre
  have hown : s.vm.findClass RX10 = some m.cls := findClass_of_methodNamed B.named
  have hlocks := B.notSynchronized
  subst hsz
  have hJ : ∀ i, i < 39 → fd_A 39 a s.heap.size (a i) := fun i hi => Or.inl ⟨i, hi, rfl⟩
  have hS : va_S (fd_A 39 a s.heap.size) s.heap s.heap [] := va_S.rf
  have hl := lv_entry ([.ref (a 0), .int p1, .int p2]) (n := 3) (Nat.le_of_ble_eq_true rfl)
  rw [lg_entry_eq]
  generalize (lg_sl ([.ref (a 0), .int p1, .int p2]) ++ List.replicate (3 - (lg_sl ([.ref (a 0), .int p1, .int p2])).length) Slot.unset).toArray = ls at hl ⊢
  have hl : lv_has ls 3 [(0, .ref (a 0)), (1, .int p1), (2, .int p2)] := hl
  have h9X10 : ∀ w ∈ u_ws RX10 TX10 8, w ∈ wsX10_suspect := fd_su [85, 86, 87, 88, 89, 90, 91, 92] (by eq_refl)
  have hL10 : ∀ (σ : fd_St) (H : Heap) (locs : List Loc) (ls : Array Slot), va_P D vwCl (fd_WC a k σ) H → va_S (fd_A 39 a s.heap.size) s.heap H locs → lv_has ls 3 [] → f_X10_suspect_0_J10 N σ = some r → W p l e ((headSpec wsX10_suspect ({ frames := 7, cells := fd_mc r, slots := fd_ms r, locals := 110 })).room) s m ([.ref (a 0), .int p1, .int p2].toArray) below meth c H locs 0 0 (vx_MQ below (va_Qi (fun v u => (Sum.inl v, u) = r) (fd_BC D a k) (fd_A 39 a s.heap.size)) (fd_X D a k (fd_A 39 a s.heap.size) r) ([.ref (a 0), .int p1, .int p2].toArray) s (fd_mc r) (fd_ms r) (fd_A 39 a s.heap.size)) (F0 m 10 ls []) := by
    intro σ H locs ls hP hS hl hf
    unfold f_X10_suspect_0_J10 at hf
    have e2 := Option.some.inj hf
    subst e2
    obtain ⟨sa, hsa⟩ := hZ.str 165 "of a suspect there is 0 to 6" (by decide +kernel)
    exact vx_throwS (own := RX10) (cls := "java/lang/IndexOutOfBoundsException") (names := ["java/lang/RuntimeException", "java/lang/Exception"]) hx hb hl9 hown fd_ex_114_118_f fd_ex_n (hts (.classLink RX10 114 "java/lang/IndexOutOfBoundsException") (List.mem_of_getElem? (i := 1) (by eq_refl))) (hts (.initialized "java/lang/IndexOutOfBoundsException") (List.mem_of_getElem? (i := 2) (by eq_refl))) hsa (vx_hat (L := vx_atS RX10 118 "java/lang/IndexOutOfBoundsException" ["java/lang/RuntimeException", "java/lang/Exception"]) (B := fd_bad "java/lang/IndexOutOfBoundsException") (fun w hw => hts w ((fun w h => List.mem_cons_of_mem _ (List.mem_append_left _ (List.mem_append_right _ h)) : ∀ w ∈ (vx_atS RX10 118 "java/lang/IndexOutOfBoundsException" ["java/lang/RuntimeException", "java/lang/Exception"]).filter goodWord, w ∈ wsX10_suspect) w hw)) fd_ex_114_118_b (hZ.bad "java/lang/IndexOutOfBoundsException" fd_ex_114_118_e)) fd_ex_114_118_g hZ.un hZ.su hS (hl.1.trans hml.symm) dX10_suspect_10 dX10_suspect_13 dX10_suspect_14 dX10_suspect_16 dX10_suspect_19 (fun x hx => (hex x hx).elim) (Nat.le_of_ble_eq_true rfl) (Nat.le_of_ble_eq_true rfl) (Nat.le_of_ble_eq_true rfl) (Nat.le_of_ble_eq_true rfl) hlocks (fun t ha hsz hk => ⟨σ, trivial, ⟨rfl, hP.kept (fun k q hq => hk q.1 (hP k q hq).lt), va_K.moved ha hK⟩, Nat.le_trans hS.1 hsz, fun q h1 h2 => (hk q (Nat.lt_of_lt_of_le h1 hS.1)).trans (hS.2.1 q h1 h2)⟩) hS.2.2 (Nat.le_of_ble_eq_true rfl) (Nat.le_of_ble_eq_true rfl)
  have hL42 : ∀ (σ : fd_St) (H : Heap) (locs : List Loc) (ls : Array Slot), va_P D vwCl (fd_WC a k σ) H → va_S (fd_A 39 a s.heap.size) s.heap H locs → lv_has ls 3 [] → f_X10_suspect_0_J42 N σ = some r → W p l e ((headSpec wsX10_suspect ({ frames := 7, cells := fd_mc r, slots := fd_ms r, locals := 110 })).room) s m ([.ref (a 0), .int p1, .int p2].toArray) below meth c H locs 0 0 (vx_MQ below (va_Qi (fun v u => (Sum.inl v, u) = r) (fd_BC D a k) (fd_A 39 a s.heap.size)) (fd_X D a k (fd_A 39 a s.heap.size) r) ([.ref (a 0), .int p1, .int p2].toArray) s (fd_mc r) (fd_ms r) (fd_A 39 a s.heap.size)) (F0 m 42 ls []) := by
    intro σ H locs ls hP hS hl hf
    unfold f_X10_suspect_0_J42 at hf
    have e11 := Option.some.inj hf
    subst e11
    obtain ⟨sa, hsa⟩ := hZ.str 170 "no such suspect" (by decide +kernel)
    exact vx_throwS (own := RX10) (cls := "java/lang/IndexOutOfBoundsException") (names := ["java/lang/RuntimeException", "java/lang/Exception"]) hx hb hl9 hown fd_ex_114_118_f fd_ex_n (hts (.classLink RX10 114 "java/lang/IndexOutOfBoundsException") (List.mem_of_getElem? (i := 1) (by eq_refl))) (hts (.initialized "java/lang/IndexOutOfBoundsException") (List.mem_of_getElem? (i := 2) (by eq_refl))) hsa (vx_hat (L := vx_atS RX10 118 "java/lang/IndexOutOfBoundsException" ["java/lang/RuntimeException", "java/lang/Exception"]) (B := fd_bad "java/lang/IndexOutOfBoundsException") (fun w hw => hts w ((fun w h => List.mem_cons_of_mem _ (List.mem_append_left _ (List.mem_append_right _ h)) : ∀ w ∈ (vx_atS RX10 118 "java/lang/IndexOutOfBoundsException" ["java/lang/RuntimeException", "java/lang/Exception"]).filter goodWord, w ∈ wsX10_suspect) w hw)) fd_ex_114_118_b (hZ.bad "java/lang/IndexOutOfBoundsException" fd_ex_114_118_e)) fd_ex_114_118_g hZ.un hZ.su hS (hl.1.trans hml.symm) dX10_suspect_42 dX10_suspect_45 dX10_suspect_46 dX10_suspect_48 dX10_suspect_51 (fun x hx => (hex x hx).elim) (Nat.le_of_ble_eq_true rfl) (Nat.le_of_ble_eq_true rfl) (Nat.le_of_ble_eq_true rfl) (Nat.le_of_ble_eq_true rfl) hlocks (fun t ha hsz hk => ⟨σ, trivial, ⟨rfl, hP.kept (fun k q hq => hk q.1 (hP k q hq).lt), va_K.moved ha hK⟩, Nat.le_trans hS.1 hsz, fun q h1 h2 => (hk q (Nat.lt_of_lt_of_le h1 hS.1)).trans (hS.2.1 q h1 h2)⟩) hS.2.2 (Nat.le_of_ble_eq_true rfl) (Nat.le_of_ble_eq_true rfl)
  unfold f_X10_suspect_0 at hf
  refine lv_iload_n hx hb dX10_suspect_0 rfl (lv_at hl 2 rfl) ?_
  refine lv_if_lt (tgt := 10) hx hb dX10_suspect_1 (by decide) (fun c1 => ?_) (fun c1 => ?_)
  · have hf := fd_itp c1 hf
    exact hL10 σ _ _ _ hP hS (lv_sub hl [] rfl) hf
  · have hf := fd_itn c1 hf
    refine lv_iload_n hx hb dX10_suspect_4 rfl (lv_at hl 2 rfl) ?_
    refine lv_bipush (v := (6 : Int32)) hx hb dX10_suspect_5 (by decide) ?_
    refine lv_icmp_le (tgt := 20) hx hb dX10_suspect_7 (by decide) (fun c3 => ?_) (fun c3 => ?_)
    · have hf := fd_itp c3 hf
      refine lv_aload_n hx hb dX10_suspect_20 rfl (lv_at hl 0 rfl) ?_
      rcases fd_bxs hf with ⟨w7, τ8, hc4, hf⟩ | ⟨E9, τ8, hc4, hf⟩
      · refine vx_callv (vx_runV (As := []) (rest := []) ⟨hx, hb, hml, hown, hts⟩ (m_X10_needTold_0 l hl9 D a k s.heap.size hI N σ _ hc4) (cwV 0 hts gX10_suspect_X10_needTold rfl rfl rfl (by decide +kernel) ⟨Nat.le_of_ble_eq_true rfl, Nat.le_of_ble_eq_true rfl⟩) ⟨fd_blZ, va_recv hK hP (ci := 10) (q0 := 0) rfl fd_WC_0, fd_prZ hP hK hZ hS⟩ rfl rfl hl.1 rfl (lv_room (Nat.le_of_ble_eq_true rfl)) dX10_suspect_21 ⟨Nat.zero_le _, Nat.zero_le _⟩) hS (fun q _ h => fd_A_mono hS.1 h) (fun q h => fd_A_mono hS.1 h) (fun q _ h => fd_A_mono hS.1 h) (fun E ce q9 u t H1 locs1 ht hvm hp hB => ?_) (fun u t H1 locs ht hvm hw hB hz hk hS => ?_)
        · exact absurd hB.1 (by simp)
        obtain ⟨hP1, hK1⟩ := hB
        rw [ht] at hP1
        have e2 := (Prod.mk.inj hw).2
        subst e2
        obtain ⟨σ6, rfl⟩ : ∃ z, z = u := ⟨_, rfl⟩
        have hP := hP1
        generalize H1 = H at hP hS ⊢
        refine W.cs (cells' := 0) (slots' := 0) rfl rfl ?_
        refine lv_iload_n hx hb dX10_suspect_24 rfl (lv_at hl 1 rfl) ?_
        refine lv_if_lt (tgt := 42) hx hb dX10_suspect_25 (by decide) (fun c10 => ?_) (fun c10 => ?_)
        · have hf := fd_itp c10 hf
          exact hL42 σ6 _ _ _ hP hS (lv_sub hl [] rfl) hf
        · have hf := fd_itn c10 hf
          refine lv_iload_n hx hb dX10_suspect_28 rfl (lv_at hl 1 rfl) ?_
          refine lv_aload_n hx hb dX10_suspect_29 rfl (lv_at hl 0 rfl) ?_
          refine va_get (ci := 10) (v := .ref (a 4)) (C := RX10) (T := TX10) (N := 8) hx hb hts h9X10 hown hK hP 0 fd_WC_0 rfl 3 (by decide) (hts (.fieldLink RX10 35 "FailDiagnose" "diagnosis" "LFailDiagnose$Diagnosis;") (List.mem_of_getElem? (i := 3) (by eq_refl))) (fun _ h9 => h9) rfl dX10_suspect_30 ?_
          obtain ⟨w15, τ16, hc12, hf⟩ := fd_bds hf
          refine va_callr (va_runV (As := []) (rest := [.int p1]) ⟨hx, hb, hml, hown, hts⟩ (m_X3_suspects_4 l D a k H.size hI N σ6 _ hc12) (cwV 0 hts gX10_suspect_X3_suspects rfl rfl rfl (by decide +kernel) ⟨Nat.le_of_ble_eq_true rfl, Nat.le_of_ble_eq_true rfl⟩) ⟨fd_blC, va_recv hK hP (ci := 3) (q0 := 4) rfl fd_WC_4, fd_prC hP hK⟩ rfl rfl hl.1 rfl (lv_room (Nat.le_of_ble_eq_true rfl)) dX10_suspect_33 ⟨Nat.zero_le _, Nat.zero_le _⟩) hS (fun q _ h => fd_A_mono hS.1 h) (fun q h => fd_A_mono hS.1 h) (fun u x t H1 locs ht hvm hw hB hz hk hS => ?_)
          obtain ⟨rfl, hP1, hK1⟩ := hB
          rw [ht] at hP1
          have e2 := (Prod.mk.inj hw).2
          subst e2
          obtain ⟨σ14, rfl⟩ : ∃ z, z = u := ⟨_, rfl⟩
          have hP := hP1
          generalize H1 = H at hP hS ⊢
          obtain ⟨w20, τ21, hc17, hf⟩ := fd_bds hf
          refine va_calli (va_runV (As := []) (rest := [.int p1]) ⟨hx, hb, hml, hown, hts⟩ (m_X8_size_5 l D a k H.size hI N σ14 _ hc17) (cwV 0 hts gX10_suspect_X8_size rfl rfl rfl (by decide +kernel) ⟨Nat.le_of_ble_eq_true rfl, Nat.le_of_ble_eq_true rfl⟩) ⟨fd_blC, va_recv hK hP (ci := 8) (q0 := 5) rfl fd_WC_5, fd_prC hP hK⟩ rfl rfl hl.1 rfl (lv_room (Nat.le_of_ble_eq_true rfl)) dX10_suspect_36 ⟨Nat.zero_le _, Nat.zero_le _⟩) hS (fun q _ h => fd_A_mono hS.1 h) (fun q h => fd_A_mono hS.1 h) (fun v18 u t H1 locs ht hvm hw hB hz hk hS => ?_)
          obtain ⟨hP1, hK1⟩ := hB
          rw [ht] at hP1
          obtain ⟨e1, e2⟩ := Prod.mk.inj hw
          subst e1
          subst e2
          obtain ⟨σ19, rfl⟩ : ∃ z, z = u := ⟨_, rfl⟩
          have hP := hP1
          generalize H1 = H at hP hS ⊢
          refine lv_icmp_lt (tgt := 52) hx hb dX10_suspect_39 (by decide) (fun c22 => ?_) (fun c22 => ?_)
          · have hf := fd_itp c22 hf
            refine lv_aload_n hx hb dX10_suspect_52 rfl (lv_at hl 0 rfl) ?_
            refine lv_iload_n hx hb dX10_suspect_53 rfl (lv_at hl 1 rfl) ?_
            refine lv_iload_n hx hb dX10_suspect_54 rfl (lv_at hl 2 rfl) ?_
            obtain ⟨w26, τ27, hc23, hf⟩ := fd_bds hf
            refine va_calli (va_runV (As := [.int p1, .int p2]) (rest := []) ⟨hx, hb, hml, hown, hts⟩ (m_X10_ofSuspect_0 l D a k H.size hI N p1 p2 σ19 _ hc23) (cwV 2 hts gX10_suspect_X10_ofSuspect rfl rfl rfl (by decide +kernel) ⟨Nat.le_of_ble_eq_true rfl, Nat.le_of_ble_eq_true rfl⟩) ⟨fd_blC, va_recv hK hP (ci := 10) (q0 := 0) rfl fd_WC_0, fd_prC hP hK⟩ rfl rfl hl.1 rfl (lv_room (Nat.le_of_ble_eq_true rfl)) dX10_suspect_55 ⟨Nat.zero_le _, Nat.zero_le _⟩) hS (fun q _ h => fd_A_mono hS.1 h) (fun q h => fd_A_mono hS.1 h) (fun v24 u t H1 locs ht hvm hw hB hz hk hS => ?_)
            obtain ⟨hP1, hK1⟩ := hB
            rw [ht] at hP1
            obtain ⟨e1, e2⟩ := Prod.mk.inj hw
            subst e1
            subst e2
            obtain ⟨σ25, rfl⟩ : ∃ z, z = u := ⟨_, rfl⟩
            have hP := hP1
            generalize H1 = H at hP hS ⊢
            refine vx_ret (W.widen (k := fd_mc r) (n := fd_ms r) (Nat.zero_le _) (Nat.zero_le _) ?_)
            exact W.iret (v := v24) hx hb hr (fun t ht hW => ⟨⟨v24, σ25, rfl, Option.some.inj hf, by rw [ht]; exact hP, va_K.moved hW.alike hK⟩, hS.F ht⟩) hS.2.2 dX10_suspect_58
          · have hf := fd_itn c22 hf
            exact hL42 σ19 _ _ _ hP hS (lv_sub hl [] rfl) hf
      · have er := Option.some.inj hf
        subst er
        refine vx_callv (vx_runV (As := []) (rest := []) ⟨hx, hb, hml, hown, hts⟩ (m_X10_needTold_0 l hl9 D a k s.heap.size hI N σ _ hc4) (cwV 0 hts gX10_suspect_X10_needTold rfl rfl rfl (by decide +kernel) ⟨Nat.le_of_ble_eq_true rfl, Nat.le_of_ble_eq_true rfl⟩) ⟨fd_blZ, va_recv hK hP (ci := 10) (q0 := 0) rfl fd_WC_0, fd_prZ hP hK hZ hS⟩ rfl rfl hl.1 rfl (lv_room (Nat.le_of_ble_eq_true rfl)) dX10_suspect_21 ⟨Nat.le_of_ble_eq_true rfl, Nat.le_of_ble_eq_true rfl⟩) hS (fun q _ h => fd_A_mono hS.1 h) (fun q h => fd_A_mono hS.1 h) (fun q _ h => fd_A_mono hS.1 h) (fun E ce q9 u t H1 locs1 ht hvm hp hB hz hk hS hce hcv hcl => ?_) (fun u t H1 locs ht hvm hw hB hz hk hS => ?_)
        · obtain ⟨hB0, hP1, hK1⟩ := hB
          rw [ht] at hP1
          exact vx_out (E := E) (fun x hx => (hex x hx).elim) hlocks hce hcv hcl (fun t ht ha => ⟨u, trivial, ⟨fd_inr hB0, by rw [ht]; exact hP1, va_K.moved ha hK⟩, hS.F ht⟩) hS.2.2 (Nat.le_of_ble_eq_true rfl) (Nat.le_of_ble_eq_true rfl)
        · exact absurd hw (by simp)
    · have hf := fd_itn c3 hf
      exact hL10 σ _ _ _ hP hS (lv_sub hl [] rfl) hf
noncomputable def f_L_suspect_0_39 (N : Nat) (p1 : Int32) (p2 : Int32) (σ : fd_St) : Option (Int32 × fd_St) := fd_bx (f_X10_suspect_0 N p1 p2 σ) (fun v2 τ => fd_lt (fd_mix τ σ) (fun σ6 => fd_gd (vp_in (0 : Int32) 1) (fd_lt (fd_sL 39 (0 : Int32) v2.toInt64 σ6) (fun σ9 => some ((0 : Int32), σ9))))) (fun E τ => if E = "java/lang/IndexOutOfBoundsException" then (fd_lt (fd_mix τ σ) (fun σ11 => some ((1 : Int32), σ11))) else (if E = "java/lang/IllegalStateException" then (fd_lt (fd_mix τ σ) (fun σ13 => some ((2 : Int32), σ13))) else (none)))
set_option maxHeartbeats 4000000 in
set_option maxRecDepth 100000 in
theorem m_L_suspect_0_39 (l : Launch) (hl9 : l.stackTraces = false) (D : va_G) (a : Nat → Nat) (k : Nat → ClassId) (sz : Nat) (hI : fd_I 40 a) (N : Nat) (p1 : Int32) (p2 : Int32) (σ : fd_St) (r : Int32 × fd_St) (hf : f_L_suspect_0_39 N p1 p2 σ = some r) : Met l yL_suspect wsL_suspect ({ frames := 8, cells := 1, slots := 6, locals := 132 }) (va_Pc [.ref (a 0), .int p1, .int p2, .ref (a 39)] (fd_PH D a k sz σ)) (va_Qi (fun v u => (v, u) = r) (fd_BH D a k) (fd_A 40 a sz)) 1 6 (fd_A 40 a sz) := by
  refine fd_ofWT (cc := cL_suspect) (maxL := 5) (ret := (some .int)) (by decide) rfl ?_
  intro p e s m args below meth c s₁ B hml hTab hv
  obtain ⟨rfl, hsz, hP, hK, hZ⟩ := hv
  have hx := B.exec
  have hb := B.bytes
  have hr := B.returns
  have hts := atoms_spec (ws := wsL_suspect) B.pre
  have hown : s.vm.findClass RL = some m.cls := findClass_of_methodNamed B.named
  have hlocks := B.notSynchronized
  subst hsz
  have hJ : ∀ i, i < 40 → fd_A 40 a s.heap.size (a i) := fun i hi => Or.inl ⟨i, hi, rfl⟩
  have hS : va_S (fd_A 40 a s.heap.size) s.heap s.heap [] := va_S.rf
  have hl := lv_entry ([.ref (a 0), .int p1, .int p2, .ref (a 39)]) (n := 5) (Nat.le_of_ble_eq_true rfl)
  rw [lg_entry_eq]
  generalize (lg_sl ([.ref (a 0), .int p1, .int p2, .ref (a 39)]) ++ List.replicate (5 - (lg_sl ([.ref (a 0), .int p1, .int p2, .ref (a 39)])).length) Slot.unset).toArray = ls at hl ⊢
  have hl : lv_has ls 5 [(0, .ref (a 0)), (1, .int p1), (2, .int p2), (3, .ref (a 39))] := hl
  unfold f_L_suspect_0_39 at hf
  refine lv_aload_n hx hb dL_suspect_0 rfl (lv_at hl 3 rfl) ?_
  refine lv_iconst (v := (0 : Int32)) hx hb dL_suspect_1 (by decide) ?_
  refine lv_aload_n hx hb dL_suspect_2 rfl (lv_at hl 0 rfl) ?_
  refine lv_iload_n hx hb dL_suspect_3 rfl (lv_at hl 1 rfl) ?_
  refine lv_iload_n hx hb dL_suspect_4 rfl (lv_at hl 2 rfl) ?_
  rcases fd_bxs hf with ⟨w3, τ4, hc1, hf⟩ | ⟨E5, τ4, hc1, hf⟩
  · refine vx_calli (vx_runV (As := [.int p1, .int p2]) (rest := [.int (0 : Int32), .ref (a 39)]) ⟨hx, hb, hml, hown, hts⟩ (m_X10_suspect_0 l hl9 D a k s.heap.size (fd_I40 hI) N p1 p2 σ _ hc1) (cwV 2 hts gL_suspect_X10_suspect rfl rfl rfl (by decide +kernel) ⟨Nat.le_of_ble_eq_true rfl, Nat.le_of_ble_eq_true rfl⟩) ⟨fd_blZ, va_recv (fd_HK hK) (fd_HC hP) (ci := 10) (q0 := 0) rfl fd_WC_0, fd_prHZ hP hK hZ hS⟩ rfl rfl hl.1 rfl (lv_room (Nat.le_of_ble_eq_true rfl)) dL_suspect_5 ⟨(Nat.zero_le _), (Nat.zero_le _)⟩) hS (fun q _ h => fd_A_sub hS.1 h) (fun q h => fd_A_sub hS.1 h) (fun q _ h => fd_A_sub hS.1 h) (fun E ce q9 u t H1 locs1 ht hvm hp hB => ?_) (fun v2 u t H1 locs ht hvm hw hB hz hk hS => ?_)
    · exact absurd hB.1 (by simp)
    obtain ⟨hP1, hK1⟩ := hB
    rw [ht] at hP1
    obtain ⟨e1, e2⟩ := Prod.mk.inj hw
    obtain e1 := Sum.inl.inj e1
    subst e1
    subst e2
    obtain ⟨σ6, eσ6, hf⟩ := fd_lts hf
    have hP : va_P D vwCl (fd_WH a k σ6) H1 := by rw [eσ6]; exact fd_HJ hI hP hP1 hk
    generalize H1 = H at hP hS ⊢
    refine W.cs (cells' := 0) (slots' := 0) rfl rfl ?_
    refine lv_i2l hx hb dL_suspect_8 rfl ?_
    obtain ⟨g8, hf⟩ := fd_gds hf
    obtain ⟨σ9, eσ9, hf⟩ := fd_lts hf
    refine va_last hx hb hK hP (fd_DH hI hJ) hS 39 27 fd_WH_39 fd_tyH_39 g8 dL_suspect_9 (fun H locs hP _ hS => ?_)
    have hP : va_P D vwCl (fd_WH a k σ9) H := by rw [eσ9]; exact fd_sP fd_WHa_39 hP
    refine lv_goto (tgt := 21) hx hb dL_suspect_10 (by decide) ?_
    refine lv_iconst (v := (0 : Int32)) hx hb dL_suspect_21 (by decide) ?_
    refine W.widen (k := 1) (n := 6) (Nat.le_of_ble_eq_true rfl) (Nat.le_of_ble_eq_true rfl) ?_
    exact W.iret (v := (0 : Int32)) hx hb hr (fun t ht hW => ⟨⟨(0 : Int32), σ9, rfl, Option.some.inj hf, by rw [ht]; exact hP, va_K.moved hW.alike hK⟩, hS.F ht⟩) hS.2.2 dL_suspect_22
  · have hE := hf
    by_cases c10 : E5 = "java/lang/IndexOutOfBoundsException"
    · subst c10
      have hf := fd_itp rfl hf
      refine vx_calli (vx_runV (As := [.int p1, .int p2]) (rest := [.int (0 : Int32), .ref (a 39)]) ⟨hx, hb, hml, hown, hts⟩ (m_X10_suspect_0 l hl9 D a k s.heap.size (fd_I40 hI) N p1 p2 σ _ hc1) (cwV 2 hts gL_suspect_X10_suspect rfl rfl rfl (by decide +kernel) ⟨Nat.le_of_ble_eq_true rfl, Nat.le_of_ble_eq_true rfl⟩) ⟨fd_blZ, va_recv (fd_HK hK) (fd_HC hP) (ci := 10) (q0 := 0) rfl fd_WC_0, fd_prHZ hP hK hZ hS⟩ rfl rfl hl.1 rfl (lv_room (Nat.le_of_ble_eq_true rfl)) dL_suspect_5 ⟨Nat.le_of_ble_eq_true rfl, Nat.le_of_ble_eq_true rfl⟩) hS (fun q _ h => fd_A_sub hS.1 h) (fun q h => fd_A_sub hS.1 h) (fun q _ h => fd_A_sub hS.1 h) (fun E ce q9 u t H1 locs1 ht hvm hp hB hz hk hS hce hcv hcl => ?_) (fun v2 u t H1 locs ht hvm hw hB hz hk hS => ?_)
      · obtain ⟨hB0, hP1, hK1⟩ := hB
        rw [ht] at hP1
        obtain ⟨e1, e2⟩ := Prod.mk.inj hB0
        obtain e1 := Sum.inr.inj e1
        subst e1
        subst e2
        obtain ⟨σ11, eσ11, hf⟩ := fd_lts hf
        have hP : va_P D vwCl (fd_WH a k σ11) H1 := by rw [eσ11]; exact fd_HJ hI hP hP1 hk
        refine fd_catch (own := RL) (name := "java/lang/IndexOutOfBoundsException") (E := "java/lang/IndexOutOfBoundsException") hown [] ⟨0, 10, 13, 19⟩ [⟨0, 10, 17, 13⟩] (by rw [hTab]; rfl) (fun z hz => nomatch hz) (by decide) (by decide) (hts (.classLink RL 19 "java/lang/IndexOutOfBoundsException") (List.mem_of_getElem? (i := 1) (by eq_refl))) (hZ.cast "java/lang/IndexOutOfBoundsException" (by decide +kernel)) hce hcv hcl ?_
        refine W.cs (cells' := 1) (slots' := 6) rfl rfl ?_
        refine lv_astore (lv' := [(4, .ref q9), (0, .ref (a 0)), (1, .int p1), (2, .int p2), (3, .ref (a 39))]) hx hb dL_suspect_13 hl (by decide) rfl (fun ls hl => ?_)
        refine lv_iconst (v := (1 : Int32)) hx hb dL_suspect_15 (by decide) ?_
        refine W.widen (k := 1) (n := 6) (Nat.le_of_ble_eq_true rfl) (Nat.le_of_ble_eq_true rfl) ?_
        exact W.iret (v := (1 : Int32)) hx hb hr (fun t ht hW => ⟨⟨(1 : Int32), σ11, rfl, Option.some.inj hf, by rw [ht]; exact hP, va_K.moved hW.alike hK⟩, hS.F ht⟩) hS.2.2 dL_suspect_16
      · exact absurd hw (by simp)
    have hf := fd_itn c10 hf
    by_cases c12 : E5 = "java/lang/IllegalStateException"
    · subst c12
      have hf := fd_itp rfl hf
      refine vx_calli (vx_runV (As := [.int p1, .int p2]) (rest := [.int (0 : Int32), .ref (a 39)]) ⟨hx, hb, hml, hown, hts⟩ (m_X10_suspect_0 l hl9 D a k s.heap.size (fd_I40 hI) N p1 p2 σ _ hc1) (cwV 2 hts gL_suspect_X10_suspect rfl rfl rfl (by decide +kernel) ⟨Nat.le_of_ble_eq_true rfl, Nat.le_of_ble_eq_true rfl⟩) ⟨fd_blZ, va_recv (fd_HK hK) (fd_HC hP) (ci := 10) (q0 := 0) rfl fd_WC_0, fd_prHZ hP hK hZ hS⟩ rfl rfl hl.1 rfl (lv_room (Nat.le_of_ble_eq_true rfl)) dL_suspect_5 ⟨Nat.le_of_ble_eq_true rfl, Nat.le_of_ble_eq_true rfl⟩) hS (fun q _ h => fd_A_sub hS.1 h) (fun q h => fd_A_sub hS.1 h) (fun q _ h => fd_A_sub hS.1 h) (fun E ce q9 u t H1 locs1 ht hvm hp hB hz hk hS hce hcv hcl => ?_) (fun v2 u t H1 locs ht hvm hw hB hz hk hS => ?_)
      · obtain ⟨hB0, hP1, hK1⟩ := hB
        rw [ht] at hP1
        obtain ⟨e1, e2⟩ := Prod.mk.inj hB0
        obtain e1 := Sum.inr.inj e1
        subst e1
        subst e2
        obtain ⟨σ13, eσ13, hf⟩ := fd_lts hf
        have hP : va_P D vwCl (fd_WH a k σ13) H1 := by rw [eσ13]; exact fd_HJ hI hP hP1 hk
        refine fd_catch (own := RL) (name := "java/lang/IllegalStateException") (E := "java/lang/IllegalStateException") hown [⟨0, 10, 13, 19⟩] ⟨0, 10, 17, 13⟩ [] (by rw [hTab]; rfl) (fun z hz => by
            rcases List.mem_cons.mp hz with rfl | hz
            · exact ⟨by decide, by decide, "java/lang/IndexOutOfBoundsException", hts (.classLink RL 19 "java/lang/IndexOutOfBoundsException") (by decide +kernel), hZ.nc "java/lang/IllegalStateException" "java/lang/IndexOutOfBoundsException" (by decide +kernel)⟩
            cases hz) (by decide) (by decide) (hts (.classLink RL 13 "java/lang/IllegalStateException") (List.mem_of_getElem? (i := 2) (by eq_refl))) (hZ.cast "java/lang/IllegalStateException" (by decide +kernel)) hce hcv hcl ?_
        refine W.cs (cells' := 1) (slots' := 6) rfl rfl ?_
        refine lv_astore (lv' := [(4, .ref q9), (0, .ref (a 0)), (1, .int p1), (2, .int p2), (3, .ref (a 39))]) hx hb dL_suspect_17 hl (by decide) rfl (fun ls hl => ?_)
        refine lv_iconst (v := (2 : Int32)) hx hb dL_suspect_19 (by decide) ?_
        refine W.widen (k := 1) (n := 6) (Nat.le_of_ble_eq_true rfl) (Nat.le_of_ble_eq_true rfl) ?_
        exact W.iret (v := (2 : Int32)) hx hb hr (fun t ht hW => ⟨⟨(2 : Int32), σ13, rfl, Option.some.inj hf, by rw [ht]; exact hP, va_K.moved hW.alike hK⟩, hS.F ht⟩) hS.2.2 dL_suspect_20
      · exact absurd hw (by simp)
    have hf := fd_itn c12 hf
    cases hf
noncomputable def f_X11_suspect_0_J68 (N : Nat) (y1 : Int32) (y2 : Int32) (z0 : Int32) (σ : fd_St) : Option (Int32 × fd_St) := if y2 = (0 : Int32) then (fd_gd (vp_in y1 480) (some (σ.2.1 12 y1.toNatClampNeg, σ))) else (if y2 = (1 : Int32) then (if z0 = 0 then (fd_gd (vp_in y1 480) (fd_gd (vp_in (σ.2.1 13 y1.toNatClampNeg) 40) (some (σ.2.1 7 (σ.2.1 13 y1.toNatClampNeg).toNatClampNeg, σ)))) else (fd_gd (vp_in y1 480) (some (σ.2.1 13 y1.toNatClampNeg, σ)))) else (if y2 = (2 : Int32) then (if z0 = 0 then (fd_gd (vp_in y1 480) (fd_gd (vp_in (σ.2.1 13 y1.toNatClampNeg) 40) (some (σ.2.1 8 (σ.2.1 13 y1.toNatClampNeg).toNatClampNeg, σ)))) else (some ((-1 : Int32), σ))) else (if y2 = (3 : Int32) then (fd_gd (vp_in y1 480) (some (σ.2.1 14 y1.toNatClampNeg, σ))) else (if y2 = (4 : Int32) then (fd_gd (vp_in y1 480) (some (σ.2.1 15 y1.toNatClampNeg, σ))) else (if y2 = (5 : Int32) then (fd_gd (vp_in y1 480) (some (σ.2.1 16 y1.toNatClampNeg, σ))) else (fd_gd (vp_in y1 480) (some (σ.2.1 17 y1.toNatClampNeg, σ))))))))
noncomputable def f_X11_suspect_0_J41 (N : Nat) (y1 : Int32) (y2 : Int32) (z1 : Int32) (σ : fd_St) : Option (Int32 × fd_St) := fd_lt (fd_sI 0 z1 σ) (fun σ14 => if (σ14.1 0) ≤ 0 then (fd_gd (vp_in y1 480) (if (2 : Int32) ≤ (σ14.2.1 12 y1.toNatClampNeg) then (f_X11_suspect_0_J68 N y1 y2 (0 : Int32) σ14) else (f_X11_suspect_0_J68 N y1 y2 (1 : Int32) σ14))) else (some ((0 : Int32), σ14)))
noncomputable def f_X11_suspect_0 (N : Nat) (p1 : Int32) (p2 : Int32) (σ : fd_St) : Option (Int32 × fd_St) := fd_bd (f_X11_isIn N p2 (7 : Int32) σ) (fun v2 σ3 => if v2 = 0 then (f_X11_suspect_0_J41 N p1 p2 (1 : Int32) σ3) else (if (σ3.1 6) = 0 then (f_X11_suspect_0_J41 N p1 p2 (2 : Int32) σ3) else (fd_bd (f_X11_isIn N p1 (σ3.1 7) σ3) (fun v9 σ10 => if v9 = 0 then (f_X11_suspect_0_J41 N p1 p2 (1 : Int32) σ10) else (f_X11_suspect_0_J41 N p1 p2 (0 : Int32) σ10)))))
set_option maxHeartbeats 4000000 in
set_option maxRecDepth 100000 in
theorem m_X11_suspect_0 (l : Launch) (D : va_G) (a : Nat → Nat) (k : Nat → ClassId) (sz : Nat) (hI : fd_I 29 a) (N : Nat) (p1 : Int32) (p2 : Int32) (σ : fd_St) (r : Int32 × fd_St) (hf : f_X11_suspect_0 N p1 p2 σ = some r) : Met l yX11_suspect wsX11_suspect ({ frames := 1, cells := 0, slots := 0, locals := 21 }) (va_Pc [.ref (a 0), .int p1, .int p2] (fd_PM D a k sz σ)) (va_Qi (fun v u => (v, u) = r) (fd_BM D a k) (fd_A 29 a sz)) 0 0 (fd_A 29 a sz) := by
  refine Met.ofW (cc := cX11_suspect) (maxL := 4) (ret := (some .int)) (by decide) rfl ?_
  intro p e s m args below meth c s₁ B hml hv
  obtain ⟨rfl, hsz, hP, hK⟩ := hv
  have hx := B.exec
  have hb := B.bytes
  have hr := B.returns
  have hts := atoms_spec (ws := wsX11_suspect) B.pre
  have hown : s.vm.findClass RX11 = some m.cls := findClass_of_methodNamed B.named
  have hlocks := B.notSynchronized
  subst hsz
  have hJ : ∀ i, i < 29 → fd_A 29 a s.heap.size (a i) := fun i hi => Or.inl ⟨i, hi, rfl⟩
  have hS : va_S (fd_A 29 a s.heap.size) s.heap s.heap [] := va_S.rf
  have hl := lv_entry ([.ref (a 0), .int p1, .int p2]) (n := 4) (Nat.le_of_ble_eq_true rfl)
  rw [lg_entry_eq]
  generalize (lg_sl ([.ref (a 0), .int p1, .int p2]) ++ List.replicate (4 - (lg_sl ([.ref (a 0), .int p1, .int p2])).length) Slot.unset).toArray = ls at hl ⊢
  have hl : lv_has ls 4 [(0, .ref (a 0)), (1, .int p1), (2, .int p2)] := hl
  have h9X11 : ∀ w ∈ u_ws RX11 TX11 43, w ∈ wsX11_suspect := fd_su [16, 17, 18, 19, 20, 21, 22, 23, 24, 25, 26, 27, 28, 29, 30, 31, 32, 33, 34, 35, 36, 37, 38, 39, 40, 41, 42, 43, 44, 45, 46, 47, 48, 49, 50, 51, 52, 53, 54, 55, 56, 57, 58] (by eq_refl)
  have hL68 : ∀ (y1 : Int32) (y2 : Int32) (z0 : Int32) (σ : fd_St) (H : Heap) (locs : List Loc) (ls : Array Slot), va_P D vwCl (fd_WM a k σ) H → va_S (fd_A 29 a s.heap.size) s.heap H locs → lv_has ls 4 [(0, .ref (a 0)), (1, .int y1), (2, .int y2)] → f_X11_suspect_0_J68 N y1 y2 z0 σ = some r → W p l e ((headSpec wsX11_suspect ({ frames := 1, cells := 0, slots := 0, locals := 21 })).room) s m ([.ref (a 0), .int p1, .int p2].toArray) below meth c H locs 0 0 (MQ below (va_Qi (fun v u => (v, u) = r) (fd_BM D a k) (fd_A 29 a s.heap.size)) ([.ref (a 0), .int p1, .int p2].toArray) s 0 0 (fd_A 29 a s.heap.size)) (F0 m 68 ls [.int z0]) := by
    intro y1 y2 z0 σ H locs ls hP hS hl hf
    unfold f_X11_suspect_0_J68 at hf
    refine lv_istore_n (lv' := [(3, .int z0), (0, .ref (a 0)), (1, .int y1), (2, .int y2)]) hx hb dX11_suspect_68 rfl hl (by decide) rfl (fun ls hl => ?_)
    refine lv_iload_n hx hb dX11_suspect_69 rfl (lv_at hl 3 rfl) ?_
    by_cases c18 : y2 = (0 : Int32)
    · have hf := fd_itp c18 hf
      refine lv_tableIn (off := 38) (tgt := 108) hx hb dX11_suspect_70 (by rw [c18]; decide) (by rw [c18]; decide) (by rw [c18]; decide) (by decide) ?_
      refine lv_aload_n hx hb dX11_suspect_108 rfl (lv_at hl 1 rfl) ?_
      refine va_get (ci := 11) (v := .ref (a 12)) (C := RX11) (T := TX11) (N := 43) hx hb hts h9X11 hown hK hP 0 fd_WM_0 rfl 19 (by decide) (hts (.fieldLink RX11 45 "FailDiagnoseModel" "suspectKind" "[I") (List.mem_of_getElem? (i := 4) (by eq_refl))) (fun _ h9 => h9) rfl dX11_suspect_109 ?_
      refine lv_iload_n hx hb dX11_suspect_112 rfl (lv_at hl 2 rfl) ?_
      obtain ⟨g19, hf⟩ := fd_gds hf
      refine va_iald hx hb hK hP 12 11 fd_WM_12 fd_tyM_12 g19 dX11_suspect_113 ?_
      exact W.iret (v := (σ.2.1 12 y1.toNatClampNeg)) hx hb hr (fun t ht hW => ⟨⟨σ.2.1 12 y1.toNatClampNeg, σ, rfl, Option.some.inj hf, by rw [ht]; exact hP, va_K.moved hW.alike hK⟩, hS.F ht⟩) hS.2.2 dX11_suspect_114
    have hf := fd_itn c18 hf
    by_cases c20 : y2 = (1 : Int32)
    · have hf := fd_itp c20 hf
      refine lv_tableIn (off := 45) (tgt := 115) hx hb dX11_suspect_70 (by rw [c20]; decide) (by rw [c20]; decide) (by rw [c20]; decide) (by decide) ?_
      refine lv_iload_n hx hb dX11_suspect_115 rfl (lv_at hl 0 rfl) ?_
      refine lv_if_eq (tgt := 128) hx hb dX11_suspect_116 (by decide) (fun c21 => ?_) (fun c21 => ?_)
      · have hf := fd_itp c21 hf
        refine lv_aload_n hx hb dX11_suspect_128 rfl (lv_at hl 1 rfl) ?_
        refine va_get (ci := 11) (v := .ref (a 7)) (C := RX11) (T := TX11) (N := 43) hx hb hts h9X11 hown hK hP 0 fd_WM_0 rfl 12 (by decide) (hts (.fieldLink RX11 29 "FailDiagnoseModel" "pairA" "[I") (List.mem_of_getElem? (i := 6) (by eq_refl))) (fun _ h9 => h9) rfl dX11_suspect_129 ?_
        refine lv_aload_n hx hb dX11_suspect_132 rfl (lv_at hl 1 rfl) ?_
        refine va_get (ci := 11) (v := .ref (a 13)) (C := RX11) (T := TX11) (N := 43) hx hb hts h9X11 hown hK hP 0 fd_WM_0 rfl 20 (by decide) (hts (.fieldLink RX11 48 "FailDiagnoseModel" "suspectOf" "[I") (List.mem_of_getElem? (i := 5) (by eq_refl))) (fun _ h9 => h9) rfl dX11_suspect_133 ?_
        refine lv_iload_n hx hb dX11_suspect_136 rfl (lv_at hl 2 rfl) ?_
        obtain ⟨g22, hf⟩ := fd_gds hf
        refine va_iald hx hb hK hP 13 12 fd_WM_13 fd_tyM_13 g22 dX11_suspect_137 ?_
        obtain ⟨g23, hf⟩ := fd_gds hf
        refine va_iald hx hb hK hP 7 6 fd_WM_7 fd_tyM_7 g23 dX11_suspect_138 ?_
        exact W.iret (v := (σ.2.1 7 (σ.2.1 13 y1.toNatClampNeg).toNatClampNeg)) hx hb hr (fun t ht hW => ⟨⟨σ.2.1 7 (σ.2.1 13 y1.toNatClampNeg).toNatClampNeg, σ, rfl, Option.some.inj hf, by rw [ht]; exact hP, va_K.moved hW.alike hK⟩, hS.F ht⟩) hS.2.2 dX11_suspect_139
      · have hf := fd_itn c21 hf
        refine lv_aload_n hx hb dX11_suspect_119 rfl (lv_at hl 1 rfl) ?_
        refine va_get (ci := 11) (v := .ref (a 13)) (C := RX11) (T := TX11) (N := 43) hx hb hts h9X11 hown hK hP 0 fd_WM_0 rfl 20 (by decide) (hts (.fieldLink RX11 48 "FailDiagnoseModel" "suspectOf" "[I") (List.mem_of_getElem? (i := 5) (by eq_refl))) (fun _ h9 => h9) rfl dX11_suspect_120 ?_
        refine lv_iload_n hx hb dX11_suspect_123 rfl (lv_at hl 2 rfl) ?_
        obtain ⟨g24, hf⟩ := fd_gds hf
        refine va_iald hx hb hK hP 13 12 fd_WM_13 fd_tyM_13 g24 dX11_suspect_124 ?_
        refine lv_goto (tgt := 139) hx hb dX11_suspect_125 (by decide) ?_
        exact W.iret (v := (σ.2.1 13 y1.toNatClampNeg)) hx hb hr (fun t ht hW => ⟨⟨σ.2.1 13 y1.toNatClampNeg, σ, rfl, Option.some.inj hf, by rw [ht]; exact hP, va_K.moved hW.alike hK⟩, hS.F ht⟩) hS.2.2 dX11_suspect_139
    have hf := fd_itn c20 hf
    by_cases c25 : y2 = (2 : Int32)
    · have hf := fd_itp c25 hf
      refine lv_tableIn (off := 70) (tgt := 140) hx hb dX11_suspect_70 (by rw [c25]; decide) (by rw [c25]; decide) (by rw [c25]; decide) (by decide) ?_
      refine lv_iload_n hx hb dX11_suspect_140 rfl (lv_at hl 0 rfl) ?_
      refine lv_if_eq (tgt := 148) hx hb dX11_suspect_141 (by decide) (fun c26 => ?_) (fun c26 => ?_)
      · have hf := fd_itp c26 hf
        refine lv_aload_n hx hb dX11_suspect_148 rfl (lv_at hl 1 rfl) ?_
        refine va_get (ci := 11) (v := .ref (a 8)) (C := RX11) (T := TX11) (N := 43) hx hb hts h9X11 hown hK hP 0 fd_WM_0 rfl 13 (by decide) (hts (.fieldLink RX11 32 "FailDiagnoseModel" "pairB" "[I") (List.mem_of_getElem? (i := 7) (by eq_refl))) (fun _ h9 => h9) rfl dX11_suspect_149 ?_
        refine lv_aload_n hx hb dX11_suspect_152 rfl (lv_at hl 1 rfl) ?_
        refine va_get (ci := 11) (v := .ref (a 13)) (C := RX11) (T := TX11) (N := 43) hx hb hts h9X11 hown hK hP 0 fd_WM_0 rfl 20 (by decide) (hts (.fieldLink RX11 48 "FailDiagnoseModel" "suspectOf" "[I") (List.mem_of_getElem? (i := 5) (by eq_refl))) (fun _ h9 => h9) rfl dX11_suspect_153 ?_
        refine lv_iload_n hx hb dX11_suspect_156 rfl (lv_at hl 2 rfl) ?_
        obtain ⟨g27, hf⟩ := fd_gds hf
        refine va_iald hx hb hK hP 13 12 fd_WM_13 fd_tyM_13 g27 dX11_suspect_157 ?_
        obtain ⟨g28, hf⟩ := fd_gds hf
        refine va_iald hx hb hK hP 8 7 fd_WM_8 fd_tyM_8 g28 dX11_suspect_158 ?_
        exact W.iret (v := (σ.2.1 8 (σ.2.1 13 y1.toNatClampNeg).toNatClampNeg)) hx hb hr (fun t ht hW => ⟨⟨σ.2.1 8 (σ.2.1 13 y1.toNatClampNeg).toNatClampNeg, σ, rfl, Option.some.inj hf, by rw [ht]; exact hP, va_K.moved hW.alike hK⟩, hS.F ht⟩) hS.2.2 dX11_suspect_159
      · have hf := fd_itn c26 hf
        refine lv_iconst (v := (-1 : Int32)) hx hb dX11_suspect_144 (by decide) ?_
        refine lv_goto (tgt := 159) hx hb dX11_suspect_145 (by decide) ?_
        exact W.iret (v := (-1 : Int32)) hx hb hr (fun t ht hW => ⟨⟨(-1 : Int32), σ, rfl, Option.some.inj hf, by rw [ht]; exact hP, va_K.moved hW.alike hK⟩, hS.F ht⟩) hS.2.2 dX11_suspect_159
    have hf := fd_itn c25 hf
    by_cases c29 : y2 = (3 : Int32)
    · have hf := fd_itp c29 hf
      refine lv_tableIn (off := 90) (tgt := 160) hx hb dX11_suspect_70 (by rw [c29]; decide) (by rw [c29]; decide) (by rw [c29]; decide) (by decide) ?_
      refine lv_aload_n hx hb dX11_suspect_160 rfl (lv_at hl 1 rfl) ?_
      refine va_get (ci := 11) (v := .ref (a 14)) (C := RX11) (T := TX11) (N := 43) hx hb hts h9X11 hown hK hP 0 fd_WM_0 rfl 21 (by decide) (hts (.fieldLink RX11 51 "FailDiagnoseModel" "suspectSum" "[I") (List.mem_of_getElem? (i := 8) (by eq_refl))) (fun _ h9 => h9) rfl dX11_suspect_161 ?_
      refine lv_iload_n hx hb dX11_suspect_164 rfl (lv_at hl 2 rfl) ?_
      obtain ⟨g30, hf⟩ := fd_gds hf
      refine va_iald hx hb hK hP 14 13 fd_WM_14 fd_tyM_14 g30 dX11_suspect_165 ?_
      exact W.iret (v := (σ.2.1 14 y1.toNatClampNeg)) hx hb hr (fun t ht hW => ⟨⟨σ.2.1 14 y1.toNatClampNeg, σ, rfl, Option.some.inj hf, by rw [ht]; exact hP, va_K.moved hW.alike hK⟩, hS.F ht⟩) hS.2.2 dX11_suspect_166
    have hf := fd_itn c29 hf
    by_cases c31 : y2 = (4 : Int32)
    · have hf := fd_itp c31 hf
      refine lv_tableIn (off := 97) (tgt := 167) hx hb dX11_suspect_70 (by rw [c31]; decide) (by rw [c31]; decide) (by rw [c31]; decide) (by decide) ?_
      refine lv_aload_n hx hb dX11_suspect_167 rfl (lv_at hl 1 rfl) ?_
      refine va_get (ci := 11) (v := .ref (a 15)) (C := RX11) (T := TX11) (N := 43) hx hb hts h9X11 hown hK hP 0 fd_WM_0 rfl 22 (by decide) (hts (.fieldLink RX11 54 "FailDiagnoseModel" "suspectExplained" "[I") (List.mem_of_getElem? (i := 9) (by eq_refl))) (fun _ h9 => h9) rfl dX11_suspect_168 ?_
      refine lv_iload_n hx hb dX11_suspect_171 rfl (lv_at hl 2 rfl) ?_
      obtain ⟨g32, hf⟩ := fd_gds hf
      refine va_iald hx hb hK hP 15 14 fd_WM_15 fd_tyM_15 g32 dX11_suspect_172 ?_
      exact W.iret (v := (σ.2.1 15 y1.toNatClampNeg)) hx hb hr (fun t ht hW => ⟨⟨σ.2.1 15 y1.toNatClampNeg, σ, rfl, Option.some.inj hf, by rw [ht]; exact hP, va_K.moved hW.alike hK⟩, hS.F ht⟩) hS.2.2 dX11_suspect_173
    have hf := fd_itn c31 hf
    by_cases c33 : y2 = (5 : Int32)
    · have hf := fd_itp c33 hf
      refine lv_tableIn (off := 104) (tgt := 174) hx hb dX11_suspect_70 (by rw [c33]; decide) (by rw [c33]; decide) (by rw [c33]; decide) (by decide) ?_
      refine lv_aload_n hx hb dX11_suspect_174 rfl (lv_at hl 1 rfl) ?_
      refine va_get (ci := 11) (v := .ref (a 16)) (C := RX11) (T := TX11) (N := 43) hx hb hts h9X11 hown hK hP 0 fd_WM_0 rfl 23 (by decide) (hts (.fieldLink RX11 57 "FailDiagnoseModel" "suspectMissed" "[I") (List.mem_of_getElem? (i := 10) (by eq_refl))) (fun _ h9 => h9) rfl dX11_suspect_175 ?_
      refine lv_iload_n hx hb dX11_suspect_178 rfl (lv_at hl 2 rfl) ?_
      obtain ⟨g34, hf⟩ := fd_gds hf
      refine va_iald hx hb hK hP 16 15 fd_WM_16 fd_tyM_16 g34 dX11_suspect_179 ?_
      exact W.iret (v := (σ.2.1 16 y1.toNatClampNeg)) hx hb hr (fun t ht hW => ⟨⟨σ.2.1 16 y1.toNatClampNeg, σ, rfl, Option.some.inj hf, by rw [ht]; exact hP, va_K.moved hW.alike hK⟩, hS.F ht⟩) hS.2.2 dX11_suspect_180
    have hf := fd_itn c33 hf
    have nc18 := lv_neT c18 (a := 0) (by decide)
    have nc20 := lv_neT c20 (a := 1) (by decide)
    have nc25 := lv_neT c25 (a := 2) (by decide)
    have nc29 := lv_neT c29 (a := 3) (by decide)
    have nc31 := lv_neT c31 (a := 4) (by decide)
    have nc33 := lv_neT c33 (a := 5) (by decide)
    refine lv_tableOut (tgt := 181) hx hb dX11_suspect_70 (by omega) (by decide) ?_
    refine lv_aload_n hx hb dX11_suspect_181 rfl (lv_at hl 1 rfl) ?_
    refine va_get (ci := 11) (v := .ref (a 17)) (C := RX11) (T := TX11) (N := 43) hx hb hts h9X11 hown hK hP 0 fd_WM_0 rfl 24 (by decide) (hts (.fieldLink RX11 60 "FailDiagnoseModel" "suspectWrong" "[I") (List.mem_of_getElem? (i := 11) (by eq_refl))) (fun _ h9 => h9) rfl dX11_suspect_182 ?_
    refine lv_iload_n hx hb dX11_suspect_185 rfl (lv_at hl 2 rfl) ?_
    obtain ⟨g35, hf⟩ := fd_gds hf
    refine va_iald hx hb hK hP 17 16 fd_WM_17 fd_tyM_17 g35 dX11_suspect_186 ?_
    exact W.iret (v := (σ.2.1 17 y1.toNatClampNeg)) hx hb hr (fun t ht hW => ⟨⟨σ.2.1 17 y1.toNatClampNeg, σ, rfl, Option.some.inj hf, by rw [ht]; exact hP, va_K.moved hW.alike hK⟩, hS.F ht⟩) hS.2.2 dX11_suspect_187
  have hL41 : ∀ (y1 : Int32) (y2 : Int32) (z1 : Int32) (σ : fd_St) (H : Heap) (locs : List Loc) (ls : Array Slot), va_P D vwCl (fd_WM a k σ) H → va_S (fd_A 29 a s.heap.size) s.heap H locs → lv_has ls 4 [(0, .ref (a 0)), (1, .int y1), (2, .int y2)] → f_X11_suspect_0_J41 N y1 y2 z1 σ = some r → W p l e ((headSpec wsX11_suspect ({ frames := 1, cells := 0, slots := 0, locals := 21 })).room) s m ([.ref (a 0), .int p1, .int p2].toArray) below meth c H locs 0 0 (MQ below (va_Qi (fun v u => (v, u) = r) (fd_BM D a k) (fd_A 29 a s.heap.size)) ([.ref (a 0), .int p1, .int p2].toArray) s 0 0 (fd_A 29 a s.heap.size)) (F0 m 41 ls [.int z1, .ref (a 0)]) := by
    intro y1 y2 z1 σ H locs ls hP hS hl hf
    unfold f_X11_suspect_0_J41 at hf
    obtain ⟨σ14, eσ14, hf⟩ := fd_lts hf
    refine va_put (ci := 11) (v := .int z1) (ty := .int) (C := RX11) (T := TX11) (N := 43) hx hb hts h9X11 tyX11 tyX11_ok nmX11 hown hK hP (fd_DM hI hJ) hS 0 fd_WM_0 rfl 0 (by decide) (hts (.fieldLink RX11 99 "FailDiagnoseModel" "thrown" "I") (List.mem_of_getElem? (i := 3) (by eq_refl))) (fun _ h9 => h9) rfl (by decide +kernel) rfl rfl (Nat.le_of_ble_eq_true rfl) dX11_suspect_41 (fun H locs hP _ hS => ?_)
    have hP : va_P D vwCl (fd_WM a k σ14) H := by rw [eσ14]; exact fd_sP fd_WMi_0 hP
    refine lv_aload_n hx hb dX11_suspect_44 rfl (lv_at hl 0 rfl) ?_
    refine va_get (ci := 11) (v := .int (σ14.1 0)) (C := RX11) (T := TX11) (N := 43) hx hb hts h9X11 hown hK hP 0 fd_WM_0 rfl 0 (by decide) (hts (.fieldLink RX11 99 "FailDiagnoseModel" "thrown" "I") (List.mem_of_getElem? (i := 3) (by eq_refl))) (fun _ h9 => h9) rfl dX11_suspect_45 ?_
    refine lv_if_le (tgt := 53) hx hb dX11_suspect_48 (by decide) (fun c15 => ?_) (fun c15 => ?_)
    · have hf := fd_itp c15 hf
      refine lv_aload_n hx hb dX11_suspect_53 rfl (lv_at hl 0 rfl) ?_
      refine va_get (ci := 11) (v := .ref (a 12)) (C := RX11) (T := TX11) (N := 43) hx hb hts h9X11 hown hK hP 0 fd_WM_0 rfl 19 (by decide) (hts (.fieldLink RX11 45 "FailDiagnoseModel" "suspectKind" "[I") (List.mem_of_getElem? (i := 4) (by eq_refl))) (fun _ h9 => h9) rfl dX11_suspect_54 ?_
      refine lv_iload_n hx hb dX11_suspect_57 rfl (lv_at hl 1 rfl) ?_
      obtain ⟨g16, hf⟩ := fd_gds hf
      refine va_iald hx hb hK hP 12 11 fd_WM_12 fd_tyM_12 g16 dX11_suspect_58 ?_
      refine lv_iconst (v := (2 : Int32)) hx hb dX11_suspect_59 (by decide) ?_
      refine lv_icmp_ge (tgt := 67) hx hb dX11_suspect_60 (by decide) (fun c17 => ?_) (fun c17 => ?_)
      · have hf := fd_itp c17 hf
        refine lv_iconst (v := (0 : Int32)) hx hb dX11_suspect_67 (by decide) ?_
        exact hL68 y1 y2 (0 : Int32) σ14 _ _ _ hP hS (lv_sub hl [0, 1, 2] rfl) hf
      · have hf := fd_itn c17 hf
        refine lv_iconst (v := (1 : Int32)) hx hb dX11_suspect_63 (by decide) ?_
        refine lv_goto (tgt := 68) hx hb dX11_suspect_64 (by decide) ?_
        exact hL68 y1 y2 (1 : Int32) σ14 _ _ _ hP hS (lv_sub hl [0, 1, 2] rfl) hf
    · have hf := fd_itn c15 hf
      refine lv_iconst (v := (0 : Int32)) hx hb dX11_suspect_51 (by decide) ?_
      exact W.iret (v := (0 : Int32)) hx hb hr (fun t ht hW => ⟨⟨(0 : Int32), σ14, rfl, Option.some.inj hf, by rw [ht]; exact hP, va_K.moved hW.alike hK⟩, hS.F ht⟩) hS.2.2 dX11_suspect_52
  unfold f_X11_suspect_0 at hf
  refine lv_aload_n hx hb dX11_suspect_0 rfl (lv_at hl 0 rfl) ?_
  refine lv_iload_n hx hb dX11_suspect_1 rfl (lv_at hl 2 rfl) ?_
  refine lv_bipush (v := (7 : Int32)) hx hb dX11_suspect_2 (by decide) ?_
  obtain ⟨w4, τ5, hc1, hf⟩ := fd_bds hf
  refine va_calli (va_runS (As := [.int p2, .int (7 : Int32)]) (rest := [.ref (a 0)]) ⟨hx, hb, hml, hown, hts⟩ (m_X11_isIn l D a k s.heap.size hI N p2 (7 : Int32) σ _ hc1) (va_cwS 2 hts gX11_suspect_X11_isIn rfl rfl rfl (by decide +kernel) ⟨Nat.le_of_ble_eq_true rfl, Nat.le_of_ble_eq_true rfl⟩) ⟨fd_blM, fd_prM hP hK⟩ rfl rfl hl.1 rfl (lv_room (Nat.le_of_ble_eq_true rfl)) dX11_suspect_4 ⟨Nat.zero_le _, Nat.zero_le _⟩) hS (fun q _ h => fd_A_mono hS.1 h) (fun q h => fd_A_mono hS.1 h) (fun v2 u t H1 locs ht hvm hw hB hz hk hS => ?_)
  obtain ⟨hP1, hK1⟩ := hB
  rw [ht] at hP1
  obtain ⟨e1, e2⟩ := Prod.mk.inj hw
  subst e1
  subst e2
  obtain ⟨σ3, rfl⟩ : ∃ z, z = u := ⟨_, rfl⟩
  have hP := hP1
  generalize H1 = H at hP hS ⊢
  refine lv_if_ne (tgt := 14) hx hb dX11_suspect_7 (by decide) (fun c6 => ?_) (fun c6 => ?_)
  · have hf := fd_itn c6 hf
    refine lv_aload_n hx hb dX11_suspect_14 rfl (lv_at hl 0 rfl) ?_
    refine va_get (ci := 11) (v := .int (σ3.1 6)) (C := RX11) (T := TX11) (N := 43) hx hb hts h9X11 hown hK hP 0 fd_WM_0 rfl 17 (by decide) (hts (.fieldLink RX11 103 "FailDiagnoseModel" "told" "Z") (List.mem_of_getElem? (i := 1) (by eq_refl))) (fun _ h9 => h9) rfl dX11_suspect_15 ?_
    refine lv_if_ne (tgt := 25) hx hb dX11_suspect_18 (by decide) (fun c7 => ?_) (fun c7 => ?_)
    · have hf := fd_itn c7 hf
      refine lv_iload_n hx hb dX11_suspect_25 rfl (lv_at hl 1 rfl) ?_
      refine lv_aload_n hx hb dX11_suspect_26 rfl (lv_at hl 0 rfl) ?_
      refine va_get (ci := 11) (v := .int (σ3.1 7)) (C := RX11) (T := TX11) (N := 43) hx hb hts h9X11 hown hK hP 0 fd_WM_0 rfl 18 (by decide) (hts (.fieldLink RX11 107 "FailDiagnoseModel" "suspects" "I") (List.mem_of_getElem? (i := 2) (by eq_refl))) (fun _ h9 => h9) rfl dX11_suspect_27 ?_
      obtain ⟨w11, τ12, hc8, hf⟩ := fd_bds hf
      refine va_calli (va_runS (As := [.int p1, .int (σ3.1 7)]) (rest := [.ref (a 0)]) ⟨hx, hb, hml, hown, hts⟩ (m_X11_isIn l D a k H.size hI N p1 (σ3.1 7) σ3 _ hc8) (va_cwS 2 hts gX11_suspect_X11_isIn rfl rfl rfl (by decide +kernel) ⟨Nat.le_of_ble_eq_true rfl, Nat.le_of_ble_eq_true rfl⟩) ⟨fd_blM, fd_prM hP hK⟩ rfl rfl hl.1 rfl (lv_room (Nat.le_of_ble_eq_true rfl)) dX11_suspect_30 ⟨Nat.zero_le _, Nat.zero_le _⟩) hS (fun q _ h => fd_A_mono hS.1 h) (fun q h => fd_A_mono hS.1 h) (fun v9 u t H1 locs ht hvm hw hB hz hk hS => ?_)
      obtain ⟨hP1, hK1⟩ := hB
      rw [ht] at hP1
      obtain ⟨e1, e2⟩ := Prod.mk.inj hw
      subst e1
      subst e2
      obtain ⟨σ10, rfl⟩ : ∃ z, z = u := ⟨_, rfl⟩
      have hP := hP1
      generalize H1 = H at hP hS ⊢
      refine lv_if_ne (tgt := 40) hx hb dX11_suspect_33 (by decide) (fun c13 => ?_) (fun c13 => ?_)
      · have hf := fd_itn c13 hf
        refine lv_iconst (v := (0 : Int32)) hx hb dX11_suspect_40 (by decide) ?_
        exact hL41 p1 p2 (0 : Int32) σ10 _ _ _ hP hS (lv_sub hl [0, 1, 2] rfl) hf
      · have hf := fd_itp c13 hf
        refine lv_iconst (v := (1 : Int32)) hx hb dX11_suspect_36 (by decide) ?_
        refine lv_goto (tgt := 41) hx hb dX11_suspect_37 (by decide) ?_
        exact hL41 p1 p2 (1 : Int32) σ10 _ _ _ hP hS (lv_sub hl [0, 1, 2] rfl) hf
    · have hf := fd_itp c7 hf
      refine lv_iconst (v := (2 : Int32)) hx hb dX11_suspect_21 (by decide) ?_
      refine lv_goto (tgt := 41) hx hb dX11_suspect_22 (by decide) ?_
      exact hL41 p1 p2 (2 : Int32) σ3 _ _ _ hP hS (lv_sub hl [0, 1, 2] rfl) hf
  · have hf := fd_itp c6 hf
    refine lv_iconst (v := (1 : Int32)) hx hb dX11_suspect_10 (by decide) ?_
    refine lv_goto (tgt := 41) hx hb dX11_suspect_11 (by decide) ?_
    exact hL41 p1 p2 (1 : Int32) σ3 _ _ _ hP hS (lv_sub hl [0, 1, 2] rfl) hf
noncomputable def f_X3_bestPair_4 (N : Nat) (σ : fd_St) : Option (Unit × fd_St) := some ((), σ)
set_option maxHeartbeats 4000000 in
set_option maxRecDepth 100000 in
theorem m_X3_bestPair_4 (l : Launch) (D : va_G) (a : Nat → Nat) (k : Nat → ClassId) (sz : Nat) (hI : fd_I 39 a) (N : Nat) (σ : fd_St) (r : Unit × fd_St) (hf : f_X3_bestPair_4 N σ = some r) : Met l yX3_bestPair wsX3_bestPair ({ frames := 0, cells := 0, slots := 0, locals := 0 }) (va_Pc [.ref (a 4)] (fd_PC D a k sz σ)) (va_Qr (fun u => ((), u) = r) (fun u x t => x = a 6 ∧ fd_BC D a k u t) (fd_A 39 a sz)) 0 0 (fd_A 39 a sz) := by
  refine Met.ofW (cc := cX3_bestPair) (maxL := 1) (ret := (some (.object "FailDiagnose$BestPair"))) (by decide) rfl ?_
  intro p e s m args below meth c s₁ B hml hv
  obtain ⟨rfl, hsz, hP, hK⟩ := hv
  have hx := B.exec
  have hb := B.bytes
  have hr := B.returns
  have hts := atoms_spec (ws := wsX3_bestPair) B.pre
  have hown : s.vm.findClass RX3 = some m.cls := findClass_of_methodNamed B.named
  have hlocks := B.notSynchronized
  subst hsz
  have hJ : ∀ i, i < 39 → fd_A 39 a s.heap.size (a i) := fun i hi => Or.inl ⟨i, hi, rfl⟩
  have hS : va_S (fd_A 39 a s.heap.size) s.heap s.heap [] := va_S.rf
  have hl := lv_entry ([.ref (a 4)]) (n := 1) (Nat.le_of_ble_eq_true rfl)
  rw [lg_entry_eq]
  generalize (lg_sl ([.ref (a 4)]) ++ List.replicate (1 - (lg_sl ([.ref (a 4)])).length) Slot.unset).toArray = ls at hl ⊢
  have hl : lv_has ls 1 [(0, .ref (a 4))] := hl
  have h9X3 : ∀ w ∈ u_ws RX3 TX3 7, w ∈ wsX3_bestPair := fd_su [2, 3, 4, 5, 6, 7, 8] (by eq_refl)
  unfold f_X3_bestPair_4 at hf
  refine lv_aload_n hx hb dX3_bestPair_0 rfl (lv_at hl 0 rfl) ?_
  refine va_get (ci := 3) (v := .ref (a 6)) (C := RX3) (T := TX3) (N := 7) hx hb hts h9X3 hown hK hP 4 fd_WC_4 rfl 4 (by decide) (hts (.fieldLink RX3 21 "FailDiagnose$Diagnosis" "bestPair" "LFailDiagnose$BestPair;") (List.mem_of_getElem? (i := 1) (by eq_refl))) (fun _ h9 => h9) rfl dX3_bestPair_1 ?_
  exact W.aret (v := .ref (a 6)) (rt := .object "FailDiagnose$BestPair") hx hb hr (Or.inl ⟨_, rfl⟩) (Or.inr ⟨_, rfl⟩) (fun t ht hW => ⟨⟨σ, a 6, rfl, Option.some.inj hf, rfl, by rw [ht]; exact hP, va_K.moved hW.alike hK⟩, hS.F ht⟩) hS.2.2 dX3_bestPair_4
noncomputable def f_X0_first_6 (N : Nat) (σ : fd_St) : Option (Int32 × fd_St) := some (σ.1 7, σ)
set_option maxHeartbeats 4000000 in
set_option maxRecDepth 100000 in
theorem m_X0_first_6 (l : Launch) (D : va_G) (a : Nat → Nat) (k : Nat → ClassId) (sz : Nat) (hI : fd_I 39 a) (N : Nat) (σ : fd_St) (r : Int32 × fd_St) (hf : f_X0_first_6 N σ = some r) : Met l yX0_first wsX0_first ({ frames := 0, cells := 0, slots := 0, locals := 0 }) (va_Pc [.ref (a 6)] (fd_PC D a k sz σ)) (va_Qi (fun v u => (v, u) = r) (fd_BC D a k) (fd_A 39 a sz)) 0 0 (fd_A 39 a sz) := by
  refine Met.ofW (cc := cX0_first) (maxL := 1) (ret := (some .int)) (by decide) rfl ?_
  intro p e s m args below meth c s₁ B hml hv
  obtain ⟨rfl, hsz, hP, hK⟩ := hv
  have hx := B.exec
  have hb := B.bytes
  have hr := B.returns
  have hts := atoms_spec (ws := wsX0_first) B.pre
  have hown : s.vm.findClass RX0 = some m.cls := findClass_of_methodNamed B.named
  have hlocks := B.notSynchronized
  subst hsz
  have hJ : ∀ i, i < 39 → fd_A 39 a s.heap.size (a i) := fun i hi => Or.inl ⟨i, hi, rfl⟩
  have hS : va_S (fd_A 39 a s.heap.size) s.heap s.heap [] := va_S.rf
  have hl := lv_entry ([.ref (a 6)]) (n := 1) (Nat.le_of_ble_eq_true rfl)
  rw [lg_entry_eq]
  generalize (lg_sl ([.ref (a 6)]) ++ List.replicate (1 - (lg_sl ([.ref (a 6)])).length) Slot.unset).toArray = ls at hl ⊢
  have hl : lv_has ls 1 [(0, .ref (a 6))] := hl
  have h9X0 : ∀ w ∈ u_ws RX0 TX0 3, w ∈ wsX0_first := fd_su [2, 3, 4] (by eq_refl)
  unfold f_X0_first_6 at hf
  refine lv_aload_n hx hb dX0_first_0 rfl (lv_at hl 0 rfl) ?_
  refine va_get (ci := 0) (v := .int (σ.1 7)) (C := RX0) (T := TX0) (N := 3) hx hb hts h9X0 hown hK hP 6 fd_WC_6 rfl 1 (by decide) (hts (.fieldLink RX0 18 "FailDiagnose$BestPair" "first" "I") (List.mem_of_getElem? (i := 1) (by eq_refl))) (fun _ h9 => h9) rfl dX0_first_1 ?_
  exact W.iret (v := (σ.1 7)) hx hb hr (fun t ht hW => ⟨⟨σ.1 7, σ, rfl, Option.some.inj hf, by rw [ht]; exact hP, va_K.moved hW.alike hK⟩, hS.F ht⟩) hS.2.2 dX0_first_4
noncomputable def f_X0_second_6 (N : Nat) (σ : fd_St) : Option (Int32 × fd_St) := some (σ.1 8, σ)
set_option maxHeartbeats 4000000 in
set_option maxRecDepth 100000 in
theorem m_X0_second_6 (l : Launch) (D : va_G) (a : Nat → Nat) (k : Nat → ClassId) (sz : Nat) (hI : fd_I 39 a) (N : Nat) (σ : fd_St) (r : Int32 × fd_St) (hf : f_X0_second_6 N σ = some r) : Met l yX0_second wsX0_second ({ frames := 0, cells := 0, slots := 0, locals := 0 }) (va_Pc [.ref (a 6)] (fd_PC D a k sz σ)) (va_Qi (fun v u => (v, u) = r) (fd_BC D a k) (fd_A 39 a sz)) 0 0 (fd_A 39 a sz) := by
  refine Met.ofW (cc := cX0_second) (maxL := 1) (ret := (some .int)) (by decide) rfl ?_
  intro p e s m args below meth c s₁ B hml hv
  obtain ⟨rfl, hsz, hP, hK⟩ := hv
  have hx := B.exec
  have hb := B.bytes
  have hr := B.returns
  have hts := atoms_spec (ws := wsX0_second) B.pre
  have hown : s.vm.findClass RX0 = some m.cls := findClass_of_methodNamed B.named
  have hlocks := B.notSynchronized
  subst hsz
  have hJ : ∀ i, i < 39 → fd_A 39 a s.heap.size (a i) := fun i hi => Or.inl ⟨i, hi, rfl⟩
  have hS : va_S (fd_A 39 a s.heap.size) s.heap s.heap [] := va_S.rf
  have hl := lv_entry ([.ref (a 6)]) (n := 1) (Nat.le_of_ble_eq_true rfl)
  rw [lg_entry_eq]
  generalize (lg_sl ([.ref (a 6)]) ++ List.replicate (1 - (lg_sl ([.ref (a 6)])).length) Slot.unset).toArray = ls at hl ⊢
  have hl : lv_has ls 1 [(0, .ref (a 6))] := hl
  have h9X0 : ∀ w ∈ u_ws RX0 TX0 3, w ∈ wsX0_second := fd_su [2, 3, 4] (by eq_refl)
  unfold f_X0_second_6 at hf
  refine lv_aload_n hx hb dX0_second_0 rfl (lv_at hl 0 rfl) ?_
  refine va_get (ci := 0) (v := .int (σ.1 8)) (C := RX0) (T := TX0) (N := 3) hx hb hts h9X0 hown hK hP 6 fd_WC_6 rfl 2 (by decide) (hts (.fieldLink RX0 22 "FailDiagnose$BestPair" "second" "I") (List.mem_of_getElem? (i := 1) (by eq_refl))) (fun _ h9 => h9) rfl dX0_second_1 ?_
  exact W.iret (v := (σ.1 8)) hx hb hr (fun t ht hW => ⟨⟨σ.1 8, σ, rfl, Option.some.inj hf, by rw [ht]; exact hP, va_K.moved hW.alike hK⟩, hS.F ht⟩) hS.2.2 dX0_second_4
noncomputable def f_X0_tally_6 (N : Nat) (σ : fd_St) : Option (Unit × fd_St) := some ((), σ)
set_option maxHeartbeats 4000000 in
set_option maxRecDepth 100000 in
theorem m_X0_tally_6 (l : Launch) (D : va_G) (a : Nat → Nat) (k : Nat → ClassId) (sz : Nat) (hI : fd_I 39 a) (N : Nat) (σ : fd_St) (r : Unit × fd_St) (hf : f_X0_tally_6 N σ = some r) : Met l yX0_tally wsX0_tally ({ frames := 0, cells := 0, slots := 0, locals := 0 }) (va_Pc [.ref (a 6)] (fd_PC D a k sz σ)) (va_Qr (fun u => ((), u) = r) (fun u x t => x = a 7 ∧ fd_BC D a k u t) (fd_A 39 a sz)) 0 0 (fd_A 39 a sz) := by
  refine Met.ofW (cc := cX0_tally) (maxL := 1) (ret := (some (.object "FailDiagnose$Tally"))) (by decide) rfl ?_
  intro p e s m args below meth c s₁ B hml hv
  obtain ⟨rfl, hsz, hP, hK⟩ := hv
  have hx := B.exec
  have hb := B.bytes
  have hr := B.returns
  have hts := atoms_spec (ws := wsX0_tally) B.pre
  have hown : s.vm.findClass RX0 = some m.cls := findClass_of_methodNamed B.named
  have hlocks := B.notSynchronized
  subst hsz
  have hJ : ∀ i, i < 39 → fd_A 39 a s.heap.size (a i) := fun i hi => Or.inl ⟨i, hi, rfl⟩
  have hS : va_S (fd_A 39 a s.heap.size) s.heap s.heap [] := va_S.rf
  have hl := lv_entry ([.ref (a 6)]) (n := 1) (Nat.le_of_ble_eq_true rfl)
  rw [lg_entry_eq]
  generalize (lg_sl ([.ref (a 6)]) ++ List.replicate (1 - (lg_sl ([.ref (a 6)])).length) Slot.unset).toArray = ls at hl ⊢
  have hl : lv_has ls 1 [(0, .ref (a 6))] := hl
  have h9X0 : ∀ w ∈ u_ws RX0 TX0 3, w ∈ wsX0_tally := fd_su [2, 3, 4] (by eq_refl)
  unfold f_X0_tally_6 at hf
  refine lv_aload_n hx hb dX0_tally_0 rfl (lv_at hl 0 rfl) ?_
  refine va_get (ci := 0) (v := .ref (a 7)) (C := RX0) (T := TX0) (N := 3) hx hb hts h9X0 hown hK hP 6 fd_WC_6 rfl 0 (by decide) (hts (.fieldLink RX0 12 "FailDiagnose$BestPair" "tally" "LFailDiagnose$Tally;") (List.mem_of_getElem? (i := 1) (by eq_refl))) (fun _ h9 => h9) rfl dX0_tally_1 ?_
  exact W.aret (v := .ref (a 7)) (rt := .object "FailDiagnose$Tally") hx hb hr (Or.inl ⟨_, rfl⟩) (Or.inr ⟨_, rfl⟩) (fun t ht hW => ⟨⟨σ, a 7, rfl, Option.some.inj hf, rfl, by rw [ht]; exact hP, va_K.moved hW.alike hK⟩, hS.F ht⟩) hS.2.2 dX0_tally_4
noncomputable def f_X9_explained_7 (N : Nat) (σ : fd_St) : Option (Int32 × fd_St) := some (σ.1 9, σ)
set_option maxHeartbeats 4000000 in
set_option maxRecDepth 100000 in
theorem m_X9_explained_7 (l : Launch) (D : va_G) (a : Nat → Nat) (k : Nat → ClassId) (sz : Nat) (hI : fd_I 39 a) (N : Nat) (σ : fd_St) (r : Int32 × fd_St) (hf : f_X9_explained_7 N σ = some r) : Met l yX9_explained wsX9_explained ({ frames := 0, cells := 0, slots := 0, locals := 0 }) (va_Pc [.ref (a 7)] (fd_PC D a k sz σ)) (va_Qi (fun v u => (v, u) = r) (fd_BC D a k) (fd_A 39 a sz)) 0 0 (fd_A 39 a sz) := by
  refine Met.ofW (cc := cX9_explained) (maxL := 1) (ret := (some .int)) (by decide) rfl ?_
  intro p e s m args below meth c s₁ B hml hv
  obtain ⟨rfl, hsz, hP, hK⟩ := hv
  have hx := B.exec
  have hb := B.bytes
  have hr := B.returns
  have hts := atoms_spec (ws := wsX9_explained) B.pre
  have hown : s.vm.findClass RX9 = some m.cls := findClass_of_methodNamed B.named
  have hlocks := B.notSynchronized
  subst hsz
  have hJ : ∀ i, i < 39 → fd_A 39 a s.heap.size (a i) := fun i hi => Or.inl ⟨i, hi, rfl⟩
  have hS : va_S (fd_A 39 a s.heap.size) s.heap s.heap [] := va_S.rf
  have hl := lv_entry ([.ref (a 7)]) (n := 1) (Nat.le_of_ble_eq_true rfl)
  rw [lg_entry_eq]
  generalize (lg_sl ([.ref (a 7)]) ++ List.replicate (1 - (lg_sl ([.ref (a 7)])).length) Slot.unset).toArray = ls at hl ⊢
  have hl : lv_has ls 1 [(0, .ref (a 7))] := hl
  have h9X9 : ∀ w ∈ u_ws RX9 TX9 3, w ∈ wsX9_explained := fd_su [2, 3, 4] (by eq_refl)
  unfold f_X9_explained_7 at hf
  refine lv_aload_n hx hb dX9_explained_0 rfl (lv_at hl 0 rfl) ?_
  refine va_get (ci := 9) (v := .int (σ.1 9)) (C := RX9) (T := TX9) (N := 3) hx hb hts h9X9 hown hK hP 7 fd_WC_7 rfl 0 (by decide) (hts (.fieldLink RX9 7 "FailDiagnose$Tally" "explained" "I") (List.mem_of_getElem? (i := 1) (by eq_refl))) (fun _ h9 => h9) rfl dX9_explained_1 ?_
  exact W.iret (v := (σ.1 9)) hx hb hr (fun t ht hW => ⟨⟨σ.1 9, σ, rfl, Option.some.inj hf, by rw [ht]; exact hP, va_K.moved hW.alike hK⟩, hS.F ht⟩) hS.2.2 dX9_explained_4
noncomputable def f_X9_missed_7 (N : Nat) (σ : fd_St) : Option (Int32 × fd_St) := some (σ.1 10, σ)
set_option maxHeartbeats 4000000 in
set_option maxRecDepth 100000 in
theorem m_X9_missed_7 (l : Launch) (D : va_G) (a : Nat → Nat) (k : Nat → ClassId) (sz : Nat) (hI : fd_I 39 a) (N : Nat) (σ : fd_St) (r : Int32 × fd_St) (hf : f_X9_missed_7 N σ = some r) : Met l yX9_missed wsX9_missed ({ frames := 0, cells := 0, slots := 0, locals := 0 }) (va_Pc [.ref (a 7)] (fd_PC D a k sz σ)) (va_Qi (fun v u => (v, u) = r) (fd_BC D a k) (fd_A 39 a sz)) 0 0 (fd_A 39 a sz) := by
  refine Met.ofW (cc := cX9_missed) (maxL := 1) (ret := (some .int)) (by decide) rfl ?_
  intro p e s m args below meth c s₁ B hml hv
  obtain ⟨rfl, hsz, hP, hK⟩ := hv
  have hx := B.exec
  have hb := B.bytes
  have hr := B.returns
  have hts := atoms_spec (ws := wsX9_missed) B.pre
  have hown : s.vm.findClass RX9 = some m.cls := findClass_of_methodNamed B.named
  have hlocks := B.notSynchronized
  subst hsz
  have hJ : ∀ i, i < 39 → fd_A 39 a s.heap.size (a i) := fun i hi => Or.inl ⟨i, hi, rfl⟩
  have hS : va_S (fd_A 39 a s.heap.size) s.heap s.heap [] := va_S.rf
  have hl := lv_entry ([.ref (a 7)]) (n := 1) (Nat.le_of_ble_eq_true rfl)
  rw [lg_entry_eq]
  generalize (lg_sl ([.ref (a 7)]) ++ List.replicate (1 - (lg_sl ([.ref (a 7)])).length) Slot.unset).toArray = ls at hl ⊢
  have hl : lv_has ls 1 [(0, .ref (a 7))] := hl
  have h9X9 : ∀ w ∈ u_ws RX9 TX9 3, w ∈ wsX9_missed := fd_su [2, 3, 4] (by eq_refl)
  unfold f_X9_missed_7 at hf
  refine lv_aload_n hx hb dX9_missed_0 rfl (lv_at hl 0 rfl) ?_
  refine va_get (ci := 9) (v := .int (σ.1 10)) (C := RX9) (T := TX9) (N := 3) hx hb hts h9X9 hown hK hP 7 fd_WC_7 rfl 1 (by decide) (hts (.fieldLink RX9 13 "FailDiagnose$Tally" "missed" "I") (List.mem_of_getElem? (i := 1) (by eq_refl))) (fun _ h9 => h9) rfl dX9_missed_1 ?_
  exact W.iret (v := (σ.1 10)) hx hb hr (fun t ht hW => ⟨⟨σ.1 10, σ, rfl, Option.some.inj hf, by rw [ht]; exact hP, va_K.moved hW.alike hK⟩, hS.F ht⟩) hS.2.2 dX9_missed_4
