noncomputable def f_X11_shape_0_J191 (N : Nat) (k162 : Int32 → Int32 → Int32 → fd_St → Option (Int32 × fd_St)) (y1 : Int32) (y8 : Int32) (z0 : Int32) (σ : fd_St) : Option (Int32 × fd_St) := fd_lt (y8 + (1 : Int32)) (fun x26 => k162 y1 z0 x26 σ)
noncomputable def f_X11_shape_0_L162 (N : Nat) : Nat → Int32 → Int32 → Int32 → fd_St → Option (Int32 × fd_St)
  | 0 => fun _ _ _ _ => none
  | n + 1 => fun y1 y7 y8 σ => if (σ.1 14) ≤ y8 then (some (y7, σ)) else (fd_gd (vp_in y8 60) (if (σ.2.1 22 y8.toNatClampNeg) = y1 then (f_X11_shape_0_J191 N (f_X11_shape_0_L162 N n) y1 y8 (y7 + (1 : Int32)) σ) else (f_X11_shape_0_J191 N (f_X11_shape_0_L162 N n) y1 y8 y7 σ)))
noncomputable def f_X11_shape_0_J82 (N : Nat) (y1 : Int32) (y2 : Int32) (y3 : Int32) (y4 : Int32) (y5 : Int32) (z1 : Int32) (σ : fd_St) : Option (Int32 × fd_St) := fd_lt (fd_sI 0 z1 σ) (fun σ10 => if (σ10.1 0) ≤ 0 then (fd_gd (vp_in (σ10.1 14) 60) (fd_lt (fd_sA 22 (σ10.1 14) y1 σ10) (fun σ13 => fd_gd (vp_in (σ13.1 14) 60) (fd_lt (fd_sA 23 (σ13.1 14) y2 σ13) (fun σ15 => fd_gd (vp_in (σ15.1 14) 60) (fd_lt (fd_sA 24 (σ15.1 14) y3 σ15) (fun σ17 => fd_gd (vp_in (σ17.1 14) 60) (fd_lt (fd_sA 25 (σ17.1 14) y4 σ17) (fun σ19 => fd_gd (vp_in (σ19.1 14) 60) (fd_lt (fd_sA 26 (σ19.1 14) y5 σ19) (fun σ21 => fd_lt (fd_sI 14 ((σ21.1 14) + (1 : Int32)) σ21) (fun σ22 => f_X11_shape_0_L162 N N y1 (0 : Int32) (0 : Int32) σ22)))))))))))) else (some ((0 : Int32), σ10)))
noncomputable def f_X11_shape_0_J41 (N : Nat) (y1 : Int32) (y2 : Int32) (y3 : Int32) (y4 : Int32) (y5 : Int32) (z0 : Int32) (σ : fd_St) : Option (Int32 × fd_St) := fd_bd (f_X11_isIn N y1 (σ.1 1) σ) (fun v3 σ4 => if v3 = 0 then (f_X11_shape_0_J82 N y1 y2 y3 y4 y5 (1 : Int32) σ4) else (if (σ4.1 14) = (60 : Int32) then (f_X11_shape_0_J82 N y1 y2 y3 y4 y5 (2 : Int32) σ4) else (if z0 = 0 then (f_X11_shape_0_J82 N y1 y2 y3 y4 y5 (3 : Int32) σ4) else (f_X11_shape_0_J82 N y1 y2 y3 y4 y5 (0 : Int32) σ4))))
noncomputable def f_X11_shape_0_J40 (N : Nat) (y1 : Int32) (y2 : Int32) (y3 : Int32) (y4 : Int32) (y5 : Int32) (σ : fd_St) : Option (Int32 × fd_St) := f_X11_shape_0_J41 N y1 y2 y3 y4 y5 (0 : Int32) σ
noncomputable def f_X11_shape_0 (N : Nat) (p1 : Int32) (p2 : Int32) (p3 : Int32) (p4 : Int32) (p5 : Int32) (σ : fd_St) : Option (Int32 × fd_St) := if p2 < 0 then (f_X11_shape_0_J40 N p1 p2 p3 p4 p5 σ) else (if p3 < 0 then (f_X11_shape_0_J40 N p1 p2 p3 p4 p5 σ) else (if (1000 : Int32) < p4 then (f_X11_shape_0_J40 N p1 p2 p3 p4 p5 σ) else (if (1000 : Int32) < p5 then (f_X11_shape_0_J40 N p1 p2 p3 p4 p5 σ) else (if p4 ≤ p2 then (f_X11_shape_0_J40 N p1 p2 p3 p4 p5 σ) else (if p5 ≤ p3 then (f_X11_shape_0_J40 N p1 p2 p3 p4 p5 σ) else (f_X11_shape_0_J41 N p1 p2 p3 p4 p5 (1 : Int32) σ))))))
set_option maxHeartbeats 4000000 in
set_option maxRecDepth 100000 in
theorem m_X11_shape_0 (l : Launch) (D : va_G) (a : Nat → Nat) (k : Nat → ClassId) (sz : Nat) (hI : fd_I 29 a) (N : Nat) (p1 : Int32) (p2 : Int32) (p3 : Int32) (p4 : Int32) (p5 : Int32) (σ : fd_St) (r : Int32 × fd_St) (hf : f_X11_shape_0 N p1 p2 p3 p4 p5 σ = some r) : Met l yX11_shape wsX11_shape ({ frames := 1, cells := 0, slots := 0, locals := 21 }) (va_Pc [.ref (a 0), .int p1, .int p2, .int p3, .int p4, .int p5] (fd_PM D a k sz σ)) (va_Qi (fun v u => (v, u) = r) (fd_BM D a k) (fd_A 29 a sz)) 0 0 (fd_A 29 a sz) := by
  refine Met.ofW (cc := cX11_shape) (maxL := 9) (ret := (some .int)) (by decide) rfl ?_
  intro p e s m args below meth c s₁ B hml hv
  obtain ⟨rfl, hsz, hP, hK⟩ := hv
  have hx := B.exec
  have hb := B.bytes
  have hr := B.returns
  have hts := atoms_spec (ws := wsX11_shape) B.pre
  have hown : s.vm.findClass RX11 = some m.cls := findClass_of_methodNamed B.named
  have hlocks := B.notSynchronized
  subst hsz
  have hJ : ∀ i, i < 29 → fd_A 29 a s.heap.size (a i) := fun i hi => Or.inl ⟨i, hi, rfl⟩
  have hS : va_S (fd_A 29 a s.heap.size) s.heap s.heap [] := va_S.rf
  have hl := lv_entry ([.ref (a 0), .int p1, .int p2, .int p3, .int p4, .int p5]) (n := 9) (Nat.le_of_ble_eq_true rfl)
  rw [lg_entry_eq]
  generalize (lg_sl ([.ref (a 0), .int p1, .int p2, .int p3, .int p4, .int p5]) ++ List.replicate (9 - (lg_sl ([.ref (a 0), .int p1, .int p2, .int p3, .int p4, .int p5])).length) Slot.unset).toArray = ls at hl ⊢
  have hl : lv_has ls 9 [(0, .ref (a 0)), (1, .int p1), (2, .int p2), (3, .int p3), (4, .int p4), (5, .int p5)] := hl
  have h9X11 : ∀ w ∈ u_ws RX11 TX11 43, w ∈ wsX11_shape := fd_su [13, 14, 15, 16, 17, 18, 19, 20, 21, 22, 23, 24, 25, 26, 27, 28, 29, 30, 31, 32, 33, 34, 35, 36, 37, 38, 39, 40, 41, 42, 43, 44, 45, 46, 47, 48, 49, 50, 51, 52, 53, 54, 55] (by eq_refl)
  have hL191 : ∀ (k162 : Int32 → Int32 → Int32 → fd_St → Option (Int32 × fd_St)) (hk162 : ∀ (y1 : Int32) (y7 : Int32) (y8 : Int32) (σ : fd_St) (H : Heap) (locs : List Loc) (ls : Array Slot), va_P D vwCl (fd_WM a k σ) H → va_S (fd_A 29 a s.heap.size) s.heap H locs → lv_has ls 9 [(0, .ref (a 0)), (1, .int y1), (7, .int y7), (8, .int y8)] → k162 y1 y7 y8 σ = some r → W p l e ((headSpec wsX11_shape ({ frames := 1, cells := 0, slots := 0, locals := 21 })).room) s m ([.ref (a 0), .int p1, .int p2, .int p3, .int p4, .int p5].toArray) below meth c H locs 0 0 (MQ below (va_Qi (fun v u => (v, u) = r) (fd_BM D a k) (fd_A 29 a s.heap.size)) ([.ref (a 0), .int p1, .int p2, .int p3, .int p4, .int p5].toArray) s 0 0 (fd_A 29 a s.heap.size)) (F0 m 162 ls [])), ∀ (y1 : Int32) (y8 : Int32) (z0 : Int32) (σ : fd_St) (H : Heap) (locs : List Loc) (ls : Array Slot), va_P D vwCl (fd_WM a k σ) H → va_S (fd_A 29 a s.heap.size) s.heap H locs → lv_has ls 9 [(0, .ref (a 0)), (1, .int y1), (8, .int y8)] → f_X11_shape_0_J191 N k162 y1 y8 z0 σ = some r → W p l e ((headSpec wsX11_shape ({ frames := 1, cells := 0, slots := 0, locals := 21 })).room) s m ([.ref (a 0), .int p1, .int p2, .int p3, .int p4, .int p5].toArray) below meth c H locs 0 0 (MQ below (va_Qi (fun v u => (v, u) = r) (fd_BM D a k) (fd_A 29 a s.heap.size)) ([.ref (a 0), .int p1, .int p2, .int p3, .int p4, .int p5].toArray) s 0 0 (fd_A 29 a s.heap.size)) (F0 m 191 ls [.int z0]) := by
    intro k162 hk162 y1 y8 z0 σ H locs ls hP hS hl hf
    unfold f_X11_shape_0_J191 at hf
    refine lv_istore (lv' := [(7, .int z0), (0, .ref (a 0)), (1, .int y1), (8, .int y8)]) hx hb dX11_shape_191 hl (by decide) rfl (fun ls hl => ?_)
    obtain ⟨x26, ex26, hf⟩ := fd_lts hf
    refine lv_iinc (v := x26) (lv' := [(8, .int x26), (7, .int z0), (0, .ref (a 0)), (1, .int y1)]) hx hb dX11_shape_193 hl (k := 3) rfl (by rw [ex26]; rfl) (by decide) rfl (fun ls hl => ?_)
    refine lv_goto (tgt := 162) hx hb dX11_shape_196 (by decide) ?_
    exact hk162 y1 z0 x26 σ _ _ _ hP hS (lv_sub hl [2, 3, 1, 0] rfl) hf
  have hL162 : ∀ (n : Nat), ∀ (y1 : Int32) (y7 : Int32) (y8 : Int32) (σ : fd_St) (H : Heap) (locs : List Loc) (ls : Array Slot), va_P D vwCl (fd_WM a k σ) H → va_S (fd_A 29 a s.heap.size) s.heap H locs → lv_has ls 9 [(0, .ref (a 0)), (1, .int y1), (7, .int y7), (8, .int y8)] → f_X11_shape_0_L162 N n y1 y7 y8 σ = some r → W p l e ((headSpec wsX11_shape ({ frames := 1, cells := 0, slots := 0, locals := 21 })).room) s m ([.ref (a 0), .int p1, .int p2, .int p3, .int p4, .int p5].toArray) below meth c H locs 0 0 (MQ below (va_Qi (fun v u => (v, u) = r) (fd_BM D a k) (fd_A 29 a s.heap.size)) ([.ref (a 0), .int p1, .int p2, .int p3, .int p4, .int p5].toArray) s 0 0 (fd_A 29 a s.heap.size)) (F0 m 162 ls []) := by
    intro n
    induction n with
    | zero =>
      intro _ _ _ _ _ _ _ _ _ _ hf
      cases hf
    | succ n ih =>
      intro y1 y7 y8 σ H locs ls hP hS hl hf
      unfold f_X11_shape_0_L162 at hf
      refine lv_iload hx hb dX11_shape_162 (lv_at hl 3 rfl) ?_
      refine lv_aload_n hx hb dX11_shape_164 rfl (lv_at hl 0 rfl) ?_
      refine va_get (ci := 11) (v := .int (σ.1 14)) (C := RX11) (T := TX11) (N := 43) hx hb hts h9X11 hown hK hP 0 fd_WM_0 rfl 35 (by decide) (hts (.fieldLink RX11 198 "FailDiagnoseModel" "shapes" "I") (List.mem_of_getElem? (i := 2) (by eq_refl))) (fun _ h9 => h9) rfl dX11_shape_165 ?_
      refine lv_icmp_ge (tgt := 199) hx hb dX11_shape_168 (by decide) (fun c23 => ?_) (fun c23 => ?_)
      · have hf := fd_itp c23 hf
        refine lv_iload hx hb dX11_shape_199 (lv_at hl 2 rfl) ?_
        exact W.iret (v := y7) hx hb hr (fun t ht hW => ⟨⟨y7, σ, rfl, Option.some.inj hf, by rw [ht]; exact hP, va_K.moved hW.alike hK⟩, hS.F ht⟩) hS.2.2 dX11_shape_201
      · have hf := fd_itn c23 hf
        refine lv_aload_n hx hb dX11_shape_171 rfl (lv_at hl 0 rfl) ?_
        refine va_get (ci := 11) (v := .ref (a 22)) (C := RX11) (T := TX11) (N := 43) hx hb hts h9X11 hown hK hP 0 fd_WM_0 rfl 36 (by decide) (hts (.fieldLink RX11 75 "FailDiagnoseModel" "shapeNet" "[I") (List.mem_of_getElem? (i := 4) (by eq_refl))) (fun _ h9 => h9) rfl dX11_shape_172 ?_
        refine lv_iload hx hb dX11_shape_175 (lv_at hl 3 rfl) ?_
        obtain ⟨g24, hf⟩ := fd_gds hf
        refine va_iald hx hb hK hP 22 21 fd_WM_22 fd_tyM_22 g24 dX11_shape_177 ?_
        refine lv_iload_n hx hb dX11_shape_178 rfl (lv_at hl 1 rfl) ?_
        refine lv_icmp_ne (tgt := 189) hx hb dX11_shape_179 (by decide) (fun c25 => ?_) (fun c25 => ?_)
        · have hf := fd_itn c25 hf
          refine lv_iload hx hb dX11_shape_189 (lv_at hl 2 rfl) ?_
          exact hL191 (f_X11_shape_0_L162 N n) ih y1 y8 y7 σ _ _ _ hP hS (lv_sub hl [0, 1, 3] rfl) hf
        · have hf := fd_itp c25 hf
          refine lv_iload hx hb dX11_shape_182 (lv_at hl 2 rfl) ?_
          refine lv_iconst (v := (1 : Int32)) hx hb dX11_shape_184 (by decide) ?_
          refine lv_iadd hx hb dX11_shape_185 ?_
          refine lv_goto (tgt := 191) hx hb dX11_shape_186 (by decide) ?_
          exact hL191 (f_X11_shape_0_L162 N n) ih y1 y8 (y7 + (1 : Int32)) σ _ _ _ hP hS (lv_sub hl [0, 1, 3] rfl) hf
  have hL82 : ∀ (y1 : Int32) (y2 : Int32) (y3 : Int32) (y4 : Int32) (y5 : Int32) (z1 : Int32) (σ : fd_St) (H : Heap) (locs : List Loc) (ls : Array Slot), va_P D vwCl (fd_WM a k σ) H → va_S (fd_A 29 a s.heap.size) s.heap H locs → lv_has ls 9 [(0, .ref (a 0)), (1, .int y1), (2, .int y2), (3, .int y3), (4, .int y4), (5, .int y5)] → f_X11_shape_0_J82 N y1 y2 y3 y4 y5 z1 σ = some r → W p l e ((headSpec wsX11_shape ({ frames := 1, cells := 0, slots := 0, locals := 21 })).room) s m ([.ref (a 0), .int p1, .int p2, .int p3, .int p4, .int p5].toArray) below meth c H locs 0 0 (MQ below (va_Qi (fun v u => (v, u) = r) (fd_BM D a k) (fd_A 29 a s.heap.size)) ([.ref (a 0), .int p1, .int p2, .int p3, .int p4, .int p5].toArray) s 0 0 (fd_A 29 a s.heap.size)) (F0 m 82 ls [.int z1, .ref (a 0)]) := by
    intro y1 y2 y3 y4 y5 z1 σ H locs ls hP hS hl hf
    unfold f_X11_shape_0_J82 at hf
    obtain ⟨σ10, eσ10, hf⟩ := fd_lts hf
    refine va_put (ci := 11) (v := .int z1) (ty := .int) (C := RX11) (T := TX11) (N := 43) hx hb hts h9X11 tyX11 tyX11_ok nmX11 hown hK hP (fd_DM hI hJ) hS 0 fd_WM_0 rfl 0 (by decide) (hts (.fieldLink RX11 99 "FailDiagnoseModel" "thrown" "I") (List.mem_of_getElem? (i := 3) (by eq_refl))) (fun _ h9 => h9) rfl (by decide +kernel) rfl rfl (Nat.le_of_ble_eq_true rfl) dX11_shape_82 (fun H locs hP _ hS => ?_)
    have hP : va_P D vwCl (fd_WM a k σ10) H := by rw [eσ10]; exact fd_sP fd_WMi_0 hP
    refine lv_aload_n hx hb dX11_shape_85 rfl (lv_at hl 0 rfl) ?_
    refine va_get (ci := 11) (v := .int (σ10.1 0)) (C := RX11) (T := TX11) (N := 43) hx hb hts h9X11 hown hK hP 0 fd_WM_0 rfl 0 (by decide) (hts (.fieldLink RX11 99 "FailDiagnoseModel" "thrown" "I") (List.mem_of_getElem? (i := 3) (by eq_refl))) (fun _ h9 => h9) rfl dX11_shape_86 ?_
    refine lv_if_le (tgt := 94) hx hb dX11_shape_89 (by decide) (fun c11 => ?_) (fun c11 => ?_)
    · have hf := fd_itp c11 hf
      refine lv_aload_n hx hb dX11_shape_94 rfl (lv_at hl 0 rfl) ?_
      refine va_get (ci := 11) (v := .ref (a 22)) (C := RX11) (T := TX11) (N := 43) hx hb hts h9X11 hown hK hP 0 fd_WM_0 rfl 36 (by decide) (hts (.fieldLink RX11 75 "FailDiagnoseModel" "shapeNet" "[I") (List.mem_of_getElem? (i := 4) (by eq_refl))) (fun _ h9 => h9) rfl dX11_shape_95 ?_
      refine lv_aload_n hx hb dX11_shape_98 rfl (lv_at hl 0 rfl) ?_
      refine va_get (ci := 11) (v := .int (σ10.1 14)) (C := RX11) (T := TX11) (N := 43) hx hb hts h9X11 hown hK hP 0 fd_WM_0 rfl 35 (by decide) (hts (.fieldLink RX11 198 "FailDiagnoseModel" "shapes" "I") (List.mem_of_getElem? (i := 2) (by eq_refl))) (fun _ h9 => h9) rfl dX11_shape_99 ?_
      refine lv_iload_n hx hb dX11_shape_102 rfl (lv_at hl 1 rfl) ?_
      obtain ⟨g12, hf⟩ := fd_gds hf
      obtain ⟨σ13, eσ13, hf⟩ := fd_lts hf
      refine va_iast hx hb hK hP (fd_DM hI hJ) hS 22 21 fd_WM_22 fd_tyM_22 g12 dX11_shape_103 (fun H locs hP _ hS => ?_)
      have hP : va_P D vwCl (fd_WM a k σ13) H := by rw [eσ13]; exact fd_sP fd_WMa_22 hP
      refine lv_aload_n hx hb dX11_shape_104 rfl (lv_at hl 0 rfl) ?_
      refine va_get (ci := 11) (v := .ref (a 23)) (C := RX11) (T := TX11) (N := 43) hx hb hts h9X11 hown hK hP 0 fd_WM_0 rfl 37 (by decide) (hts (.fieldLink RX11 78 "FailDiagnoseModel" "shapeX0" "[I") (List.mem_of_getElem? (i := 5) (by eq_refl))) (fun _ h9 => h9) rfl dX11_shape_105 ?_
      refine lv_aload_n hx hb dX11_shape_108 rfl (lv_at hl 0 rfl) ?_
      refine va_get (ci := 11) (v := .int (σ13.1 14)) (C := RX11) (T := TX11) (N := 43) hx hb hts h9X11 hown hK hP 0 fd_WM_0 rfl 35 (by decide) (hts (.fieldLink RX11 198 "FailDiagnoseModel" "shapes" "I") (List.mem_of_getElem? (i := 2) (by eq_refl))) (fun _ h9 => h9) rfl dX11_shape_109 ?_
      refine lv_iload_n hx hb dX11_shape_112 rfl (lv_at hl 2 rfl) ?_
      obtain ⟨g14, hf⟩ := fd_gds hf
      obtain ⟨σ15, eσ15, hf⟩ := fd_lts hf
      refine va_iast hx hb hK hP (fd_DM hI hJ) hS 23 22 fd_WM_23 fd_tyM_23 g14 dX11_shape_113 (fun H locs hP _ hS => ?_)
      have hP : va_P D vwCl (fd_WM a k σ15) H := by rw [eσ15]; exact fd_sP fd_WMa_23 hP
      refine lv_aload_n hx hb dX11_shape_114 rfl (lv_at hl 0 rfl) ?_
      refine va_get (ci := 11) (v := .ref (a 24)) (C := RX11) (T := TX11) (N := 43) hx hb hts h9X11 hown hK hP 0 fd_WM_0 rfl 38 (by decide) (hts (.fieldLink RX11 81 "FailDiagnoseModel" "shapeY0" "[I") (List.mem_of_getElem? (i := 6) (by eq_refl))) (fun _ h9 => h9) rfl dX11_shape_115 ?_
      refine lv_aload_n hx hb dX11_shape_118 rfl (lv_at hl 0 rfl) ?_
      refine va_get (ci := 11) (v := .int (σ15.1 14)) (C := RX11) (T := TX11) (N := 43) hx hb hts h9X11 hown hK hP 0 fd_WM_0 rfl 35 (by decide) (hts (.fieldLink RX11 198 "FailDiagnoseModel" "shapes" "I") (List.mem_of_getElem? (i := 2) (by eq_refl))) (fun _ h9 => h9) rfl dX11_shape_119 ?_
      refine lv_iload_n hx hb dX11_shape_122 rfl (lv_at hl 3 rfl) ?_
      obtain ⟨g16, hf⟩ := fd_gds hf
      obtain ⟨σ17, eσ17, hf⟩ := fd_lts hf
      refine va_iast hx hb hK hP (fd_DM hI hJ) hS 24 23 fd_WM_24 fd_tyM_24 g16 dX11_shape_123 (fun H locs hP _ hS => ?_)
      have hP : va_P D vwCl (fd_WM a k σ17) H := by rw [eσ17]; exact fd_sP fd_WMa_24 hP
      refine lv_aload_n hx hb dX11_shape_124 rfl (lv_at hl 0 rfl) ?_
      refine va_get (ci := 11) (v := .ref (a 25)) (C := RX11) (T := TX11) (N := 43) hx hb hts h9X11 hown hK hP 0 fd_WM_0 rfl 39 (by decide) (hts (.fieldLink RX11 84 "FailDiagnoseModel" "shapeX1" "[I") (List.mem_of_getElem? (i := 7) (by eq_refl))) (fun _ h9 => h9) rfl dX11_shape_125 ?_
      refine lv_aload_n hx hb dX11_shape_128 rfl (lv_at hl 0 rfl) ?_
      refine va_get (ci := 11) (v := .int (σ17.1 14)) (C := RX11) (T := TX11) (N := 43) hx hb hts h9X11 hown hK hP 0 fd_WM_0 rfl 35 (by decide) (hts (.fieldLink RX11 198 "FailDiagnoseModel" "shapes" "I") (List.mem_of_getElem? (i := 2) (by eq_refl))) (fun _ h9 => h9) rfl dX11_shape_129 ?_
      refine lv_iload hx hb dX11_shape_132 (lv_at hl 4 rfl) ?_
      obtain ⟨g18, hf⟩ := fd_gds hf
      obtain ⟨σ19, eσ19, hf⟩ := fd_lts hf
      refine va_iast hx hb hK hP (fd_DM hI hJ) hS 25 24 fd_WM_25 fd_tyM_25 g18 dX11_shape_134 (fun H locs hP _ hS => ?_)
      have hP : va_P D vwCl (fd_WM a k σ19) H := by rw [eσ19]; exact fd_sP fd_WMa_25 hP
      refine lv_aload_n hx hb dX11_shape_135 rfl (lv_at hl 0 rfl) ?_
      refine va_get (ci := 11) (v := .ref (a 26)) (C := RX11) (T := TX11) (N := 43) hx hb hts h9X11 hown hK hP 0 fd_WM_0 rfl 40 (by decide) (hts (.fieldLink RX11 87 "FailDiagnoseModel" "shapeY1" "[I") (List.mem_of_getElem? (i := 8) (by eq_refl))) (fun _ h9 => h9) rfl dX11_shape_136 ?_
      refine lv_aload_n hx hb dX11_shape_139 rfl (lv_at hl 0 rfl) ?_
      refine va_get (ci := 11) (v := .int (σ19.1 14)) (C := RX11) (T := TX11) (N := 43) hx hb hts h9X11 hown hK hP 0 fd_WM_0 rfl 35 (by decide) (hts (.fieldLink RX11 198 "FailDiagnoseModel" "shapes" "I") (List.mem_of_getElem? (i := 2) (by eq_refl))) (fun _ h9 => h9) rfl dX11_shape_140 ?_
      refine lv_iload hx hb dX11_shape_143 (lv_at hl 5 rfl) ?_
      obtain ⟨g20, hf⟩ := fd_gds hf
      obtain ⟨σ21, eσ21, hf⟩ := fd_lts hf
      refine va_iast hx hb hK hP (fd_DM hI hJ) hS 26 25 fd_WM_26 fd_tyM_26 g20 dX11_shape_145 (fun H locs hP _ hS => ?_)
      have hP : va_P D vwCl (fd_WM a k σ21) H := by rw [eσ21]; exact fd_sP fd_WMa_26 hP
      refine lv_aload_n hx hb dX11_shape_146 rfl (lv_at hl 0 rfl) ?_
      refine lv_dup hx hb dX11_shape_147 rfl ?_
      refine va_get (ci := 11) (v := .int (σ21.1 14)) (C := RX11) (T := TX11) (N := 43) hx hb hts h9X11 hown hK hP 0 fd_WM_0 rfl 35 (by decide) (hts (.fieldLink RX11 198 "FailDiagnoseModel" "shapes" "I") (List.mem_of_getElem? (i := 2) (by eq_refl))) (fun _ h9 => h9) rfl dX11_shape_148 ?_
      refine lv_iconst (v := (1 : Int32)) hx hb dX11_shape_151 (by decide) ?_
      refine lv_iadd hx hb dX11_shape_152 ?_
      obtain ⟨σ22, eσ22, hf⟩ := fd_lts hf
      refine va_put (ci := 11) (v := .int ((σ21.1 14) + (1 : Int32))) (ty := .int) (C := RX11) (T := TX11) (N := 43) hx hb hts h9X11 tyX11 tyX11_ok nmX11 hown hK hP (fd_DM hI hJ) hS 0 fd_WM_0 rfl 35 (by decide) (hts (.fieldLink RX11 198 "FailDiagnoseModel" "shapes" "I") (List.mem_of_getElem? (i := 2) (by eq_refl))) (fun _ h9 => h9) rfl (by decide +kernel) rfl rfl (Nat.le_of_ble_eq_true rfl) dX11_shape_153 (fun H locs hP _ hS => ?_)
      have hP : va_P D vwCl (fd_WM a k σ22) H := by rw [eσ22]; exact fd_sP fd_WMi_14 hP
      refine lv_iconst (v := (0 : Int32)) hx hb dX11_shape_156 (by decide) ?_
      refine lv_istore (lv' := [(7, .int (0 : Int32)), (0, .ref (a 0)), (1, .int y1), (2, .int y2), (3, .int y3), (4, .int y4), (5, .int y5)]) hx hb dX11_shape_157 hl (by decide) rfl (fun ls hl => ?_)
      refine lv_iconst (v := (0 : Int32)) hx hb dX11_shape_159 (by decide) ?_
      refine lv_istore (lv' := [(8, .int (0 : Int32)), (7, .int (0 : Int32)), (0, .ref (a 0)), (1, .int y1), (2, .int y2), (3, .int y3), (4, .int y4), (5, .int y5)]) hx hb dX11_shape_160 hl (by decide) rfl (fun ls hl => ?_)
      exact hL162 N y1 (0 : Int32) (0 : Int32) σ22 _ _ _ hP hS (lv_sub hl [2, 3, 1, 0] rfl) hf
    · have hf := fd_itn c11 hf
      refine lv_iconst (v := (0 : Int32)) hx hb dX11_shape_92 (by decide) ?_
      exact W.iret (v := (0 : Int32)) hx hb hr (fun t ht hW => ⟨⟨(0 : Int32), σ10, rfl, Option.some.inj hf, by rw [ht]; exact hP, va_K.moved hW.alike hK⟩, hS.F ht⟩) hS.2.2 dX11_shape_93
  have hL41 : ∀ (y1 : Int32) (y2 : Int32) (y3 : Int32) (y4 : Int32) (y5 : Int32) (z0 : Int32) (σ : fd_St) (H : Heap) (locs : List Loc) (ls : Array Slot), va_P D vwCl (fd_WM a k σ) H → va_S (fd_A 29 a s.heap.size) s.heap H locs → lv_has ls 9 [(0, .ref (a 0)), (1, .int y1), (2, .int y2), (3, .int y3), (4, .int y4), (5, .int y5)] → f_X11_shape_0_J41 N y1 y2 y3 y4 y5 z0 σ = some r → W p l e ((headSpec wsX11_shape ({ frames := 1, cells := 0, slots := 0, locals := 21 })).room) s m ([.ref (a 0), .int p1, .int p2, .int p3, .int p4, .int p5].toArray) below meth c H locs 0 0 (MQ below (va_Qi (fun v u => (v, u) = r) (fd_BM D a k) (fd_A 29 a s.heap.size)) ([.ref (a 0), .int p1, .int p2, .int p3, .int p4, .int p5].toArray) s 0 0 (fd_A 29 a s.heap.size)) (F0 m 41 ls [.int z0]) := by
    intro y1 y2 y3 y4 y5 z0 σ H locs ls hP hS hl hf
    unfold f_X11_shape_0_J41 at hf
    refine lv_istore (lv' := [(6, .int z0), (0, .ref (a 0)), (1, .int y1), (2, .int y2), (3, .int y3), (4, .int y4), (5, .int y5)]) hx hb dX11_shape_41 hl (by decide) rfl (fun ls hl => ?_)
    refine lv_aload_n hx hb dX11_shape_43 rfl (lv_at hl 1 rfl) ?_
    refine lv_iload_n hx hb dX11_shape_44 rfl (lv_at hl 2 rfl) ?_
    refine lv_aload_n hx hb dX11_shape_45 rfl (lv_at hl 1 rfl) ?_
    refine va_get (ci := 11) (v := .int (σ.1 1)) (C := RX11) (T := TX11) (N := 43) hx hb hts h9X11 hown hK hP 0 fd_WM_0 rfl 1 (by decide) (hts (.fieldLink RX11 113 "FailDiagnoseModel" "nets" "I") (List.mem_of_getElem? (i := 1) (by eq_refl))) (fun _ h9 => h9) rfl dX11_shape_46 ?_
    obtain ⟨w5, τ6, hc2, hf⟩ := fd_bds hf
    refine va_calli (va_runS (As := [.int y1, .int (σ.1 1)]) (rest := [.ref (a 0)]) ⟨hx, hb, hml, hown, hts⟩ (m_X11_isIn l D a k H.size hI N y1 (σ.1 1) σ _ hc2) (va_cwS 2 hts gX11_shape_X11_isIn rfl rfl rfl (by decide +kernel) ⟨Nat.le_of_ble_eq_true rfl, Nat.le_of_ble_eq_true rfl⟩) ⟨fd_blM, fd_prM hP hK⟩ rfl rfl hl.1 rfl (lv_room (Nat.le_of_ble_eq_true rfl)) dX11_shape_49 ⟨Nat.zero_le _, Nat.zero_le _⟩) hS (fun q _ h => fd_A_mono hS.1 h) (fun q h => fd_A_mono hS.1 h) (fun v3 u t H1 locs ht hvm hw hB hz hk hS => ?_)
    obtain ⟨hP1, hK1⟩ := hB
    rw [ht] at hP1
    obtain ⟨e1, e2⟩ := Prod.mk.inj hw
    subst e1
    subst e2
    obtain ⟨σ4, rfl⟩ : ∃ z, z = u := ⟨_, rfl⟩
    have hP := hP1
    generalize H1 = H at hP hS ⊢
    refine lv_if_ne (tgt := 59) hx hb dX11_shape_52 (by decide) (fun c7 => ?_) (fun c7 => ?_)
    · have hf := fd_itn c7 hf
      refine lv_aload_n hx hb dX11_shape_59 rfl (lv_at hl 1 rfl) ?_
      refine va_get (ci := 11) (v := .int (σ4.1 14)) (C := RX11) (T := TX11) (N := 43) hx hb hts h9X11 hown hK hP 0 fd_WM_0 rfl 35 (by decide) (hts (.fieldLink RX11 198 "FailDiagnoseModel" "shapes" "I") (List.mem_of_getElem? (i := 2) (by eq_refl))) (fun _ h9 => h9) rfl dX11_shape_60 ?_
      refine lv_bipush (v := (60 : Int32)) hx hb dX11_shape_63 (by decide) ?_
      refine lv_icmp_ne (tgt := 72) hx hb dX11_shape_65 (by decide) (fun c8 => ?_) (fun c8 => ?_)
      · have hf := fd_itn c8 hf
        refine lv_iload hx hb dX11_shape_72 (lv_at hl 0 rfl) ?_
        refine lv_if_ne (tgt := 81) hx hb dX11_shape_74 (by decide) (fun c9 => ?_) (fun c9 => ?_)
        · have hf := fd_itn c9 hf
          refine lv_iconst (v := (0 : Int32)) hx hb dX11_shape_81 (by decide) ?_
          exact hL82 y1 y2 y3 y4 y5 (0 : Int32) σ4 _ _ _ hP hS (lv_sub hl [1, 2, 3, 4, 5, 6] rfl) hf
        · have hf := fd_itp c9 hf
          refine lv_iconst (v := (3 : Int32)) hx hb dX11_shape_77 (by decide) ?_
          refine lv_goto (tgt := 82) hx hb dX11_shape_78 (by decide) ?_
          exact hL82 y1 y2 y3 y4 y5 (3 : Int32) σ4 _ _ _ hP hS (lv_sub hl [1, 2, 3, 4, 5, 6] rfl) hf
      · have hf := fd_itp c8 hf
        refine lv_iconst (v := (2 : Int32)) hx hb dX11_shape_68 (by decide) ?_
        refine lv_goto (tgt := 82) hx hb dX11_shape_69 (by decide) ?_
        exact hL82 y1 y2 y3 y4 y5 (2 : Int32) σ4 _ _ _ hP hS (lv_sub hl [1, 2, 3, 4, 5, 6] rfl) hf
    · have hf := fd_itp c7 hf
      refine lv_iconst (v := (1 : Int32)) hx hb dX11_shape_55 (by decide) ?_
      refine lv_goto (tgt := 82) hx hb dX11_shape_56 (by decide) ?_
      exact hL82 y1 y2 y3 y4 y5 (1 : Int32) σ4 _ _ _ hP hS (lv_sub hl [1, 2, 3, 4, 5, 6] rfl) hf
  have hL40 : ∀ (y1 : Int32) (y2 : Int32) (y3 : Int32) (y4 : Int32) (y5 : Int32) (σ : fd_St) (H : Heap) (locs : List Loc) (ls : Array Slot), va_P D vwCl (fd_WM a k σ) H → va_S (fd_A 29 a s.heap.size) s.heap H locs → lv_has ls 9 [(0, .ref (a 0)), (1, .int y1), (2, .int y2), (3, .int y3), (4, .int y4), (5, .int y5)] → f_X11_shape_0_J40 N y1 y2 y3 y4 y5 σ = some r → W p l e ((headSpec wsX11_shape ({ frames := 1, cells := 0, slots := 0, locals := 21 })).room) s m ([.ref (a 0), .int p1, .int p2, .int p3, .int p4, .int p5].toArray) below meth c H locs 0 0 (MQ below (va_Qi (fun v u => (v, u) = r) (fd_BM D a k) (fd_A 29 a s.heap.size)) ([.ref (a 0), .int p1, .int p2, .int p3, .int p4, .int p5].toArray) s 0 0 (fd_A 29 a s.heap.size)) (F0 m 40 ls []) := by
    intro y1 y2 y3 y4 y5 σ H locs ls hP hS hl hf
    unfold f_X11_shape_0_J40 at hf
    refine lv_iconst (v := (0 : Int32)) hx hb dX11_shape_40 (by decide) ?_
    exact hL41 y1 y2 y3 y4 y5 (0 : Int32) σ _ _ _ hP hS (lv_sub hl [0, 1, 2, 3, 4, 5] rfl) hf
  unfold f_X11_shape_0 at hf
  refine lv_iload_n hx hb dX11_shape_0 rfl (lv_at hl 2 rfl) ?_
  refine lv_if_lt (tgt := 40) hx hb dX11_shape_1 (by decide) (fun c1 => ?_) (fun c1 => ?_)
  · have hf := fd_itp c1 hf
    exact hL40 p1 p2 p3 p4 p5 σ _ _ _ hP hS (lv_sub hl [0, 1, 2, 3, 4, 5] rfl) hf
  · have hf := fd_itn c1 hf
    refine lv_iload_n hx hb dX11_shape_4 rfl (lv_at hl 3 rfl) ?_
    refine lv_if_lt (tgt := 40) hx hb dX11_shape_5 (by decide) (fun c27 => ?_) (fun c27 => ?_)
    · have hf := fd_itp c27 hf
      exact hL40 p1 p2 p3 p4 p5 σ _ _ _ hP hS (lv_sub hl [0, 1, 2, 3, 4, 5] rfl) hf
    · have hf := fd_itn c27 hf
      refine lv_iload hx hb dX11_shape_8 (lv_at hl 4 rfl) ?_
      refine lv_sipush (v := (1000 : Int32)) hx hb dX11_shape_10 (by decide) ?_
      refine lv_icmp_gt (tgt := 40) hx hb dX11_shape_13 (by decide) (fun c28 => ?_) (fun c28 => ?_)
      · have hf := fd_itp c28 hf
        exact hL40 p1 p2 p3 p4 p5 σ _ _ _ hP hS (lv_sub hl [0, 1, 2, 3, 4, 5] rfl) hf
      · have hf := fd_itn c28 hf
        refine lv_iload hx hb dX11_shape_16 (lv_at hl 5 rfl) ?_
        refine lv_sipush (v := (1000 : Int32)) hx hb dX11_shape_18 (by decide) ?_
        refine lv_icmp_gt (tgt := 40) hx hb dX11_shape_21 (by decide) (fun c29 => ?_) (fun c29 => ?_)
        · have hf := fd_itp c29 hf
          exact hL40 p1 p2 p3 p4 p5 σ _ _ _ hP hS (lv_sub hl [0, 1, 2, 3, 4, 5] rfl) hf
        · have hf := fd_itn c29 hf
          refine lv_iload_n hx hb dX11_shape_24 rfl (lv_at hl 2 rfl) ?_
          refine lv_iload hx hb dX11_shape_25 (lv_at hl 4 rfl) ?_
          refine lv_icmp_ge (tgt := 40) hx hb dX11_shape_27 (by decide) (fun c30 => ?_) (fun c30 => ?_)
          · have hf := fd_itp c30 hf
            exact hL40 p1 p2 p3 p4 p5 σ _ _ _ hP hS (lv_sub hl [0, 1, 2, 3, 4, 5] rfl) hf
          · have hf := fd_itn c30 hf
            refine lv_iload_n hx hb dX11_shape_30 rfl (lv_at hl 3 rfl) ?_
            refine lv_iload hx hb dX11_shape_31 (lv_at hl 5 rfl) ?_
            refine lv_icmp_ge (tgt := 40) hx hb dX11_shape_33 (by decide) (fun c31 => ?_) (fun c31 => ?_)
            · have hf := fd_itp c31 hf
              exact hL40 p1 p2 p3 p4 p5 σ _ _ _ hP hS (lv_sub hl [0, 1, 2, 3, 4, 5] rfl) hf
            · have hf := fd_itn c31 hf
              refine lv_iconst (v := (1 : Int32)) hx hb dX11_shape_36 (by decide) ?_
              refine lv_goto (tgt := 41) hx hb dX11_shape_37 (by decide) ?_
              exact hL41 p1 p2 p3 p4 p5 (1 : Int32) σ _ _ _ hP hS (lv_sub hl [0, 1, 2, 3, 4, 5] rfl) hf
noncomputable def f_X10_needGrowth_J10 (N : Nat) (σ : fd_St) : Option ((Unit ⊕ String) × fd_St) := some (.inr "java/lang/IllegalArgumentException", σ)
noncomputable def f_X10_needGrowth (N : Nat) (p0 : Int32) (σ : fd_St) : Option ((Unit ⊕ String) × fd_St) := if p0 < 0 then (f_X10_needGrowth_J10 N σ) else (if p0 ≤ (100 : Int32) then (some (.inl (), σ)) else (f_X10_needGrowth_J10 N σ))
set_option maxHeartbeats 4000000 in
set_option maxRecDepth 100000 in
theorem m_X10_needGrowth (l : Launch) (hl9 : l.stackTraces = false) (D : va_G) (a : Nat → Nat) (k : Nat → ClassId) (sz : Nat) (hI : fd_I 39 a) (N : Nat) (p0 : Int32) (σ : fd_St) (r : (Unit ⊕ String) × fd_St) (hf : f_X10_needGrowth N p0 σ = some r) : vx_Met l yX10_needGrowth wsX10_needGrowth ({ frames := 6, cells := fd_mc r, slots := fd_ms r, locals := 90 }) (va_Pc [.int p0] (fd_PZ D a k sz σ)) (va_Qv (fun u => (Sum.inl (), u) = r) (fd_BC D a k) (fd_A 39 a sz)) (fd_X D a k (fd_A 39 a sz) r) (fd_mc r) (fd_ms r) (fd_A 39 a sz) := by
  refine vx_ofW (cc := cX10_needGrowth) (maxL := 1) (ret := none) (by decide) rfl ?_
  intro p e s m args below meth c s₁ B hml hex hv
  obtain ⟨rfl, ⟨hsz, hP, hK⟩, hZ⟩ := hv
  have hx := B.exec
  have hb := B.bytes
  have hr := B.returns
  have hts := atoms_spec (ws := wsX10_needGrowth) B.pre
  have hown : s.vm.findClass RX10 = some m.cls := findClass_of_methodNamed B.named
  have hlocks := B.notSynchronized
  subst hsz
  have hJ : ∀ i, i < 39 → fd_A 39 a s.heap.size (a i) := fun i hi => Or.inl ⟨i, hi, rfl⟩
  have hS : va_S (fd_A 39 a s.heap.size) s.heap s.heap [] := va_S.rf
  have hl := lv_entry ([.int p0]) (n := 1) (Nat.le_of_ble_eq_true rfl)
  rw [lg_entry_eq]
  generalize (lg_sl ([.int p0]) ++ List.replicate (1 - (lg_sl ([.int p0])).length) Slot.unset).toArray = ls at hl ⊢
  have hl : lv_has ls 1 [(0, .int p0)] := hl
  have hL10 : ∀ (σ : fd_St) (H : Heap) (locs : List Loc) (ls : Array Slot), va_P D vwCl (fd_WC a k σ) H → va_S (fd_A 39 a s.heap.size) s.heap H locs → lv_has ls 1 [] → f_X10_needGrowth_J10 N σ = some r → W p l e ((headSpec wsX10_needGrowth ({ frames := 6, cells := fd_mc r, slots := fd_ms r, locals := 90 })).room) s m ([.int p0].toArray) below meth c H locs 0 0 (vx_MQ below (va_Qv (fun u => (Sum.inl (), u) = r) (fd_BC D a k) (fd_A 39 a s.heap.size)) (fd_X D a k (fd_A 39 a s.heap.size) r) ([.int p0].toArray) s (fd_mc r) (fd_ms r) (fd_A 39 a s.heap.size)) (F0 m 10 ls []) := by
    intro σ H locs ls hP hS hl hf
    unfold f_X10_needGrowth_J10 at hf
    have e2 := Option.some.inj hf
    subst e2
    obtain ⟨sa, hsa⟩ := hZ.str 269 "shapes grow by 0 to 100" (by decide +kernel)
    exact vx_throwSW (own := RX10) (cls := "java/lang/IllegalArgumentException") (names := ["java/lang/RuntimeException", "java/lang/Exception"]) hx hb hl9 hown fd_ex_87_91_f fd_ex_n (hts (.classLink RX10 87 "java/lang/IllegalArgumentException") (List.mem_of_getElem? (i := 1) (by eq_refl))) (hts (.initialized "java/lang/IllegalArgumentException") (List.mem_of_getElem? (i := 2) (by eq_refl))) hsa (vx_hat (L := vx_atS RX10 91 "java/lang/IllegalArgumentException" ["java/lang/RuntimeException", "java/lang/Exception"]) (B := fd_bad "java/lang/IllegalArgumentException") (fun w hw => hts w ((fun w h => List.mem_cons_of_mem _ (List.mem_append_right _ h) : ∀ w ∈ (vx_atS RX10 91 "java/lang/IllegalArgumentException" ["java/lang/RuntimeException", "java/lang/Exception"]).filter goodWord, w ∈ wsX10_needGrowth) w hw)) fd_ex_87_91_b (hZ.bad "java/lang/IllegalArgumentException" fd_ex_87_91_e)) fd_ex_87_91_g hZ.un hZ.su hS (hl.1.trans hml.symm) dX10_needGrowth_10 dX10_needGrowth_13 dX10_needGrowth_14 dX10_needGrowth_17 dX10_needGrowth_20 (fun x hx => (hex x hx).elim) (Nat.le_of_ble_eq_true rfl) (Nat.le_of_ble_eq_true rfl) (Nat.le_of_ble_eq_true rfl) (Nat.le_of_ble_eq_true rfl) hlocks (fun t ha hsz hk => ⟨σ, trivial, ⟨rfl, hP.kept (fun k q hq => hk q.1 (hP k q hq).lt), va_K.moved ha hK⟩, Nat.le_trans hS.1 hsz, fun q h1 h2 => (hk q (Nat.lt_of_lt_of_le h1 hS.1)).trans (hS.2.1 q h1 h2)⟩) hS.2.2 (Nat.le_of_ble_eq_true rfl) (Nat.le_of_ble_eq_true rfl)
  unfold f_X10_needGrowth at hf
  refine lv_iload_n hx hb dX10_needGrowth_0 rfl (lv_at hl 0 rfl) ?_
  refine lv_if_lt (tgt := 10) hx hb dX10_needGrowth_1 (by decide) (fun c1 => ?_) (fun c1 => ?_)
  · have hf := fd_itp c1 hf
    exact hL10 σ _ _ _ hP hS (lv_sub hl [] rfl) hf
  · have hf := fd_itn c1 hf
    refine lv_iload_n hx hb dX10_needGrowth_4 rfl (lv_at hl 0 rfl) ?_
    refine lv_bipush (v := (100 : Int32)) hx hb dX10_needGrowth_5 (by decide) ?_
    refine lv_icmp_le (tgt := 21) hx hb dX10_needGrowth_7 (by decide) (fun c3 => ?_) (fun c3 => ?_)
    · have hf := fd_itp c3 hf
      refine vx_ret (W.widen (k := fd_mc r) (n := fd_ms r) (Nat.zero_le _) (Nat.zero_le _) ?_)
      exact W.vret hx hb hr (fun t ht hW => ⟨⟨σ, rfl, Option.some.inj hf, by rw [ht]; exact hP, va_K.moved hW.alike hK⟩, hS.F ht⟩) hS.2.2 dX10_needGrowth_21
    · have hf := fd_itn c3 hf
      exact hL10 σ _ _ _ hP hS (lv_sub hl [] rfl) hf
noncomputable def f_X6_putEdge_11_J38 (N : Nat) (y1 : Int32) (y3 : Int32) (σ : fd_St) : Option (Unit × fd_St) := fd_gd (vp_in y3 120) (fd_lt (fd_sA 38 y3 y1 σ) (fun σ3 => some ((), σ3)))
noncomputable def f_X6_putEdge_11_L2 (N : Nat) : Nat → Int32 → Int32 → fd_St → Option (Unit × fd_St)
  | 0 => fun _ _ _ => none
  | n + 1 => fun y1 y3 σ => if y3 ≤ 0 then (f_X6_putEdge_11_J38 N y1 y3 σ) else (fd_gd (vp_in (y3 - (1 : Int32)) 120) (if (σ.2.1 38 (y3 - (1 : Int32)).toNatClampNeg) ≤ y1 then (f_X6_putEdge_11_J38 N y1 y3 σ) else (fd_gd (vp_in (y3 - (1 : Int32)) 120) (fd_gd (vp_in y3 120) (fd_lt (fd_sA 38 y3 (σ.2.1 38 (y3 - (1 : Int32)).toNatClampNeg) σ) (fun σ8 => fd_lt (y3 + (-1 : Int32)) (fun x9 => (f_X6_putEdge_11_L2 N n) y1 x9 σ8)))))))
noncomputable def f_X6_putEdge_11 (N : Nat) (p1 : Int32) (p2 : Int32) (σ : fd_St) : Option (Unit × fd_St) := f_X6_putEdge_11_L2 N N p1 p2 σ
set_option maxHeartbeats 4000000 in
set_option maxRecDepth 100000 in
theorem m_X6_putEdge_11 (l : Launch) (D : va_G) (a : Nat → Nat) (k : Nat → ClassId) (sz : Nat) (hI : fd_I 39 a) (N : Nat) (p1 : Int32) (p2 : Int32) (σ : fd_St) (r : Unit × fd_St) (hf : f_X6_putEdge_11 N p1 p2 σ = some r) : Met l yX6_putEdge wsX6_putEdge ({ frames := 0, cells := 0, slots := 0, locals := 0 }) (va_Pc [.ref (a 11), .int p1, .int p2] (fd_PC D a k sz σ)) (va_Qv (fun u => ((), u) = r) (fd_BC D a k) (fd_A 39 a sz)) 0 0 (fd_A 39 a sz) := by
  refine Met.ofW (cc := cX6_putEdge) (maxL := 4) (ret := none) (by decide) rfl ?_
  intro p e s m args below meth c s₁ B hml hv
  obtain ⟨rfl, hsz, hP, hK⟩ := hv
  have hx := B.exec
  have hb := B.bytes
  have hr := B.returns
  have hts := atoms_spec (ws := wsX6_putEdge) B.pre
  have hown : s.vm.findClass RX6 = some m.cls := findClass_of_methodNamed B.named
  have hlocks := B.notSynchronized
  subst hsz
  have hJ : ∀ i, i < 39 → fd_A 39 a s.heap.size (a i) := fun i hi => Or.inl ⟨i, hi, rfl⟩
  have hS : va_S (fd_A 39 a s.heap.size) s.heap s.heap [] := va_S.rf
  have hl := lv_entry ([.ref (a 11), .int p1, .int p2]) (n := 4) (Nat.le_of_ble_eq_true rfl)
  rw [lg_entry_eq]
  generalize (lg_sl ([.ref (a 11), .int p1, .int p2]) ++ List.replicate (4 - (lg_sl ([.ref (a 11), .int p1, .int p2])).length) Slot.unset).toArray = ls at hl ⊢
  have hl : lv_has ls 4 [(0, .ref (a 11)), (1, .int p1), (2, .int p2)] := hl
  have h9X6 : ∀ w ∈ u_ws RX6 TX6 9, w ∈ wsX6_putEdge := fd_su [2, 3, 4, 5, 6, 7, 8, 9, 10] (by eq_refl)
  have hL38 : ∀ (y1 : Int32) (y3 : Int32) (σ : fd_St) (H : Heap) (locs : List Loc) (ls : Array Slot), va_P D vwCl (fd_WC a k σ) H → va_S (fd_A 39 a s.heap.size) s.heap H locs → lv_has ls 4 [(0, .ref (a 11)), (1, .int y1), (3, .int y3)] → f_X6_putEdge_11_J38 N y1 y3 σ = some r → W p l e ((headSpec wsX6_putEdge ({ frames := 0, cells := 0, slots := 0, locals := 0 })).room) s m ([.ref (a 11), .int p1, .int p2].toArray) below meth c H locs 0 0 (MQ below (va_Qv (fun u => ((), u) = r) (fd_BC D a k) (fd_A 39 a s.heap.size)) ([.ref (a 11), .int p1, .int p2].toArray) s 0 0 (fd_A 39 a s.heap.size)) (F0 m 38 ls []) := by
    intro y1 y3 σ H locs ls hP hS hl hf
    unfold f_X6_putEdge_11_J38 at hf
    refine lv_aload_n hx hb dX6_putEdge_38 rfl (lv_at hl 0 rfl) ?_
    refine va_get (ci := 6) (v := .ref (a 38)) (C := RX6) (T := TX6) (N := 9) hx hb hts h9X6 hown hK hP 11 fd_WC_11 rfl 6 (by decide) (hts (.fieldLink RX6 30 "FailDiagnose$Shapes" "edges" "[I") (List.mem_of_getElem? (i := 1) (by eq_refl))) (fun _ h9 => h9) rfl dX6_putEdge_39 ?_
    refine lv_iload_n hx hb dX6_putEdge_42 rfl (lv_at hl 2 rfl) ?_
    refine lv_iload_n hx hb dX6_putEdge_43 rfl (lv_at hl 1 rfl) ?_
    obtain ⟨g2, hf⟩ := fd_gds hf
    obtain ⟨σ3, eσ3, hf⟩ := fd_lts hf
    refine va_iast hx hb hK hP (fd_DC hI hJ) hS 38 26 fd_WC_38 fd_tyC_38 g2 dX6_putEdge_44 (fun H locs hP _ hS => ?_)
    have hP : va_P D vwCl (fd_WC a k σ3) H := by rw [eσ3]; exact fd_sP fd_WCa_38 hP
    exact W.vret hx hb hr (fun t ht hW => ⟨⟨σ3, rfl, Option.some.inj hf, by rw [ht]; exact hP, va_K.moved hW.alike hK⟩, hS.F ht⟩) hS.2.2 dX6_putEdge_45
  have hL2 : ∀ (n : Nat), ∀ (y1 : Int32) (y3 : Int32) (σ : fd_St) (H : Heap) (locs : List Loc) (ls : Array Slot), va_P D vwCl (fd_WC a k σ) H → va_S (fd_A 39 a s.heap.size) s.heap H locs → lv_has ls 4 [(0, .ref (a 11)), (1, .int y1), (3, .int y3)] → f_X6_putEdge_11_L2 N n y1 y3 σ = some r → W p l e ((headSpec wsX6_putEdge ({ frames := 0, cells := 0, slots := 0, locals := 0 })).room) s m ([.ref (a 11), .int p1, .int p2].toArray) below meth c H locs 0 0 (MQ below (va_Qv (fun u => ((), u) = r) (fd_BC D a k) (fd_A 39 a s.heap.size)) ([.ref (a 11), .int p1, .int p2].toArray) s 0 0 (fd_A 39 a s.heap.size)) (F0 m 2 ls []) := by
    intro n
    induction n with
    | zero =>
      intro _ _ _ _ _ _ _ _ _ hf
      cases hf
    | succ n ih =>
      intro y1 y3 σ H locs ls hP hS hl hf
      unfold f_X6_putEdge_11_L2 at hf
      refine lv_iload_n hx hb dX6_putEdge_2 rfl (lv_at hl 2 rfl) ?_
      refine lv_if_le (tgt := 38) hx hb dX6_putEdge_3 (by decide) (fun c1 => ?_) (fun c1 => ?_)
      · have hf := fd_itp c1 hf
        exact hL38 y1 y3 σ _ _ _ hP hS (lv_sub hl [0, 1, 2] rfl) hf
      · have hf := fd_itn c1 hf
        refine lv_aload_n hx hb dX6_putEdge_6 rfl (lv_at hl 0 rfl) ?_
        refine va_get (ci := 6) (v := .ref (a 38)) (C := RX6) (T := TX6) (N := 9) hx hb hts h9X6 hown hK hP 11 fd_WC_11 rfl 6 (by decide) (hts (.fieldLink RX6 30 "FailDiagnose$Shapes" "edges" "[I") (List.mem_of_getElem? (i := 1) (by eq_refl))) (fun _ h9 => h9) rfl dX6_putEdge_7 ?_
        refine lv_iload_n hx hb dX6_putEdge_10 rfl (lv_at hl 2 rfl) ?_
        refine lv_iconst (v := (1 : Int32)) hx hb dX6_putEdge_11 (by decide) ?_
        refine lv_isub hx hb dX6_putEdge_12 ?_
        obtain ⟨g4, hf⟩ := fd_gds hf
        refine va_iald hx hb hK hP 38 26 fd_WC_38 fd_tyC_38 g4 dX6_putEdge_13 ?_
        refine lv_iload_n hx hb dX6_putEdge_14 rfl (lv_at hl 1 rfl) ?_
        refine lv_icmp_le (tgt := 38) hx hb dX6_putEdge_15 (by decide) (fun c5 => ?_) (fun c5 => ?_)
        · have hf := fd_itp c5 hf
          exact hL38 y1 y3 σ _ _ _ hP hS (lv_sub hl [0, 1, 2] rfl) hf
        · have hf := fd_itn c5 hf
          refine lv_aload_n hx hb dX6_putEdge_18 rfl (lv_at hl 0 rfl) ?_
          refine va_get (ci := 6) (v := .ref (a 38)) (C := RX6) (T := TX6) (N := 9) hx hb hts h9X6 hown hK hP 11 fd_WC_11 rfl 6 (by decide) (hts (.fieldLink RX6 30 "FailDiagnose$Shapes" "edges" "[I") (List.mem_of_getElem? (i := 1) (by eq_refl))) (fun _ h9 => h9) rfl dX6_putEdge_19 ?_
          refine lv_iload_n hx hb dX6_putEdge_22 rfl (lv_at hl 2 rfl) ?_
          refine lv_aload_n hx hb dX6_putEdge_23 rfl (lv_at hl 0 rfl) ?_
          refine va_get (ci := 6) (v := .ref (a 38)) (C := RX6) (T := TX6) (N := 9) hx hb hts h9X6 hown hK hP 11 fd_WC_11 rfl 6 (by decide) (hts (.fieldLink RX6 30 "FailDiagnose$Shapes" "edges" "[I") (List.mem_of_getElem? (i := 1) (by eq_refl))) (fun _ h9 => h9) rfl dX6_putEdge_24 ?_
          refine lv_iload_n hx hb dX6_putEdge_27 rfl (lv_at hl 2 rfl) ?_
          refine lv_iconst (v := (1 : Int32)) hx hb dX6_putEdge_28 (by decide) ?_
          refine lv_isub hx hb dX6_putEdge_29 ?_
          obtain ⟨g6, hf⟩ := fd_gds hf
          refine va_iald hx hb hK hP 38 26 fd_WC_38 fd_tyC_38 g6 dX6_putEdge_30 ?_
          obtain ⟨g7, hf⟩ := fd_gds hf
          obtain ⟨σ8, eσ8, hf⟩ := fd_lts hf
          refine va_iast hx hb hK hP (fd_DC hI hJ) hS 38 26 fd_WC_38 fd_tyC_38 g7 dX6_putEdge_31 (fun H locs hP _ hS => ?_)
          have hP : va_P D vwCl (fd_WC a k σ8) H := by rw [eσ8]; exact fd_sP fd_WCa_38 hP
          obtain ⟨x9, ex9, hf⟩ := fd_lts hf
          refine lv_iinc (v := x9) (lv' := [(3, .int x9), (0, .ref (a 11)), (1, .int y1)]) hx hb dX6_putEdge_32 hl (k := 2) rfl (by rw [ex9]; rfl) (by decide) rfl (fun ls hl => ?_)
          refine lv_goto (tgt := 2) hx hb dX6_putEdge_35 (by decide) ?_
          exact ih y1 x9 σ8 _ _ _ hP hS (lv_sub hl [1, 2, 0] rfl) hf
  unfold f_X6_putEdge_11 at hf
  refine lv_iload_n hx hb dX6_putEdge_0 rfl (lv_at hl 2 rfl) ?_
  refine lv_istore_n (lv' := [(3, .int p2), (0, .ref (a 11)), (1, .int p1), (2, .int p2)]) hx hb dX6_putEdge_1 rfl hl (by decide) rfl (fun ls hl => ?_)
  exact hL2 N p1 p2 σ _ _ _ hP hS (lv_sub hl [1, 2, 0] rfl) hf
noncomputable def f_X6_putByBottom_11_J51 (N : Nat) (y1 : Int32) (y2 : Int32) (σ : fd_St) : Option (Unit × fd_St) := fd_gd (vp_in y2 60) (fd_lt (fd_sA 37 y2 y1 σ) (fun σ4 => some ((), σ4)))
noncomputable def f_X6_putByBottom_11_L5 (N : Nat) : Nat → Int32 → Int32 → fd_St → Option (Unit × fd_St)
  | 0 => fun _ _ _ => none
  | n + 1 => fun y1 y2 σ => if y2 ≤ 0 then (f_X6_putByBottom_11_J51 N y1 y2 σ) else (fd_gd (vp_in (y2 - (1 : Int32)) 60) (fd_gd (vp_in (σ.2.1 37 (y2 - (1 : Int32)).toNatClampNeg) 60) (fd_gd (vp_in y1 60) (if (σ.2.1 34 (σ.2.1 37 (y2 - (1 : Int32)).toNatClampNeg).toNatClampNeg) ≤ (σ.2.1 34 y1.toNatClampNeg) then (f_X6_putByBottom_11_J51 N y1 y2 σ) else (fd_gd (vp_in (y2 - (1 : Int32)) 60) (fd_gd (vp_in y2 60) (fd_lt (fd_sA 37 y2 (σ.2.1 37 (y2 - (1 : Int32)).toNatClampNeg) σ) (fun σ11 => fd_lt (y2 + (-1 : Int32)) (fun x12 => (f_X6_putByBottom_11_L5 N n) y1 x12 σ11)))))))))
noncomputable def f_X6_putByBottom_11 (N : Nat) (p1 : Int32) (σ : fd_St) : Option (Unit × fd_St) := fd_lt (σ.1 19) (fun x1 => f_X6_putByBottom_11_L5 N N p1 x1 σ)
set_option maxHeartbeats 4000000 in
set_option maxRecDepth 100000 in
theorem m_X6_putByBottom_11 (l : Launch) (D : va_G) (a : Nat → Nat) (k : Nat → ClassId) (sz : Nat) (hI : fd_I 39 a) (N : Nat) (p1 : Int32) (σ : fd_St) (r : Unit × fd_St) (hf : f_X6_putByBottom_11 N p1 σ = some r) : Met l yX6_putByBottom wsX6_putByBottom ({ frames := 0, cells := 0, slots := 0, locals := 0 }) (va_Pc [.ref (a 11), .int p1] (fd_PC D a k sz σ)) (va_Qv (fun u => ((), u) = r) (fd_BC D a k) (fd_A 39 a sz)) 0 0 (fd_A 39 a sz) := by
  refine Met.ofW (cc := cX6_putByBottom) (maxL := 3) (ret := none) (by decide) rfl ?_
  intro p e s m args below meth c s₁ B hml hv
  obtain ⟨rfl, hsz, hP, hK⟩ := hv
  have hx := B.exec
  have hb := B.bytes
  have hr := B.returns
  have hts := atoms_spec (ws := wsX6_putByBottom) B.pre
  have hown : s.vm.findClass RX6 = some m.cls := findClass_of_methodNamed B.named
  have hlocks := B.notSynchronized
  subst hsz
  have hJ : ∀ i, i < 39 → fd_A 39 a s.heap.size (a i) := fun i hi => Or.inl ⟨i, hi, rfl⟩
  have hS : va_S (fd_A 39 a s.heap.size) s.heap s.heap [] := va_S.rf
  have hl := lv_entry ([.ref (a 11), .int p1]) (n := 3) (Nat.le_of_ble_eq_true rfl)
  rw [lg_entry_eq]
  generalize (lg_sl ([.ref (a 11), .int p1]) ++ List.replicate (3 - (lg_sl ([.ref (a 11), .int p1])).length) Slot.unset).toArray = ls at hl ⊢
  have hl : lv_has ls 3 [(0, .ref (a 11)), (1, .int p1)] := hl
  have h9X6 : ∀ w ∈ u_ws RX6 TX6 9, w ∈ wsX6_putByBottom := fd_su [4, 5, 6, 7, 8, 9, 10, 11, 12] (by eq_refl)
  have hL51 : ∀ (y1 : Int32) (y2 : Int32) (σ : fd_St) (H : Heap) (locs : List Loc) (ls : Array Slot), va_P D vwCl (fd_WC a k σ) H → va_S (fd_A 39 a s.heap.size) s.heap H locs → lv_has ls 3 [(0, .ref (a 11)), (1, .int y1), (2, .int y2)] → f_X6_putByBottom_11_J51 N y1 y2 σ = some r → W p l e ((headSpec wsX6_putByBottom ({ frames := 0, cells := 0, slots := 0, locals := 0 })).room) s m ([.ref (a 11), .int p1].toArray) below meth c H locs 0 0 (MQ below (va_Qv (fun u => ((), u) = r) (fd_BC D a k) (fd_A 39 a s.heap.size)) ([.ref (a 11), .int p1].toArray) s 0 0 (fd_A 39 a s.heap.size)) (F0 m 51 ls []) := by
    intro y1 y2 σ H locs ls hP hS hl hf
    unfold f_X6_putByBottom_11_J51 at hf
    refine lv_aload_n hx hb dX6_putByBottom_51 rfl (lv_at hl 0 rfl) ?_
    refine va_get (ci := 6) (v := .ref (a 37)) (C := RX6) (T := TX6) (N := 9) hx hb hts h9X6 hown hK hP 11 fd_WC_11 rfl 5 (by decide) (hts (.fieldLink RX6 27 "FailDiagnose$Shapes" "chosenByBottom" "[I") (List.mem_of_getElem? (i := 3) (by eq_refl))) (fun _ h9 => h9) rfl dX6_putByBottom_52 ?_
    refine lv_iload_n hx hb dX6_putByBottom_55 rfl (lv_at hl 2 rfl) ?_
    refine lv_iload_n hx hb dX6_putByBottom_56 rfl (lv_at hl 1 rfl) ?_
    obtain ⟨g3, hf⟩ := fd_gds hf
    obtain ⟨σ4, eσ4, hf⟩ := fd_lts hf
    refine va_iast hx hb hK hP (fd_DC hI hJ) hS 37 25 fd_WC_37 fd_tyC_37 g3 dX6_putByBottom_57 (fun H locs hP _ hS => ?_)
    have hP : va_P D vwCl (fd_WC a k σ4) H := by rw [eσ4]; exact fd_sP fd_WCa_37 hP
    exact W.vret hx hb hr (fun t ht hW => ⟨⟨σ4, rfl, Option.some.inj hf, by rw [ht]; exact hP, va_K.moved hW.alike hK⟩, hS.F ht⟩) hS.2.2 dX6_putByBottom_58
  have hL5 : ∀ (n : Nat), ∀ (y1 : Int32) (y2 : Int32) (σ : fd_St) (H : Heap) (locs : List Loc) (ls : Array Slot), va_P D vwCl (fd_WC a k σ) H → va_S (fd_A 39 a s.heap.size) s.heap H locs → lv_has ls 3 [(0, .ref (a 11)), (1, .int y1), (2, .int y2)] → f_X6_putByBottom_11_L5 N n y1 y2 σ = some r → W p l e ((headSpec wsX6_putByBottom ({ frames := 0, cells := 0, slots := 0, locals := 0 })).room) s m ([.ref (a 11), .int p1].toArray) below meth c H locs 0 0 (MQ below (va_Qv (fun u => ((), u) = r) (fd_BC D a k) (fd_A 39 a s.heap.size)) ([.ref (a 11), .int p1].toArray) s 0 0 (fd_A 39 a s.heap.size)) (F0 m 5 ls []) := by
    intro n
    induction n with
    | zero =>
      intro _ _ _ _ _ _ _ _ _ hf
      cases hf
    | succ n ih =>
      intro y1 y2 σ H locs ls hP hS hl hf
      unfold f_X6_putByBottom_11_L5 at hf
      refine lv_iload_n hx hb dX6_putByBottom_5 rfl (lv_at hl 2 rfl) ?_
      refine lv_if_le (tgt := 51) hx hb dX6_putByBottom_6 (by decide) (fun c2 => ?_) (fun c2 => ?_)
      · have hf := fd_itp c2 hf
        exact hL51 y1 y2 σ _ _ _ hP hS (lv_sub hl [0, 1, 2] rfl) hf
      · have hf := fd_itn c2 hf
        refine lv_aload_n hx hb dX6_putByBottom_9 rfl (lv_at hl 0 rfl) ?_
        refine va_get (ci := 6) (v := .ref (a 34)) (C := RX6) (T := TX6) (N := 9) hx hb hts h9X6 hown hK hP 11 fd_WC_11 rfl 2 (by decide) (hts (.fieldLink RX6 18 "FailDiagnose$Shapes" "bottoms" "[I") (List.mem_of_getElem? (i := 2) (by eq_refl))) (fun _ h9 => h9) rfl dX6_putByBottom_10 ?_
        refine lv_aload_n hx hb dX6_putByBottom_13 rfl (lv_at hl 0 rfl) ?_
        refine va_get (ci := 6) (v := .ref (a 37)) (C := RX6) (T := TX6) (N := 9) hx hb hts h9X6 hown hK hP 11 fd_WC_11 rfl 5 (by decide) (hts (.fieldLink RX6 27 "FailDiagnose$Shapes" "chosenByBottom" "[I") (List.mem_of_getElem? (i := 3) (by eq_refl))) (fun _ h9 => h9) rfl dX6_putByBottom_14 ?_
        refine lv_iload_n hx hb dX6_putByBottom_17 rfl (lv_at hl 2 rfl) ?_
        refine lv_iconst (v := (1 : Int32)) hx hb dX6_putByBottom_18 (by decide) ?_
        refine lv_isub hx hb dX6_putByBottom_19 ?_
        obtain ⟨g5, hf⟩ := fd_gds hf
        refine va_iald hx hb hK hP 37 25 fd_WC_37 fd_tyC_37 g5 dX6_putByBottom_20 ?_
        obtain ⟨g6, hf⟩ := fd_gds hf
        refine va_iald hx hb hK hP 34 22 fd_WC_34 fd_tyC_34 g6 dX6_putByBottom_21 ?_
        refine lv_aload_n hx hb dX6_putByBottom_22 rfl (lv_at hl 0 rfl) ?_
        refine va_get (ci := 6) (v := .ref (a 34)) (C := RX6) (T := TX6) (N := 9) hx hb hts h9X6 hown hK hP 11 fd_WC_11 rfl 2 (by decide) (hts (.fieldLink RX6 18 "FailDiagnose$Shapes" "bottoms" "[I") (List.mem_of_getElem? (i := 2) (by eq_refl))) (fun _ h9 => h9) rfl dX6_putByBottom_23 ?_
        refine lv_iload_n hx hb dX6_putByBottom_26 rfl (lv_at hl 1 rfl) ?_
        obtain ⟨g7, hf⟩ := fd_gds hf
        refine va_iald hx hb hK hP 34 22 fd_WC_34 fd_tyC_34 g7 dX6_putByBottom_27 ?_
        refine lv_icmp_le (tgt := 51) hx hb dX6_putByBottom_28 (by decide) (fun c8 => ?_) (fun c8 => ?_)
        · have hf := fd_itp c8 hf
          exact hL51 y1 y2 σ _ _ _ hP hS (lv_sub hl [0, 1, 2] rfl) hf
        · have hf := fd_itn c8 hf
          refine lv_aload_n hx hb dX6_putByBottom_31 rfl (lv_at hl 0 rfl) ?_
          refine va_get (ci := 6) (v := .ref (a 37)) (C := RX6) (T := TX6) (N := 9) hx hb hts h9X6 hown hK hP 11 fd_WC_11 rfl 5 (by decide) (hts (.fieldLink RX6 27 "FailDiagnose$Shapes" "chosenByBottom" "[I") (List.mem_of_getElem? (i := 3) (by eq_refl))) (fun _ h9 => h9) rfl dX6_putByBottom_32 ?_
          refine lv_iload_n hx hb dX6_putByBottom_35 rfl (lv_at hl 2 rfl) ?_
          refine lv_aload_n hx hb dX6_putByBottom_36 rfl (lv_at hl 0 rfl) ?_
          refine va_get (ci := 6) (v := .ref (a 37)) (C := RX6) (T := TX6) (N := 9) hx hb hts h9X6 hown hK hP 11 fd_WC_11 rfl 5 (by decide) (hts (.fieldLink RX6 27 "FailDiagnose$Shapes" "chosenByBottom" "[I") (List.mem_of_getElem? (i := 3) (by eq_refl))) (fun _ h9 => h9) rfl dX6_putByBottom_37 ?_
          refine lv_iload_n hx hb dX6_putByBottom_40 rfl (lv_at hl 2 rfl) ?_
          refine lv_iconst (v := (1 : Int32)) hx hb dX6_putByBottom_41 (by decide) ?_
          refine lv_isub hx hb dX6_putByBottom_42 ?_
          obtain ⟨g9, hf⟩ := fd_gds hf
          refine va_iald hx hb hK hP 37 25 fd_WC_37 fd_tyC_37 g9 dX6_putByBottom_43 ?_
          obtain ⟨g10, hf⟩ := fd_gds hf
          obtain ⟨σ11, eσ11, hf⟩ := fd_lts hf
          refine va_iast hx hb hK hP (fd_DC hI hJ) hS 37 25 fd_WC_37 fd_tyC_37 g10 dX6_putByBottom_44 (fun H locs hP _ hS => ?_)
          have hP : va_P D vwCl (fd_WC a k σ11) H := by rw [eσ11]; exact fd_sP fd_WCa_37 hP
          obtain ⟨x12, ex12, hf⟩ := fd_lts hf
          refine lv_iinc (v := x12) (lv' := [(2, .int x12), (0, .ref (a 11)), (1, .int y1)]) hx hb dX6_putByBottom_45 hl (k := 2) rfl (by rw [ex12]; rfl) (by decide) rfl (fun ls hl => ?_)
          refine lv_goto (tgt := 5) hx hb dX6_putByBottom_48 (by decide) ?_
          exact ih y1 x12 σ11 _ _ _ hP hS (lv_sub hl [1, 2, 0] rfl) hf
  unfold f_X6_putByBottom_11 at hf
  refine lv_aload_n hx hb dX6_putByBottom_0 rfl (lv_at hl 0 rfl) ?_
  refine va_get (ci := 6) (v := .int (σ.1 19)) (C := RX6) (T := TX6) (N := 9) hx hb hts h9X6 hown hK hP 11 fd_WC_11 rfl 8 (by decide) (hts (.fieldLink RX6 49 "FailDiagnose$Shapes" "chosen" "I") (List.mem_of_getElem? (i := 1) (by eq_refl))) (fun _ h9 => h9) rfl dX6_putByBottom_1 ?_
  obtain ⟨x1, ex1, hf⟩ := fd_lts hf
  refine fd_ni ex1 ?_
  refine lv_istore_n (lv' := [(2, .int x1), (0, .ref (a 11)), (1, .int p1)]) hx hb dX6_putByBottom_4 rfl hl (by decide) rfl (fun ls hl => ?_)
  exact hL5 N p1 x1 σ _ _ _ hP hS (lv_sub hl [1, 2, 0] rfl) hf
noncomputable def f_X6_choose_11_J95 (N : Nat) (k8 : Int32 → Int32 → Int32 → Int32 → fd_St → Option (Unit × fd_St)) (y1 : Int32) (y2 : Int32) (y3 : Int32) (y4 : Int32) (σ : fd_St) : Option (Unit × fd_St) := fd_lt (y4 + (1 : Int32)) (fun x23 => k8 y1 y2 y3 x23 σ)
noncomputable def f_X6_choose_11_J39 (N : Nat) (k8 : Int32 → Int32 → Int32 → Int32 → fd_St → Option (Unit × fd_St)) (y1 : Int32) (y2 : Int32) (y3 : Int32) (y4 : Int32) (σ : fd_St) : Option (Unit × fd_St) := fd_gd (vp_in y4 60) (fd_bd (f_X6_putEdge_11 N ((σ.2.1 33 y4.toNatClampNeg) - y3) ((2 : Int32) * (σ.1 19)) σ) (fun _ σ8 => fd_gd (vp_in y4 60) (fd_bd (f_X6_putEdge_11 N ((σ8.2.1 35 y4.toNatClampNeg) + y3) (((2 : Int32) * (σ8.1 19)) + (1 : Int32)) σ8) (fun _ σ14 => fd_bd (f_X6_putByBottom_11 N y4 σ14) (fun _ σ19 => fd_lt (fd_sI 19 ((σ19.1 19) + (1 : Int32)) σ19) (fun σ22 => f_X6_choose_11_J95 N k8 y1 y2 y3 y4 σ22))))))
noncomputable def f_X6_choose_11_L8 (N : Nat) : Nat → Int32 → Int32 → Int32 → Int32 → fd_St → Option (Unit × fd_St)
  | 0 => fun _ _ _ _ _ => none
  | n + 1 => fun y1 y2 y3 y4 σ => if (σ.1 18) ≤ y4 then (some ((), σ)) else (fd_gd (vp_in y4 60) (if (σ.2.1 32 y4.toNatClampNeg) = y1 then (f_X6_choose_11_J39 N (f_X6_choose_11_L8 N n) y1 y2 y3 y4 σ) else (fd_gd (vp_in y4 60) (if (σ.2.1 32 y4.toNatClampNeg) = y2 then (f_X6_choose_11_J39 N (f_X6_choose_11_L8 N n) y1 y2 y3 y4 σ) else (f_X6_choose_11_J95 N (f_X6_choose_11_L8 N n) y1 y2 y3 y4 σ)))))
noncomputable def f_X6_choose_11 (N : Nat) (p1 : Int32) (p2 : Int32) (p3 : Int32) (σ : fd_St) : Option (Unit × fd_St) := fd_lt (fd_sI 19 (0 : Int32) σ) (fun σ1 => f_X6_choose_11_L8 N N p1 p2 p3 (0 : Int32) σ1)
set_option maxHeartbeats 4000000 in
set_option maxRecDepth 100000 in
theorem m_X6_choose_11 (l : Launch) (D : va_G) (a : Nat → Nat) (k : Nat → ClassId) (sz : Nat) (hI : fd_I 39 a) (N : Nat) (p1 : Int32) (p2 : Int32) (p3 : Int32) (σ : fd_St) (r : Unit × fd_St) (hf : f_X6_choose_11 N p1 p2 p3 σ = some r) : Met l yX6_choose wsX6_choose ({ frames := 1, cells := 0, slots := 0, locals := 23 }) (va_Pc [.ref (a 11), .int p1, .int p2, .int p3] (fd_PC D a k sz σ)) (va_Qv (fun u => ((), u) = r) (fd_BC D a k) (fd_A 39 a sz)) 0 0 (fd_A 39 a sz) := by
  refine Met.ofW (cc := cX6_choose) (maxL := 5) (ret := none) (by decide) rfl ?_
  intro p e s m args below meth c s₁ B hml hv
  obtain ⟨rfl, hsz, hP, hK⟩ := hv
  have hx := B.exec
  have hb := B.bytes
  have hr := B.returns
  have hts := atoms_spec (ws := wsX6_choose) B.pre
  have hown : s.vm.findClass RX6 = some m.cls := findClass_of_methodNamed B.named
  have hlocks := B.notSynchronized
  subst hsz
  have hJ : ∀ i, i < 39 → fd_A 39 a s.heap.size (a i) := fun i hi => Or.inl ⟨i, hi, rfl⟩
  have hS : va_S (fd_A 39 a s.heap.size) s.heap s.heap [] := va_S.rf
  have hl := lv_entry ([.ref (a 11), .int p1, .int p2, .int p3]) (n := 5) (Nat.le_of_ble_eq_true rfl)
  rw [lg_entry_eq]
  generalize (lg_sl ([.ref (a 11), .int p1, .int p2, .int p3]) ++ List.replicate (5 - (lg_sl ([.ref (a 11), .int p1, .int p2, .int p3])).length) Slot.unset).toArray = ls at hl ⊢
  have hl : lv_has ls 5 [(0, .ref (a 11)), (1, .int p1), (2, .int p2), (3, .int p3)] := hl
  have h9X6 : ∀ w ∈ u_ws RX6 TX6 9, w ∈ wsX6_choose := fd_su [18, 19, 20, 21, 22, 23, 24, 25, 26] (by eq_refl)
  have hL95 : ∀ (k8 : Int32 → Int32 → Int32 → Int32 → fd_St → Option (Unit × fd_St)) (hk8 : ∀ (y1 : Int32) (y2 : Int32) (y3 : Int32) (y4 : Int32) (σ : fd_St) (H : Heap) (locs : List Loc) (ls : Array Slot), va_P D vwCl (fd_WC a k σ) H → va_S (fd_A 39 a s.heap.size) s.heap H locs → lv_has ls 5 [(0, .ref (a 11)), (1, .int y1), (2, .int y2), (3, .int y3), (4, .int y4)] → k8 y1 y2 y3 y4 σ = some r → W p l e ((headSpec wsX6_choose ({ frames := 1, cells := 0, slots := 0, locals := 23 })).room) s m ([.ref (a 11), .int p1, .int p2, .int p3].toArray) below meth c H locs 0 0 (MQ below (va_Qv (fun u => ((), u) = r) (fd_BC D a k) (fd_A 39 a s.heap.size)) ([.ref (a 11), .int p1, .int p2, .int p3].toArray) s 0 0 (fd_A 39 a s.heap.size)) (F0 m 8 ls [])), ∀ (y1 : Int32) (y2 : Int32) (y3 : Int32) (y4 : Int32) (σ : fd_St) (H : Heap) (locs : List Loc) (ls : Array Slot), va_P D vwCl (fd_WC a k σ) H → va_S (fd_A 39 a s.heap.size) s.heap H locs → lv_has ls 5 [(0, .ref (a 11)), (1, .int y1), (2, .int y2), (3, .int y3), (4, .int y4)] → f_X6_choose_11_J95 N k8 y1 y2 y3 y4 σ = some r → W p l e ((headSpec wsX6_choose ({ frames := 1, cells := 0, slots := 0, locals := 23 })).room) s m ([.ref (a 11), .int p1, .int p2, .int p3].toArray) below meth c H locs 0 0 (MQ below (va_Qv (fun u => ((), u) = r) (fd_BC D a k) (fd_A 39 a s.heap.size)) ([.ref (a 11), .int p1, .int p2, .int p3].toArray) s 0 0 (fd_A 39 a s.heap.size)) (F0 m 95 ls []) := by
    intro k8 hk8 y1 y2 y3 y4 σ H locs ls hP hS hl hf
    unfold f_X6_choose_11_J95 at hf
    obtain ⟨x23, ex23, hf⟩ := fd_lts hf
    refine lv_iinc (v := x23) (lv' := [(4, .int x23), (0, .ref (a 11)), (1, .int y1), (2, .int y2), (3, .int y3)]) hx hb dX6_choose_95 hl (k := 4) rfl (by rw [ex23]; rfl) (by decide) rfl (fun ls hl => ?_)
    refine lv_goto (tgt := 8) hx hb dX6_choose_98 (by decide) ?_
    exact hk8 y1 y2 y3 x23 σ _ _ _ hP hS (lv_sub hl [1, 2, 3, 4, 0] rfl) hf
  have hL39 : ∀ (k8 : Int32 → Int32 → Int32 → Int32 → fd_St → Option (Unit × fd_St)) (hk8 : ∀ (y1 : Int32) (y2 : Int32) (y3 : Int32) (y4 : Int32) (σ : fd_St) (H : Heap) (locs : List Loc) (ls : Array Slot), va_P D vwCl (fd_WC a k σ) H → va_S (fd_A 39 a s.heap.size) s.heap H locs → lv_has ls 5 [(0, .ref (a 11)), (1, .int y1), (2, .int y2), (3, .int y3), (4, .int y4)] → k8 y1 y2 y3 y4 σ = some r → W p l e ((headSpec wsX6_choose ({ frames := 1, cells := 0, slots := 0, locals := 23 })).room) s m ([.ref (a 11), .int p1, .int p2, .int p3].toArray) below meth c H locs 0 0 (MQ below (va_Qv (fun u => ((), u) = r) (fd_BC D a k) (fd_A 39 a s.heap.size)) ([.ref (a 11), .int p1, .int p2, .int p3].toArray) s 0 0 (fd_A 39 a s.heap.size)) (F0 m 8 ls [])), ∀ (y1 : Int32) (y2 : Int32) (y3 : Int32) (y4 : Int32) (σ : fd_St) (H : Heap) (locs : List Loc) (ls : Array Slot), va_P D vwCl (fd_WC a k σ) H → va_S (fd_A 39 a s.heap.size) s.heap H locs → lv_has ls 5 [(0, .ref (a 11)), (1, .int y1), (2, .int y2), (3, .int y3), (4, .int y4)] → f_X6_choose_11_J39 N k8 y1 y2 y3 y4 σ = some r → W p l e ((headSpec wsX6_choose ({ frames := 1, cells := 0, slots := 0, locals := 23 })).room) s m ([.ref (a 11), .int p1, .int p2, .int p3].toArray) below meth c H locs 0 0 (MQ below (va_Qv (fun u => ((), u) = r) (fd_BC D a k) (fd_A 39 a s.heap.size)) ([.ref (a 11), .int p1, .int p2, .int p3].toArray) s 0 0 (fd_A 39 a s.heap.size)) (F0 m 39 ls []) := by
    intro k8 hk8 y1 y2 y3 y4 σ H locs ls hP hS hl hf
    unfold f_X6_choose_11_J39 at hf
    refine lv_aload_n hx hb dX6_choose_39 rfl (lv_at hl 0 rfl) ?_
    refine lv_aload_n hx hb dX6_choose_40 rfl (lv_at hl 0 rfl) ?_
    refine va_get (ci := 6) (v := .ref (a 33)) (C := RX6) (T := TX6) (N := 9) hx hb hts h9X6 hown hK hP 11 fd_WC_11 rfl 1 (by decide) (hts (.fieldLink RX6 15 "FailDiagnose$Shapes" "lefts" "[I") (List.mem_of_getElem? (i := 4) (by eq_refl))) (fun _ h9 => h9) rfl dX6_choose_41 ?_
    refine lv_iload hx hb dX6_choose_44 (lv_at hl 4 rfl) ?_
    obtain ⟨g5, hf⟩ := fd_gds hf
    refine va_iald hx hb hK hP 33 21 fd_WC_33 fd_tyC_33 g5 dX6_choose_46 ?_
    refine lv_iload_n hx hb dX6_choose_47 rfl (lv_at hl 3 rfl) ?_
    refine lv_isub hx hb dX6_choose_48 ?_
    refine lv_iconst (v := (2 : Int32)) hx hb dX6_choose_49 (by decide) ?_
    refine lv_aload_n hx hb dX6_choose_50 rfl (lv_at hl 0 rfl) ?_
    refine va_get (ci := 6) (v := .int (σ.1 19)) (C := RX6) (T := TX6) (N := 9) hx hb hts h9X6 hown hK hP 11 fd_WC_11 rfl 8 (by decide) (hts (.fieldLink RX6 49 "FailDiagnose$Shapes" "chosen" "I") (List.mem_of_getElem? (i := 1) (by eq_refl))) (fun _ h9 => h9) rfl dX6_choose_51 ?_
    refine lv_imul hx hb dX6_choose_54 ?_
    obtain ⟨w9, τ10, hc6, hf⟩ := fd_bds hf
    refine va_callv (va_runV (As := [.int ((σ.2.1 33 y4.toNatClampNeg) - y3), .int ((2 : Int32) * (σ.1 19))]) (rest := []) ⟨hx, hb, hml, hown, hts⟩ (m_X6_putEdge_11 l D a k H.size hI N ((σ.2.1 33 y4.toNatClampNeg) - y3) ((2 : Int32) * (σ.1 19)) σ _ hc6) (cwV 2 hts gX6_choose_X6_putEdge rfl rfl rfl (by decide +kernel) ⟨Nat.le_of_ble_eq_true rfl, Nat.le_of_ble_eq_true rfl⟩) ⟨fd_blC, va_recv hK hP (ci := 6) (q0 := 11) rfl fd_WC_11, fd_prC hP hK⟩ rfl rfl hl.1 rfl (lv_room (Nat.le_of_ble_eq_true rfl)) dX6_choose_55 ⟨Nat.zero_le _, Nat.zero_le _⟩) hS (fun q _ h => fd_A_mono hS.1 h) (fun q h => fd_A_mono hS.1 h) (fun u t H1 locs ht hvm hw hB hz hk hS => ?_)
    obtain ⟨hP1, hK1⟩ := hB
    rw [ht] at hP1
    have e2 := (Prod.mk.inj hw).2
    subst e2
    obtain ⟨σ8, rfl⟩ : ∃ z, z = u := ⟨_, rfl⟩
    have hP := hP1
    generalize H1 = H at hP hS ⊢
    refine lv_aload_n hx hb dX6_choose_58 rfl (lv_at hl 0 rfl) ?_
    refine lv_aload_n hx hb dX6_choose_59 rfl (lv_at hl 0 rfl) ?_
    refine va_get (ci := 6) (v := .ref (a 35)) (C := RX6) (T := TX6) (N := 9) hx hb hts h9X6 hown hK hP 11 fd_WC_11 rfl 3 (by decide) (hts (.fieldLink RX6 21 "FailDiagnose$Shapes" "rights" "[I") (List.mem_of_getElem? (i := 5) (by eq_refl))) (fun _ h9 => h9) rfl dX6_choose_60 ?_
    refine lv_iload hx hb dX6_choose_63 (lv_at hl 4 rfl) ?_
    obtain ⟨g11, hf⟩ := fd_gds hf
    refine va_iald hx hb hK hP 35 23 fd_WC_35 fd_tyC_35 g11 dX6_choose_65 ?_
    refine lv_iload_n hx hb dX6_choose_66 rfl (lv_at hl 3 rfl) ?_
    refine lv_iadd hx hb dX6_choose_67 ?_
    refine lv_iconst (v := (2 : Int32)) hx hb dX6_choose_68 (by decide) ?_
    refine lv_aload_n hx hb dX6_choose_69 rfl (lv_at hl 0 rfl) ?_
    refine va_get (ci := 6) (v := .int (σ8.1 19)) (C := RX6) (T := TX6) (N := 9) hx hb hts h9X6 hown hK hP 11 fd_WC_11 rfl 8 (by decide) (hts (.fieldLink RX6 49 "FailDiagnose$Shapes" "chosen" "I") (List.mem_of_getElem? (i := 1) (by eq_refl))) (fun _ h9 => h9) rfl dX6_choose_70 ?_
    refine lv_imul hx hb dX6_choose_73 ?_
    refine lv_iconst (v := (1 : Int32)) hx hb dX6_choose_74 (by decide) ?_
    refine lv_iadd hx hb dX6_choose_75 ?_
    obtain ⟨w15, τ16, hc12, hf⟩ := fd_bds hf
    refine va_callv (va_runV (As := [.int ((σ8.2.1 35 y4.toNatClampNeg) + y3), .int (((2 : Int32) * (σ8.1 19)) + (1 : Int32))]) (rest := []) ⟨hx, hb, hml, hown, hts⟩ (m_X6_putEdge_11 l D a k H.size hI N ((σ8.2.1 35 y4.toNatClampNeg) + y3) (((2 : Int32) * (σ8.1 19)) + (1 : Int32)) σ8 _ hc12) (cwV 2 hts gX6_choose_X6_putEdge rfl rfl rfl (by decide +kernel) ⟨Nat.le_of_ble_eq_true rfl, Nat.le_of_ble_eq_true rfl⟩) ⟨fd_blC, va_recv hK hP (ci := 6) (q0 := 11) rfl fd_WC_11, fd_prC hP hK⟩ rfl rfl hl.1 rfl (lv_room (Nat.le_of_ble_eq_true rfl)) dX6_choose_76 ⟨Nat.zero_le _, Nat.zero_le _⟩) hS (fun q _ h => fd_A_mono hS.1 h) (fun q h => fd_A_mono hS.1 h) (fun u t H1 locs ht hvm hw hB hz hk hS => ?_)
    obtain ⟨hP1, hK1⟩ := hB
    rw [ht] at hP1
    have e2 := (Prod.mk.inj hw).2
    subst e2
    obtain ⟨σ14, rfl⟩ : ∃ z, z = u := ⟨_, rfl⟩
    have hP := hP1
    generalize H1 = H at hP hS ⊢
    refine lv_aload_n hx hb dX6_choose_79 rfl (lv_at hl 0 rfl) ?_
    refine lv_iload hx hb dX6_choose_80 (lv_at hl 4 rfl) ?_
    obtain ⟨w20, τ21, hc17, hf⟩ := fd_bds hf
    refine va_callv (va_runV (As := [.int y4]) (rest := []) ⟨hx, hb, hml, hown, hts⟩ (m_X6_putByBottom_11 l D a k H.size hI N y4 σ14 _ hc17) (cwV 1 hts gX6_choose_X6_putByBottom rfl rfl rfl (by decide +kernel) ⟨Nat.le_of_ble_eq_true rfl, Nat.le_of_ble_eq_true rfl⟩) ⟨fd_blC, va_recv hK hP (ci := 6) (q0 := 11) rfl fd_WC_11, fd_prC hP hK⟩ rfl rfl hl.1 rfl (lv_room (Nat.le_of_ble_eq_true rfl)) dX6_choose_82 ⟨Nat.zero_le _, Nat.zero_le _⟩) hS (fun q _ h => fd_A_mono hS.1 h) (fun q h => fd_A_mono hS.1 h) (fun u t H1 locs ht hvm hw hB hz hk hS => ?_)
    obtain ⟨hP1, hK1⟩ := hB
    rw [ht] at hP1
    have e2 := (Prod.mk.inj hw).2
    subst e2
    obtain ⟨σ19, rfl⟩ : ∃ z, z = u := ⟨_, rfl⟩
    have hP := hP1
    generalize H1 = H at hP hS ⊢
    refine lv_aload_n hx hb dX6_choose_85 rfl (lv_at hl 0 rfl) ?_
    refine lv_dup hx hb dX6_choose_86 rfl ?_
    refine va_get (ci := 6) (v := .int (σ19.1 19)) (C := RX6) (T := TX6) (N := 9) hx hb hts h9X6 hown hK hP 11 fd_WC_11 rfl 8 (by decide) (hts (.fieldLink RX6 49 "FailDiagnose$Shapes" "chosen" "I") (List.mem_of_getElem? (i := 1) (by eq_refl))) (fun _ h9 => h9) rfl dX6_choose_87 ?_
    refine lv_iconst (v := (1 : Int32)) hx hb dX6_choose_90 (by decide) ?_
    refine lv_iadd hx hb dX6_choose_91 ?_
    obtain ⟨σ22, eσ22, hf⟩ := fd_lts hf
    refine va_put (ci := 6) (v := .int ((σ19.1 19) + (1 : Int32))) (ty := .int) (C := RX6) (T := TX6) (N := 9) hx hb hts h9X6 tyX6 tyX6_ok nmX6 hown hK hP (fd_DC hI hJ) hS 11 fd_WC_11 rfl 8 (by decide) (hts (.fieldLink RX6 49 "FailDiagnose$Shapes" "chosen" "I") (List.mem_of_getElem? (i := 1) (by eq_refl))) (fun _ h9 => h9) rfl (by decide +kernel) rfl rfl (Nat.le_of_ble_eq_true rfl) dX6_choose_92 (fun H locs hP _ hS => ?_)
    have hP : va_P D vwCl (fd_WC a k σ22) H := by rw [eσ22]; exact fd_sP fd_WCi_19 hP
    exact hL95 k8 hk8 y1 y2 y3 y4 σ22 _ _ _ hP hS (lv_sub hl [0, 1, 2, 3, 4] rfl) hf
  have hL8 : ∀ (n : Nat), ∀ (y1 : Int32) (y2 : Int32) (y3 : Int32) (y4 : Int32) (σ : fd_St) (H : Heap) (locs : List Loc) (ls : Array Slot), va_P D vwCl (fd_WC a k σ) H → va_S (fd_A 39 a s.heap.size) s.heap H locs → lv_has ls 5 [(0, .ref (a 11)), (1, .int y1), (2, .int y2), (3, .int y3), (4, .int y4)] → f_X6_choose_11_L8 N n y1 y2 y3 y4 σ = some r → W p l e ((headSpec wsX6_choose ({ frames := 1, cells := 0, slots := 0, locals := 23 })).room) s m ([.ref (a 11), .int p1, .int p2, .int p3].toArray) below meth c H locs 0 0 (MQ below (va_Qv (fun u => ((), u) = r) (fd_BC D a k) (fd_A 39 a s.heap.size)) ([.ref (a 11), .int p1, .int p2, .int p3].toArray) s 0 0 (fd_A 39 a s.heap.size)) (F0 m 8 ls []) := by
    intro n
    induction n with
    | zero =>
      intro _ _ _ _ _ _ _ _ _ _ _ hf
      cases hf
    | succ n ih =>
      intro y1 y2 y3 y4 σ H locs ls hP hS hl hf
      unfold f_X6_choose_11_L8 at hf
      refine lv_iload hx hb dX6_choose_8 (lv_at hl 4 rfl) ?_
      refine lv_aload_n hx hb dX6_choose_10 rfl (lv_at hl 0 rfl) ?_
      refine va_get (ci := 6) (v := .int (σ.1 18)) (C := RX6) (T := TX6) (N := 9) hx hb hts h9X6 hown hK hP 11 fd_WC_11 rfl 7 (by decide) (hts (.fieldLink RX6 33 "FailDiagnose$Shapes" "size" "I") (List.mem_of_getElem? (i := 2) (by eq_refl))) (fun _ h9 => h9) rfl dX6_choose_11 ?_
      refine lv_icmp_ge (tgt := 101) hx hb dX6_choose_14 (by decide) (fun c2 => ?_) (fun c2 => ?_)
      · have hf := fd_itp c2 hf
        exact W.vret hx hb hr (fun t ht hW => ⟨⟨σ, rfl, Option.some.inj hf, by rw [ht]; exact hP, va_K.moved hW.alike hK⟩, hS.F ht⟩) hS.2.2 dX6_choose_101
      · have hf := fd_itn c2 hf
        refine lv_aload_n hx hb dX6_choose_17 rfl (lv_at hl 0 rfl) ?_
        refine va_get (ci := 6) (v := .ref (a 32)) (C := RX6) (T := TX6) (N := 9) hx hb hts h9X6 hown hK hP 11 fd_WC_11 rfl 0 (by decide) (hts (.fieldLink RX6 9 "FailDiagnose$Shapes" "nets" "[I") (List.mem_of_getElem? (i := 3) (by eq_refl))) (fun _ h9 => h9) rfl dX6_choose_18 ?_
        refine lv_iload hx hb dX6_choose_21 (lv_at hl 4 rfl) ?_
        obtain ⟨g3, hf⟩ := fd_gds hf
        refine va_iald hx hb hK hP 32 20 fd_WC_32 fd_tyC_32 g3 dX6_choose_23 ?_
        refine lv_iload_n hx hb dX6_choose_24 rfl (lv_at hl 1 rfl) ?_
        refine lv_icmp_eq (tgt := 39) hx hb dX6_choose_25 (by decide) (fun c4 => ?_) (fun c4 => ?_)
        · have hf := fd_itp c4 hf
          exact hL39 (f_X6_choose_11_L8 N n) ih y1 y2 y3 y4 σ _ _ _ hP hS (lv_sub hl [0, 1, 2, 3, 4] rfl) hf
        · have hf := fd_itn c4 hf
          refine lv_aload_n hx hb dX6_choose_28 rfl (lv_at hl 0 rfl) ?_
          refine va_get (ci := 6) (v := .ref (a 32)) (C := RX6) (T := TX6) (N := 9) hx hb hts h9X6 hown hK hP 11 fd_WC_11 rfl 0 (by decide) (hts (.fieldLink RX6 9 "FailDiagnose$Shapes" "nets" "[I") (List.mem_of_getElem? (i := 3) (by eq_refl))) (fun _ h9 => h9) rfl dX6_choose_29 ?_
          refine lv_iload hx hb dX6_choose_32 (lv_at hl 4 rfl) ?_
          obtain ⟨g24, hf⟩ := fd_gds hf
          refine va_iald hx hb hK hP 32 20 fd_WC_32 fd_tyC_32 g24 dX6_choose_34 ?_
          refine lv_iload_n hx hb dX6_choose_35 rfl (lv_at hl 2 rfl) ?_
          refine lv_icmp_ne (tgt := 95) hx hb dX6_choose_36 (by decide) (fun c25 => ?_) (fun c25 => ?_)
          · have hf := fd_itn c25 hf
            exact hL95 (f_X6_choose_11_L8 N n) ih y1 y2 y3 y4 σ _ _ _ hP hS (lv_sub hl [0, 1, 2, 3, 4] rfl) hf
          · have hf := fd_itp c25 hf
            exact hL39 (f_X6_choose_11_L8 N n) ih y1 y2 y3 y4 σ _ _ _ hP hS (lv_sub hl [0, 1, 2, 3, 4] rfl) hf
  unfold f_X6_choose_11 at hf
  refine lv_aload_n hx hb dX6_choose_0 rfl (lv_at hl 0 rfl) ?_
  refine lv_iconst (v := (0 : Int32)) hx hb dX6_choose_1 (by decide) ?_
  obtain ⟨σ1, eσ1, hf⟩ := fd_lts hf
  refine va_put (ci := 6) (v := .int (0 : Int32)) (ty := .int) (C := RX6) (T := TX6) (N := 9) hx hb hts h9X6 tyX6 tyX6_ok nmX6 hown hK hP (fd_DC hI hJ) hS 11 fd_WC_11 rfl 8 (by decide) (hts (.fieldLink RX6 49 "FailDiagnose$Shapes" "chosen" "I") (List.mem_of_getElem? (i := 1) (by eq_refl))) (fun _ h9 => h9) rfl (by decide +kernel) rfl rfl (Nat.le_of_ble_eq_true rfl) dX6_choose_2 (fun H locs hP _ hS => ?_)
  have hP : va_P D vwCl (fd_WC a k σ1) H := by rw [eσ1]; exact fd_sP fd_WCi_19 hP
  refine lv_iconst (v := (0 : Int32)) hx hb dX6_choose_5 (by decide) ?_
  refine lv_istore (lv' := [(4, .int (0 : Int32)), (0, .ref (a 11)), (1, .int p1), (2, .int p2), (3, .int p3)]) hx hb dX6_choose_6 hl (by decide) rfl (fun ls hl => ?_)
  exact hL8 N p1 p2 p3 (0 : Int32) σ1 _ _ _ hP hS (lv_sub hl [1, 2, 3, 4, 0] rfl) hf
noncomputable def f_X6_heightAt_11_J97 (N : Nat) (k9 : Int32 → Int32 → Int32 → Int32 → Int32 → fd_St → Option (Int32 × fd_St)) (y1 : Int32) (y2 : Int32) (y3 : Int32) (y4 : Int32) (y5 : Int32) (σ : fd_St) : Option (Int32 × fd_St) := fd_lt (y5 + (1 : Int32)) (fun x7 => k9 y1 y2 y3 y4 x7 σ)
noncomputable def f_X6_heightAt_11_L9 (N : Nat) : Nat → Int32 → Int32 → Int32 → Int32 → Int32 → fd_St → Option (Int32 × fd_St)
  | 0 => fun _ _ _ _ _ _ => none
  | n + 1 => fun y1 y2 y3 y4 y5 σ => if (σ.1 19) ≤ y5 then (some (y3, σ)) else (fd_gd (vp_in y5 60) (fd_lt (σ.2.1 37 y5.toNatClampNeg) (fun x4 => fd_gd (vp_in x4 60) (if y1 < ((σ.2.1 33 x4.toNatClampNeg) - y2) then (f_X6_heightAt_11_J97 N (f_X6_heightAt_11_L9 N n) y1 y2 y3 y4 y5 σ) else (fd_gd (vp_in x4 60) (if ((σ.2.1 35 x4.toNatClampNeg) + y2) ≤ y1 then (f_X6_heightAt_11_J97 N (f_X6_heightAt_11_L9 N n) y1 y2 y3 y4 y5 σ) else (fd_gd (vp_in x4 60) (fd_lt (if (σ.2.1 34 x4.toNatClampNeg) - y2 < y4 then y4 else (σ.2.1 34 x4.toNatClampNeg) - y2) (fun x11 => fd_gd (vp_in x4 60) (fd_lt (if (σ.2.1 36 x4.toNatClampNeg) + y2 < x11 then x11 else (σ.2.1 36 x4.toNatClampNeg) + y2) (fun x13 => fd_lt (y3 + (x13 - x11)) (fun x14 => f_X6_heightAt_11_J97 N (f_X6_heightAt_11_L9 N n) y1 y2 x14 x13 y5 σ))))))))))))
noncomputable def f_X6_heightAt_11 (N : Nat) (p1 : Int32) (p2 : Int32) (σ : fd_St) : Option (Int32 × fd_St) := fd_lt (-p2) (fun x1 => f_X6_heightAt_11_L9 N N p1 p2 (0 : Int32) x1 (0 : Int32) σ)
set_option maxHeartbeats 4000000 in
set_option maxRecDepth 100000 in
theorem m_X6_heightAt_11 (l : Launch) (D : va_G) (a : Nat → Nat) (k : Nat → ClassId) (sz : Nat) (hI : fd_I 39 a) (N : Nat) (p1 : Int32) (p2 : Int32) (σ : fd_St) (r : Int32 × fd_St) (hf : f_X6_heightAt_11 N p1 p2 σ = some r) : Met l yX6_heightAt wsX6_heightAt ({ frames := 1, cells := 0, slots := 0, locals := 21 }) (va_Pc [.ref (a 11), .int p1, .int p2] (fd_PC D a k sz σ)) (va_Qi (fun v u => (v, u) = r) (fd_BC D a k) (fd_A 39 a sz)) 0 0 (fd_A 39 a sz) := by
  refine Met.ofW (cc := cX6_heightAt) (maxL := 9) (ret := (some .int)) (by decide) rfl ?_
  intro p e s m args below meth c s₁ B hml hv
  obtain ⟨rfl, hsz, hP, hK⟩ := hv
  have hx := B.exec
  have hb := B.bytes
  have hr := B.returns
  have hts := atoms_spec (ws := wsX6_heightAt) B.pre
  have hown : s.vm.findClass RX6 = some m.cls := findClass_of_methodNamed B.named
  have hlocks := B.notSynchronized
  subst hsz
  have hJ : ∀ i, i < 39 → fd_A 39 a s.heap.size (a i) := fun i hi => Or.inl ⟨i, hi, rfl⟩
  have hS : va_S (fd_A 39 a s.heap.size) s.heap s.heap [] := va_S.rf
  have hl := lv_entry ([.ref (a 11), .int p1, .int p2]) (n := 9) (Nat.le_of_ble_eq_true rfl)
  rw [lg_entry_eq]
  generalize (lg_sl ([.ref (a 11), .int p1, .int p2]) ++ List.replicate (9 - (lg_sl ([.ref (a 11), .int p1, .int p2])).length) Slot.unset).toArray = ls at hl ⊢
  have hl : lv_has ls 9 [(0, .ref (a 11)), (1, .int p1), (2, .int p2)] := hl
  have h9X6 : ∀ w ∈ u_ws RX6 TX6 9, w ∈ wsX6_heightAt := fd_su [11, 12, 13, 14, 15, 16, 17, 18, 19] (by eq_refl)
  have hL97 : ∀ (k9 : Int32 → Int32 → Int32 → Int32 → Int32 → fd_St → Option (Int32 × fd_St)) (hk9 : ∀ (y1 : Int32) (y2 : Int32) (y3 : Int32) (y4 : Int32) (y5 : Int32) (σ : fd_St) (H : Heap) (locs : List Loc) (ls : Array Slot), va_P D vwCl (fd_WC a k σ) H → va_S (fd_A 39 a s.heap.size) s.heap H locs → lv_has ls 9 [(0, .ref (a 11)), (1, .int y1), (2, .int y2), (3, .int y3), (4, .int y4), (5, .int y5)] → k9 y1 y2 y3 y4 y5 σ = some r → W p l e ((headSpec wsX6_heightAt ({ frames := 1, cells := 0, slots := 0, locals := 21 })).room) s m ([.ref (a 11), .int p1, .int p2].toArray) below meth c H locs 0 0 (MQ below (va_Qi (fun v u => (v, u) = r) (fd_BC D a k) (fd_A 39 a s.heap.size)) ([.ref (a 11), .int p1, .int p2].toArray) s 0 0 (fd_A 39 a s.heap.size)) (F0 m 9 ls [])), ∀ (y1 : Int32) (y2 : Int32) (y3 : Int32) (y4 : Int32) (y5 : Int32) (σ : fd_St) (H : Heap) (locs : List Loc) (ls : Array Slot), va_P D vwCl (fd_WC a k σ) H → va_S (fd_A 39 a s.heap.size) s.heap H locs → lv_has ls 9 [(0, .ref (a 11)), (1, .int y1), (2, .int y2), (3, .int y3), (4, .int y4), (5, .int y5)] → f_X6_heightAt_11_J97 N k9 y1 y2 y3 y4 y5 σ = some r → W p l e ((headSpec wsX6_heightAt ({ frames := 1, cells := 0, slots := 0, locals := 21 })).room) s m ([.ref (a 11), .int p1, .int p2].toArray) below meth c H locs 0 0 (MQ below (va_Qi (fun v u => (v, u) = r) (fd_BC D a k) (fd_A 39 a s.heap.size)) ([.ref (a 11), .int p1, .int p2].toArray) s 0 0 (fd_A 39 a s.heap.size)) (F0 m 97 ls []) := by
    intro k9 hk9 y1 y2 y3 y4 y5 σ H locs ls hP hS hl hf
    unfold f_X6_heightAt_11_J97 at hf
    obtain ⟨x7, ex7, hf⟩ := fd_lts hf
    refine lv_iinc (v := x7) (lv' := [(5, .int x7), (0, .ref (a 11)), (1, .int y1), (2, .int y2), (3, .int y3), (4, .int y4)]) hx hb dX6_heightAt_97 hl (k := 5) rfl (by rw [ex7]; rfl) (by decide) rfl (fun ls hl => ?_)
    refine lv_goto (tgt := 9) hx hb dX6_heightAt_100 (by decide) ?_
    exact hk9 y1 y2 y3 y4 x7 σ _ _ _ hP hS (lv_sub hl [1, 2, 3, 4, 5, 0] rfl) hf
  have hL9 : ∀ (n : Nat), ∀ (y1 : Int32) (y2 : Int32) (y3 : Int32) (y4 : Int32) (y5 : Int32) (σ : fd_St) (H : Heap) (locs : List Loc) (ls : Array Slot), va_P D vwCl (fd_WC a k σ) H → va_S (fd_A 39 a s.heap.size) s.heap H locs → lv_has ls 9 [(0, .ref (a 11)), (1, .int y1), (2, .int y2), (3, .int y3), (4, .int y4), (5, .int y5)] → f_X6_heightAt_11_L9 N n y1 y2 y3 y4 y5 σ = some r → W p l e ((headSpec wsX6_heightAt ({ frames := 1, cells := 0, slots := 0, locals := 21 })).room) s m ([.ref (a 11), .int p1, .int p2].toArray) below meth c H locs 0 0 (MQ below (va_Qi (fun v u => (v, u) = r) (fd_BC D a k) (fd_A 39 a s.heap.size)) ([.ref (a 11), .int p1, .int p2].toArray) s 0 0 (fd_A 39 a s.heap.size)) (F0 m 9 ls []) := by
    intro n
    induction n with
    | zero =>
      intro _ _ _ _ _ _ _ _ _ _ _ _ hf
      cases hf
    | succ n ih =>
      intro y1 y2 y3 y4 y5 σ H locs ls hP hS hl hf
      unfold f_X6_heightAt_11_L9 at hf
      refine lv_iload hx hb dX6_heightAt_9 (lv_at hl 5 rfl) ?_
      refine lv_aload_n hx hb dX6_heightAt_11 rfl (lv_at hl 0 rfl) ?_
      refine va_get (ci := 6) (v := .int (σ.1 19)) (C := RX6) (T := TX6) (N := 9) hx hb hts h9X6 hown hK hP 11 fd_WC_11 rfl 8 (by decide) (hts (.fieldLink RX6 49 "FailDiagnose$Shapes" "chosen" "I") (List.mem_of_getElem? (i := 1) (by eq_refl))) (fun _ h9 => h9) rfl dX6_heightAt_12 ?_
      refine lv_icmp_ge (tgt := 103) hx hb dX6_heightAt_15 (by decide) (fun c2 => ?_) (fun c2 => ?_)
      · have hf := fd_itp c2 hf
        refine lv_iload_n hx hb dX6_heightAt_103 rfl (lv_at hl 3 rfl) ?_
        exact W.iret (v := y3) hx hb hr (fun t ht hW => ⟨⟨y3, σ, rfl, Option.some.inj hf, by rw [ht]; exact hP, va_K.moved hW.alike hK⟩, hS.F ht⟩) hS.2.2 dX6_heightAt_104
      · have hf := fd_itn c2 hf
        refine lv_aload_n hx hb dX6_heightAt_18 rfl (lv_at hl 0 rfl) ?_
        refine va_get (ci := 6) (v := .ref (a 37)) (C := RX6) (T := TX6) (N := 9) hx hb hts h9X6 hown hK hP 11 fd_WC_11 rfl 5 (by decide) (hts (.fieldLink RX6 27 "FailDiagnose$Shapes" "chosenByBottom" "[I") (List.mem_of_getElem? (i := 2) (by eq_refl))) (fun _ h9 => h9) rfl dX6_heightAt_19 ?_
        refine lv_iload hx hb dX6_heightAt_22 (lv_at hl 5 rfl) ?_
        obtain ⟨g3, hf⟩ := fd_gds hf
        refine va_iald hx hb hK hP 37 25 fd_WC_37 fd_tyC_37 g3 dX6_heightAt_24 ?_
        obtain ⟨x4, ex4, hf⟩ := fd_lts hf
        refine fd_ni ex4 ?_
        refine lv_istore (lv' := [(6, .int x4), (0, .ref (a 11)), (1, .int y1), (2, .int y2), (3, .int y3), (4, .int y4), (5, .int y5)]) hx hb dX6_heightAt_25 hl (by decide) rfl (fun ls hl => ?_)
        refine lv_aload_n hx hb dX6_heightAt_27 rfl (lv_at hl 1 rfl) ?_
        refine va_get (ci := 6) (v := .ref (a 33)) (C := RX6) (T := TX6) (N := 9) hx hb hts h9X6 hown hK hP 11 fd_WC_11 rfl 1 (by decide) (hts (.fieldLink RX6 15 "FailDiagnose$Shapes" "lefts" "[I") (List.mem_of_getElem? (i := 3) (by eq_refl))) (fun _ h9 => h9) rfl dX6_heightAt_28 ?_
        refine lv_iload hx hb dX6_heightAt_31 (lv_at hl 0 rfl) ?_
        obtain ⟨g5, hf⟩ := fd_gds hf
        refine va_iald hx hb hK hP 33 21 fd_WC_33 fd_tyC_33 g5 dX6_heightAt_33 ?_
        refine lv_iload_n hx hb dX6_heightAt_34 rfl (lv_at hl 3 rfl) ?_
        refine lv_isub hx hb dX6_heightAt_35 ?_
        refine lv_iload_n hx hb dX6_heightAt_36 rfl (lv_at hl 2 rfl) ?_
        refine lv_icmp_gt (tgt := 97) hx hb dX6_heightAt_37 (by decide) (fun c6 => ?_) (fun c6 => ?_)
        · have hf := fd_itp c6 hf
          exact hL97 (f_X6_heightAt_11_L9 N n) ih y1 y2 y3 y4 y5 σ _ _ _ hP hS (lv_sub hl [1, 2, 3, 4, 5, 6] rfl) hf
        · have hf := fd_itn c6 hf
          refine lv_iload_n hx hb dX6_heightAt_40 rfl (lv_at hl 2 rfl) ?_
          refine lv_aload_n hx hb dX6_heightAt_41 rfl (lv_at hl 1 rfl) ?_
          refine va_get (ci := 6) (v := .ref (a 35)) (C := RX6) (T := TX6) (N := 9) hx hb hts h9X6 hown hK hP 11 fd_WC_11 rfl 3 (by decide) (hts (.fieldLink RX6 21 "FailDiagnose$Shapes" "rights" "[I") (List.mem_of_getElem? (i := 4) (by eq_refl))) (fun _ h9 => h9) rfl dX6_heightAt_42 ?_
          refine lv_iload hx hb dX6_heightAt_45 (lv_at hl 0 rfl) ?_
          obtain ⟨g8, hf⟩ := fd_gds hf
          refine va_iald hx hb hK hP 35 23 fd_WC_35 fd_tyC_35 g8 dX6_heightAt_47 ?_
          refine lv_iload_n hx hb dX6_heightAt_48 rfl (lv_at hl 3 rfl) ?_
          refine lv_iadd hx hb dX6_heightAt_49 ?_
          refine lv_icmp_ge (tgt := 97) hx hb dX6_heightAt_50 (by decide) (fun c9 => ?_) (fun c9 => ?_)
          · have hf := fd_itp c9 hf
            exact hL97 (f_X6_heightAt_11_L9 N n) ih y1 y2 y3 y4 y5 σ _ _ _ hP hS (lv_sub hl [1, 2, 3, 4, 5, 6] rfl) hf
          · have hf := fd_itn c9 hf
            refine lv_aload_n hx hb dX6_heightAt_53 rfl (lv_at hl 1 rfl) ?_
            refine va_get (ci := 6) (v := .ref (a 34)) (C := RX6) (T := TX6) (N := 9) hx hb hts h9X6 hown hK hP 11 fd_WC_11 rfl 2 (by decide) (hts (.fieldLink RX6 18 "FailDiagnose$Shapes" "bottoms" "[I") (List.mem_of_getElem? (i := 5) (by eq_refl))) (fun _ h9 => h9) rfl dX6_heightAt_54 ?_
            refine lv_iload hx hb dX6_heightAt_57 (lv_at hl 0 rfl) ?_
            obtain ⟨g10, hf⟩ := fd_gds hf
            refine va_iald hx hb hK hP 34 22 fd_WC_34 fd_tyC_34 g10 dX6_heightAt_59 ?_
            refine lv_iload_n hx hb dX6_heightAt_60 rfl (lv_at hl 3 rfl) ?_
            refine lv_isub hx hb dX6_heightAt_61 ?_
            refine lv_iload hx hb dX6_heightAt_62 (lv_at hl 5 rfl) ?_
            refine va_mmax hx hb (hml.trans hl.1.symm) hown (hts (.methodLink RX6 64 Lib.Math.max.name) (List.mem_of_getElem? (i := 6) (by eq_refl))) (hts (.static Lib.Math.max.name) (List.mem_of_getElem? (i := 7) (by eq_refl))) (hts (.initialized "java/lang/Math") (List.mem_of_getElem? (i := 8) (by eq_refl))) (hts (.code Lib.Math.max.name Lib.Math.max.code 2 (some .int)) (List.mem_of_getElem? (i := 9) (by eq_refl))) (Nat.le_of_ble_eq_true rfl) (Nat.le_of_ble_eq_true rfl) (Nat.zero_le _) (Nat.zero_le _) dX6_heightAt_64 ?_
            obtain ⟨x11, ex11, hf⟩ := fd_lts hf
            refine fd_ni ex11 ?_
            refine lv_istore (lv' := [(7, .int x11), (6, .int x4), (0, .ref (a 11)), (1, .int y1), (2, .int y2), (3, .int y3), (4, .int y4), (5, .int y5)]) hx hb dX6_heightAt_67 hl (by decide) rfl (fun ls hl => ?_)
            refine lv_aload_n hx hb dX6_heightAt_69 rfl (lv_at hl 2 rfl) ?_
            refine va_get (ci := 6) (v := .ref (a 36)) (C := RX6) (T := TX6) (N := 9) hx hb hts h9X6 hown hK hP 11 fd_WC_11 rfl 4 (by decide) (hts (.fieldLink RX6 24 "FailDiagnose$Shapes" "tops" "[I") (List.mem_of_getElem? (i := 10) (by eq_refl))) (fun _ h9 => h9) rfl dX6_heightAt_70 ?_
            refine lv_iload hx hb dX6_heightAt_73 (lv_at hl 1 rfl) ?_
            obtain ⟨g12, hf⟩ := fd_gds hf
            refine va_iald hx hb hK hP 36 24 fd_WC_36 fd_tyC_36 g12 dX6_heightAt_75 ?_
            refine lv_iload_n hx hb dX6_heightAt_76 rfl (lv_at hl 4 rfl) ?_
            refine lv_iadd hx hb dX6_heightAt_77 ?_
            refine lv_iload hx hb dX6_heightAt_78 (lv_at hl 0 rfl) ?_
            refine va_mmax hx hb (hml.trans hl.1.symm) hown (hts (.methodLink RX6 64 Lib.Math.max.name) (List.mem_of_getElem? (i := 6) (by eq_refl))) (hts (.static Lib.Math.max.name) (List.mem_of_getElem? (i := 7) (by eq_refl))) (hts (.initialized "java/lang/Math") (List.mem_of_getElem? (i := 8) (by eq_refl))) (hts (.code Lib.Math.max.name Lib.Math.max.code 2 (some .int)) (List.mem_of_getElem? (i := 9) (by eq_refl))) (Nat.le_of_ble_eq_true rfl) (Nat.le_of_ble_eq_true rfl) (Nat.zero_le _) (Nat.zero_le _) dX6_heightAt_80 ?_
            obtain ⟨x13, ex13, hf⟩ := fd_lts hf
            refine fd_ni ex13 ?_
            refine lv_istore (lv' := [(8, .int x13), (7, .int x11), (6, .int x4), (0, .ref (a 11)), (1, .int y1), (2, .int y2), (3, .int y3), (4, .int y4), (5, .int y5)]) hx hb dX6_heightAt_83 hl (by decide) rfl (fun ls hl => ?_)
            refine lv_iload_n hx hb dX6_heightAt_85 rfl (lv_at hl 6 rfl) ?_
            refine lv_iload hx hb dX6_heightAt_86 (lv_at hl 0 rfl) ?_
            refine lv_iload hx hb dX6_heightAt_88 (lv_at hl 1 rfl) ?_
            refine lv_isub hx hb dX6_heightAt_90 ?_
            refine lv_iadd hx hb dX6_heightAt_91 ?_
            obtain ⟨x14, ex14, hf⟩ := fd_lts hf
            refine fd_ni ex14 ?_
            refine lv_istore_n (lv' := [(3, .int x14), (8, .int x13), (7, .int x11), (6, .int x4), (0, .ref (a 11)), (1, .int y1), (2, .int y2), (4, .int y4), (5, .int y5)]) hx hb dX6_heightAt_92 rfl hl (by decide) rfl (fun ls hl => ?_)
            refine lv_iload hx hb dX6_heightAt_93 (lv_at hl 1 rfl) ?_
            refine lv_istore (lv' := [(4, .int x13), (3, .int x14), (8, .int x13), (7, .int x11), (6, .int x4), (0, .ref (a 11)), (1, .int y1), (2, .int y2), (5, .int y5)]) hx hb dX6_heightAt_95 hl (by decide) rfl (fun ls hl => ?_)
            exact hL97 (f_X6_heightAt_11_L9 N n) ih y1 y2 x14 x13 y5 σ _ _ _ hP hS (lv_sub hl [5, 6, 7, 1, 0, 8] rfl) hf
  unfold f_X6_heightAt_11 at hf
  refine lv_iconst (v := (0 : Int32)) hx hb dX6_heightAt_0 (by decide) ?_
  refine lv_istore_n (lv' := [(3, .int (0 : Int32)), (0, .ref (a 11)), (1, .int p1), (2, .int p2)]) hx hb dX6_heightAt_1 rfl hl (by decide) rfl (fun ls hl => ?_)
  refine lv_iload_n hx hb dX6_heightAt_2 rfl (lv_at hl 3 rfl) ?_
  refine lv_ineg hx hb dX6_heightAt_3 ?_
  obtain ⟨x1, ex1, hf⟩ := fd_lts hf
  refine fd_ni ex1 ?_
  refine lv_istore (lv' := [(4, .int x1), (3, .int (0 : Int32)), (0, .ref (a 11)), (1, .int p1), (2, .int p2)]) hx hb dX6_heightAt_4 hl (by decide) rfl (fun ls hl => ?_)
  refine lv_iconst (v := (0 : Int32)) hx hb dX6_heightAt_6 (by decide) ?_
  refine lv_istore (lv' := [(5, .int (0 : Int32)), (4, .int x1), (3, .int (0 : Int32)), (0, .ref (a 11)), (1, .int p1), (2, .int p2)]) hx hb dX6_heightAt_7 hl (by decide) rfl (fun ls hl => ?_)
  exact hL9 N p1 p2 (0 : Int32) x1 (0 : Int32) σ _ _ _ hP hS (lv_sub hl [3, 4, 5, 2, 1, 0] rfl) hf
noncomputable def f_X6_coveredByEither_11_J70 (N : Nat) (k13 : Int32 → Int32 → Int32 → fd_St → Option (Int32 × fd_St)) (y3 : Int32) (y4 : Int32) (y5 : Int32) (σ : fd_St) : Option (Int32 × fd_St) := fd_lt (y5 + (1 : Int32)) (fun x11 => k13 y3 y4 x11 σ)
noncomputable def f_X6_coveredByEither_11_L13 (N : Nat) : Nat → Int32 → Int32 → Int32 → fd_St → Option (Int32 × fd_St)
  | 0 => fun _ _ _ _ => none
  | n + 1 => fun y3 y4 y5 σ => if ((2 : Int32) * (σ.1 19)) ≤ y5 then (some (y4, σ)) else (fd_gd (vp_in y5 120) (fd_gd (vp_in (y5 - (1 : Int32)) 120) (fd_lt ((σ.2.1 38 y5.toNatClampNeg) - (σ.2.1 38 (y5 - (1 : Int32)).toNatClampNeg)) (fun x9 => if x9 ≤ 0 then (f_X6_coveredByEither_11_J70 N (f_X6_coveredByEither_11_L13 N n) y3 y4 y5 σ) else (fd_gd (vp_in (y5 - (1 : Int32)) 120) (fd_bd (f_X6_heightAt_11 N (σ.2.1 38 (y5 - (1 : Int32)).toNatClampNeg) y3 σ) (fun v14 σ15 => fd_lt (y4 + (x9 * v14)) (fun x18 => f_X6_coveredByEither_11_J70 N (f_X6_coveredByEither_11_L13 N n) y3 x18 y5 σ15))))))))
noncomputable def f_X6_coveredByEither_11 (N : Nat) (p1 : Int32) (p2 : Int32) (p3 : Int32) (σ : fd_St) : Option (Int32 × fd_St) := fd_bd (f_X6_choose_11 N p1 p2 p3 σ) (fun _ σ3 => f_X6_coveredByEither_11_L13 N N p3 (0 : Int32) (1 : Int32) σ3)
set_option maxHeartbeats 4000000 in
set_option maxRecDepth 100000 in
theorem m_X6_coveredByEither_11 (l : Launch) (D : va_G) (a : Nat → Nat) (k : Nat → ClassId) (sz : Nat) (hI : fd_I 39 a) (N : Nat) (p1 : Int32) (p2 : Int32) (p3 : Int32) (σ : fd_St) (r : Int32 × fd_St) (hf : f_X6_coveredByEither_11 N p1 p2 p3 σ = some r) : Met l yX6_coveredByEither wsX6_coveredByEither ({ frames := 2, cells := 0, slots := 0, locals := 49 }) (va_Pc [.ref (a 11), .int p1, .int p2, .int p3] (fd_PC D a k sz σ)) (va_Qi (fun v u => (v, u) = r) (fd_BC D a k) (fd_A 39 a sz)) 0 0 (fd_A 39 a sz) := by
  refine Met.ofW (cc := cX6_coveredByEither) (maxL := 7) (ret := (some .int)) (by decide) rfl ?_
  intro p e s m args below meth c s₁ B hml hv
  obtain ⟨rfl, hsz, hP, hK⟩ := hv
  have hx := B.exec
  have hb := B.bytes
  have hr := B.returns
  have hts := atoms_spec (ws := wsX6_coveredByEither) B.pre
  have hown : s.vm.findClass RX6 = some m.cls := findClass_of_methodNamed B.named
  have hlocks := B.notSynchronized
  subst hsz
  have hJ : ∀ i, i < 39 → fd_A 39 a s.heap.size (a i) := fun i hi => Or.inl ⟨i, hi, rfl⟩
  have hS : va_S (fd_A 39 a s.heap.size) s.heap s.heap [] := va_S.rf
  have hl := lv_entry ([.ref (a 11), .int p1, .int p2, .int p3]) (n := 7) (Nat.le_of_ble_eq_true rfl)
  rw [lg_entry_eq]
  generalize (lg_sl ([.ref (a 11), .int p1, .int p2, .int p3]) ++ List.replicate (7 - (lg_sl ([.ref (a 11), .int p1, .int p2, .int p3])).length) Slot.unset).toArray = ls at hl ⊢
  have hl : lv_has ls 7 [(0, .ref (a 11)), (1, .int p1), (2, .int p2), (3, .int p3)] := hl
  have h9X6 : ∀ w ∈ u_ws RX6 TX6 9, w ∈ wsX6_coveredByEither := fd_su [31, 32, 33, 34, 35, 36, 37, 38, 39] (by eq_refl)
  have hL70 : ∀ (k13 : Int32 → Int32 → Int32 → fd_St → Option (Int32 × fd_St)) (hk13 : ∀ (y3 : Int32) (y4 : Int32) (y5 : Int32) (σ : fd_St) (H : Heap) (locs : List Loc) (ls : Array Slot), va_P D vwCl (fd_WC a k σ) H → va_S (fd_A 39 a s.heap.size) s.heap H locs → lv_has ls 7 [(0, .ref (a 11)), (3, .int y3), (4, .int y4), (5, .int y5)] → k13 y3 y4 y5 σ = some r → W p l e ((headSpec wsX6_coveredByEither ({ frames := 2, cells := 0, slots := 0, locals := 49 })).room) s m ([.ref (a 11), .int p1, .int p2, .int p3].toArray) below meth c H locs 0 0 (MQ below (va_Qi (fun v u => (v, u) = r) (fd_BC D a k) (fd_A 39 a s.heap.size)) ([.ref (a 11), .int p1, .int p2, .int p3].toArray) s 0 0 (fd_A 39 a s.heap.size)) (F0 m 13 ls [])), ∀ (y3 : Int32) (y4 : Int32) (y5 : Int32) (σ : fd_St) (H : Heap) (locs : List Loc) (ls : Array Slot), va_P D vwCl (fd_WC a k σ) H → va_S (fd_A 39 a s.heap.size) s.heap H locs → lv_has ls 7 [(0, .ref (a 11)), (3, .int y3), (4, .int y4), (5, .int y5)] → f_X6_coveredByEither_11_J70 N k13 y3 y4 y5 σ = some r → W p l e ((headSpec wsX6_coveredByEither ({ frames := 2, cells := 0, slots := 0, locals := 49 })).room) s m ([.ref (a 11), .int p1, .int p2, .int p3].toArray) below meth c H locs 0 0 (MQ below (va_Qi (fun v u => (v, u) = r) (fd_BC D a k) (fd_A 39 a s.heap.size)) ([.ref (a 11), .int p1, .int p2, .int p3].toArray) s 0 0 (fd_A 39 a s.heap.size)) (F0 m 70 ls []) := by
    intro k13 hk13 y3 y4 y5 σ H locs ls hP hS hl hf
    unfold f_X6_coveredByEither_11_J70 at hf
    obtain ⟨x11, ex11, hf⟩ := fd_lts hf
    refine lv_iinc (v := x11) (lv' := [(5, .int x11), (0, .ref (a 11)), (3, .int y3), (4, .int y4)]) hx hb dX6_coveredByEither_70 hl (k := 3) rfl (by rw [ex11]; rfl) (by decide) rfl (fun ls hl => ?_)
    refine lv_goto (tgt := 13) hx hb dX6_coveredByEither_73 (by decide) ?_
    exact hk13 y3 y4 x11 σ _ _ _ hP hS (lv_sub hl [1, 2, 3, 0] rfl) hf
  have hL13 : ∀ (n : Nat), ∀ (y3 : Int32) (y4 : Int32) (y5 : Int32) (σ : fd_St) (H : Heap) (locs : List Loc) (ls : Array Slot), va_P D vwCl (fd_WC a k σ) H → va_S (fd_A 39 a s.heap.size) s.heap H locs → lv_has ls 7 [(0, .ref (a 11)), (3, .int y3), (4, .int y4), (5, .int y5)] → f_X6_coveredByEither_11_L13 N n y3 y4 y5 σ = some r → W p l e ((headSpec wsX6_coveredByEither ({ frames := 2, cells := 0, slots := 0, locals := 49 })).room) s m ([.ref (a 11), .int p1, .int p2, .int p3].toArray) below meth c H locs 0 0 (MQ below (va_Qi (fun v u => (v, u) = r) (fd_BC D a k) (fd_A 39 a s.heap.size)) ([.ref (a 11), .int p1, .int p2, .int p3].toArray) s 0 0 (fd_A 39 a s.heap.size)) (F0 m 13 ls []) := by
    intro n
    induction n with
    | zero =>
      intro _ _ _ _ _ _ _ _ _ _ hf
      cases hf
    | succ n ih =>
      intro y3 y4 y5 σ H locs ls hP hS hl hf
      unfold f_X6_coveredByEither_11_L13 at hf
      refine lv_iload hx hb dX6_coveredByEither_13 (lv_at hl 3 rfl) ?_
      refine lv_iconst (v := (2 : Int32)) hx hb dX6_coveredByEither_15 (by decide) ?_
      refine lv_aload_n hx hb dX6_coveredByEither_16 rfl (lv_at hl 0 rfl) ?_
      refine va_get (ci := 6) (v := .int (σ.1 19)) (C := RX6) (T := TX6) (N := 9) hx hb hts h9X6 hown hK hP 11 fd_WC_11 rfl 8 (by decide) (hts (.fieldLink RX6 49 "FailDiagnose$Shapes" "chosen" "I") (List.mem_of_getElem? (i := 1) (by eq_refl))) (fun _ h9 => h9) rfl dX6_coveredByEither_17 ?_
      refine lv_imul hx hb dX6_coveredByEither_20 ?_
      refine lv_icmp_ge (tgt := 76) hx hb dX6_coveredByEither_21 (by decide) (fun c6 => ?_) (fun c6 => ?_)
      · have hf := fd_itp c6 hf
        refine lv_iload hx hb dX6_coveredByEither_76 (lv_at hl 2 rfl) ?_
        exact W.iret (v := y4) hx hb hr (fun t ht hW => ⟨⟨y4, σ, rfl, Option.some.inj hf, by rw [ht]; exact hP, va_K.moved hW.alike hK⟩, hS.F ht⟩) hS.2.2 dX6_coveredByEither_78
      · have hf := fd_itn c6 hf
        refine lv_aload_n hx hb dX6_coveredByEither_24 rfl (lv_at hl 0 rfl) ?_
        refine va_get (ci := 6) (v := .ref (a 38)) (C := RX6) (T := TX6) (N := 9) hx hb hts h9X6 hown hK hP 11 fd_WC_11 rfl 6 (by decide) (hts (.fieldLink RX6 30 "FailDiagnose$Shapes" "edges" "[I") (List.mem_of_getElem? (i := 2) (by eq_refl))) (fun _ h9 => h9) rfl dX6_coveredByEither_25 ?_
        refine lv_iload hx hb dX6_coveredByEither_28 (lv_at hl 3 rfl) ?_
        obtain ⟨g7, hf⟩ := fd_gds hf
        refine va_iald hx hb hK hP 38 26 fd_WC_38 fd_tyC_38 g7 dX6_coveredByEither_30 ?_
        refine lv_aload_n hx hb dX6_coveredByEither_31 rfl (lv_at hl 0 rfl) ?_
        refine va_get (ci := 6) (v := .ref (a 38)) (C := RX6) (T := TX6) (N := 9) hx hb hts h9X6 hown hK hP 11 fd_WC_11 rfl 6 (by decide) (hts (.fieldLink RX6 30 "FailDiagnose$Shapes" "edges" "[I") (List.mem_of_getElem? (i := 2) (by eq_refl))) (fun _ h9 => h9) rfl dX6_coveredByEither_32 ?_
        refine lv_iload hx hb dX6_coveredByEither_35 (lv_at hl 3 rfl) ?_
        refine lv_iconst (v := (1 : Int32)) hx hb dX6_coveredByEither_37 (by decide) ?_
        refine lv_isub hx hb dX6_coveredByEither_38 ?_
        obtain ⟨g8, hf⟩ := fd_gds hf
        refine va_iald hx hb hK hP 38 26 fd_WC_38 fd_tyC_38 g8 dX6_coveredByEither_39 ?_
        refine lv_isub hx hb dX6_coveredByEither_40 ?_
        obtain ⟨x9, ex9, hf⟩ := fd_lts hf
        refine fd_ni ex9 ?_
        refine lv_istore (lv' := [(6, .int x9), (0, .ref (a 11)), (3, .int y3), (4, .int y4), (5, .int y5)]) hx hb dX6_coveredByEither_41 hl (by decide) rfl (fun ls hl => ?_)
        refine lv_iload hx hb dX6_coveredByEither_43 (lv_at hl 0 rfl) ?_
        refine lv_if_le (tgt := 70) hx hb dX6_coveredByEither_45 (by decide) (fun c10 => ?_) (fun c10 => ?_)
        · have hf := fd_itp c10 hf
          exact hL70 (f_X6_coveredByEither_11_L13 N n) ih y3 y4 y5 σ _ _ _ hP hS (lv_sub hl [1, 2, 3, 4] rfl) hf
        · have hf := fd_itn c10 hf
          refine lv_iload hx hb dX6_coveredByEither_48 (lv_at hl 3 rfl) ?_
          refine lv_iload hx hb dX6_coveredByEither_50 (lv_at hl 0 rfl) ?_
          refine lv_aload_n hx hb dX6_coveredByEither_52 rfl (lv_at hl 1 rfl) ?_
          refine lv_aload_n hx hb dX6_coveredByEither_53 rfl (lv_at hl 1 rfl) ?_
          refine va_get (ci := 6) (v := .ref (a 38)) (C := RX6) (T := TX6) (N := 9) hx hb hts h9X6 hown hK hP 11 fd_WC_11 rfl 6 (by decide) (hts (.fieldLink RX6 30 "FailDiagnose$Shapes" "edges" "[I") (List.mem_of_getElem? (i := 2) (by eq_refl))) (fun _ h9 => h9) rfl dX6_coveredByEither_54 ?_
          refine lv_iload hx hb dX6_coveredByEither_57 (lv_at hl 4 rfl) ?_
          refine lv_iconst (v := (1 : Int32)) hx hb dX6_coveredByEither_59 (by decide) ?_
          refine lv_isub hx hb dX6_coveredByEither_60 ?_
          obtain ⟨g12, hf⟩ := fd_gds hf
          refine va_iald hx hb hK hP 38 26 fd_WC_38 fd_tyC_38 g12 dX6_coveredByEither_61 ?_
          refine lv_iload_n hx hb dX6_coveredByEither_62 rfl (lv_at hl 2 rfl) ?_
          obtain ⟨w16, τ17, hc13, hf⟩ := fd_bds hf
          refine va_calli (va_runV (As := [.int (σ.2.1 38 (y5 - (1 : Int32)).toNatClampNeg), .int y3]) (rest := [.int x9, .int y4]) ⟨hx, hb, hml, hown, hts⟩ (m_X6_heightAt_11 l D a k H.size hI N (σ.2.1 38 (y5 - (1 : Int32)).toNatClampNeg) y3 σ _ hc13) (cwV 2 hts gX6_coveredByEither_X6_heightAt rfl rfl rfl (by decide +kernel) ⟨Nat.le_of_ble_eq_true rfl, Nat.le_of_ble_eq_true rfl⟩) ⟨fd_blC, va_recv hK hP (ci := 6) (q0 := 11) rfl fd_WC_11, fd_prC hP hK⟩ rfl rfl hl.1 rfl (lv_room (Nat.le_of_ble_eq_true rfl)) dX6_coveredByEither_63 ⟨Nat.zero_le _, Nat.zero_le _⟩) hS (fun q _ h => fd_A_mono hS.1 h) (fun q h => fd_A_mono hS.1 h) (fun v14 u t H1 locs ht hvm hw hB hz hk hS => ?_)
          obtain ⟨hP1, hK1⟩ := hB
          rw [ht] at hP1
          obtain ⟨e1, e2⟩ := Prod.mk.inj hw
          subst e1
          subst e2
          obtain ⟨σ15, rfl⟩ : ∃ z, z = u := ⟨_, rfl⟩
          have hP := hP1
          generalize H1 = H at hP hS ⊢
          refine lv_imul hx hb dX6_coveredByEither_66 ?_
          refine lv_iadd hx hb dX6_coveredByEither_67 ?_
          obtain ⟨x18, ex18, hf⟩ := fd_lts hf
          refine fd_ni ex18 ?_
          refine lv_istore (lv' := [(4, .int x18), (6, .int x9), (0, .ref (a 11)), (3, .int y3), (5, .int y5)]) hx hb dX6_coveredByEither_68 hl (by decide) rfl (fun ls hl => ?_)
          exact hL70 (f_X6_coveredByEither_11_L13 N n) ih y3 x18 y5 σ15 _ _ _ hP hS (lv_sub hl [2, 3, 0, 4] rfl) hf
  unfold f_X6_coveredByEither_11 at hf
  refine lv_aload_n hx hb dX6_coveredByEither_0 rfl (lv_at hl 0 rfl) ?_
  refine lv_iload_n hx hb dX6_coveredByEither_1 rfl (lv_at hl 1 rfl) ?_
  refine lv_iload_n hx hb dX6_coveredByEither_2 rfl (lv_at hl 2 rfl) ?_
  refine lv_iload_n hx hb dX6_coveredByEither_3 rfl (lv_at hl 3 rfl) ?_
  obtain ⟨w4, τ5, hc1, hf⟩ := fd_bds hf
  refine va_callv (va_runV (As := [.int p1, .int p2, .int p3]) (rest := []) ⟨hx, hb, hml, hown, hts⟩ (m_X6_choose_11 l D a k s.heap.size hI N p1 p2 p3 σ _ hc1) (cwV 3 hts gX6_coveredByEither_X6_choose rfl rfl rfl (by decide +kernel) ⟨Nat.le_of_ble_eq_true rfl, Nat.le_of_ble_eq_true rfl⟩) ⟨fd_blC, va_recv hK hP (ci := 6) (q0 := 11) rfl fd_WC_11, fd_prC hP hK⟩ rfl rfl hl.1 rfl (lv_room (Nat.le_of_ble_eq_true rfl)) dX6_coveredByEither_4 ⟨Nat.zero_le _, Nat.zero_le _⟩) hS (fun q _ h => fd_A_mono hS.1 h) (fun q h => fd_A_mono hS.1 h) (fun u t H1 locs ht hvm hw hB hz hk hS => ?_)
  obtain ⟨hP1, hK1⟩ := hB
  rw [ht] at hP1
  have e2 := (Prod.mk.inj hw).2
  subst e2
  obtain ⟨σ3, rfl⟩ : ∃ z, z = u := ⟨_, rfl⟩
  have hP := hP1
  generalize H1 = H at hP hS ⊢
  refine lv_iconst (v := (0 : Int32)) hx hb dX6_coveredByEither_7 (by decide) ?_
  refine lv_istore (lv' := [(4, .int (0 : Int32)), (0, .ref (a 11)), (1, .int p1), (2, .int p2), (3, .int p3)]) hx hb dX6_coveredByEither_8 hl (by decide) rfl (fun ls hl => ?_)
  refine lv_iconst (v := (1 : Int32)) hx hb dX6_coveredByEither_10 (by decide) ?_
  refine lv_istore (lv' := [(5, .int (1 : Int32)), (4, .int (0 : Int32)), (0, .ref (a 11)), (1, .int p1), (2, .int p2), (3, .int p3)]) hx hb dX6_coveredByEither_11 hl (by decide) rfl (fun ls hl => ?_)
  exact hL13 N p3 (0 : Int32) (1 : Int32) σ3 _ _ _ hP hS (lv_sub hl [2, 5, 1, 0] rfl) hf
noncomputable def f_X10_area_0 (N : Nat) (p1 : Int32) (p2 : Int32) (σ : fd_St) : Option ((Int32 ⊕ String) × fd_St) := fd_bx (f_X10_needNet_0 N p1 σ) (fun _ σ3 => fd_bx (f_X10_needGrowth N p2 σ3) (fun _ σ9 => fd_bd (f_X6_coveredByEither_11 N p1 p1 p2 σ9) (fun v14 σ15 => some (.inl v14, σ15))) (fun E τ => some (.inr E, τ))) (fun E τ => some (.inr E, τ))
set_option maxHeartbeats 4000000 in
set_option maxRecDepth 100000 in
theorem m_X10_area_0 (l : Launch) (hl9 : l.stackTraces = false) (D : va_G) (a : Nat → Nat) (k : Nat → ClassId) (sz : Nat) (hI : fd_I 39 a) (N : Nat) (p1 : Int32) (p2 : Int32) (σ : fd_St) (r : (Int32 ⊕ String) × fd_St) (hf : f_X10_area_0 N p1 p2 σ = some r) : vx_Met l yX10_area wsX10_area ({ frames := 7, cells := fd_mc r, slots := fd_ms r, locals := 111 }) (va_Pc [.ref (a 0), .int p1, .int p2] (fd_PZ D a k sz σ)) (va_Qi (fun v u => (Sum.inl v, u) = r) (fd_BC D a k) (fd_A 39 a sz)) (fd_X D a k (fd_A 39 a sz) r) (fd_mc r) (fd_ms r) (fd_A 39 a sz) := by
  refine vx_ofW (cc := cX10_area) (maxL := 3) (ret := (some .int)) (by decide) rfl ?_
  intro p e s m args below meth c s₁ B hml hex hv
  obtain ⟨rfl, ⟨hsz, hP, hK⟩, hZ⟩ := hv
  have hx := B.exec
  have hb := B.bytes
  have hr := B.returns
  have hts := atoms_spec (ws := wsX10_area) B.pre
  have hown : s.vm.findClass RX10 = some m.cls := findClass_of_methodNamed B.named
  have hlocks := B.notSynchronized
  subst hsz
  have hJ : ∀ i, i < 39 → fd_A 39 a s.heap.size (a i) := fun i hi => Or.inl ⟨i, hi, rfl⟩
  have hS : va_S (fd_A 39 a s.heap.size) s.heap s.heap [] := va_S.rf
  have hl := lv_entry ([.ref (a 0), .int p1, .int p2]) (n := 3) (Nat.le_of_ble_eq_true rfl)
  rw [lg_entry_eq]
  generalize (lg_sl ([.ref (a 0), .int p1, .int p2]) ++ List.replicate (3 - (lg_sl ([.ref (a 0), .int p1, .int p2])).length) Slot.unset).toArray = ls at hl ⊢
  have hl : lv_has ls 3 [(0, .ref (a 0)), (1, .int p1), (2, .int p2)] := hl
  have h9X10 : ∀ w ∈ u_ws RX10 TX10 8, w ∈ wsX10_area := fd_su [55, 56, 57, 58, 59, 60, 61, 62] (by eq_refl)
  unfold f_X10_area_0 at hf
  refine lv_aload_n hx hb dX10_area_0 rfl (lv_at hl 0 rfl) ?_
  refine lv_iload_n hx hb dX10_area_1 rfl (lv_at hl 1 rfl) ?_
  rcases fd_bxs hf with ⟨w4, τ5, hc1, hf⟩ | ⟨E6, τ5, hc1, hf⟩
  · refine vx_callv (vx_runV (As := [.int p1]) (rest := []) ⟨hx, hb, hml, hown, hts⟩ (m_X10_needNet_0 l hl9 D a k s.heap.size hI N p1 σ _ hc1) (cwV 1 hts gX10_area_X10_needNet rfl rfl rfl (by decide +kernel) ⟨Nat.le_of_ble_eq_true rfl, Nat.le_of_ble_eq_true rfl⟩) ⟨fd_blZ, va_recv hK hP (ci := 10) (q0 := 0) rfl fd_WC_0, fd_prZ hP hK hZ hS⟩ rfl rfl hl.1 rfl (lv_room (Nat.le_of_ble_eq_true rfl)) dX10_area_2 ⟨Nat.zero_le _, Nat.zero_le _⟩) hS (fun q _ h => fd_A_mono hS.1 h) (fun q h => fd_A_mono hS.1 h) (fun q _ h => fd_A_mono hS.1 h) (fun E ce q9 u t H1 locs1 ht hvm hp hB => ?_) (fun u t H1 locs ht hvm hw hB hz hk hS => ?_)
    · exact absurd hB.1 (by simp)
    obtain ⟨hP1, hK1⟩ := hB
    rw [ht] at hP1
    have e2 := (Prod.mk.inj hw).2
    subst e2
    obtain ⟨σ3, rfl⟩ : ∃ z, z = u := ⟨_, rfl⟩
    have hP := hP1
    generalize H1 = H at hP hS ⊢
    refine W.cs (cells' := 0) (slots' := 0) rfl rfl ?_
    refine lv_iload_n hx hb dX10_area_5 rfl (lv_at hl 2 rfl) ?_
    rcases fd_bxs hf with ⟨w10, τ11, hc7, hf⟩ | ⟨E12, τ11, hc7, hf⟩
    · refine vx_callv (vx_runS (As := [.int p2]) (rest := []) ⟨hx, hb, hml, hown, hts⟩ (m_X10_needGrowth l hl9 D a k H.size hI N p2 σ3 _ hc7) (va_cwS 1 hts gX10_area_X10_needGrowth rfl rfl rfl (by decide +kernel) ⟨Nat.le_of_ble_eq_true rfl, Nat.le_of_ble_eq_true rfl⟩) ⟨fd_blZ, fd_prZ hP hK hZ hS⟩ rfl rfl hl.1 rfl (lv_room (Nat.le_of_ble_eq_true rfl)) dX10_area_6 ⟨Nat.zero_le _, Nat.zero_le _⟩) hS (fun q _ h => fd_A_mono hS.1 h) (fun q h => fd_A_mono hS.1 h) (fun q _ h => fd_A_mono hS.1 h) (fun E ce q9 u t H1 locs1 ht hvm hp hB => ?_) (fun u t H1 locs ht hvm hw hB hz hk hS => ?_)
      · exact absurd hB.1 (by simp)
      obtain ⟨hP1, hK1⟩ := hB
      rw [ht] at hP1
      have e2 := (Prod.mk.inj hw).2
      subst e2
      obtain ⟨σ9, rfl⟩ : ∃ z, z = u := ⟨_, rfl⟩
      have hP := hP1
      generalize H1 = H at hP hS ⊢
      refine W.cs (cells' := 0) (slots' := 0) rfl rfl ?_
      refine lv_aload_n hx hb dX10_area_9 rfl (lv_at hl 0 rfl) ?_
      refine va_get (ci := 10) (v := .ref (a 11)) (C := RX10) (T := TX10) (N := 8) hx hb hts h9X10 hown hK hP 0 fd_WC_0 rfl 6 (by decide) (hts (.fieldLink RX10 56 "FailDiagnose" "shapes" "LFailDiagnose$Shapes;") (List.mem_of_getElem? (i := 1) (by eq_refl))) (fun _ h9 => h9) rfl dX10_area_10 ?_
      refine lv_iload_n hx hb dX10_area_13 rfl (lv_at hl 1 rfl) ?_
      refine lv_iload_n hx hb dX10_area_14 rfl (lv_at hl 1 rfl) ?_
      refine lv_iload_n hx hb dX10_area_15 rfl (lv_at hl 2 rfl) ?_
      obtain ⟨w16, τ17, hc13, hf⟩ := fd_bds hf
      refine va_calli (va_runV (As := [.int p1, .int p1, .int p2]) (rest := []) ⟨hx, hb, hml, hown, hts⟩ (m_X6_coveredByEither_11 l D a k H.size hI N p1 p1 p2 σ9 _ hc13) (cwV 3 hts gX10_area_X6_coveredByEither rfl rfl rfl (by decide +kernel) ⟨Nat.le_of_ble_eq_true rfl, Nat.le_of_ble_eq_true rfl⟩) ⟨fd_blC, va_recv hK hP (ci := 6) (q0 := 11) rfl fd_WC_11, fd_prC hP hK⟩ rfl rfl hl.1 rfl (lv_room (Nat.le_of_ble_eq_true rfl)) dX10_area_16 ⟨Nat.zero_le _, Nat.zero_le _⟩) hS (fun q _ h => fd_A_mono hS.1 h) (fun q h => fd_A_mono hS.1 h) (fun v14 u t H1 locs ht hvm hw hB hz hk hS => ?_)
      obtain ⟨hP1, hK1⟩ := hB
      rw [ht] at hP1
      obtain ⟨e1, e2⟩ := Prod.mk.inj hw
      subst e1
      subst e2
      obtain ⟨σ15, rfl⟩ : ∃ z, z = u := ⟨_, rfl⟩
      have hP := hP1
      generalize H1 = H at hP hS ⊢
      refine vx_ret (W.widen (k := fd_mc r) (n := fd_ms r) (Nat.zero_le _) (Nat.zero_le _) ?_)
      exact W.iret (v := v14) hx hb hr (fun t ht hW => ⟨⟨v14, σ15, rfl, Option.some.inj hf, by rw [ht]; exact hP, va_K.moved hW.alike hK⟩, hS.F ht⟩) hS.2.2 dX10_area_19
    · have er := Option.some.inj hf
      subst er
      refine vx_callv (vx_runS (As := [.int p2]) (rest := []) ⟨hx, hb, hml, hown, hts⟩ (m_X10_needGrowth l hl9 D a k H.size hI N p2 σ3 _ hc7) (va_cwS 1 hts gX10_area_X10_needGrowth rfl rfl rfl (by decide +kernel) ⟨Nat.le_of_ble_eq_true rfl, Nat.le_of_ble_eq_true rfl⟩) ⟨fd_blZ, fd_prZ hP hK hZ hS⟩ rfl rfl hl.1 rfl (lv_room (Nat.le_of_ble_eq_true rfl)) dX10_area_6 ⟨Nat.le_of_ble_eq_true rfl, Nat.le_of_ble_eq_true rfl⟩) hS (fun q _ h => fd_A_mono hS.1 h) (fun q h => fd_A_mono hS.1 h) (fun q _ h => fd_A_mono hS.1 h) (fun E ce q9 u t H1 locs1 ht hvm hp hB hz hk hS hce hcv hcl => ?_) (fun u t H1 locs ht hvm hw hB hz hk hS => ?_)
      · obtain ⟨hB0, hP1, hK1⟩ := hB
        rw [ht] at hP1
        exact vx_out (E := E) (fun x hx => (hex x hx).elim) hlocks hce hcv hcl (fun t ht ha => ⟨u, trivial, ⟨fd_inr hB0, by rw [ht]; exact hP1, va_K.moved ha hK⟩, hS.F ht⟩) hS.2.2 (Nat.le_of_ble_eq_true rfl) (Nat.le_of_ble_eq_true rfl)
      · exact absurd hw (by simp)
  · have er := Option.some.inj hf
    subst er
    refine vx_callv (vx_runV (As := [.int p1]) (rest := []) ⟨hx, hb, hml, hown, hts⟩ (m_X10_needNet_0 l hl9 D a k s.heap.size hI N p1 σ _ hc1) (cwV 1 hts gX10_area_X10_needNet rfl rfl rfl (by decide +kernel) ⟨Nat.le_of_ble_eq_true rfl, Nat.le_of_ble_eq_true rfl⟩) ⟨fd_blZ, va_recv hK hP (ci := 10) (q0 := 0) rfl fd_WC_0, fd_prZ hP hK hZ hS⟩ rfl rfl hl.1 rfl (lv_room (Nat.le_of_ble_eq_true rfl)) dX10_area_2 ⟨Nat.le_of_ble_eq_true rfl, Nat.le_of_ble_eq_true rfl⟩) hS (fun q _ h => fd_A_mono hS.1 h) (fun q h => fd_A_mono hS.1 h) (fun q _ h => fd_A_mono hS.1 h) (fun E ce q9 u t H1 locs1 ht hvm hp hB hz hk hS hce hcv hcl => ?_) (fun u t H1 locs ht hvm hw hB hz hk hS => ?_)
    · obtain ⟨hB0, hP1, hK1⟩ := hB
      rw [ht] at hP1
      exact vx_out (E := E) (fun x hx => (hex x hx).elim) hlocks hce hcv hcl (fun t ht ha => ⟨u, trivial, ⟨fd_inr hB0, by rw [ht]; exact hP1, va_K.moved ha hK⟩, hS.F ht⟩) hS.2.2 (Nat.le_of_ble_eq_true rfl) (Nat.le_of_ble_eq_true rfl)
    · exact absurd hw (by simp)
noncomputable def f_L_area_0_39 (N : Nat) (p1 : Int32) (p2 : Int32) (σ : fd_St) : Option (Int32 × fd_St) := fd_bx (f_X10_area_0 N p1 p2 σ) (fun v2 τ => fd_lt (fd_mix τ σ) (fun σ6 => fd_gd (vp_in (0 : Int32) 1) (fd_lt (fd_sL 39 (0 : Int32) v2.toInt64 σ6) (fun σ9 => some ((0 : Int32), σ9))))) (fun E τ => if E = "java/lang/IndexOutOfBoundsException" then (fd_lt (fd_mix τ σ) (fun σ11 => some ((1 : Int32), σ11))) else (if E = "java/lang/IllegalArgumentException" then (fd_lt (fd_mix τ σ) (fun σ13 => some ((2 : Int32), σ13))) else (none)))
set_option maxHeartbeats 4000000 in
set_option maxRecDepth 100000 in
theorem m_L_area_0_39 (l : Launch) (hl9 : l.stackTraces = false) (D : va_G) (a : Nat → Nat) (k : Nat → ClassId) (sz : Nat) (hI : fd_I 40 a) (N : Nat) (p1 : Int32) (p2 : Int32) (σ : fd_St) (r : Int32 × fd_St) (hf : f_L_area_0_39 N p1 p2 σ = some r) : Met l yL_area wsL_area ({ frames := 8, cells := 1, slots := 6, locals := 133 }) (va_Pc [.ref (a 0), .int p1, .int p2, .ref (a 39)] (fd_PH D a k sz σ)) (va_Qi (fun v u => (v, u) = r) (fd_BH D a k) (fd_A 40 a sz)) 1 6 (fd_A 40 a sz) := by
  refine fd_ofWT (cc := cL_area) (maxL := 5) (ret := (some .int)) (by decide) rfl ?_
  intro p e s m args below meth c s₁ B hml hTab hv
  obtain ⟨rfl, hsz, hP, hK, hZ⟩ := hv
  have hx := B.exec
  have hb := B.bytes
  have hr := B.returns
  have hts := atoms_spec (ws := wsL_area) B.pre
  have hown : s.vm.findClass RL = some m.cls := findClass_of_methodNamed B.named
  have hlocks := B.notSynchronized
  subst hsz
  have hJ : ∀ i, i < 40 → fd_A 40 a s.heap.size (a i) := fun i hi => Or.inl ⟨i, hi, rfl⟩
  have hS : va_S (fd_A 40 a s.heap.size) s.heap s.heap [] := va_S.rf
  have hl := lv_entry ([.ref (a 0), .int p1, .int p2, .ref (a 39)]) (n := 5) (Nat.le_of_ble_eq_true rfl)
  rw [lg_entry_eq]
  generalize (lg_sl ([.ref (a 0), .int p1, .int p2, .ref (a 39)]) ++ List.replicate (5 - (lg_sl ([.ref (a 0), .int p1, .int p2, .ref (a 39)])).length) Slot.unset).toArray = ls at hl ⊢
  have hl : lv_has ls 5 [(0, .ref (a 0)), (1, .int p1), (2, .int p2), (3, .ref (a 39))] := hl
  unfold f_L_area_0_39 at hf
  refine lv_aload_n hx hb dL_area_0 rfl (lv_at hl 3 rfl) ?_
  refine lv_iconst (v := (0 : Int32)) hx hb dL_area_1 (by decide) ?_
  refine lv_aload_n hx hb dL_area_2 rfl (lv_at hl 0 rfl) ?_
  refine lv_iload_n hx hb dL_area_3 rfl (lv_at hl 1 rfl) ?_
  refine lv_iload_n hx hb dL_area_4 rfl (lv_at hl 2 rfl) ?_
  rcases fd_bxs hf with ⟨w3, τ4, hc1, hf⟩ | ⟨E5, τ4, hc1, hf⟩
  · refine vx_calli (vx_runV (As := [.int p1, .int p2]) (rest := [.int (0 : Int32), .ref (a 39)]) ⟨hx, hb, hml, hown, hts⟩ (m_X10_area_0 l hl9 D a k s.heap.size (fd_I40 hI) N p1 p2 σ _ hc1) (cwV 2 hts gL_area_X10_area rfl rfl rfl (by decide +kernel) ⟨Nat.le_of_ble_eq_true rfl, Nat.le_of_ble_eq_true rfl⟩) ⟨fd_blZ, va_recv (fd_HK hK) (fd_HC hP) (ci := 10) (q0 := 0) rfl fd_WC_0, fd_prHZ hP hK hZ hS⟩ rfl rfl hl.1 rfl (lv_room (Nat.le_of_ble_eq_true rfl)) dL_area_5 ⟨(Nat.zero_le _), (Nat.zero_le _)⟩) hS (fun q _ h => fd_A_sub hS.1 h) (fun q h => fd_A_sub hS.1 h) (fun q _ h => fd_A_sub hS.1 h) (fun E ce q9 u t H1 locs1 ht hvm hp hB => ?_) (fun v2 u t H1 locs ht hvm hw hB hz hk hS => ?_)
    · exact absurd hB.1 (by simp)
    obtain ⟨hP1, hK1⟩ := hB
    rw [ht] at hP1
    obtain ⟨e1, e2⟩ := Prod.mk.inj hw
    obtain e1 := Sum.inl.inj e1
    subst e1
    subst e2
    obtain ⟨σ6, eσ6, hf⟩ := fd_lts hf
    have hP : va_P D vwCl (fd_WH a k σ6) H1 := by rw [eσ6]; exact fd_HJ hI hP hP1 hk
    generalize H1 = H at hP hS ⊢
    refine W.cs (cells' := 0) (slots' := 0) rfl rfl ?_
    refine lv_i2l hx hb dL_area_8 rfl ?_
    obtain ⟨g8, hf⟩ := fd_gds hf
    obtain ⟨σ9, eσ9, hf⟩ := fd_lts hf
    refine va_last hx hb hK hP (fd_DH hI hJ) hS 39 27 fd_WH_39 fd_tyH_39 g8 dL_area_9 (fun H locs hP _ hS => ?_)
    have hP : va_P D vwCl (fd_WH a k σ9) H := by rw [eσ9]; exact fd_sP fd_WHa_39 hP
    refine lv_goto (tgt := 21) hx hb dL_area_10 (by decide) ?_
    refine lv_iconst (v := (0 : Int32)) hx hb dL_area_21 (by decide) ?_
    refine W.widen (k := 1) (n := 6) (Nat.le_of_ble_eq_true rfl) (Nat.le_of_ble_eq_true rfl) ?_
    exact W.iret (v := (0 : Int32)) hx hb hr (fun t ht hW => ⟨⟨(0 : Int32), σ9, rfl, Option.some.inj hf, by rw [ht]; exact hP, va_K.moved hW.alike hK⟩, hS.F ht⟩) hS.2.2 dL_area_22
  · have hE := hf
    by_cases c10 : E5 = "java/lang/IndexOutOfBoundsException"
    · subst c10
      have hf := fd_itp rfl hf
      refine vx_calli (vx_runV (As := [.int p1, .int p2]) (rest := [.int (0 : Int32), .ref (a 39)]) ⟨hx, hb, hml, hown, hts⟩ (m_X10_area_0 l hl9 D a k s.heap.size (fd_I40 hI) N p1 p2 σ _ hc1) (cwV 2 hts gL_area_X10_area rfl rfl rfl (by decide +kernel) ⟨Nat.le_of_ble_eq_true rfl, Nat.le_of_ble_eq_true rfl⟩) ⟨fd_blZ, va_recv (fd_HK hK) (fd_HC hP) (ci := 10) (q0 := 0) rfl fd_WC_0, fd_prHZ hP hK hZ hS⟩ rfl rfl hl.1 rfl (lv_room (Nat.le_of_ble_eq_true rfl)) dL_area_5 ⟨Nat.le_of_ble_eq_true rfl, Nat.le_of_ble_eq_true rfl⟩) hS (fun q _ h => fd_A_sub hS.1 h) (fun q h => fd_A_sub hS.1 h) (fun q _ h => fd_A_sub hS.1 h) (fun E ce q9 u t H1 locs1 ht hvm hp hB hz hk hS hce hcv hcl => ?_) (fun v2 u t H1 locs ht hvm hw hB hz hk hS => ?_)
      · obtain ⟨hB0, hP1, hK1⟩ := hB
        rw [ht] at hP1
        obtain ⟨e1, e2⟩ := Prod.mk.inj hB0
        obtain e1 := Sum.inr.inj e1
        subst e1
        subst e2
        obtain ⟨σ11, eσ11, hf⟩ := fd_lts hf
        have hP : va_P D vwCl (fd_WH a k σ11) H1 := by rw [eσ11]; exact fd_HJ hI hP hP1 hk
        refine fd_catch (own := RL) (name := "java/lang/IndexOutOfBoundsException") (E := "java/lang/IndexOutOfBoundsException") hown [] ⟨0, 10, 13, 19⟩ [⟨0, 10, 17, 21⟩] (by rw [hTab]; rfl) (fun z hz => nomatch hz) (by decide) (by decide) (hts (.classLink RL 19 "java/lang/IndexOutOfBoundsException") (List.mem_of_getElem? (i := 1) (by eq_refl))) (hZ.cast "java/lang/IndexOutOfBoundsException" (by decide +kernel)) hce hcv hcl ?_
        refine W.cs (cells' := 1) (slots' := 6) rfl rfl ?_
        refine lv_astore (lv' := [(4, .ref q9), (0, .ref (a 0)), (1, .int p1), (2, .int p2), (3, .ref (a 39))]) hx hb dL_area_13 hl (by decide) rfl (fun ls hl => ?_)
        refine lv_iconst (v := (1 : Int32)) hx hb dL_area_15 (by decide) ?_
        refine W.widen (k := 1) (n := 6) (Nat.le_of_ble_eq_true rfl) (Nat.le_of_ble_eq_true rfl) ?_
        exact W.iret (v := (1 : Int32)) hx hb hr (fun t ht hW => ⟨⟨(1 : Int32), σ11, rfl, Option.some.inj hf, by rw [ht]; exact hP, va_K.moved hW.alike hK⟩, hS.F ht⟩) hS.2.2 dL_area_16
      · exact absurd hw (by simp)
    have hf := fd_itn c10 hf
    by_cases c12 : E5 = "java/lang/IllegalArgumentException"
    · subst c12
      have hf := fd_itp rfl hf
      refine vx_calli (vx_runV (As := [.int p1, .int p2]) (rest := [.int (0 : Int32), .ref (a 39)]) ⟨hx, hb, hml, hown, hts⟩ (m_X10_area_0 l hl9 D a k s.heap.size (fd_I40 hI) N p1 p2 σ _ hc1) (cwV 2 hts gL_area_X10_area rfl rfl rfl (by decide +kernel) ⟨Nat.le_of_ble_eq_true rfl, Nat.le_of_ble_eq_true rfl⟩) ⟨fd_blZ, va_recv (fd_HK hK) (fd_HC hP) (ci := 10) (q0 := 0) rfl fd_WC_0, fd_prHZ hP hK hZ hS⟩ rfl rfl hl.1 rfl (lv_room (Nat.le_of_ble_eq_true rfl)) dL_area_5 ⟨Nat.le_of_ble_eq_true rfl, Nat.le_of_ble_eq_true rfl⟩) hS (fun q _ h => fd_A_sub hS.1 h) (fun q h => fd_A_sub hS.1 h) (fun q _ h => fd_A_sub hS.1 h) (fun E ce q9 u t H1 locs1 ht hvm hp hB hz hk hS hce hcv hcl => ?_) (fun v2 u t H1 locs ht hvm hw hB hz hk hS => ?_)
      · obtain ⟨hB0, hP1, hK1⟩ := hB
        rw [ht] at hP1
        obtain ⟨e1, e2⟩ := Prod.mk.inj hB0
        obtain e1 := Sum.inr.inj e1
        subst e1
        subst e2
        obtain ⟨σ13, eσ13, hf⟩ := fd_lts hf
        have hP : va_P D vwCl (fd_WH a k σ13) H1 := by rw [eσ13]; exact fd_HJ hI hP hP1 hk
        refine fd_catch (own := RL) (name := "java/lang/IllegalArgumentException") (E := "java/lang/IllegalArgumentException") hown [⟨0, 10, 13, 19⟩] ⟨0, 10, 17, 21⟩ [] (by rw [hTab]; rfl) (fun z hz => by
            rcases List.mem_cons.mp hz with rfl | hz
            · exact ⟨by decide, by decide, "java/lang/IndexOutOfBoundsException", hts (.classLink RL 19 "java/lang/IndexOutOfBoundsException") (by decide +kernel), hZ.nc "java/lang/IllegalArgumentException" "java/lang/IndexOutOfBoundsException" (by decide +kernel)⟩
            cases hz) (by decide) (by decide) (hts (.classLink RL 21 "java/lang/IllegalArgumentException") (List.mem_of_getElem? (i := 2) (by eq_refl))) (hZ.cast "java/lang/IllegalArgumentException" (by decide +kernel)) hce hcv hcl ?_
        refine W.cs (cells' := 1) (slots' := 6) rfl rfl ?_
        refine lv_astore (lv' := [(4, .ref q9), (0, .ref (a 0)), (1, .int p1), (2, .int p2), (3, .ref (a 39))]) hx hb dL_area_17 hl (by decide) rfl (fun ls hl => ?_)
        refine lv_iconst (v := (2 : Int32)) hx hb dL_area_19 (by decide) ?_
        refine W.widen (k := 1) (n := 6) (Nat.le_of_ble_eq_true rfl) (Nat.le_of_ble_eq_true rfl) ?_
        exact W.iret (v := (2 : Int32)) hx hb hr (fun t ht hW => ⟨⟨(2 : Int32), σ13, rfl, Option.some.inj hf, by rw [ht]; exact hP, va_K.moved hW.alike hK⟩, hS.F ht⟩) hS.2.2 dL_area_20
      · exact absurd hw (by simp)
    have hf := fd_itn c12 hf
    cases hf
noncomputable def f_X11_covers_0_J81 (N : Nat) (k3 : Int32 → Int32 → Int32 → Int32 → Int32 → fd_St → Option (Int32 × fd_St)) (y1 : Int32) (y2 : Int32) (y3 : Int32) (y4 : Int32) (y5 : Int32) (σ : fd_St) : Option (Int32 × fd_St) := fd_lt (y5 + (1 : Int32)) (fun x4 => k3 y1 y2 y3 y4 x4 σ)
noncomputable def f_X11_covers_0_L3 (N : Nat) : Nat → Int32 → Int32 → Int32 → Int32 → Int32 → fd_St → Option (Int32 × fd_St)
  | 0 => fun _ _ _ _ _ _ => none
  | n + 1 => fun y1 y2 y3 y4 y5 σ => if (σ.1 14) ≤ y5 then (some ((0 : Int32), σ)) else (fd_gd (vp_in y5 60) (if (σ.2.1 22 y5.toNatClampNeg) = y1 then (fd_gd (vp_in y5 60) (if y2 < ((σ.2.1 23 y5.toNatClampNeg) - y4) then (f_X11_covers_0_J81 N (f_X11_covers_0_L3 N n) y1 y2 y3 y4 y5 σ) else (fd_gd (vp_in y5 60) (if ((σ.2.1 25 y5.toNatClampNeg) + y4) ≤ y2 then (f_X11_covers_0_J81 N (f_X11_covers_0_L3 N n) y1 y2 y3 y4 y5 σ) else (fd_gd (vp_in y5 60) (if y3 < ((σ.2.1 24 y5.toNatClampNeg) - y4) then (f_X11_covers_0_J81 N (f_X11_covers_0_L3 N n) y1 y2 y3 y4 y5 σ) else (fd_gd (vp_in y5 60) (if ((σ.2.1 26 y5.toNatClampNeg) + y4) ≤ y3 then (f_X11_covers_0_J81 N (f_X11_covers_0_L3 N n) y1 y2 y3 y4 y5 σ) else (some ((1 : Int32), σ)))))))))) else (f_X11_covers_0_J81 N (f_X11_covers_0_L3 N n) y1 y2 y3 y4 y5 σ)))
noncomputable def f_X11_covers_0 (N : Nat) (p1 : Int32) (p2 : Int32) (p3 : Int32) (p4 : Int32) (σ : fd_St) : Option (Int32 × fd_St) := f_X11_covers_0_L3 N N p1 p2 p3 p4 (0 : Int32) σ
set_option maxHeartbeats 4000000 in
set_option maxRecDepth 100000 in
theorem m_X11_covers_0 (l : Launch) (D : va_G) (a : Nat → Nat) (k : Nat → ClassId) (sz : Nat) (hI : fd_I 29 a) (N : Nat) (p1 : Int32) (p2 : Int32) (p3 : Int32) (p4 : Int32) (σ : fd_St) (r : Int32 × fd_St) (hf : f_X11_covers_0 N p1 p2 p3 p4 σ = some r) : Met l yX11_covers wsX11_covers ({ frames := 0, cells := 0, slots := 0, locals := 0 }) (va_Pc [.ref (a 0), .int p1, .int p2, .int p3, .int p4] (fd_PM D a k sz σ)) (va_Qi (fun v u => (v, u) = r) (fd_BM D a k) (fd_A 29 a sz)) 0 0 (fd_A 29 a sz) := by
  refine Met.ofW (cc := cX11_covers) (maxL := 6) (ret := (some .boolean)) (by decide) rfl ?_
  intro p e s m args below meth c s₁ B hml hv
  obtain ⟨rfl, hsz, hP, hK⟩ := hv
  have hx := B.exec
  have hb := B.bytes
  have hr := B.returns
  have hts := atoms_spec (ws := wsX11_covers) B.pre
  have hown : s.vm.findClass RX11 = some m.cls := findClass_of_methodNamed B.named
  have hlocks := B.notSynchronized
  subst hsz
  have hJ : ∀ i, i < 29 → fd_A 29 a s.heap.size (a i) := fun i hi => Or.inl ⟨i, hi, rfl⟩
  have hS : va_S (fd_A 29 a s.heap.size) s.heap s.heap [] := va_S.rf
  have hl := lv_entry ([.ref (a 0), .int p1, .int p2, .int p3, .int p4]) (n := 6) (Nat.le_of_ble_eq_true rfl)
  rw [lg_entry_eq]
  generalize (lg_sl ([.ref (a 0), .int p1, .int p2, .int p3, .int p4]) ++ List.replicate (6 - (lg_sl ([.ref (a 0), .int p1, .int p2, .int p3, .int p4])).length) Slot.unset).toArray = ls at hl ⊢
  have hl : lv_has ls 6 [(0, .ref (a 0)), (1, .int p1), (2, .int p2), (3, .int p3), (4, .int p4)] := hl
  have h9X11 : ∀ w ∈ u_ws RX11 TX11 43, w ∈ wsX11_covers := fd_su [7, 8, 9, 10, 11, 12, 13, 14, 15, 16, 17, 18, 19, 20, 21, 22, 23, 24, 25, 26, 27, 28, 29, 30, 31, 32, 33, 34, 35, 36, 37, 38, 39, 40, 41, 42, 43, 44, 45, 46, 47, 48, 49] (by eq_refl)
  have hL81 : ∀ (k3 : Int32 → Int32 → Int32 → Int32 → Int32 → fd_St → Option (Int32 × fd_St)) (hk3 : ∀ (y1 : Int32) (y2 : Int32) (y3 : Int32) (y4 : Int32) (y5 : Int32) (σ : fd_St) (H : Heap) (locs : List Loc) (ls : Array Slot), va_P D vwCl (fd_WM a k σ) H → va_S (fd_A 29 a s.heap.size) s.heap H locs → lv_has ls 6 [(0, .ref (a 0)), (1, .int y1), (2, .int y2), (3, .int y3), (4, .int y4), (5, .int y5)] → k3 y1 y2 y3 y4 y5 σ = some r → W p l e ((headSpec wsX11_covers ({ frames := 0, cells := 0, slots := 0, locals := 0 })).room) s m ([.ref (a 0), .int p1, .int p2, .int p3, .int p4].toArray) below meth c H locs 0 0 (MQ below (va_Qi (fun v u => (v, u) = r) (fd_BM D a k) (fd_A 29 a s.heap.size)) ([.ref (a 0), .int p1, .int p2, .int p3, .int p4].toArray) s 0 0 (fd_A 29 a s.heap.size)) (F0 m 3 ls [])), ∀ (y1 : Int32) (y2 : Int32) (y3 : Int32) (y4 : Int32) (y5 : Int32) (σ : fd_St) (H : Heap) (locs : List Loc) (ls : Array Slot), va_P D vwCl (fd_WM a k σ) H → va_S (fd_A 29 a s.heap.size) s.heap H locs → lv_has ls 6 [(0, .ref (a 0)), (1, .int y1), (2, .int y2), (3, .int y3), (4, .int y4), (5, .int y5)] → f_X11_covers_0_J81 N k3 y1 y2 y3 y4 y5 σ = some r → W p l e ((headSpec wsX11_covers ({ frames := 0, cells := 0, slots := 0, locals := 0 })).room) s m ([.ref (a 0), .int p1, .int p2, .int p3, .int p4].toArray) below meth c H locs 0 0 (MQ below (va_Qi (fun v u => (v, u) = r) (fd_BM D a k) (fd_A 29 a s.heap.size)) ([.ref (a 0), .int p1, .int p2, .int p3, .int p4].toArray) s 0 0 (fd_A 29 a s.heap.size)) (F0 m 81 ls []) := by
    intro k3 hk3 y1 y2 y3 y4 y5 σ H locs ls hP hS hl hf
    unfold f_X11_covers_0_J81 at hf
    obtain ⟨x4, ex4, hf⟩ := fd_lts hf
    refine lv_iinc (v := x4) (lv' := [(5, .int x4), (0, .ref (a 0)), (1, .int y1), (2, .int y2), (3, .int y3), (4, .int y4)]) hx hb dX11_covers_81 hl (k := 5) rfl (by rw [ex4]; rfl) (by decide) rfl (fun ls hl => ?_)
    refine lv_goto (tgt := 3) hx hb dX11_covers_84 (by decide) ?_
    exact hk3 y1 y2 y3 y4 x4 σ _ _ _ hP hS (lv_sub hl [1, 2, 3, 4, 5, 0] rfl) hf
  have hL3 : ∀ (n : Nat), ∀ (y1 : Int32) (y2 : Int32) (y3 : Int32) (y4 : Int32) (y5 : Int32) (σ : fd_St) (H : Heap) (locs : List Loc) (ls : Array Slot), va_P D vwCl (fd_WM a k σ) H → va_S (fd_A 29 a s.heap.size) s.heap H locs → lv_has ls 6 [(0, .ref (a 0)), (1, .int y1), (2, .int y2), (3, .int y3), (4, .int y4), (5, .int y5)] → f_X11_covers_0_L3 N n y1 y2 y3 y4 y5 σ = some r → W p l e ((headSpec wsX11_covers ({ frames := 0, cells := 0, slots := 0, locals := 0 })).room) s m ([.ref (a 0), .int p1, .int p2, .int p3, .int p4].toArray) below meth c H locs 0 0 (MQ below (va_Qi (fun v u => (v, u) = r) (fd_BM D a k) (fd_A 29 a s.heap.size)) ([.ref (a 0), .int p1, .int p2, .int p3, .int p4].toArray) s 0 0 (fd_A 29 a s.heap.size)) (F0 m 3 ls []) := by
    intro n
    induction n with
    | zero =>
      intro _ _ _ _ _ _ _ _ _ _ _ _ hf
      cases hf
    | succ n ih =>
      intro y1 y2 y3 y4 y5 σ H locs ls hP hS hl hf
      unfold f_X11_covers_0_L3 at hf
      refine lv_iload hx hb dX11_covers_3 (lv_at hl 5 rfl) ?_
      refine lv_aload_n hx hb dX11_covers_5 rfl (lv_at hl 0 rfl) ?_
      refine va_get (ci := 11) (v := .int (σ.1 14)) (C := RX11) (T := TX11) (N := 43) hx hb hts h9X11 hown hK hP 0 fd_WM_0 rfl 35 (by decide) (hts (.fieldLink RX11 198 "FailDiagnoseModel" "shapes" "I") (List.mem_of_getElem? (i := 1) (by eq_refl))) (fun _ h9 => h9) rfl dX11_covers_6 ?_
      refine lv_icmp_ge (tgt := 87) hx hb dX11_covers_9 (by decide) (fun c1 => ?_) (fun c1 => ?_)
      · have hf := fd_itp c1 hf
        refine lv_iconst (v := (0 : Int32)) hx hb dX11_covers_87 (by decide) ?_
        exact W.zret (v := (0 : Int32)) (ty := .boolean) hx hb hr rfl (fun t ht hW => ⟨⟨(0 : Int32), σ, rfl, Option.some.inj hf, by rw [ht]; exact hP, va_K.moved hW.alike hK⟩, hS.F ht⟩) hS.2.2 dX11_covers_88
      · have hf := fd_itn c1 hf
        refine lv_aload_n hx hb dX11_covers_12 rfl (lv_at hl 0 rfl) ?_
        refine va_get (ci := 11) (v := .ref (a 22)) (C := RX11) (T := TX11) (N := 43) hx hb hts h9X11 hown hK hP 0 fd_WM_0 rfl 36 (by decide) (hts (.fieldLink RX11 75 "FailDiagnoseModel" "shapeNet" "[I") (List.mem_of_getElem? (i := 2) (by eq_refl))) (fun _ h9 => h9) rfl dX11_covers_13 ?_
        refine lv_iload hx hb dX11_covers_16 (lv_at hl 5 rfl) ?_
        obtain ⟨g2, hf⟩ := fd_gds hf
        refine va_iald hx hb hK hP 22 21 fd_WM_22 fd_tyM_22 g2 dX11_covers_18 ?_
        refine lv_iload_n hx hb dX11_covers_19 rfl (lv_at hl 1 rfl) ?_
        refine lv_icmp_ne (tgt := 81) hx hb dX11_covers_20 (by decide) (fun c3 => ?_) (fun c3 => ?_)
        · have hf := fd_itn c3 hf
          exact hL81 (f_X11_covers_0_L3 N n) ih y1 y2 y3 y4 y5 σ _ _ _ hP hS (lv_sub hl [0, 1, 2, 3, 4, 5] rfl) hf
        · have hf := fd_itp c3 hf
          refine lv_aload_n hx hb dX11_covers_23 rfl (lv_at hl 0 rfl) ?_
          refine va_get (ci := 11) (v := .ref (a 23)) (C := RX11) (T := TX11) (N := 43) hx hb hts h9X11 hown hK hP 0 fd_WM_0 rfl 37 (by decide) (hts (.fieldLink RX11 78 "FailDiagnoseModel" "shapeX0" "[I") (List.mem_of_getElem? (i := 3) (by eq_refl))) (fun _ h9 => h9) rfl dX11_covers_24 ?_
          refine lv_iload hx hb dX11_covers_27 (lv_at hl 5 rfl) ?_
          obtain ⟨g5, hf⟩ := fd_gds hf
          refine va_iald hx hb hK hP 23 22 fd_WM_23 fd_tyM_23 g5 dX11_covers_29 ?_
          refine lv_iload hx hb dX11_covers_30 (lv_at hl 4 rfl) ?_
          refine lv_isub hx hb dX11_covers_32 ?_
          refine lv_iload_n hx hb dX11_covers_33 rfl (lv_at hl 2 rfl) ?_
          refine lv_icmp_gt (tgt := 81) hx hb dX11_covers_34 (by decide) (fun c6 => ?_) (fun c6 => ?_)
          · have hf := fd_itp c6 hf
            exact hL81 (f_X11_covers_0_L3 N n) ih y1 y2 y3 y4 y5 σ _ _ _ hP hS (lv_sub hl [0, 1, 2, 3, 4, 5] rfl) hf
          · have hf := fd_itn c6 hf
            refine lv_iload_n hx hb dX11_covers_37 rfl (lv_at hl 2 rfl) ?_
            refine lv_aload_n hx hb dX11_covers_38 rfl (lv_at hl 0 rfl) ?_
            refine va_get (ci := 11) (v := .ref (a 25)) (C := RX11) (T := TX11) (N := 43) hx hb hts h9X11 hown hK hP 0 fd_WM_0 rfl 39 (by decide) (hts (.fieldLink RX11 84 "FailDiagnoseModel" "shapeX1" "[I") (List.mem_of_getElem? (i := 4) (by eq_refl))) (fun _ h9 => h9) rfl dX11_covers_39 ?_
            refine lv_iload hx hb dX11_covers_42 (lv_at hl 5 rfl) ?_
            obtain ⟨g7, hf⟩ := fd_gds hf
            refine va_iald hx hb hK hP 25 24 fd_WM_25 fd_tyM_25 g7 dX11_covers_44 ?_
            refine lv_iload hx hb dX11_covers_45 (lv_at hl 4 rfl) ?_
            refine lv_iadd hx hb dX11_covers_47 ?_
            refine lv_icmp_ge (tgt := 81) hx hb dX11_covers_48 (by decide) (fun c8 => ?_) (fun c8 => ?_)
            · have hf := fd_itp c8 hf
              exact hL81 (f_X11_covers_0_L3 N n) ih y1 y2 y3 y4 y5 σ _ _ _ hP hS (lv_sub hl [0, 1, 2, 3, 4, 5] rfl) hf
            · have hf := fd_itn c8 hf
              refine lv_aload_n hx hb dX11_covers_51 rfl (lv_at hl 0 rfl) ?_
              refine va_get (ci := 11) (v := .ref (a 24)) (C := RX11) (T := TX11) (N := 43) hx hb hts h9X11 hown hK hP 0 fd_WM_0 rfl 38 (by decide) (hts (.fieldLink RX11 81 "FailDiagnoseModel" "shapeY0" "[I") (List.mem_of_getElem? (i := 5) (by eq_refl))) (fun _ h9 => h9) rfl dX11_covers_52 ?_
              refine lv_iload hx hb dX11_covers_55 (lv_at hl 5 rfl) ?_
              obtain ⟨g9, hf⟩ := fd_gds hf
              refine va_iald hx hb hK hP 24 23 fd_WM_24 fd_tyM_24 g9 dX11_covers_57 ?_
              refine lv_iload hx hb dX11_covers_58 (lv_at hl 4 rfl) ?_
              refine lv_isub hx hb dX11_covers_60 ?_
              refine lv_iload_n hx hb dX11_covers_61 rfl (lv_at hl 3 rfl) ?_
              refine lv_icmp_gt (tgt := 81) hx hb dX11_covers_62 (by decide) (fun c10 => ?_) (fun c10 => ?_)
              · have hf := fd_itp c10 hf
                exact hL81 (f_X11_covers_0_L3 N n) ih y1 y2 y3 y4 y5 σ _ _ _ hP hS (lv_sub hl [0, 1, 2, 3, 4, 5] rfl) hf
              · have hf := fd_itn c10 hf
                refine lv_iload_n hx hb dX11_covers_65 rfl (lv_at hl 3 rfl) ?_
                refine lv_aload_n hx hb dX11_covers_66 rfl (lv_at hl 0 rfl) ?_
                refine va_get (ci := 11) (v := .ref (a 26)) (C := RX11) (T := TX11) (N := 43) hx hb hts h9X11 hown hK hP 0 fd_WM_0 rfl 40 (by decide) (hts (.fieldLink RX11 87 "FailDiagnoseModel" "shapeY1" "[I") (List.mem_of_getElem? (i := 6) (by eq_refl))) (fun _ h9 => h9) rfl dX11_covers_67 ?_
                refine lv_iload hx hb dX11_covers_70 (lv_at hl 5 rfl) ?_
                obtain ⟨g11, hf⟩ := fd_gds hf
                refine va_iald hx hb hK hP 26 25 fd_WM_26 fd_tyM_26 g11 dX11_covers_72 ?_
                refine lv_iload hx hb dX11_covers_73 (lv_at hl 4 rfl) ?_
                refine lv_iadd hx hb dX11_covers_75 ?_
                refine lv_icmp_ge (tgt := 81) hx hb dX11_covers_76 (by decide) (fun c12 => ?_) (fun c12 => ?_)
                · have hf := fd_itp c12 hf
                  exact hL81 (f_X11_covers_0_L3 N n) ih y1 y2 y3 y4 y5 σ _ _ _ hP hS (lv_sub hl [0, 1, 2, 3, 4, 5] rfl) hf
                · have hf := fd_itn c12 hf
                  refine lv_iconst (v := (1 : Int32)) hx hb dX11_covers_79 (by decide) ?_
                  exact W.zret (v := (1 : Int32)) (ty := .boolean) hx hb hr rfl (fun t ht hW => ⟨⟨(1 : Int32), σ, rfl, Option.some.inj hf, by rw [ht]; exact hP, va_K.moved hW.alike hK⟩, hS.F ht⟩) hS.2.2 dX11_covers_80
  unfold f_X11_covers_0 at hf
  refine lv_iconst (v := (0 : Int32)) hx hb dX11_covers_0 (by decide) ?_
  refine lv_istore (lv' := [(5, .int (0 : Int32)), (0, .ref (a 0)), (1, .int p1), (2, .int p2), (3, .int p3), (4, .int p4)]) hx hb dX11_covers_1 hl (by decide) rfl (fun ls hl => ?_)
  exact hL3 N p1 p2 p3 p4 (0 : Int32) σ _ _ _ hP hS (lv_sub hl [1, 2, 3, 4, 5, 0] rfl) hf
noncomputable def f_X11_insert_27_L37 (N : Nat) : Nat → Int32 → Int32 → Int32 → Int32 → fd_St → Option (Int32 × fd_St)
  | 0 => fun _ _ _ _ _ => none
  | n + 1 => fun y1 y2 y3 y4 σ => if y4 ≤ y3 then (fd_gd (vp_in y3 122) (fd_lt (fd_sA 27 y3 y2 σ) (fun σ5 => some (y1 + (1 : Int32), σ5)))) else (fd_gd (vp_in (y4 - (1 : Int32)) 122) (fd_gd (vp_in y4 122) (fd_lt (fd_sA 27 y4 (σ.2.1 27 (y4 - (1 : Int32)).toNatClampNeg) σ) (fun σ8 => fd_lt (y4 + (-1 : Int32)) (fun x9 => (f_X11_insert_27_L37 N n) y1 y2 y3 x9 σ8)))))
noncomputable def f_X11_insert_27_J34 (N : Nat) (y1 : Int32) (y2 : Int32) (y3 : Int32) (σ : fd_St) : Option (Int32 × fd_St) := f_X11_insert_27_L37 N N y1 y2 y3 y1 σ
noncomputable def f_X11_insert_27_J20 (N : Nat) (y1 : Int32) (y2 : Int32) (y3 : Int32) (σ : fd_St) : Option (Int32 × fd_St) := if y1 ≤ y3 then (f_X11_insert_27_J34 N y1 y2 y3 σ) else (fd_gd (vp_in y3 122) (if (σ.2.1 27 y3.toNatClampNeg) = y2 then (some (y1, σ)) else (f_X11_insert_27_J34 N y1 y2 y3 σ)))
noncomputable def f_X11_insert_27_L2 (N : Nat) : Nat → Int32 → Int32 → Int32 → fd_St → Option (Int32 × fd_St)
  | 0 => fun _ _ _ _ => none
  | n + 1 => fun y1 y2 y3 σ => if y1 ≤ y3 then (f_X11_insert_27_J20 N y1 y2 y3 σ) else (fd_gd (vp_in y3 122) (if y2 ≤ (σ.2.1 27 y3.toNatClampNeg) then (f_X11_insert_27_J20 N y1 y2 y3 σ) else (fd_lt (y3 + (1 : Int32)) (fun x14 => (f_X11_insert_27_L2 N n) y1 y2 x14 σ))))
noncomputable def f_X11_insert_27 (N : Nat) (p1 : Int32) (p2 : Int32) (σ : fd_St) : Option (Int32 × fd_St) := f_X11_insert_27_L2 N N p1 p2 (0 : Int32) σ
set_option maxHeartbeats 4000000 in
set_option maxRecDepth 100000 in
theorem m_X11_insert_27 (l : Launch) (D : va_G) (a : Nat → Nat) (k : Nat → ClassId) (sz : Nat) (hI : fd_I 29 a) (N : Nat) (p1 : Int32) (p2 : Int32) (σ : fd_St) (r : Int32 × fd_St) (hf : f_X11_insert_27 N p1 p2 σ = some r) : Met l yX11_insert wsX11_insert ({ frames := 0, cells := 0, slots := 0, locals := 0 }) (va_Pc [.ref (a 27), .int p1, .int p2] (fd_PM D a k sz σ)) (va_Qi (fun v u => (v, u) = r) (fd_BM D a k) (fd_A 29 a sz)) 0 0 (fd_A 29 a sz) := by
  refine Met.ofW (cc := cX11_insert) (maxL := 5) (ret := (some .int)) (by decide) rfl ?_
  intro p e s m args below meth c s₁ B hml hv
  obtain ⟨rfl, hsz, hP, hK⟩ := hv
  have hx := B.exec
  have hb := B.bytes
  have hr := B.returns
  have hts := atoms_spec (ws := wsX11_insert) B.pre
  have hown : s.vm.findClass RX11 = some m.cls := findClass_of_methodNamed B.named
  have hlocks := B.notSynchronized
  subst hsz
  have hJ : ∀ i, i < 29 → fd_A 29 a s.heap.size (a i) := fun i hi => Or.inl ⟨i, hi, rfl⟩
  have hS : va_S (fd_A 29 a s.heap.size) s.heap s.heap [] := va_S.rf
  have hl := lv_entry ([.ref (a 27), .int p1, .int p2]) (n := 5) (Nat.le_of_ble_eq_true rfl)
  rw [lg_entry_eq]
  generalize (lg_sl ([.ref (a 27), .int p1, .int p2]) ++ List.replicate (5 - (lg_sl ([.ref (a 27), .int p1, .int p2])).length) Slot.unset).toArray = ls at hl ⊢
  have hl : lv_has ls 5 [(0, .ref (a 27)), (1, .int p1), (2, .int p2)] := hl
  have hL37 : ∀ (n : Nat), ∀ (y1 : Int32) (y2 : Int32) (y3 : Int32) (y4 : Int32) (σ : fd_St) (H : Heap) (locs : List Loc) (ls : Array Slot), va_P D vwCl (fd_WM a k σ) H → va_S (fd_A 29 a s.heap.size) s.heap H locs → lv_has ls 5 [(0, .ref (a 27)), (1, .int y1), (2, .int y2), (3, .int y3), (4, .int y4)] → f_X11_insert_27_L37 N n y1 y2 y3 y4 σ = some r → W p l e ((headSpec wsX11_insert ({ frames := 0, cells := 0, slots := 0, locals := 0 })).room) s m ([.ref (a 27), .int p1, .int p2].toArray) below meth c H locs 0 0 (MQ below (va_Qi (fun v u => (v, u) = r) (fd_BM D a k) (fd_A 29 a s.heap.size)) ([.ref (a 27), .int p1, .int p2].toArray) s 0 0 (fd_A 29 a s.heap.size)) (F0 m 37 ls []) := by
    intro n
    induction n with
    | zero =>
      intro _ _ _ _ _ _ _ _ _ _ _ hf
      cases hf
    | succ n ih =>
      intro y1 y2 y3 y4 σ H locs ls hP hS hl hf
      unfold f_X11_insert_27_L37 at hf
      refine lv_iload hx hb dX11_insert_37 (lv_at hl 4 rfl) ?_
      refine lv_iload_n hx hb dX11_insert_39 rfl (lv_at hl 3 rfl) ?_
      refine lv_icmp_le (tgt := 59) hx hb dX11_insert_40 (by decide) (fun c3 => ?_) (fun c3 => ?_)
      · have hf := fd_itp c3 hf
        refine lv_aload_n hx hb dX11_insert_59 rfl (lv_at hl 0 rfl) ?_
        refine lv_iload_n hx hb dX11_insert_60 rfl (lv_at hl 3 rfl) ?_
        refine lv_iload_n hx hb dX11_insert_61 rfl (lv_at hl 2 rfl) ?_
        obtain ⟨g4, hf⟩ := fd_gds hf
        obtain ⟨σ5, eσ5, hf⟩ := fd_lts hf
        refine va_iast hx hb hK hP (fd_DM hI hJ) hS 27 26 fd_WM_27 fd_tyM_27 g4 dX11_insert_62 (fun H locs hP _ hS => ?_)
        have hP : va_P D vwCl (fd_WM a k σ5) H := by rw [eσ5]; exact fd_sP fd_WMa_27 hP
        refine lv_iload_n hx hb dX11_insert_63 rfl (lv_at hl 1 rfl) ?_
        refine lv_iconst (v := (1 : Int32)) hx hb dX11_insert_64 (by decide) ?_
        refine lv_iadd hx hb dX11_insert_65 ?_
        exact W.iret (v := (y1 + (1 : Int32))) hx hb hr (fun t ht hW => ⟨⟨y1 + (1 : Int32), σ5, rfl, Option.some.inj hf, by rw [ht]; exact hP, va_K.moved hW.alike hK⟩, hS.F ht⟩) hS.2.2 dX11_insert_66
      · have hf := fd_itn c3 hf
        refine lv_aload_n hx hb dX11_insert_43 rfl (lv_at hl 0 rfl) ?_
        refine lv_iload hx hb dX11_insert_44 (lv_at hl 4 rfl) ?_
        refine lv_aload_n hx hb dX11_insert_46 rfl (lv_at hl 0 rfl) ?_
        refine lv_iload hx hb dX11_insert_47 (lv_at hl 4 rfl) ?_
        refine lv_iconst (v := (1 : Int32)) hx hb dX11_insert_49 (by decide) ?_
        refine lv_isub hx hb dX11_insert_50 ?_
        obtain ⟨g6, hf⟩ := fd_gds hf
        refine va_iald hx hb hK hP 27 26 fd_WM_27 fd_tyM_27 g6 dX11_insert_51 ?_
        obtain ⟨g7, hf⟩ := fd_gds hf
        obtain ⟨σ8, eσ8, hf⟩ := fd_lts hf
        refine va_iast hx hb hK hP (fd_DM hI hJ) hS 27 26 fd_WM_27 fd_tyM_27 g7 dX11_insert_52 (fun H locs hP _ hS => ?_)
        have hP : va_P D vwCl (fd_WM a k σ8) H := by rw [eσ8]; exact fd_sP fd_WMa_27 hP
        obtain ⟨x9, ex9, hf⟩ := fd_lts hf
        refine lv_iinc (v := x9) (lv' := [(4, .int x9), (0, .ref (a 27)), (1, .int y1), (2, .int y2), (3, .int y3)]) hx hb dX11_insert_53 hl (k := 4) rfl (by rw [ex9]; rfl) (by decide) rfl (fun ls hl => ?_)
        refine lv_goto (tgt := 37) hx hb dX11_insert_56 (by decide) ?_
        exact ih y1 y2 y3 x9 σ8 _ _ _ hP hS (lv_sub hl [1, 2, 3, 4, 0] rfl) hf
  have hL34 : ∀ (y1 : Int32) (y2 : Int32) (y3 : Int32) (σ : fd_St) (H : Heap) (locs : List Loc) (ls : Array Slot), va_P D vwCl (fd_WM a k σ) H → va_S (fd_A 29 a s.heap.size) s.heap H locs → lv_has ls 5 [(0, .ref (a 27)), (1, .int y1), (2, .int y2), (3, .int y3)] → f_X11_insert_27_J34 N y1 y2 y3 σ = some r → W p l e ((headSpec wsX11_insert ({ frames := 0, cells := 0, slots := 0, locals := 0 })).room) s m ([.ref (a 27), .int p1, .int p2].toArray) below meth c H locs 0 0 (MQ below (va_Qi (fun v u => (v, u) = r) (fd_BM D a k) (fd_A 29 a s.heap.size)) ([.ref (a 27), .int p1, .int p2].toArray) s 0 0 (fd_A 29 a s.heap.size)) (F0 m 34 ls []) := by
    intro y1 y2 y3 σ H locs ls hP hS hl hf
    unfold f_X11_insert_27_J34 at hf
    refine lv_iload_n hx hb dX11_insert_34 rfl (lv_at hl 1 rfl) ?_
    refine lv_istore (lv' := [(4, .int y1), (0, .ref (a 27)), (1, .int y1), (2, .int y2), (3, .int y3)]) hx hb dX11_insert_35 hl (by decide) rfl (fun ls hl => ?_)
    exact hL37 N y1 y2 y3 y1 σ _ _ _ hP hS (lv_sub hl [1, 2, 3, 4, 0] rfl) hf
  have hL20 : ∀ (y1 : Int32) (y2 : Int32) (y3 : Int32) (σ : fd_St) (H : Heap) (locs : List Loc) (ls : Array Slot), va_P D vwCl (fd_WM a k σ) H → va_S (fd_A 29 a s.heap.size) s.heap H locs → lv_has ls 5 [(0, .ref (a 27)), (1, .int y1), (2, .int y2), (3, .int y3)] → f_X11_insert_27_J20 N y1 y2 y3 σ = some r → W p l e ((headSpec wsX11_insert ({ frames := 0, cells := 0, slots := 0, locals := 0 })).room) s m ([.ref (a 27), .int p1, .int p2].toArray) below meth c H locs 0 0 (MQ below (va_Qi (fun v u => (v, u) = r) (fd_BM D a k) (fd_A 29 a s.heap.size)) ([.ref (a 27), .int p1, .int p2].toArray) s 0 0 (fd_A 29 a s.heap.size)) (F0 m 20 ls []) := by
    intro y1 y2 y3 σ H locs ls hP hS hl hf
    unfold f_X11_insert_27_J20 at hf
    refine lv_iload_n hx hb dX11_insert_20 rfl (lv_at hl 3 rfl) ?_
    refine lv_iload_n hx hb dX11_insert_21 rfl (lv_at hl 1 rfl) ?_
    refine lv_icmp_ge (tgt := 34) hx hb dX11_insert_22 (by decide) (fun c2 => ?_) (fun c2 => ?_)
    · have hf := fd_itp c2 hf
      exact hL34 y1 y2 y3 σ _ _ _ hP hS (lv_sub hl [0, 1, 2, 3] rfl) hf
    · have hf := fd_itn c2 hf
      refine lv_aload_n hx hb dX11_insert_25 rfl (lv_at hl 0 rfl) ?_
      refine lv_iload_n hx hb dX11_insert_26 rfl (lv_at hl 3 rfl) ?_
      obtain ⟨g10, hf⟩ := fd_gds hf
      refine va_iald hx hb hK hP 27 26 fd_WM_27 fd_tyM_27 g10 dX11_insert_27 ?_
      refine lv_iload_n hx hb dX11_insert_28 rfl (lv_at hl 2 rfl) ?_
      refine lv_icmp_ne (tgt := 34) hx hb dX11_insert_29 (by decide) (fun c11 => ?_) (fun c11 => ?_)
      · have hf := fd_itn c11 hf
        exact hL34 y1 y2 y3 σ _ _ _ hP hS (lv_sub hl [0, 1, 2, 3] rfl) hf
      · have hf := fd_itp c11 hf
        refine lv_iload_n hx hb dX11_insert_32 rfl (lv_at hl 1 rfl) ?_
        exact W.iret (v := y1) hx hb hr (fun t ht hW => ⟨⟨y1, σ, rfl, Option.some.inj hf, by rw [ht]; exact hP, va_K.moved hW.alike hK⟩, hS.F ht⟩) hS.2.2 dX11_insert_33
  have hL2 : ∀ (n : Nat), ∀ (y1 : Int32) (y2 : Int32) (y3 : Int32) (σ : fd_St) (H : Heap) (locs : List Loc) (ls : Array Slot), va_P D vwCl (fd_WM a k σ) H → va_S (fd_A 29 a s.heap.size) s.heap H locs → lv_has ls 5 [(0, .ref (a 27)), (1, .int y1), (2, .int y2), (3, .int y3)] → f_X11_insert_27_L2 N n y1 y2 y3 σ = some r → W p l e ((headSpec wsX11_insert ({ frames := 0, cells := 0, slots := 0, locals := 0 })).room) s m ([.ref (a 27), .int p1, .int p2].toArray) below meth c H locs 0 0 (MQ below (va_Qi (fun v u => (v, u) = r) (fd_BM D a k) (fd_A 29 a s.heap.size)) ([.ref (a 27), .int p1, .int p2].toArray) s 0 0 (fd_A 29 a s.heap.size)) (F0 m 2 ls []) := by
    intro n
    induction n with
    | zero =>
      intro _ _ _ _ _ _ _ _ _ _ hf
      cases hf
    | succ n ih =>
      intro y1 y2 y3 σ H locs ls hP hS hl hf
      unfold f_X11_insert_27_L2 at hf
      refine lv_iload_n hx hb dX11_insert_2 rfl (lv_at hl 3 rfl) ?_
      refine lv_iload_n hx hb dX11_insert_3 rfl (lv_at hl 1 rfl) ?_
      refine lv_icmp_ge (tgt := 20) hx hb dX11_insert_4 (by decide) (fun c1 => ?_) (fun c1 => ?_)
      · have hf := fd_itp c1 hf
        exact hL20 y1 y2 y3 σ _ _ _ hP hS (lv_sub hl [0, 1, 2, 3] rfl) hf
      · have hf := fd_itn c1 hf
        refine lv_aload_n hx hb dX11_insert_7 rfl (lv_at hl 0 rfl) ?_
        refine lv_iload_n hx hb dX11_insert_8 rfl (lv_at hl 3 rfl) ?_
        obtain ⟨g12, hf⟩ := fd_gds hf
        refine va_iald hx hb hK hP 27 26 fd_WM_27 fd_tyM_27 g12 dX11_insert_9 ?_
        refine lv_iload_n hx hb dX11_insert_10 rfl (lv_at hl 2 rfl) ?_
        refine lv_icmp_ge (tgt := 20) hx hb dX11_insert_11 (by decide) (fun c13 => ?_) (fun c13 => ?_)
        · have hf := fd_itp c13 hf
          exact hL20 y1 y2 y3 σ _ _ _ hP hS (lv_sub hl [0, 1, 2, 3] rfl) hf
        · have hf := fd_itn c13 hf
          obtain ⟨x14, ex14, hf⟩ := fd_lts hf
          refine lv_iinc (v := x14) (lv' := [(3, .int x14), (0, .ref (a 27)), (1, .int y1), (2, .int y2)]) hx hb dX11_insert_14 hl (k := 3) rfl (by rw [ex14]; rfl) (by decide) rfl (fun ls hl => ?_)
          refine lv_goto (tgt := 2) hx hb dX11_insert_17 (by decide) ?_
          exact ih y1 y2 x14 σ _ _ _ hP hS (lv_sub hl [1, 2, 3, 0] rfl) hf
  unfold f_X11_insert_27 at hf
  refine lv_iconst (v := (0 : Int32)) hx hb dX11_insert_0 (by decide) ?_
  refine lv_istore_n (lv' := [(3, .int (0 : Int32)), (0, .ref (a 27)), (1, .int p1), (2, .int p2)]) hx hb dX11_insert_1 rfl hl (by decide) rfl (fun ls hl => ?_)
  exact hL2 N p1 p2 (0 : Int32) σ _ _ _ hP hS (lv_sub hl [1, 2, 3, 0] rfl) hf
noncomputable def f_X11_insert_28_L37 (N : Nat) : Nat → Int32 → Int32 → Int32 → Int32 → fd_St → Option (Int32 × fd_St)
  | 0 => fun _ _ _ _ _ => none
  | n + 1 => fun y1 y2 y3 y4 σ => if y4 ≤ y3 then (fd_gd (vp_in y3 122) (fd_lt (fd_sA 28 y3 y2 σ) (fun σ5 => some (y1 + (1 : Int32), σ5)))) else (fd_gd (vp_in (y4 - (1 : Int32)) 122) (fd_gd (vp_in y4 122) (fd_lt (fd_sA 28 y4 (σ.2.1 28 (y4 - (1 : Int32)).toNatClampNeg) σ) (fun σ8 => fd_lt (y4 + (-1 : Int32)) (fun x9 => (f_X11_insert_28_L37 N n) y1 y2 y3 x9 σ8)))))
noncomputable def f_X11_insert_28_J34 (N : Nat) (y1 : Int32) (y2 : Int32) (y3 : Int32) (σ : fd_St) : Option (Int32 × fd_St) := f_X11_insert_28_L37 N N y1 y2 y3 y1 σ
noncomputable def f_X11_insert_28_J20 (N : Nat) (y1 : Int32) (y2 : Int32) (y3 : Int32) (σ : fd_St) : Option (Int32 × fd_St) := if y1 ≤ y3 then (f_X11_insert_28_J34 N y1 y2 y3 σ) else (fd_gd (vp_in y3 122) (if (σ.2.1 28 y3.toNatClampNeg) = y2 then (some (y1, σ)) else (f_X11_insert_28_J34 N y1 y2 y3 σ)))
noncomputable def f_X11_insert_28_L2 (N : Nat) : Nat → Int32 → Int32 → Int32 → fd_St → Option (Int32 × fd_St)
  | 0 => fun _ _ _ _ => none
  | n + 1 => fun y1 y2 y3 σ => if y1 ≤ y3 then (f_X11_insert_28_J20 N y1 y2 y3 σ) else (fd_gd (vp_in y3 122) (if y2 ≤ (σ.2.1 28 y3.toNatClampNeg) then (f_X11_insert_28_J20 N y1 y2 y3 σ) else (fd_lt (y3 + (1 : Int32)) (fun x14 => (f_X11_insert_28_L2 N n) y1 y2 x14 σ))))
noncomputable def f_X11_insert_28 (N : Nat) (p1 : Int32) (p2 : Int32) (σ : fd_St) : Option (Int32 × fd_St) := f_X11_insert_28_L2 N N p1 p2 (0 : Int32) σ
set_option maxHeartbeats 4000000 in
set_option maxRecDepth 100000 in
theorem m_X11_insert_28 (l : Launch) (D : va_G) (a : Nat → Nat) (k : Nat → ClassId) (sz : Nat) (hI : fd_I 29 a) (N : Nat) (p1 : Int32) (p2 : Int32) (σ : fd_St) (r : Int32 × fd_St) (hf : f_X11_insert_28 N p1 p2 σ = some r) : Met l yX11_insert wsX11_insert ({ frames := 0, cells := 0, slots := 0, locals := 0 }) (va_Pc [.ref (a 28), .int p1, .int p2] (fd_PM D a k sz σ)) (va_Qi (fun v u => (v, u) = r) (fd_BM D a k) (fd_A 29 a sz)) 0 0 (fd_A 29 a sz) := by
  refine Met.ofW (cc := cX11_insert) (maxL := 5) (ret := (some .int)) (by decide) rfl ?_
  intro p e s m args below meth c s₁ B hml hv
  obtain ⟨rfl, hsz, hP, hK⟩ := hv
  have hx := B.exec
  have hb := B.bytes
  have hr := B.returns
  have hts := atoms_spec (ws := wsX11_insert) B.pre
  have hown : s.vm.findClass RX11 = some m.cls := findClass_of_methodNamed B.named
  have hlocks := B.notSynchronized
  subst hsz
  have hJ : ∀ i, i < 29 → fd_A 29 a s.heap.size (a i) := fun i hi => Or.inl ⟨i, hi, rfl⟩
  have hS : va_S (fd_A 29 a s.heap.size) s.heap s.heap [] := va_S.rf
  have hl := lv_entry ([.ref (a 28), .int p1, .int p2]) (n := 5) (Nat.le_of_ble_eq_true rfl)
  rw [lg_entry_eq]
  generalize (lg_sl ([.ref (a 28), .int p1, .int p2]) ++ List.replicate (5 - (lg_sl ([.ref (a 28), .int p1, .int p2])).length) Slot.unset).toArray = ls at hl ⊢
  have hl : lv_has ls 5 [(0, .ref (a 28)), (1, .int p1), (2, .int p2)] := hl
  have hL37 : ∀ (n : Nat), ∀ (y1 : Int32) (y2 : Int32) (y3 : Int32) (y4 : Int32) (σ : fd_St) (H : Heap) (locs : List Loc) (ls : Array Slot), va_P D vwCl (fd_WM a k σ) H → va_S (fd_A 29 a s.heap.size) s.heap H locs → lv_has ls 5 [(0, .ref (a 28)), (1, .int y1), (2, .int y2), (3, .int y3), (4, .int y4)] → f_X11_insert_28_L37 N n y1 y2 y3 y4 σ = some r → W p l e ((headSpec wsX11_insert ({ frames := 0, cells := 0, slots := 0, locals := 0 })).room) s m ([.ref (a 28), .int p1, .int p2].toArray) below meth c H locs 0 0 (MQ below (va_Qi (fun v u => (v, u) = r) (fd_BM D a k) (fd_A 29 a s.heap.size)) ([.ref (a 28), .int p1, .int p2].toArray) s 0 0 (fd_A 29 a s.heap.size)) (F0 m 37 ls []) := by
    intro n
    induction n with
    | zero =>
      intro _ _ _ _ _ _ _ _ _ _ _ hf
      cases hf
    | succ n ih =>
      intro y1 y2 y3 y4 σ H locs ls hP hS hl hf
      unfold f_X11_insert_28_L37 at hf
      refine lv_iload hx hb dX11_insert_37 (lv_at hl 4 rfl) ?_
      refine lv_iload_n hx hb dX11_insert_39 rfl (lv_at hl 3 rfl) ?_
      refine lv_icmp_le (tgt := 59) hx hb dX11_insert_40 (by decide) (fun c3 => ?_) (fun c3 => ?_)
      · have hf := fd_itp c3 hf
        refine lv_aload_n hx hb dX11_insert_59 rfl (lv_at hl 0 rfl) ?_
        refine lv_iload_n hx hb dX11_insert_60 rfl (lv_at hl 3 rfl) ?_
        refine lv_iload_n hx hb dX11_insert_61 rfl (lv_at hl 2 rfl) ?_
        obtain ⟨g4, hf⟩ := fd_gds hf
        obtain ⟨σ5, eσ5, hf⟩ := fd_lts hf
        refine va_iast hx hb hK hP (fd_DM hI hJ) hS 28 27 fd_WM_28 fd_tyM_28 g4 dX11_insert_62 (fun H locs hP _ hS => ?_)
        have hP : va_P D vwCl (fd_WM a k σ5) H := by rw [eσ5]; exact fd_sP fd_WMa_28 hP
        refine lv_iload_n hx hb dX11_insert_63 rfl (lv_at hl 1 rfl) ?_
        refine lv_iconst (v := (1 : Int32)) hx hb dX11_insert_64 (by decide) ?_
        refine lv_iadd hx hb dX11_insert_65 ?_
        exact W.iret (v := (y1 + (1 : Int32))) hx hb hr (fun t ht hW => ⟨⟨y1 + (1 : Int32), σ5, rfl, Option.some.inj hf, by rw [ht]; exact hP, va_K.moved hW.alike hK⟩, hS.F ht⟩) hS.2.2 dX11_insert_66
      · have hf := fd_itn c3 hf
        refine lv_aload_n hx hb dX11_insert_43 rfl (lv_at hl 0 rfl) ?_
        refine lv_iload hx hb dX11_insert_44 (lv_at hl 4 rfl) ?_
        refine lv_aload_n hx hb dX11_insert_46 rfl (lv_at hl 0 rfl) ?_
        refine lv_iload hx hb dX11_insert_47 (lv_at hl 4 rfl) ?_
        refine lv_iconst (v := (1 : Int32)) hx hb dX11_insert_49 (by decide) ?_
        refine lv_isub hx hb dX11_insert_50 ?_
        obtain ⟨g6, hf⟩ := fd_gds hf
        refine va_iald hx hb hK hP 28 27 fd_WM_28 fd_tyM_28 g6 dX11_insert_51 ?_
        obtain ⟨g7, hf⟩ := fd_gds hf
        obtain ⟨σ8, eσ8, hf⟩ := fd_lts hf
        refine va_iast hx hb hK hP (fd_DM hI hJ) hS 28 27 fd_WM_28 fd_tyM_28 g7 dX11_insert_52 (fun H locs hP _ hS => ?_)
        have hP : va_P D vwCl (fd_WM a k σ8) H := by rw [eσ8]; exact fd_sP fd_WMa_28 hP
        obtain ⟨x9, ex9, hf⟩ := fd_lts hf
        refine lv_iinc (v := x9) (lv' := [(4, .int x9), (0, .ref (a 28)), (1, .int y1), (2, .int y2), (3, .int y3)]) hx hb dX11_insert_53 hl (k := 4) rfl (by rw [ex9]; rfl) (by decide) rfl (fun ls hl => ?_)
        refine lv_goto (tgt := 37) hx hb dX11_insert_56 (by decide) ?_
        exact ih y1 y2 y3 x9 σ8 _ _ _ hP hS (lv_sub hl [1, 2, 3, 4, 0] rfl) hf
  have hL34 : ∀ (y1 : Int32) (y2 : Int32) (y3 : Int32) (σ : fd_St) (H : Heap) (locs : List Loc) (ls : Array Slot), va_P D vwCl (fd_WM a k σ) H → va_S (fd_A 29 a s.heap.size) s.heap H locs → lv_has ls 5 [(0, .ref (a 28)), (1, .int y1), (2, .int y2), (3, .int y3)] → f_X11_insert_28_J34 N y1 y2 y3 σ = some r → W p l e ((headSpec wsX11_insert ({ frames := 0, cells := 0, slots := 0, locals := 0 })).room) s m ([.ref (a 28), .int p1, .int p2].toArray) below meth c H locs 0 0 (MQ below (va_Qi (fun v u => (v, u) = r) (fd_BM D a k) (fd_A 29 a s.heap.size)) ([.ref (a 28), .int p1, .int p2].toArray) s 0 0 (fd_A 29 a s.heap.size)) (F0 m 34 ls []) := by
    intro y1 y2 y3 σ H locs ls hP hS hl hf
    unfold f_X11_insert_28_J34 at hf
    refine lv_iload_n hx hb dX11_insert_34 rfl (lv_at hl 1 rfl) ?_
    refine lv_istore (lv' := [(4, .int y1), (0, .ref (a 28)), (1, .int y1), (2, .int y2), (3, .int y3)]) hx hb dX11_insert_35 hl (by decide) rfl (fun ls hl => ?_)
    exact hL37 N y1 y2 y3 y1 σ _ _ _ hP hS (lv_sub hl [1, 2, 3, 4, 0] rfl) hf
  have hL20 : ∀ (y1 : Int32) (y2 : Int32) (y3 : Int32) (σ : fd_St) (H : Heap) (locs : List Loc) (ls : Array Slot), va_P D vwCl (fd_WM a k σ) H → va_S (fd_A 29 a s.heap.size) s.heap H locs → lv_has ls 5 [(0, .ref (a 28)), (1, .int y1), (2, .int y2), (3, .int y3)] → f_X11_insert_28_J20 N y1 y2 y3 σ = some r → W p l e ((headSpec wsX11_insert ({ frames := 0, cells := 0, slots := 0, locals := 0 })).room) s m ([.ref (a 28), .int p1, .int p2].toArray) below meth c H locs 0 0 (MQ below (va_Qi (fun v u => (v, u) = r) (fd_BM D a k) (fd_A 29 a s.heap.size)) ([.ref (a 28), .int p1, .int p2].toArray) s 0 0 (fd_A 29 a s.heap.size)) (F0 m 20 ls []) := by
    intro y1 y2 y3 σ H locs ls hP hS hl hf
    unfold f_X11_insert_28_J20 at hf
    refine lv_iload_n hx hb dX11_insert_20 rfl (lv_at hl 3 rfl) ?_
    refine lv_iload_n hx hb dX11_insert_21 rfl (lv_at hl 1 rfl) ?_
    refine lv_icmp_ge (tgt := 34) hx hb dX11_insert_22 (by decide) (fun c2 => ?_) (fun c2 => ?_)
    · have hf := fd_itp c2 hf
      exact hL34 y1 y2 y3 σ _ _ _ hP hS (lv_sub hl [0, 1, 2, 3] rfl) hf
    · have hf := fd_itn c2 hf
      refine lv_aload_n hx hb dX11_insert_25 rfl (lv_at hl 0 rfl) ?_
      refine lv_iload_n hx hb dX11_insert_26 rfl (lv_at hl 3 rfl) ?_
      obtain ⟨g10, hf⟩ := fd_gds hf
      refine va_iald hx hb hK hP 28 27 fd_WM_28 fd_tyM_28 g10 dX11_insert_27 ?_
      refine lv_iload_n hx hb dX11_insert_28 rfl (lv_at hl 2 rfl) ?_
      refine lv_icmp_ne (tgt := 34) hx hb dX11_insert_29 (by decide) (fun c11 => ?_) (fun c11 => ?_)
      · have hf := fd_itn c11 hf
        exact hL34 y1 y2 y3 σ _ _ _ hP hS (lv_sub hl [0, 1, 2, 3] rfl) hf
      · have hf := fd_itp c11 hf
        refine lv_iload_n hx hb dX11_insert_32 rfl (lv_at hl 1 rfl) ?_
        exact W.iret (v := y1) hx hb hr (fun t ht hW => ⟨⟨y1, σ, rfl, Option.some.inj hf, by rw [ht]; exact hP, va_K.moved hW.alike hK⟩, hS.F ht⟩) hS.2.2 dX11_insert_33
  have hL2 : ∀ (n : Nat), ∀ (y1 : Int32) (y2 : Int32) (y3 : Int32) (σ : fd_St) (H : Heap) (locs : List Loc) (ls : Array Slot), va_P D vwCl (fd_WM a k σ) H → va_S (fd_A 29 a s.heap.size) s.heap H locs → lv_has ls 5 [(0, .ref (a 28)), (1, .int y1), (2, .int y2), (3, .int y3)] → f_X11_insert_28_L2 N n y1 y2 y3 σ = some r → W p l e ((headSpec wsX11_insert ({ frames := 0, cells := 0, slots := 0, locals := 0 })).room) s m ([.ref (a 28), .int p1, .int p2].toArray) below meth c H locs 0 0 (MQ below (va_Qi (fun v u => (v, u) = r) (fd_BM D a k) (fd_A 29 a s.heap.size)) ([.ref (a 28), .int p1, .int p2].toArray) s 0 0 (fd_A 29 a s.heap.size)) (F0 m 2 ls []) := by
    intro n
    induction n with
    | zero =>
      intro _ _ _ _ _ _ _ _ _ _ hf
      cases hf
    | succ n ih =>
      intro y1 y2 y3 σ H locs ls hP hS hl hf
      unfold f_X11_insert_28_L2 at hf
      refine lv_iload_n hx hb dX11_insert_2 rfl (lv_at hl 3 rfl) ?_
      refine lv_iload_n hx hb dX11_insert_3 rfl (lv_at hl 1 rfl) ?_
      refine lv_icmp_ge (tgt := 20) hx hb dX11_insert_4 (by decide) (fun c1 => ?_) (fun c1 => ?_)
      · have hf := fd_itp c1 hf
        exact hL20 y1 y2 y3 σ _ _ _ hP hS (lv_sub hl [0, 1, 2, 3] rfl) hf
      · have hf := fd_itn c1 hf
        refine lv_aload_n hx hb dX11_insert_7 rfl (lv_at hl 0 rfl) ?_
        refine lv_iload_n hx hb dX11_insert_8 rfl (lv_at hl 3 rfl) ?_
        obtain ⟨g12, hf⟩ := fd_gds hf
        refine va_iald hx hb hK hP 28 27 fd_WM_28 fd_tyM_28 g12 dX11_insert_9 ?_
        refine lv_iload_n hx hb dX11_insert_10 rfl (lv_at hl 2 rfl) ?_
        refine lv_icmp_ge (tgt := 20) hx hb dX11_insert_11 (by decide) (fun c13 => ?_) (fun c13 => ?_)
        · have hf := fd_itp c13 hf
          exact hL20 y1 y2 y3 σ _ _ _ hP hS (lv_sub hl [0, 1, 2, 3] rfl) hf
        · have hf := fd_itn c13 hf
          obtain ⟨x14, ex14, hf⟩ := fd_lts hf
          refine lv_iinc (v := x14) (lv' := [(3, .int x14), (0, .ref (a 28)), (1, .int y1), (2, .int y2)]) hx hb dX11_insert_14 hl (k := 3) rfl (by rw [ex14]; rfl) (by decide) rfl (fun ls hl => ?_)
          refine lv_goto (tgt := 2) hx hb dX11_insert_17 (by decide) ?_
          exact ih y1 y2 x14 σ _ _ _ hP hS (lv_sub hl [1, 2, 3, 0] rfl) hf
  unfold f_X11_insert_28 at hf
  refine lv_iconst (v := (0 : Int32)) hx hb dX11_insert_0 (by decide) ?_
  refine lv_istore_n (lv' := [(3, .int (0 : Int32)), (0, .ref (a 28)), (1, .int p1), (2, .int p2)]) hx hb dX11_insert_1 rfl hl (by decide) rfl (fun ls hl => ?_)
  exact hL2 N p1 p2 (0 : Int32) σ _ _ _ hP hS (lv_sub hl [1, 2, 3, 0] rfl) hf
noncomputable def f_X11_areaOf_0_J217 (N : Nat) (k110 : Int32 → Int32 → Int32 → Int32 → Int32 → Int32 → Int32 → fd_St → Option (Int32 × fd_St)) (k122 : Int32 → Int32 → Int32 → Int32 → Int32 → Int32 → Int32 → Int32 → fd_St → Option (Int32 × fd_St)) (y1 : Int32) (y2 : Int32) (y3 : Int32) (y4 : Int32) (y5 : Int32) (y6 : Int32) (y7 : Int32) (y8 : Int32) (σ : fd_St) : Option (Int32 × fd_St) := fd_lt (y8 + (1 : Int32)) (fun x13 => k122 y1 y2 y3 y4 y5 y6 y7 x13 σ)
noncomputable def f_X11_areaOf_0_L122 (N : Nat) (k110 : Int32 → Int32 → Int32 → Int32 → Int32 → Int32 → Int32 → fd_St → Option (Int32 × fd_St)) : Nat → Int32 → Int32 → Int32 → Int32 → Int32 → Int32 → Int32 → Int32 → fd_St → Option (Int32 × fd_St)
  | 0 => fun _ _ _ _ _ _ _ _ _ => none
  | n + 1 => fun y1 y2 y3 y4 y5 y6 y7 y8 σ => if y5 ≤ (y8 + (1 : Int32)) then (fd_lt (y7 + (1 : Int32)) (fun x4 => k110 y1 y2 y3 y4 y5 y6 x4 σ)) else (fd_gd (vp_in y7 122) (fd_gd (vp_in y8 122) (fd_bd (f_X11_covers_0 N y1 (σ.2.1 27 y7.toNatClampNeg) (σ.2.1 28 y8.toNatClampNeg) y3 σ) (fun v8 σ9 => if v8 = 0 then (f_X11_areaOf_0_J217 N k110 (f_X11_areaOf_0_L122 N k110 n) y1 y2 y3 y4 y5 y6 y7 y8 σ9) else (fd_gd (vp_in y7 122) (fd_gd (vp_in y8 122) (fd_bd (f_X11_covers_0 N y2 (σ9.2.1 27 y7.toNatClampNeg) (σ9.2.1 28 y8.toNatClampNeg) y3 σ9) (fun v17 σ18 => if v17 = 0 then (f_X11_areaOf_0_J217 N k110 (f_X11_areaOf_0_L122 N k110 n) y1 y2 y3 y4 y5 y6 y7 y8 σ18) else (fd_gd (vp_in (y7 + (1 : Int32)) 122) (fd_gd (vp_in y7 122) (fd_gd (vp_in (y8 + (1 : Int32)) 122) (fd_gd (vp_in y8 122) (fd_lt (y6 + (((σ18.2.1 27 (y7 + (1 : Int32)).toNatClampNeg) - (σ18.2.1 27 y7.toNatClampNeg)) * ((σ18.2.1 28 (y8 + (1 : Int32)).toNatClampNeg) - (σ18.2.1 28 y8.toNatClampNeg)))) (fun x26 => f_X11_areaOf_0_J217 N k110 (f_X11_areaOf_0_L122 N k110 n) y1 y2 y3 y4 y5 x26 y7 y8 σ18))))))))))))))
noncomputable def f_X11_areaOf_0_L110 (N : Nat) : Nat → Int32 → Int32 → Int32 → Int32 → Int32 → Int32 → Int32 → fd_St → Option (Int32 × fd_St)
  | 0 => fun _ _ _ _ _ _ _ _ => none
  | n + 1 => fun y1 y2 y3 y4 y5 y6 y7 σ => if y4 ≤ (y7 + (1 : Int32)) then (some (y6, σ)) else (f_X11_areaOf_0_L122 N (f_X11_areaOf_0_L110 N n) N y1 y2 y3 y4 y5 y6 y7 (0 : Int32) σ)
noncomputable def f_X11_areaOf_0_L9 (N : Nat) : Nat → Int32 → Int32 → Int32 → Int32 → Int32 → Int32 → fd_St → Option (Int32 × fd_St)
  | 0 => fun _ _ _ _ _ _ _ => none
  | n + 1 => fun y1 y2 y3 y4 y5 y6 σ => if (σ.1 14) ≤ y6 then (f_X11_areaOf_0_L110 N N y1 y2 y3 y4 y5 (0 : Int32) (0 : Int32) σ) else (fd_gd (vp_in y6 60) (fd_bd (f_X11_insert_27 N y4 ((σ.2.1 23 y6.toNatClampNeg) - y3) σ) (fun v29 σ30 => fd_gd (vp_in y6 60) (fd_bd (f_X11_insert_27 N v29 ((σ30.2.1 25 y6.toNatClampNeg) + y3) σ30) (fun v35 σ36 => fd_gd (vp_in y6 60) (fd_bd (f_X11_insert_28 N y5 ((σ36.2.1 24 y6.toNatClampNeg) - y3) σ36) (fun v41 σ42 => fd_gd (vp_in y6 60) (fd_bd (f_X11_insert_28 N v41 ((σ42.2.1 26 y6.toNatClampNeg) + y3) σ42) (fun v47 σ48 => fd_lt (y6 + (1 : Int32)) (fun x51 => (f_X11_areaOf_0_L9 N n) y1 y2 y3 v35 v47 x51 σ48))))))))))
noncomputable def f_X11_areaOf_0 (N : Nat) (p1 : Int32) (p2 : Int32) (p3 : Int32) (σ : fd_St) : Option (Int32 × fd_St) := f_X11_areaOf_0_L9 N N p1 p2 p3 (0 : Int32) (0 : Int32) (0 : Int32) σ
set_option maxHeartbeats 4000000 in
set_option maxRecDepth 100000 in
theorem m_X11_areaOf_0 (l : Launch) (D : va_G) (a : Nat → Nat) (k : Nat → ClassId) (sz : Nat) (hI : fd_I 29 a) (N : Nat) (p1 : Int32) (p2 : Int32) (p3 : Int32) (σ : fd_St) (r : Int32 × fd_St) (hf : f_X11_areaOf_0 N p1 p2 p3 σ = some r) : Met l yX11_areaOf wsX11_areaOf ({ frames := 1, cells := 0, slots := 0, locals := 25 }) (va_Pc [.ref (a 0), .int p1, .int p2, .int p3] (fd_PM D a k sz σ)) (va_Qi (fun v u => (v, u) = r) (fd_BM D a k) (fd_A 29 a sz)) 0 0 (fd_A 29 a sz) := by
  refine Met.ofW (cc := cX11_areaOf) (maxL := 9) (ret := (some .int)) (by decide) rfl ?_
  intro p e s m args below meth c s₁ B hml hv
  obtain ⟨rfl, hsz, hP, hK⟩ := hv
  have hx := B.exec
  have hb := B.bytes
  have hr := B.returns
  have hts := atoms_spec (ws := wsX11_areaOf) B.pre
  have hown : s.vm.findClass RX11 = some m.cls := findClass_of_methodNamed B.named
  have hlocks := B.notSynchronized
  subst hsz
  have hJ : ∀ i, i < 29 → fd_A 29 a s.heap.size (a i) := fun i hi => Or.inl ⟨i, hi, rfl⟩
  have hS : va_S (fd_A 29 a s.heap.size) s.heap s.heap [] := va_S.rf
  have hl := lv_entry ([.ref (a 0), .int p1, .int p2, .int p3]) (n := 9) (Nat.le_of_ble_eq_true rfl)
  rw [lg_entry_eq]
  generalize (lg_sl ([.ref (a 0), .int p1, .int p2, .int p3]) ++ List.replicate (9 - (lg_sl ([.ref (a 0), .int p1, .int p2, .int p3])).length) Slot.unset).toArray = ls at hl ⊢
  have hl : lv_has ls 9 [(0, .ref (a 0)), (1, .int p1), (2, .int p2), (3, .int p3)] := hl
  have h9X11 : ∀ w ∈ u_ws RX11 TX11 43, w ∈ wsX11_areaOf := fd_su [17, 18, 19, 20, 21, 22, 23, 24, 25, 26, 27, 28, 29, 30, 31, 32, 33, 34, 35, 36, 37, 38, 39, 40, 41, 42, 43, 44, 45, 46, 47, 48, 49, 50, 51, 52, 53, 54, 55, 56, 57, 58, 59] (by eq_refl)
  have hL217 : ∀ (k110 : Int32 → Int32 → Int32 → Int32 → Int32 → Int32 → Int32 → fd_St → Option (Int32 × fd_St)) (hk110 : ∀ (y1 : Int32) (y2 : Int32) (y3 : Int32) (y4 : Int32) (y5 : Int32) (y6 : Int32) (y7 : Int32) (σ : fd_St) (H : Heap) (locs : List Loc) (ls : Array Slot), va_P D vwCl (fd_WM a k σ) H → va_S (fd_A 29 a s.heap.size) s.heap H locs → lv_has ls 9 [(0, .ref (a 0)), (1, .int y1), (2, .int y2), (3, .int y3), (4, .int y4), (5, .int y5), (6, .int y6), (7, .int y7)] → k110 y1 y2 y3 y4 y5 y6 y7 σ = some r → W p l e ((headSpec wsX11_areaOf ({ frames := 1, cells := 0, slots := 0, locals := 25 })).room) s m ([.ref (a 0), .int p1, .int p2, .int p3].toArray) below meth c H locs 0 0 (MQ below (va_Qi (fun v u => (v, u) = r) (fd_BM D a k) (fd_A 29 a s.heap.size)) ([.ref (a 0), .int p1, .int p2, .int p3].toArray) s 0 0 (fd_A 29 a s.heap.size)) (F0 m 110 ls [])) (k122 : Int32 → Int32 → Int32 → Int32 → Int32 → Int32 → Int32 → Int32 → fd_St → Option (Int32 × fd_St)) (hk122 : ∀ (y1 : Int32) (y2 : Int32) (y3 : Int32) (y4 : Int32) (y5 : Int32) (y6 : Int32) (y7 : Int32) (y8 : Int32) (σ : fd_St) (H : Heap) (locs : List Loc) (ls : Array Slot), va_P D vwCl (fd_WM a k σ) H → va_S (fd_A 29 a s.heap.size) s.heap H locs → lv_has ls 9 [(0, .ref (a 0)), (1, .int y1), (2, .int y2), (3, .int y3), (4, .int y4), (5, .int y5), (6, .int y6), (7, .int y7), (8, .int y8)] → k122 y1 y2 y3 y4 y5 y6 y7 y8 σ = some r → W p l e ((headSpec wsX11_areaOf ({ frames := 1, cells := 0, slots := 0, locals := 25 })).room) s m ([.ref (a 0), .int p1, .int p2, .int p3].toArray) below meth c H locs 0 0 (MQ below (va_Qi (fun v u => (v, u) = r) (fd_BM D a k) (fd_A 29 a s.heap.size)) ([.ref (a 0), .int p1, .int p2, .int p3].toArray) s 0 0 (fd_A 29 a s.heap.size)) (F0 m 122 ls [])), ∀ (y1 : Int32) (y2 : Int32) (y3 : Int32) (y4 : Int32) (y5 : Int32) (y6 : Int32) (y7 : Int32) (y8 : Int32) (σ : fd_St) (H : Heap) (locs : List Loc) (ls : Array Slot), va_P D vwCl (fd_WM a k σ) H → va_S (fd_A 29 a s.heap.size) s.heap H locs → lv_has ls 9 [(0, .ref (a 0)), (1, .int y1), (2, .int y2), (3, .int y3), (4, .int y4), (5, .int y5), (6, .int y6), (7, .int y7), (8, .int y8)] → f_X11_areaOf_0_J217 N k110 k122 y1 y2 y3 y4 y5 y6 y7 y8 σ = some r → W p l e ((headSpec wsX11_areaOf ({ frames := 1, cells := 0, slots := 0, locals := 25 })).room) s m ([.ref (a 0), .int p1, .int p2, .int p3].toArray) below meth c H locs 0 0 (MQ below (va_Qi (fun v u => (v, u) = r) (fd_BM D a k) (fd_A 29 a s.heap.size)) ([.ref (a 0), .int p1, .int p2, .int p3].toArray) s 0 0 (fd_A 29 a s.heap.size)) (F0 m 217 ls []) := by
    intro k110 hk110 k122 hk122 y1 y2 y3 y4 y5 y6 y7 y8 σ H locs ls hP hS hl hf
    unfold f_X11_areaOf_0_J217 at hf
    obtain ⟨x13, ex13, hf⟩ := fd_lts hf
    refine lv_iinc (v := x13) (lv' := [(8, .int x13), (0, .ref (a 0)), (1, .int y1), (2, .int y2), (3, .int y3), (4, .int y4), (5, .int y5), (6, .int y6), (7, .int y7)]) hx hb dX11_areaOf_217 hl (k := 8) rfl (by rw [ex13]; rfl) (by decide) rfl (fun ls hl => ?_)
    refine lv_goto (tgt := 122) hx hb dX11_areaOf_220 (by decide) ?_
    exact hk122 y1 y2 y3 y4 y5 y6 y7 x13 σ _ _ _ hP hS (lv_sub hl [1, 2, 3, 4, 5, 6, 7, 8, 0] rfl) hf
  have hL122 : ∀ (k110 : Int32 → Int32 → Int32 → Int32 → Int32 → Int32 → Int32 → fd_St → Option (Int32 × fd_St)) (hk110 : ∀ (y1 : Int32) (y2 : Int32) (y3 : Int32) (y4 : Int32) (y5 : Int32) (y6 : Int32) (y7 : Int32) (σ : fd_St) (H : Heap) (locs : List Loc) (ls : Array Slot), va_P D vwCl (fd_WM a k σ) H → va_S (fd_A 29 a s.heap.size) s.heap H locs → lv_has ls 9 [(0, .ref (a 0)), (1, .int y1), (2, .int y2), (3, .int y3), (4, .int y4), (5, .int y5), (6, .int y6), (7, .int y7)] → k110 y1 y2 y3 y4 y5 y6 y7 σ = some r → W p l e ((headSpec wsX11_areaOf ({ frames := 1, cells := 0, slots := 0, locals := 25 })).room) s m ([.ref (a 0), .int p1, .int p2, .int p3].toArray) below meth c H locs 0 0 (MQ below (va_Qi (fun v u => (v, u) = r) (fd_BM D a k) (fd_A 29 a s.heap.size)) ([.ref (a 0), .int p1, .int p2, .int p3].toArray) s 0 0 (fd_A 29 a s.heap.size)) (F0 m 110 ls [])) (n : Nat), ∀ (y1 : Int32) (y2 : Int32) (y3 : Int32) (y4 : Int32) (y5 : Int32) (y6 : Int32) (y7 : Int32) (y8 : Int32) (σ : fd_St) (H : Heap) (locs : List Loc) (ls : Array Slot), va_P D vwCl (fd_WM a k σ) H → va_S (fd_A 29 a s.heap.size) s.heap H locs → lv_has ls 9 [(0, .ref (a 0)), (1, .int y1), (2, .int y2), (3, .int y3), (4, .int y4), (5, .int y5), (6, .int y6), (7, .int y7), (8, .int y8)] → f_X11_areaOf_0_L122 N k110 n y1 y2 y3 y4 y5 y6 y7 y8 σ = some r → W p l e ((headSpec wsX11_areaOf ({ frames := 1, cells := 0, slots := 0, locals := 25 })).room) s m ([.ref (a 0), .int p1, .int p2, .int p3].toArray) below meth c H locs 0 0 (MQ below (va_Qi (fun v u => (v, u) = r) (fd_BM D a k) (fd_A 29 a s.heap.size)) ([.ref (a 0), .int p1, .int p2, .int p3].toArray) s 0 0 (fd_A 29 a s.heap.size)) (F0 m 122 ls []) := by
    intro k110 hk110 n
    induction n with
    | zero =>
      intro _ _ _ _ _ _ _ _ _ _ _ _ _ _ _ hf
      cases hf
    | succ n ih =>
      intro y1 y2 y3 y4 y5 y6 y7 y8 σ H locs ls hP hS hl hf
      unfold f_X11_areaOf_0_L122 at hf
      refine lv_iload hx hb dX11_areaOf_122 (lv_at hl 8 rfl) ?_
      refine lv_iconst (v := (1 : Int32)) hx hb dX11_areaOf_124 (by decide) ?_
      refine lv_iadd hx hb dX11_areaOf_125 ?_
      refine lv_iload hx hb dX11_areaOf_126 (lv_at hl 5 rfl) ?_
      refine lv_icmp_ge (tgt := 223) hx hb dX11_areaOf_128 (by decide) (fun c3 => ?_) (fun c3 => ?_)
      · have hf := fd_itp c3 hf
        obtain ⟨x4, ex4, hf⟩ := fd_lts hf
        refine lv_iinc (v := x4) (lv' := [(7, .int x4), (0, .ref (a 0)), (1, .int y1), (2, .int y2), (3, .int y3), (4, .int y4), (5, .int y5), (6, .int y6), (8, .int y8)]) hx hb dX11_areaOf_223 hl (k := 7) rfl (by rw [ex4]; rfl) (by decide) rfl (fun ls hl => ?_)
        refine lv_goto (tgt := 110) hx hb dX11_areaOf_226 (by decide) ?_
        exact hk110 y1 y2 y3 y4 y5 y6 x4 σ _ _ _ hP hS (lv_sub hl [1, 2, 3, 4, 5, 6, 7, 0] rfl) hf
      · have hf := fd_itn c3 hf
        refine lv_aload_n hx hb dX11_areaOf_131 rfl (lv_at hl 0 rfl) ?_
        refine lv_iload_n hx hb dX11_areaOf_132 rfl (lv_at hl 1 rfl) ?_
        refine lv_aload_n hx hb dX11_areaOf_133 rfl (lv_at hl 0 rfl) ?_
        refine va_get (ci := 11) (v := .ref (a 27)) (C := RX11) (T := TX11) (N := 43) hx hb hts h9X11 hown hK hP 0 fd_WM_0 rfl 41 (by decide) (hts (.fieldLink RX11 90 "FailDiagnoseModel" "xs" "[I") (List.mem_of_getElem? (i := 2) (by eq_refl))) (fun _ h9 => h9) rfl dX11_areaOf_134 ?_
        refine lv_iload hx hb dX11_areaOf_137 (lv_at hl 7 rfl) ?_
        obtain ⟨g5, hf⟩ := fd_gds hf
        refine va_iald hx hb hK hP 27 26 fd_WM_27 fd_tyM_27 g5 dX11_areaOf_139 ?_
        refine lv_aload_n hx hb dX11_areaOf_140 rfl (lv_at hl 0 rfl) ?_
        refine va_get (ci := 11) (v := .ref (a 28)) (C := RX11) (T := TX11) (N := 43) hx hb hts h9X11 hown hK hP 0 fd_WM_0 rfl 42 (by decide) (hts (.fieldLink RX11 93 "FailDiagnoseModel" "ys" "[I") (List.mem_of_getElem? (i := 5) (by eq_refl))) (fun _ h9 => h9) rfl dX11_areaOf_141 ?_
        refine lv_iload hx hb dX11_areaOf_144 (lv_at hl 8 rfl) ?_
        obtain ⟨g6, hf⟩ := fd_gds hf
        refine va_iald hx hb hK hP 28 27 fd_WM_28 fd_tyM_28 g6 dX11_areaOf_146 ?_
        refine lv_iload_n hx hb dX11_areaOf_147 rfl (lv_at hl 3 rfl) ?_
        obtain ⟨w10, τ11, hc7, hf⟩ := fd_bds hf
        refine va_calli (va_runV (As := [.int y1, .int (σ.2.1 27 y7.toNatClampNeg), .int (σ.2.1 28 y8.toNatClampNeg), .int y3]) (rest := []) ⟨hx, hb, hml, hown, hts⟩ (m_X11_covers_0 l D a k H.size hI N y1 (σ.2.1 27 y7.toNatClampNeg) (σ.2.1 28 y8.toNatClampNeg) y3 σ _ hc7) (cwV 4 hts gX11_areaOf_X11_covers rfl rfl rfl (by decide +kernel) ⟨Nat.le_of_ble_eq_true rfl, Nat.le_of_ble_eq_true rfl⟩) ⟨fd_blM, va_recv hK hP (ci := 11) (q0 := 0) rfl fd_WM_0, fd_prM hP hK⟩ rfl rfl hl.1 rfl (lv_room (Nat.le_of_ble_eq_true rfl)) dX11_areaOf_148 ⟨Nat.zero_le _, Nat.zero_le _⟩) hS (fun q _ h => fd_A_mono hS.1 h) (fun q h => fd_A_mono hS.1 h) (fun v8 u t H1 locs ht hvm hw hB hz hk hS => ?_)
        obtain ⟨hP1, hK1⟩ := hB
        rw [ht] at hP1
        obtain ⟨e1, e2⟩ := Prod.mk.inj hw
        subst e1
        subst e2
        obtain ⟨σ9, rfl⟩ : ∃ z, z = u := ⟨_, rfl⟩
        have hP := hP1
        generalize H1 = H at hP hS ⊢
        refine lv_if_eq (tgt := 217) hx hb dX11_areaOf_151 (by decide) (fun c12 => ?_) (fun c12 => ?_)
        · have hf := fd_itp c12 hf
          exact hL217 k110 hk110 (f_X11_areaOf_0_L122 N k110 n) ih y1 y2 y3 y4 y5 y6 y7 y8 σ9 _ _ _ hP hS (lv_sub hl [0, 1, 2, 3, 4, 5, 6, 7, 8] rfl) hf
        · have hf := fd_itn c12 hf
          refine lv_aload_n hx hb dX11_areaOf_154 rfl (lv_at hl 0 rfl) ?_
          refine lv_iload_n hx hb dX11_areaOf_155 rfl (lv_at hl 2 rfl) ?_
          refine lv_aload_n hx hb dX11_areaOf_156 rfl (lv_at hl 0 rfl) ?_
          refine va_get (ci := 11) (v := .ref (a 27)) (C := RX11) (T := TX11) (N := 43) hx hb hts h9X11 hown hK hP 0 fd_WM_0 rfl 41 (by decide) (hts (.fieldLink RX11 90 "FailDiagnoseModel" "xs" "[I") (List.mem_of_getElem? (i := 2) (by eq_refl))) (fun _ h9 => h9) rfl dX11_areaOf_157 ?_
          refine lv_iload hx hb dX11_areaOf_160 (lv_at hl 7 rfl) ?_
          obtain ⟨g14, hf⟩ := fd_gds hf
          refine va_iald hx hb hK hP 27 26 fd_WM_27 fd_tyM_27 g14 dX11_areaOf_162 ?_
          refine lv_aload_n hx hb dX11_areaOf_163 rfl (lv_at hl 0 rfl) ?_
          refine va_get (ci := 11) (v := .ref (a 28)) (C := RX11) (T := TX11) (N := 43) hx hb hts h9X11 hown hK hP 0 fd_WM_0 rfl 42 (by decide) (hts (.fieldLink RX11 93 "FailDiagnoseModel" "ys" "[I") (List.mem_of_getElem? (i := 5) (by eq_refl))) (fun _ h9 => h9) rfl dX11_areaOf_164 ?_
          refine lv_iload hx hb dX11_areaOf_167 (lv_at hl 8 rfl) ?_
          obtain ⟨g15, hf⟩ := fd_gds hf
          refine va_iald hx hb hK hP 28 27 fd_WM_28 fd_tyM_28 g15 dX11_areaOf_169 ?_
          refine lv_iload_n hx hb dX11_areaOf_170 rfl (lv_at hl 3 rfl) ?_
          obtain ⟨w19, τ20, hc16, hf⟩ := fd_bds hf
          refine va_calli (va_runV (As := [.int y2, .int (σ9.2.1 27 y7.toNatClampNeg), .int (σ9.2.1 28 y8.toNatClampNeg), .int y3]) (rest := []) ⟨hx, hb, hml, hown, hts⟩ (m_X11_covers_0 l D a k H.size hI N y2 (σ9.2.1 27 y7.toNatClampNeg) (σ9.2.1 28 y8.toNatClampNeg) y3 σ9 _ hc16) (cwV 4 hts gX11_areaOf_X11_covers rfl rfl rfl (by decide +kernel) ⟨Nat.le_of_ble_eq_true rfl, Nat.le_of_ble_eq_true rfl⟩) ⟨fd_blM, va_recv hK hP (ci := 11) (q0 := 0) rfl fd_WM_0, fd_prM hP hK⟩ rfl rfl hl.1 rfl (lv_room (Nat.le_of_ble_eq_true rfl)) dX11_areaOf_171 ⟨Nat.zero_le _, Nat.zero_le _⟩) hS (fun q _ h => fd_A_mono hS.1 h) (fun q h => fd_A_mono hS.1 h) (fun v17 u t H1 locs ht hvm hw hB hz hk hS => ?_)
          obtain ⟨hP1, hK1⟩ := hB
          rw [ht] at hP1
          obtain ⟨e1, e2⟩ := Prod.mk.inj hw
          subst e1
          subst e2
          obtain ⟨σ18, rfl⟩ : ∃ z, z = u := ⟨_, rfl⟩
          have hP := hP1
          generalize H1 = H at hP hS ⊢
          refine lv_if_eq (tgt := 217) hx hb dX11_areaOf_174 (by decide) (fun c21 => ?_) (fun c21 => ?_)
          · have hf := fd_itp c21 hf
            exact hL217 k110 hk110 (f_X11_areaOf_0_L122 N k110 n) ih y1 y2 y3 y4 y5 y6 y7 y8 σ18 _ _ _ hP hS (lv_sub hl [0, 1, 2, 3, 4, 5, 6, 7, 8] rfl) hf
          · have hf := fd_itn c21 hf
            refine lv_iload hx hb dX11_areaOf_177 (lv_at hl 6 rfl) ?_
            refine lv_aload_n hx hb dX11_areaOf_179 rfl (lv_at hl 0 rfl) ?_
            refine va_get (ci := 11) (v := .ref (a 27)) (C := RX11) (T := TX11) (N := 43) hx hb hts h9X11 hown hK hP 0 fd_WM_0 rfl 41 (by decide) (hts (.fieldLink RX11 90 "FailDiagnoseModel" "xs" "[I") (List.mem_of_getElem? (i := 2) (by eq_refl))) (fun _ h9 => h9) rfl dX11_areaOf_180 ?_
            refine lv_iload hx hb dX11_areaOf_183 (lv_at hl 7 rfl) ?_
            refine lv_iconst (v := (1 : Int32)) hx hb dX11_areaOf_185 (by decide) ?_
            refine lv_iadd hx hb dX11_areaOf_186 ?_
            obtain ⟨g22, hf⟩ := fd_gds hf
            refine va_iald hx hb hK hP 27 26 fd_WM_27 fd_tyM_27 g22 dX11_areaOf_187 ?_
            refine lv_aload_n hx hb dX11_areaOf_188 rfl (lv_at hl 0 rfl) ?_
            refine va_get (ci := 11) (v := .ref (a 27)) (C := RX11) (T := TX11) (N := 43) hx hb hts h9X11 hown hK hP 0 fd_WM_0 rfl 41 (by decide) (hts (.fieldLink RX11 90 "FailDiagnoseModel" "xs" "[I") (List.mem_of_getElem? (i := 2) (by eq_refl))) (fun _ h9 => h9) rfl dX11_areaOf_189 ?_
            refine lv_iload hx hb dX11_areaOf_192 (lv_at hl 7 rfl) ?_
            obtain ⟨g23, hf⟩ := fd_gds hf
            refine va_iald hx hb hK hP 27 26 fd_WM_27 fd_tyM_27 g23 dX11_areaOf_194 ?_
            refine lv_isub hx hb dX11_areaOf_195 ?_
            refine lv_aload_n hx hb dX11_areaOf_196 rfl (lv_at hl 0 rfl) ?_
            refine va_get (ci := 11) (v := .ref (a 28)) (C := RX11) (T := TX11) (N := 43) hx hb hts h9X11 hown hK hP 0 fd_WM_0 rfl 42 (by decide) (hts (.fieldLink RX11 93 "FailDiagnoseModel" "ys" "[I") (List.mem_of_getElem? (i := 5) (by eq_refl))) (fun _ h9 => h9) rfl dX11_areaOf_197 ?_
            refine lv_iload hx hb dX11_areaOf_200 (lv_at hl 8 rfl) ?_
            refine lv_iconst (v := (1 : Int32)) hx hb dX11_areaOf_202 (by decide) ?_
            refine lv_iadd hx hb dX11_areaOf_203 ?_
            obtain ⟨g24, hf⟩ := fd_gds hf
            refine va_iald hx hb hK hP 28 27 fd_WM_28 fd_tyM_28 g24 dX11_areaOf_204 ?_
            refine lv_aload_n hx hb dX11_areaOf_205 rfl (lv_at hl 0 rfl) ?_
            refine va_get (ci := 11) (v := .ref (a 28)) (C := RX11) (T := TX11) (N := 43) hx hb hts h9X11 hown hK hP 0 fd_WM_0 rfl 42 (by decide) (hts (.fieldLink RX11 93 "FailDiagnoseModel" "ys" "[I") (List.mem_of_getElem? (i := 5) (by eq_refl))) (fun _ h9 => h9) rfl dX11_areaOf_206 ?_
            refine lv_iload hx hb dX11_areaOf_209 (lv_at hl 8 rfl) ?_
            obtain ⟨g25, hf⟩ := fd_gds hf
            refine va_iald hx hb hK hP 28 27 fd_WM_28 fd_tyM_28 g25 dX11_areaOf_211 ?_
            refine lv_isub hx hb dX11_areaOf_212 ?_
            refine lv_imul hx hb dX11_areaOf_213 ?_
            refine lv_iadd hx hb dX11_areaOf_214 ?_
            obtain ⟨x26, ex26, hf⟩ := fd_lts hf
            refine fd_ni ex26 ?_
            refine lv_istore (lv' := [(6, .int x26), (0, .ref (a 0)), (1, .int y1), (2, .int y2), (3, .int y3), (4, .int y4), (5, .int y5), (7, .int y7), (8, .int y8)]) hx hb dX11_areaOf_215 hl (by decide) rfl (fun ls hl => ?_)
            exact hL217 k110 hk110 (f_X11_areaOf_0_L122 N k110 n) ih y1 y2 y3 y4 y5 x26 y7 y8 σ18 _ _ _ hP hS (lv_sub hl [1, 2, 3, 4, 5, 6, 0, 7, 8] rfl) hf
  have hL110 : ∀ (n : Nat), ∀ (y1 : Int32) (y2 : Int32) (y3 : Int32) (y4 : Int32) (y5 : Int32) (y6 : Int32) (y7 : Int32) (σ : fd_St) (H : Heap) (locs : List Loc) (ls : Array Slot), va_P D vwCl (fd_WM a k σ) H → va_S (fd_A 29 a s.heap.size) s.heap H locs → lv_has ls 9 [(0, .ref (a 0)), (1, .int y1), (2, .int y2), (3, .int y3), (4, .int y4), (5, .int y5), (6, .int y6), (7, .int y7)] → f_X11_areaOf_0_L110 N n y1 y2 y3 y4 y5 y6 y7 σ = some r → W p l e ((headSpec wsX11_areaOf ({ frames := 1, cells := 0, slots := 0, locals := 25 })).room) s m ([.ref (a 0), .int p1, .int p2, .int p3].toArray) below meth c H locs 0 0 (MQ below (va_Qi (fun v u => (v, u) = r) (fd_BM D a k) (fd_A 29 a s.heap.size)) ([.ref (a 0), .int p1, .int p2, .int p3].toArray) s 0 0 (fd_A 29 a s.heap.size)) (F0 m 110 ls []) := by
    intro n
    induction n with
    | zero =>
      intro _ _ _ _ _ _ _ _ _ _ _ _ _ _ hf
      cases hf
    | succ n ih =>
      intro y1 y2 y3 y4 y5 y6 y7 σ H locs ls hP hS hl hf
      unfold f_X11_areaOf_0_L110 at hf
      refine lv_iload hx hb dX11_areaOf_110 (lv_at hl 7 rfl) ?_
      refine lv_iconst (v := (1 : Int32)) hx hb dX11_areaOf_112 (by decide) ?_
      refine lv_iadd hx hb dX11_areaOf_113 ?_
      refine lv_iload hx hb dX11_areaOf_114 (lv_at hl 4 rfl) ?_
      refine lv_icmp_ge (tgt := 229) hx hb dX11_areaOf_116 (by decide) (fun c2 => ?_) (fun c2 => ?_)
      · have hf := fd_itp c2 hf
        refine lv_iload hx hb dX11_areaOf_229 (lv_at hl 6 rfl) ?_
        exact W.iret (v := y6) hx hb hr (fun t ht hW => ⟨⟨y6, σ, rfl, Option.some.inj hf, by rw [ht]; exact hP, va_K.moved hW.alike hK⟩, hS.F ht⟩) hS.2.2 dX11_areaOf_231
      · have hf := fd_itn c2 hf
        refine lv_iconst (v := (0 : Int32)) hx hb dX11_areaOf_119 (by decide) ?_
        refine lv_istore (lv' := [(8, .int (0 : Int32)), (0, .ref (a 0)), (1, .int y1), (2, .int y2), (3, .int y3), (4, .int y4), (5, .int y5), (6, .int y6), (7, .int y7)]) hx hb dX11_areaOf_120 hl (by decide) rfl (fun ls hl => ?_)
        exact hL122 (f_X11_areaOf_0_L110 N n) ih N y1 y2 y3 y4 y5 y6 y7 (0 : Int32) σ _ _ _ hP hS (lv_sub hl [1, 2, 3, 4, 5, 6, 7, 8, 0] rfl) hf
  have hL9 : ∀ (n : Nat), ∀ (y1 : Int32) (y2 : Int32) (y3 : Int32) (y4 : Int32) (y5 : Int32) (y6 : Int32) (σ : fd_St) (H : Heap) (locs : List Loc) (ls : Array Slot), va_P D vwCl (fd_WM a k σ) H → va_S (fd_A 29 a s.heap.size) s.heap H locs → lv_has ls 9 [(0, .ref (a 0)), (1, .int y1), (2, .int y2), (3, .int y3), (4, .int y4), (5, .int y5), (6, .int y6)] → f_X11_areaOf_0_L9 N n y1 y2 y3 y4 y5 y6 σ = some r → W p l e ((headSpec wsX11_areaOf ({ frames := 1, cells := 0, slots := 0, locals := 25 })).room) s m ([.ref (a 0), .int p1, .int p2, .int p3].toArray) below meth c H locs 0 0 (MQ below (va_Qi (fun v u => (v, u) = r) (fd_BM D a k) (fd_A 29 a s.heap.size)) ([.ref (a 0), .int p1, .int p2, .int p3].toArray) s 0 0 (fd_A 29 a s.heap.size)) (F0 m 9 ls []) := by
    intro n
    induction n with
    | zero =>
      intro _ _ _ _ _ _ _ _ _ _ _ _ _ hf
      cases hf
    | succ n ih =>
      intro y1 y2 y3 y4 y5 y6 σ H locs ls hP hS hl hf
      unfold f_X11_areaOf_0_L9 at hf
      refine lv_iload hx hb dX11_areaOf_9 (lv_at hl 6 rfl) ?_
      refine lv_aload_n hx hb dX11_areaOf_11 rfl (lv_at hl 0 rfl) ?_
      refine va_get (ci := 11) (v := .int (σ.1 14)) (C := RX11) (T := TX11) (N := 43) hx hb hts h9X11 hown hK hP 0 fd_WM_0 rfl 35 (by decide) (hts (.fieldLink RX11 198 "FailDiagnoseModel" "shapes" "I") (List.mem_of_getElem? (i := 1) (by eq_refl))) (fun _ h9 => h9) rfl dX11_areaOf_12 ?_
      refine lv_icmp_ge (tgt := 104) hx hb dX11_areaOf_15 (by decide) (fun c1 => ?_) (fun c1 => ?_)
      · have hf := fd_itp c1 hf
        refine lv_iconst (v := (0 : Int32)) hx hb dX11_areaOf_104 (by decide) ?_
        refine lv_istore (lv' := [(6, .int (0 : Int32)), (0, .ref (a 0)), (1, .int y1), (2, .int y2), (3, .int y3), (4, .int y4), (5, .int y5)]) hx hb dX11_areaOf_105 hl (by decide) rfl (fun ls hl => ?_)
        refine lv_iconst (v := (0 : Int32)) hx hb dX11_areaOf_107 (by decide) ?_
        refine lv_istore (lv' := [(7, .int (0 : Int32)), (6, .int (0 : Int32)), (0, .ref (a 0)), (1, .int y1), (2, .int y2), (3, .int y3), (4, .int y4), (5, .int y5)]) hx hb dX11_areaOf_108 hl (by decide) rfl (fun ls hl => ?_)
        exact hL110 N y1 y2 y3 y4 y5 (0 : Int32) (0 : Int32) σ _ _ _ hP hS (lv_sub hl [2, 3, 4, 5, 6, 7, 1, 0] rfl) hf
      · have hf := fd_itn c1 hf
        refine lv_aload_n hx hb dX11_areaOf_18 rfl (lv_at hl 0 rfl) ?_
        refine va_get (ci := 11) (v := .ref (a 27)) (C := RX11) (T := TX11) (N := 43) hx hb hts h9X11 hown hK hP 0 fd_WM_0 rfl 41 (by decide) (hts (.fieldLink RX11 90 "FailDiagnoseModel" "xs" "[I") (List.mem_of_getElem? (i := 2) (by eq_refl))) (fun _ h9 => h9) rfl dX11_areaOf_19 ?_
        refine lv_iload hx hb dX11_areaOf_22 (lv_at hl 4 rfl) ?_
        refine lv_aload_n hx hb dX11_areaOf_24 rfl (lv_at hl 0 rfl) ?_
        refine va_get (ci := 11) (v := .ref (a 23)) (C := RX11) (T := TX11) (N := 43) hx hb hts h9X11 hown hK hP 0 fd_WM_0 rfl 37 (by decide) (hts (.fieldLink RX11 78 "FailDiagnoseModel" "shapeX0" "[I") (List.mem_of_getElem? (i := 3) (by eq_refl))) (fun _ h9 => h9) rfl dX11_areaOf_25 ?_
        refine lv_iload hx hb dX11_areaOf_28 (lv_at hl 6 rfl) ?_
        obtain ⟨g27, hf⟩ := fd_gds hf
        refine va_iald hx hb hK hP 23 22 fd_WM_23 fd_tyM_23 g27 dX11_areaOf_30 ?_
        refine lv_iload_n hx hb dX11_areaOf_31 rfl (lv_at hl 3 rfl) ?_
        refine lv_isub hx hb dX11_areaOf_32 ?_
        obtain ⟨w31, τ32, hc28, hf⟩ := fd_bds hf
        refine va_calli (va_runS (As := [.ref (a 27), .int y4, .int ((σ.2.1 23 y6.toNatClampNeg) - y3)]) (rest := []) ⟨hx, hb, hml, hown, hts⟩ (m_X11_insert_27 l D a k H.size hI N y4 ((σ.2.1 23 y6.toNatClampNeg) - y3) σ _ hc28) (va_cwS 3 hts gX11_areaOf_X11_insert rfl rfl rfl (by decide +kernel) ⟨Nat.le_of_ble_eq_true rfl, Nat.le_of_ble_eq_true rfl⟩) ⟨fd_blM, fd_prM hP hK⟩ rfl rfl hl.1 rfl (lv_room (Nat.le_of_ble_eq_true rfl)) dX11_areaOf_33 ⟨Nat.zero_le _, Nat.zero_le _⟩) hS (fun q _ h => fd_A_mono hS.1 h) (fun q h => fd_A_mono hS.1 h) (fun v29 u t H1 locs ht hvm hw hB hz hk hS => ?_)
        obtain ⟨hP1, hK1⟩ := hB
        rw [ht] at hP1
        obtain ⟨e1, e2⟩ := Prod.mk.inj hw
        subst e1
        subst e2
        obtain ⟨σ30, rfl⟩ : ∃ z, z = u := ⟨_, rfl⟩
        have hP := hP1
        generalize H1 = H at hP hS ⊢
        refine lv_istore (lv' := [(4, .int v29), (0, .ref (a 0)), (1, .int y1), (2, .int y2), (3, .int y3), (5, .int y5), (6, .int y6)]) hx hb dX11_areaOf_36 hl (by decide) rfl (fun ls hl => ?_)
        refine lv_aload_n hx hb dX11_areaOf_38 rfl (lv_at hl 1 rfl) ?_
        refine va_get (ci := 11) (v := .ref (a 27)) (C := RX11) (T := TX11) (N := 43) hx hb hts h9X11 hown hK hP 0 fd_WM_0 rfl 41 (by decide) (hts (.fieldLink RX11 90 "FailDiagnoseModel" "xs" "[I") (List.mem_of_getElem? (i := 2) (by eq_refl))) (fun _ h9 => h9) rfl dX11_areaOf_39 ?_
        refine lv_iload hx hb dX11_areaOf_42 (lv_at hl 0 rfl) ?_
        refine lv_aload_n hx hb dX11_areaOf_44 rfl (lv_at hl 1 rfl) ?_
        refine va_get (ci := 11) (v := .ref (a 25)) (C := RX11) (T := TX11) (N := 43) hx hb hts h9X11 hown hK hP 0 fd_WM_0 rfl 39 (by decide) (hts (.fieldLink RX11 84 "FailDiagnoseModel" "shapeX1" "[I") (List.mem_of_getElem? (i := 4) (by eq_refl))) (fun _ h9 => h9) rfl dX11_areaOf_45 ?_
        refine lv_iload hx hb dX11_areaOf_48 (lv_at hl 6 rfl) ?_
        obtain ⟨g33, hf⟩ := fd_gds hf
        refine va_iald hx hb hK hP 25 24 fd_WM_25 fd_tyM_25 g33 dX11_areaOf_50 ?_
        refine lv_iload_n hx hb dX11_areaOf_51 rfl (lv_at hl 4 rfl) ?_
        refine lv_iadd hx hb dX11_areaOf_52 ?_
        obtain ⟨w37, τ38, hc34, hf⟩ := fd_bds hf
        refine va_calli (va_runS (As := [.ref (a 27), .int v29, .int ((σ30.2.1 25 y6.toNatClampNeg) + y3)]) (rest := []) ⟨hx, hb, hml, hown, hts⟩ (m_X11_insert_27 l D a k H.size hI N v29 ((σ30.2.1 25 y6.toNatClampNeg) + y3) σ30 _ hc34) (va_cwS 3 hts gX11_areaOf_X11_insert rfl rfl rfl (by decide +kernel) ⟨Nat.le_of_ble_eq_true rfl, Nat.le_of_ble_eq_true rfl⟩) ⟨fd_blM, fd_prM hP hK⟩ rfl rfl hl.1 rfl (lv_room (Nat.le_of_ble_eq_true rfl)) dX11_areaOf_53 ⟨Nat.zero_le _, Nat.zero_le _⟩) hS (fun q _ h => fd_A_mono hS.1 h) (fun q h => fd_A_mono hS.1 h) (fun v35 u t H1 locs ht hvm hw hB hz hk hS => ?_)
        obtain ⟨hP1, hK1⟩ := hB
        rw [ht] at hP1
        obtain ⟨e1, e2⟩ := Prod.mk.inj hw
        subst e1
        subst e2
        obtain ⟨σ36, rfl⟩ : ∃ z, z = u := ⟨_, rfl⟩
        have hP := hP1
        generalize H1 = H at hP hS ⊢
        refine lv_istore (lv' := [(4, .int v35), (0, .ref (a 0)), (1, .int y1), (2, .int y2), (3, .int y3), (5, .int y5), (6, .int y6)]) hx hb dX11_areaOf_56 hl (by decide) rfl (fun ls hl => ?_)
        refine lv_aload_n hx hb dX11_areaOf_58 rfl (lv_at hl 1 rfl) ?_
        refine va_get (ci := 11) (v := .ref (a 28)) (C := RX11) (T := TX11) (N := 43) hx hb hts h9X11 hown hK hP 0 fd_WM_0 rfl 42 (by decide) (hts (.fieldLink RX11 93 "FailDiagnoseModel" "ys" "[I") (List.mem_of_getElem? (i := 5) (by eq_refl))) (fun _ h9 => h9) rfl dX11_areaOf_59 ?_
        refine lv_iload hx hb dX11_areaOf_62 (lv_at hl 5 rfl) ?_
        refine lv_aload_n hx hb dX11_areaOf_64 rfl (lv_at hl 1 rfl) ?_
        refine va_get (ci := 11) (v := .ref (a 24)) (C := RX11) (T := TX11) (N := 43) hx hb hts h9X11 hown hK hP 0 fd_WM_0 rfl 38 (by decide) (hts (.fieldLink RX11 81 "FailDiagnoseModel" "shapeY0" "[I") (List.mem_of_getElem? (i := 6) (by eq_refl))) (fun _ h9 => h9) rfl dX11_areaOf_65 ?_
        refine lv_iload hx hb dX11_areaOf_68 (lv_at hl 6 rfl) ?_
        obtain ⟨g39, hf⟩ := fd_gds hf
        refine va_iald hx hb hK hP 24 23 fd_WM_24 fd_tyM_24 g39 dX11_areaOf_70 ?_
        refine lv_iload_n hx hb dX11_areaOf_71 rfl (lv_at hl 4 rfl) ?_
        refine lv_isub hx hb dX11_areaOf_72 ?_
        obtain ⟨w43, τ44, hc40, hf⟩ := fd_bds hf
        refine va_calli (va_runS (As := [.ref (a 28), .int y5, .int ((σ36.2.1 24 y6.toNatClampNeg) - y3)]) (rest := []) ⟨hx, hb, hml, hown, hts⟩ (m_X11_insert_28 l D a k H.size hI N y5 ((σ36.2.1 24 y6.toNatClampNeg) - y3) σ36 _ hc40) (va_cwS 3 hts gX11_areaOf_X11_insert rfl rfl rfl (by decide +kernel) ⟨Nat.le_of_ble_eq_true rfl, Nat.le_of_ble_eq_true rfl⟩) ⟨fd_blM, fd_prM hP hK⟩ rfl rfl hl.1 rfl (lv_room (Nat.le_of_ble_eq_true rfl)) dX11_areaOf_73 ⟨Nat.zero_le _, Nat.zero_le _⟩) hS (fun q _ h => fd_A_mono hS.1 h) (fun q h => fd_A_mono hS.1 h) (fun v41 u t H1 locs ht hvm hw hB hz hk hS => ?_)
        obtain ⟨hP1, hK1⟩ := hB
        rw [ht] at hP1
        obtain ⟨e1, e2⟩ := Prod.mk.inj hw
        subst e1
        subst e2
        obtain ⟨σ42, rfl⟩ : ∃ z, z = u := ⟨_, rfl⟩
        have hP := hP1
        generalize H1 = H at hP hS ⊢
        refine lv_istore (lv' := [(5, .int v41), (4, .int v35), (0, .ref (a 0)), (1, .int y1), (2, .int y2), (3, .int y3), (6, .int y6)]) hx hb dX11_areaOf_76 hl (by decide) rfl (fun ls hl => ?_)
        refine lv_aload_n hx hb dX11_areaOf_78 rfl (lv_at hl 2 rfl) ?_
        refine va_get (ci := 11) (v := .ref (a 28)) (C := RX11) (T := TX11) (N := 43) hx hb hts h9X11 hown hK hP 0 fd_WM_0 rfl 42 (by decide) (hts (.fieldLink RX11 93 "FailDiagnoseModel" "ys" "[I") (List.mem_of_getElem? (i := 5) (by eq_refl))) (fun _ h9 => h9) rfl dX11_areaOf_79 ?_
        refine lv_iload hx hb dX11_areaOf_82 (lv_at hl 0 rfl) ?_
        refine lv_aload_n hx hb dX11_areaOf_84 rfl (lv_at hl 2 rfl) ?_
        refine va_get (ci := 11) (v := .ref (a 26)) (C := RX11) (T := TX11) (N := 43) hx hb hts h9X11 hown hK hP 0 fd_WM_0 rfl 40 (by decide) (hts (.fieldLink RX11 87 "FailDiagnoseModel" "shapeY1" "[I") (List.mem_of_getElem? (i := 7) (by eq_refl))) (fun _ h9 => h9) rfl dX11_areaOf_85 ?_
        refine lv_iload hx hb dX11_areaOf_88 (lv_at hl 6 rfl) ?_
        obtain ⟨g45, hf⟩ := fd_gds hf
        refine va_iald hx hb hK hP 26 25 fd_WM_26 fd_tyM_26 g45 dX11_areaOf_90 ?_
        refine lv_iload_n hx hb dX11_areaOf_91 rfl (lv_at hl 5 rfl) ?_
        refine lv_iadd hx hb dX11_areaOf_92 ?_
        obtain ⟨w49, τ50, hc46, hf⟩ := fd_bds hf
        refine va_calli (va_runS (As := [.ref (a 28), .int v41, .int ((σ42.2.1 26 y6.toNatClampNeg) + y3)]) (rest := []) ⟨hx, hb, hml, hown, hts⟩ (m_X11_insert_28 l D a k H.size hI N v41 ((σ42.2.1 26 y6.toNatClampNeg) + y3) σ42 _ hc46) (va_cwS 3 hts gX11_areaOf_X11_insert rfl rfl rfl (by decide +kernel) ⟨Nat.le_of_ble_eq_true rfl, Nat.le_of_ble_eq_true rfl⟩) ⟨fd_blM, fd_prM hP hK⟩ rfl rfl hl.1 rfl (lv_room (Nat.le_of_ble_eq_true rfl)) dX11_areaOf_93 ⟨Nat.zero_le _, Nat.zero_le _⟩) hS (fun q _ h => fd_A_mono hS.1 h) (fun q h => fd_A_mono hS.1 h) (fun v47 u t H1 locs ht hvm hw hB hz hk hS => ?_)
        obtain ⟨hP1, hK1⟩ := hB
        rw [ht] at hP1
        obtain ⟨e1, e2⟩ := Prod.mk.inj hw
        subst e1
        subst e2
        obtain ⟨σ48, rfl⟩ : ∃ z, z = u := ⟨_, rfl⟩
        have hP := hP1
        generalize H1 = H at hP hS ⊢
        refine lv_istore (lv' := [(5, .int v47), (4, .int v35), (0, .ref (a 0)), (1, .int y1), (2, .int y2), (3, .int y3), (6, .int y6)]) hx hb dX11_areaOf_96 hl (by decide) rfl (fun ls hl => ?_)
        obtain ⟨x51, ex51, hf⟩ := fd_lts hf
        refine lv_iinc (v := x51) (lv' := [(6, .int x51), (5, .int v47), (4, .int v35), (0, .ref (a 0)), (1, .int y1), (2, .int y2), (3, .int y3)]) hx hb dX11_areaOf_98 hl (k := 6) rfl (by rw [ex51]; rfl) (by decide) rfl (fun ls hl => ?_)
        refine lv_goto (tgt := 9) hx hb dX11_areaOf_101 (by decide) ?_
        exact ih y1 y2 y3 v35 v47 x51 σ48 _ _ _ hP hS (lv_sub hl [3, 4, 5, 6, 2, 1, 0] rfl) hf
  unfold f_X11_areaOf_0 at hf
  refine lv_iconst (v := (0 : Int32)) hx hb dX11_areaOf_0 (by decide) ?_
  refine lv_istore (lv' := [(4, .int (0 : Int32)), (0, .ref (a 0)), (1, .int p1), (2, .int p2), (3, .int p3)]) hx hb dX11_areaOf_1 hl (by decide) rfl (fun ls hl => ?_)
  refine lv_iconst (v := (0 : Int32)) hx hb dX11_areaOf_3 (by decide) ?_
  refine lv_istore (lv' := [(5, .int (0 : Int32)), (4, .int (0 : Int32)), (0, .ref (a 0)), (1, .int p1), (2, .int p2), (3, .int p3)]) hx hb dX11_areaOf_4 hl (by decide) rfl (fun ls hl => ?_)
  refine lv_iconst (v := (0 : Int32)) hx hb dX11_areaOf_6 (by decide) ?_
  refine lv_istore (lv' := [(6, .int (0 : Int32)), (5, .int (0 : Int32)), (4, .int (0 : Int32)), (0, .ref (a 0)), (1, .int p1), (2, .int p2), (3, .int p3)]) hx hb dX11_areaOf_7 hl (by decide) rfl (fun ls hl => ?_)
  exact hL9 N p1 p2 p3 (0 : Int32) (0 : Int32) (0 : Int32) σ _ _ _ hP hS (lv_sub hl [3, 4, 5, 6, 2, 1, 0] rfl) hf
