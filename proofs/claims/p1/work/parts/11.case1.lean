noncomputable def f_law_c6 (N L : Nat) (xs : Nat → Int32) (K : Int32 → fd_St → fd_St → Option Int32) (i : Int32) (σ μ : fd_St) : Option Int32 := fd_gd (vp_in (i + (1 : Int32)) L) (fd_gd (vp_in (i + (2 : Int32)) L) (fd_gd (vp_in (i + (3 : Int32)) L) (fd_bd (f_L_fail_0_39 N (xs (i + (1 : Int32)).toNatClampNeg) ((((xs (i + (2 : Int32)).toNatClampNeg).toInt64) <<< ((32 : Int32).toInt64 &&& 63)) ||| (((xs (i + (3 : Int32)).toNatClampNeg).toInt64) &&& (4294967295 : Int64))) σ) (fun v5 σ8 => fd_gd (vp_in (i + (1 : Int32)) L) (fd_gd (vp_in (i + (2 : Int32)) L) (fd_gd (vp_in (i + (3 : Int32)) L) (fd_bd (f_X11_fail_0 N (xs (i + (1 : Int32)).toNatClampNeg) ((((xs (i + (2 : Int32)).toNatClampNeg).toInt64) <<< ((32 : Int32).toInt64 &&& 63)) ||| (((xs (i + (3 : Int32)).toNatClampNeg).toInt64) &&& (4294967295 : Int64))) μ) (fun v13 σ16 => fd_bd (f_X11_thrown_0 N σ16) (fun v18 σ21 => if v18 = v5 then (if v5 = 0 then (fd_gd (vp_in (0 : Int32) 1) (if (lg_cmp (σ8.2.2 39 (0 : Int32).toNatClampNeg) v13) = 0 then (fd_lt (i + (6 : Int32)) (fun x27 => K x27 σ8 σ21)) else (some (0 : Int32)))) else (fd_lt (i + (6 : Int32)) (fun x24 => K x24 σ8 σ21))) else (some (0 : Int32)))))))))))
set_option maxHeartbeats 4000000 in
set_option maxRecDepth 100000 in
theorem law_c6 {p : Program} {l : Launch} {e : Env} {s : State} {m : MethodId} {below : List Frame} {meth : Method} {c : Code} {D : va_G} {a a2 : Nat → Nat} {k k2 : Nat → ClassId} {b L : Nat} {xs : Nat → Int32} (C0 : fd_Cx p l s m meth c D a a2 k k2 b L xs) (N : Nat) (K : Int32 → fd_St → fd_St → Option Int32) (n : Nat) (hK9 : ∀ (i : Int32) (σ μ : fd_St) (cl sl : Nat) (H : Heap) (locs : List Loc) (ls : Array Slot), cl + n ≤ 94 → sl + 6 * n ≤ 10469 → va_P D vwCl (fd_WH a k σ) H → va_P D vwCl (fd_WM a2 k2 μ) H → va_S (fun q => s.heap.size ≤ q) s.heap H locs → lv_has ls 8 [(0, .ref b), (1, .ref (a 0)), (2, .ref (a2 0)), (3, .ref (a 39)), (4, .int i)] → K i σ μ = some 1 → W p l e room_1 s m #[Value.ref b] below meth c H locs cl sl (lw_Z below #[Value.ref b] s) (F0 m 23 ls [])) : ∀ (i : Int32) (σ μ : fd_St) (cl sl : Nat) (H : Heap) (locs : List Loc) (ls : Array Slot), cl + (n + 1) ≤ 94 → sl + 6 * (n + 1) ≤ 10469 → va_P D vwCl (fd_WH a k σ) H → va_P D vwCl (fd_WM a2 k2 μ) H → va_S (fun q => s.heap.size ≤ q) s.heap H locs → lv_has ls 8 [(0, .ref b), (1, .ref (a 0)), (2, .ref (a2 0)), (3, .ref (a 39)), (4, .int i)] → f_law_c6 N L xs K i σ μ = some 1 → W p l e room_1 s m #[Value.ref b] below meth c H locs cl sl (lw_Z below #[Value.ref b] s) (F0 m 534 ls []) := by
  obtain ⟨⟨hx, hb, hr, hml, hown, hts0, hX, hbl, hlocks, hgv⟩, hl9, hI, hI2, hJ, hJ2, hdis, hK, hK2, hZ⟩ := C0
  have hown : s.vm.findClass RL = some m.cls := hown
  have hts : ∀ w ∈ fd_wl, w.before #[Value.ref b] s = true := fun w h => hts0 w (fd_wl_in w h)
  have hA : ∀ q : Nat, s.heap.size ≤ q → (fun q : Nat => s.heap.size ≤ q) q := fun _ h => h
  have hbA : ¬ (fun q : Nat => s.heap.size ≤ q) b := Nat.not_le.mpr hbl
  intro i σ μ cl sl H locs ls hcl hsl hP hQ hS hl hf
  unfold f_law_c6 at hf
  refine lv_aload_n hx hb dL_law_534 rfl (lv_at hl 1 rfl) ?_
  refine lv_aload_n hx hb dL_law_535 rfl (lv_at hl 0 rfl) ?_
  refine lv_iload hx hb dL_law_536 (lv_at hl 4 rfl) ?_
  refine lv_iconst (v := (1 : Int32)) hx hb dL_law_538 (by decide) ?_
  refine lv_iadd hx hb dL_law_539 ?_
  obtain ⟨g1, hf⟩ := fd_gds hf
  refine va_sld hx hb hX hbl hbA hS g1 dL_law_540 ?_
  refine lv_aload_n hx hb dL_law_541 rfl (lv_at hl 0 rfl) ?_
  refine lv_iload hx hb dL_law_542 (lv_at hl 4 rfl) ?_
  refine lv_iconst (v := (2 : Int32)) hx hb dL_law_544 (by decide) ?_
  refine lv_iadd hx hb dL_law_545 ?_
  obtain ⟨g2, hf⟩ := fd_gds hf
  refine va_sld hx hb hX hbl hbA hS g2 dL_law_546 ?_
  refine lv_i2l hx hb dL_law_547 rfl ?_
  refine lv_bipush (v := (32 : Int32)) hx hb dL_law_548 (by decide) ?_
  refine lv_lshl hx hb dL_law_550 rfl ?_
  refine lv_aload_n hx hb dL_law_551 rfl (lv_at hl 0 rfl) ?_
  refine lv_iload hx hb dL_law_552 (lv_at hl 4 rfl) ?_
  refine lv_iconst (v := (3 : Int32)) hx hb dL_law_554 (by decide) ?_
  refine lv_iadd hx hb dL_law_555 ?_
  obtain ⟨g3, hf⟩ := fd_gds hf
  refine va_sld hx hb hX hbl hbA hS g3 dL_law_556 ?_
  refine lv_i2l hx hb dL_law_557 rfl ?_
  refine lv_ldc2 hx hb hown (hts (.constantLong RL 109 (4294967295)) (by decide +kernel)) dL_law_558 ?_
  refine lv_land hx hb dL_law_561 ?_
  refine lv_lor hx hb dL_law_562 ?_
  refine lv_aload_n hx hb dL_law_563 rfl (lv_at hl 3 rfl) ?_
  obtain ⟨w6, τ7, hc4, hf⟩ := fd_bds hf
  refine va_calli (vx_runSW (As := [.ref (a 0), .int (xs (i + (1 : Int32)).toNatClampNeg), .long ((((xs (i + (2 : Int32)).toNatClampNeg).toInt64) <<< ((32 : Int32).toInt64 &&& 63)) ||| (((xs (i + (3 : Int32)).toNatClampNeg).toInt64) &&& (4294967295 : Int64))), .ref (a 39)]) (rest := []) ⟨hx, hb, hml, hown, hts⟩ (m_L_fail_0_39 l hl9 D a k H.size hI N (xs (i + (1 : Int32)).toNatClampNeg) ((((xs (i + (2 : Int32)).toNatClampNeg).toInt64) <<< ((32 : Int32).toInt64 &&& 63)) ||| (((xs (i + (3 : Int32)).toNatClampNeg).toInt64) &&& (4294967295 : Int64))) σ _ hc4) (vx_cwSW 4 hts gL_law_L_fail rfl rfl rfl (by decide +kernel) ⟨Nat.le_of_ble_eq_true rfl, Nat.le_of_ble_eq_true rfl⟩) ⟨fd_blH, fd_prL hP hK hZ hS hJ⟩ rfl rfl hl.1 rfl (lv_room (Nat.le_of_ble_eq_true rfl)) dL_law_564 ⟨by show cl + 1 ≤ 94; omega, by show sl + 6 ≤ 10469; omega⟩) hS (fun q _ h => fd_AL hJ hS.1 h) (fun q h => fd_AL hJ hS.1 h) (fun v5 u t H1 locs ht hvm hw hB hz hk hS => ?_)
  obtain ⟨hP1, hK1⟩ := hB
  rw [ht] at hP1
  obtain ⟨e1, e2⟩ := Prod.mk.inj hw
  subst e1
  subst e2
  obtain ⟨σ8, rfl⟩ : ∃ z, z = u := ⟨_, rfl⟩
  have hQ := fd_kM hdis hJ hQ hz hk
  have hP := hP1
  generalize H1 = H at hP hQ hS ⊢
  refine W.cs (cells' := cl + 1) (slots' := sl + 6) rfl rfl ?_
  refine lv_istore (lv' := [(5, .int v5), (0, .ref b), (1, .ref (a 0)), (2, .ref (a2 0)), (3, .ref (a 39)), (4, .int i)]) hx hb dL_law_567 hl (by decide) rfl (fun ls hl => ?_)
  refine lv_aload_n hx hb dL_law_569 rfl (lv_at hl 3 rfl) ?_
  refine lv_aload_n hx hb dL_law_570 rfl (lv_at hl 1 rfl) ?_
  refine lv_iload hx hb dL_law_571 (lv_at hl 5 rfl) ?_
  refine lv_iconst (v := (1 : Int32)) hx hb dL_law_573 (by decide) ?_
  refine lv_iadd hx hb dL_law_574 ?_
  obtain ⟨g9, hf⟩ := fd_gds hf
  refine va_sld hx hb hX hbl hbA hS g9 dL_law_575 ?_
  refine lv_aload_n hx hb dL_law_576 rfl (lv_at hl 1 rfl) ?_
  refine lv_iload hx hb dL_law_577 (lv_at hl 5 rfl) ?_
  refine lv_iconst (v := (2 : Int32)) hx hb dL_law_579 (by decide) ?_
  refine lv_iadd hx hb dL_law_580 ?_
  obtain ⟨g10, hf⟩ := fd_gds hf
  refine va_sld hx hb hX hbl hbA hS g10 dL_law_581 ?_
  refine lv_i2l hx hb dL_law_582 rfl ?_
  refine lv_bipush (v := (32 : Int32)) hx hb dL_law_583 (by decide) ?_
  refine lv_lshl hx hb dL_law_585 rfl ?_
  refine lv_aload_n hx hb dL_law_586 rfl (lv_at hl 1 rfl) ?_
  refine lv_iload hx hb dL_law_587 (lv_at hl 5 rfl) ?_
  refine lv_iconst (v := (3 : Int32)) hx hb dL_law_589 (by decide) ?_
  refine lv_iadd hx hb dL_law_590 ?_
  obtain ⟨g11, hf⟩ := fd_gds hf
  refine va_sld hx hb hX hbl hbA hS g11 dL_law_591 ?_
  refine lv_i2l hx hb dL_law_592 rfl ?_
  refine lv_ldc2 hx hb hown (hts (.constantLong RL 109 (4294967295)) (by decide +kernel)) dL_law_593 ?_
  refine lv_land hx hb dL_law_596 ?_
  refine lv_lor hx hb dL_law_597 ?_
  obtain ⟨w14, τ15, hc12, hf⟩ := fd_bds hf
  refine va_calll (va_runV (As := [.int (xs (i + (1 : Int32)).toNatClampNeg), .long ((((xs (i + (2 : Int32)).toNatClampNeg).toInt64) <<< ((32 : Int32).toInt64 &&& 63)) ||| (((xs (i + (3 : Int32)).toNatClampNeg).toInt64) &&& (4294967295 : Int64)))]) (rest := []) ⟨hx, hb, hml, hown, hts⟩ (m_X11_fail_0 l D a2 k2 H.size hI2 N (xs (i + (1 : Int32)).toNatClampNeg) ((((xs (i + (2 : Int32)).toNatClampNeg).toInt64) <<< ((32 : Int32).toInt64 &&& 63)) ||| (((xs (i + (3 : Int32)).toNatClampNeg).toInt64) &&& (4294967295 : Int64))) μ _ hc12) (cwV 2 hts gL_law_X11_fail rfl rfl rfl (by decide +kernel) ⟨Nat.le_of_ble_eq_true rfl, Nat.le_of_ble_eq_true rfl⟩) ⟨fd_blM, va_recv hK2 hQ (ci := 11) (q0 := 0) rfl fd_WM_0, fd_prM hQ hK2⟩ rfl rfl hl.1 rfl (lv_room (Nat.le_of_ble_eq_true rfl)) dL_law_598 ⟨by show cl + 1 + 0 ≤ 94; omega, by show sl + 6 + 0 ≤ 10469; omega⟩) hS (fun q _ h => fd_AL hJ2 hS.1 h) (fun q h => fd_AL hJ2 hS.1 h) (fun v13 u t H1 locs ht hvm hw hB hz hk hS => ?_)
  obtain ⟨hP1, hK1⟩ := hB
  rw [ht] at hP1
  obtain ⟨e1, e2⟩ := Prod.mk.inj hw
  subst e1
  subst e2
  obtain ⟨σ16, rfl⟩ : ∃ z, z = u := ⟨_, rfl⟩
  have hP := fd_kH hdis hP hz hk
  have hQ := hP1
  generalize H1 = H at hP hQ hS ⊢
  refine W.cs (cells' := cl + 1) (slots' := sl + 6) rfl rfl ?_
  refine lv_lstore (lv' := [(6, .long v13), (5, .int v5), (0, .ref b), (1, .ref (a 0)), (2, .ref (a2 0)), (3, .ref (a 39)), (4, .int i)]) hx hb dL_law_601 hl (by decide) rfl (fun ls hl => ?_)
  refine lv_aload_n hx hb dL_law_603 rfl (lv_at hl 4 rfl) ?_
  obtain ⟨w19, τ20, hc17, hf⟩ := fd_bds hf
  refine va_calli (va_runV (As := []) (rest := []) ⟨hx, hb, hml, hown, hts⟩ (m_X11_thrown_0 l D a2 k2 H.size hI2 N σ16 _ hc17) (cwV 0 hts gL_law_X11_thrown rfl rfl rfl (by decide +kernel) ⟨Nat.le_of_ble_eq_true rfl, Nat.le_of_ble_eq_true rfl⟩) ⟨fd_blM, va_recv hK2 hQ (ci := 11) (q0 := 0) rfl fd_WM_0, fd_prM hQ hK2⟩ rfl rfl hl.1 rfl (lv_room (Nat.le_of_ble_eq_true rfl)) dL_law_604 ⟨by show cl + 1 + 0 ≤ 94; omega, by show sl + 6 + 0 ≤ 10469; omega⟩) hS (fun q _ h => fd_AL hJ2 hS.1 h) (fun q h => fd_AL hJ2 hS.1 h) (fun v18 u t H1 locs ht hvm hw hB hz hk hS => ?_)
  obtain ⟨hP1, hK1⟩ := hB
  rw [ht] at hP1
  obtain ⟨e1, e2⟩ := Prod.mk.inj hw
  subst e1
  subst e2
  obtain ⟨σ21, rfl⟩ : ∃ z, z = u := ⟨_, rfl⟩
  have hP := fd_kH hdis hP hz hk
  have hQ := hP1
  generalize H1 = H at hP hQ hS ⊢
  refine W.cs (cells' := cl + 1) (slots' := sl + 6) rfl rfl ?_
  refine lv_iload hx hb dL_law_607 (lv_at hl 1 rfl) ?_
  refine lv_icmp_eq (tgt := 614) hx hb dL_law_609 (by decide) (fun c22 => ?_) (fun c22 => ?_)
  · have hf := fd_itp c22 hf
    refine lv_iload hx hb dL_law_614 (lv_at hl 1 rfl) ?_
    refine lv_if_ne (tgt := 630) hx hb dL_law_616 (by decide) (fun c23 => ?_) (fun c23 => ?_)
    · have hf := fd_itn c23 hf
      refine lv_goto (tgt := 1572) hx hb dL_law_630 (by decide) ?_
      obtain ⟨x24, ex24, hf⟩ := fd_lts hf
      refine lv_iinc (v := x24) (lv' := [(4, .int x24), (6, .long v13), (5, .int v5), (0, .ref b), (1, .ref (a 0)), (2, .ref (a2 0)), (3, .ref (a 39))]) hx hb dL_law_1572 hl (k := 6) rfl (by rw [ex24]; rfl) (by decide) rfl (fun ls hl => ?_)
      refine lv_goto (tgt := 23) hx hb dL_law_1575 (by decide) ?_
      exact hK9 _ _ _ _ _ _ _ _ (by omega) (by omega) hP hQ hS (lv_sub hl [3, 4, 5, 6, 0] rfl) hf
    · have hf := fd_itp c23 hf
      refine lv_aload_n hx hb dL_law_619 rfl (lv_at hl 5 rfl) ?_
      refine lv_iconst (v := (0 : Int32)) hx hb dL_law_620 (by decide) ?_
      obtain ⟨g25, hf⟩ := fd_gds hf
      refine va_lald hx hb hK hP 39 27 fd_WH_39 fd_tyH_39 g25 dL_law_621 ?_
      refine lv_lload hx hb dL_law_622 (lv_at hl 0 rfl) ?_
      refine W.lcmp hx hb dL_law_624 ?_
      refine lv_if_eq (tgt := 630) hx hb dL_law_625 (by decide) (fun c26 => ?_) (fun c26 => ?_)
      · have hf := fd_itp c26 hf
        refine lv_goto (tgt := 1572) hx hb dL_law_630 (by decide) ?_
        obtain ⟨x27, ex27, hf⟩ := fd_lts hf
        refine lv_iinc (v := x27) (lv' := [(4, .int x27), (6, .long v13), (5, .int v5), (0, .ref b), (1, .ref (a 0)), (2, .ref (a2 0)), (3, .ref (a 39))]) hx hb dL_law_1572 hl (k := 6) rfl (by rw [ex27]; rfl) (by decide) rfl (fun ls hl => ?_)
        refine lv_goto (tgt := 23) hx hb dL_law_1575 (by decide) ?_
        exact hK9 _ _ _ _ _ _ _ _ (by omega) (by omega) hP hQ hS (lv_sub hl [3, 4, 5, 6, 0] rfl) hf
      · have hf := fd_itn c26 hf
        refine lv_iconst (v := (0 : Int32)) hx hb dL_law_628 (by decide) ?_
        exact absurd (Option.some.inj hf) (by decide)
  · have hf := fd_itn c22 hf
    refine lv_iconst (v := (0 : Int32)) hx hb dL_law_612 (by decide) ?_
    exact absurd (Option.some.inj hf) (by decide)
noncomputable def f_law_c7 (N L : Nat) (xs : Nat → Int32) (K : Int32 → fd_St → fd_St → Option Int32) (i : Int32) (σ μ : fd_St) : Option Int32 := fd_gd (vp_in (i + (1 : Int32)) L) (fd_gd (vp_in (i + (2 : Int32)) L) (fd_bd (f_L_near_0_39 N (xs (i + (1 : Int32)).toNatClampNeg) (xs (i + (2 : Int32)).toNatClampNeg) σ) (fun v4 σ7 => fd_gd (vp_in (i + (1 : Int32)) L) (fd_gd (vp_in (i + (2 : Int32)) L) (fd_bd (f_X11_near_0 N (xs (i + (1 : Int32)).toNatClampNeg) (xs (i + (2 : Int32)).toNatClampNeg) μ) (fun v11 σ14 => fd_bd (f_X11_thrown_0 N σ14) (fun v16 σ19 => if v16 = v4 then (if v4 = 0 then (fd_gd (vp_in (0 : Int32) 1) (if (lg_cmp (σ7.2.2 39 (0 : Int32).toNatClampNeg) v11.toInt64) = 0 then (fd_lt (i + (6 : Int32)) (fun x25 => K x25 σ7 σ19)) else (some (0 : Int32)))) else (fd_lt (i + (6 : Int32)) (fun x22 => K x22 σ7 σ19))) else (some (0 : Int32)))))))))
set_option maxHeartbeats 4000000 in
set_option maxRecDepth 100000 in
theorem law_c7 {p : Program} {l : Launch} {e : Env} {s : State} {m : MethodId} {below : List Frame} {meth : Method} {c : Code} {D : va_G} {a a2 : Nat → Nat} {k k2 : Nat → ClassId} {b L : Nat} {xs : Nat → Int32} (C0 : fd_Cx p l s m meth c D a a2 k k2 b L xs) (N : Nat) (K : Int32 → fd_St → fd_St → Option Int32) (n : Nat) (hK9 : ∀ (i : Int32) (σ μ : fd_St) (cl sl : Nat) (H : Heap) (locs : List Loc) (ls : Array Slot), cl + n ≤ 94 → sl + 6 * n ≤ 10469 → va_P D vwCl (fd_WH a k σ) H → va_P D vwCl (fd_WM a2 k2 μ) H → va_S (fun q => s.heap.size ≤ q) s.heap H locs → lv_has ls 8 [(0, .ref b), (1, .ref (a 0)), (2, .ref (a2 0)), (3, .ref (a 39)), (4, .int i)] → K i σ μ = some 1 → W p l e room_1 s m #[Value.ref b] below meth c H locs cl sl (lw_Z below #[Value.ref b] s) (F0 m 23 ls [])) : ∀ (i : Int32) (σ μ : fd_St) (cl sl : Nat) (H : Heap) (locs : List Loc) (ls : Array Slot), cl + (n + 1) ≤ 94 → sl + 6 * (n + 1) ≤ 10469 → va_P D vwCl (fd_WH a k σ) H → va_P D vwCl (fd_WM a2 k2 μ) H → va_S (fun q => s.heap.size ≤ q) s.heap H locs → lv_has ls 8 [(0, .ref b), (1, .ref (a 0)), (2, .ref (a2 0)), (3, .ref (a 39)), (4, .int i)] → f_law_c7 N L xs K i σ μ = some 1 → W p l e room_1 s m #[Value.ref b] below meth c H locs cl sl (lw_Z below #[Value.ref b] s) (F0 m 633 ls []) := by
  obtain ⟨⟨hx, hb, hr, hml, hown, hts0, hX, hbl, hlocks, hgv⟩, hl9, hI, hI2, hJ, hJ2, hdis, hK, hK2, hZ⟩ := C0
  have hown : s.vm.findClass RL = some m.cls := hown
  have hts : ∀ w ∈ fd_wl, w.before #[Value.ref b] s = true := fun w h => hts0 w (fd_wl_in w h)
  have hA : ∀ q : Nat, s.heap.size ≤ q → (fun q : Nat => s.heap.size ≤ q) q := fun _ h => h
  have hbA : ¬ (fun q : Nat => s.heap.size ≤ q) b := Nat.not_le.mpr hbl
  intro i σ μ cl sl H locs ls hcl hsl hP hQ hS hl hf
  unfold f_law_c7 at hf
  refine lv_aload_n hx hb dL_law_633 rfl (lv_at hl 1 rfl) ?_
  refine lv_aload_n hx hb dL_law_634 rfl (lv_at hl 0 rfl) ?_
  refine lv_iload hx hb dL_law_635 (lv_at hl 4 rfl) ?_
  refine lv_iconst (v := (1 : Int32)) hx hb dL_law_637 (by decide) ?_
  refine lv_iadd hx hb dL_law_638 ?_
  obtain ⟨g1, hf⟩ := fd_gds hf
  refine va_sld hx hb hX hbl hbA hS g1 dL_law_639 ?_
  refine lv_aload_n hx hb dL_law_640 rfl (lv_at hl 0 rfl) ?_
  refine lv_iload hx hb dL_law_641 (lv_at hl 4 rfl) ?_
  refine lv_iconst (v := (2 : Int32)) hx hb dL_law_643 (by decide) ?_
  refine lv_iadd hx hb dL_law_644 ?_
  obtain ⟨g2, hf⟩ := fd_gds hf
  refine va_sld hx hb hX hbl hbA hS g2 dL_law_645 ?_
  refine lv_aload_n hx hb dL_law_646 rfl (lv_at hl 3 rfl) ?_
  obtain ⟨w5, τ6, hc3, hf⟩ := fd_bds hf
  refine va_calli (vx_runSW (As := [.ref (a 0), .int (xs (i + (1 : Int32)).toNatClampNeg), .int (xs (i + (2 : Int32)).toNatClampNeg), .ref (a 39)]) (rest := []) ⟨hx, hb, hml, hown, hts⟩ (m_L_near_0_39 l hl9 D a k H.size hI N (xs (i + (1 : Int32)).toNatClampNeg) (xs (i + (2 : Int32)).toNatClampNeg) σ _ hc3) (vx_cwSW 4 hts gL_law_L_near rfl rfl rfl (by decide +kernel) ⟨Nat.le_of_ble_eq_true rfl, Nat.le_of_ble_eq_true rfl⟩) ⟨fd_blH, fd_prL hP hK hZ hS hJ⟩ rfl rfl hl.1 rfl (lv_room (Nat.le_of_ble_eq_true rfl)) dL_law_647 ⟨by show cl + 1 ≤ 94; omega, by show sl + 6 ≤ 10469; omega⟩) hS (fun q _ h => fd_AL hJ hS.1 h) (fun q h => fd_AL hJ hS.1 h) (fun v4 u t H1 locs ht hvm hw hB hz hk hS => ?_)
  obtain ⟨hP1, hK1⟩ := hB
  rw [ht] at hP1
  obtain ⟨e1, e2⟩ := Prod.mk.inj hw
  subst e1
  subst e2
  obtain ⟨σ7, rfl⟩ : ∃ z, z = u := ⟨_, rfl⟩
  have hQ := fd_kM hdis hJ hQ hz hk
  have hP := hP1
  generalize H1 = H at hP hQ hS ⊢
  refine W.cs (cells' := cl + 1) (slots' := sl + 6) rfl rfl ?_
  refine lv_istore (lv' := [(5, .int v4), (0, .ref b), (1, .ref (a 0)), (2, .ref (a2 0)), (3, .ref (a 39)), (4, .int i)]) hx hb dL_law_650 hl (by decide) rfl (fun ls hl => ?_)
  refine lv_aload_n hx hb dL_law_652 rfl (lv_at hl 3 rfl) ?_
  refine lv_aload_n hx hb dL_law_653 rfl (lv_at hl 1 rfl) ?_
  refine lv_iload hx hb dL_law_654 (lv_at hl 5 rfl) ?_
  refine lv_iconst (v := (1 : Int32)) hx hb dL_law_656 (by decide) ?_
  refine lv_iadd hx hb dL_law_657 ?_
  obtain ⟨g8, hf⟩ := fd_gds hf
  refine va_sld hx hb hX hbl hbA hS g8 dL_law_658 ?_
  refine lv_aload_n hx hb dL_law_659 rfl (lv_at hl 1 rfl) ?_
  refine lv_iload hx hb dL_law_660 (lv_at hl 5 rfl) ?_
  refine lv_iconst (v := (2 : Int32)) hx hb dL_law_662 (by decide) ?_
  refine lv_iadd hx hb dL_law_663 ?_
  obtain ⟨g9, hf⟩ := fd_gds hf
  refine va_sld hx hb hX hbl hbA hS g9 dL_law_664 ?_
  obtain ⟨w12, τ13, hc10, hf⟩ := fd_bds hf
  refine va_calli (va_runV (As := [.int (xs (i + (1 : Int32)).toNatClampNeg), .int (xs (i + (2 : Int32)).toNatClampNeg)]) (rest := []) ⟨hx, hb, hml, hown, hts⟩ (m_X11_near_0 l D a2 k2 H.size hI2 N (xs (i + (1 : Int32)).toNatClampNeg) (xs (i + (2 : Int32)).toNatClampNeg) μ _ hc10) (cwV 2 hts gL_law_X11_near rfl rfl rfl (by decide +kernel) ⟨Nat.le_of_ble_eq_true rfl, Nat.le_of_ble_eq_true rfl⟩) ⟨fd_blM, va_recv hK2 hQ (ci := 11) (q0 := 0) rfl fd_WM_0, fd_prM hQ hK2⟩ rfl rfl hl.1 rfl (lv_room (Nat.le_of_ble_eq_true rfl)) dL_law_665 ⟨by show cl + 1 + 0 ≤ 94; omega, by show sl + 6 + 0 ≤ 10469; omega⟩) hS (fun q _ h => fd_AL hJ2 hS.1 h) (fun q h => fd_AL hJ2 hS.1 h) (fun v11 u t H1 locs ht hvm hw hB hz hk hS => ?_)
  obtain ⟨hP1, hK1⟩ := hB
  rw [ht] at hP1
  obtain ⟨e1, e2⟩ := Prod.mk.inj hw
  subst e1
  subst e2
  obtain ⟨σ14, rfl⟩ : ∃ z, z = u := ⟨_, rfl⟩
  have hP := fd_kH hdis hP hz hk
  have hQ := hP1
  generalize H1 = H at hP hQ hS ⊢
  refine W.cs (cells' := cl + 1) (slots' := sl + 6) rfl rfl ?_
  refine lv_istore (lv' := [(6, .int v11), (5, .int v4), (0, .ref b), (1, .ref (a 0)), (2, .ref (a2 0)), (3, .ref (a 39)), (4, .int i)]) hx hb dL_law_668 hl (by decide) rfl (fun ls hl => ?_)
  refine lv_aload_n hx hb dL_law_670 rfl (lv_at hl 4 rfl) ?_
  obtain ⟨w17, τ18, hc15, hf⟩ := fd_bds hf
  refine va_calli (va_runV (As := []) (rest := []) ⟨hx, hb, hml, hown, hts⟩ (m_X11_thrown_0 l D a2 k2 H.size hI2 N σ14 _ hc15) (cwV 0 hts gL_law_X11_thrown rfl rfl rfl (by decide +kernel) ⟨Nat.le_of_ble_eq_true rfl, Nat.le_of_ble_eq_true rfl⟩) ⟨fd_blM, va_recv hK2 hQ (ci := 11) (q0 := 0) rfl fd_WM_0, fd_prM hQ hK2⟩ rfl rfl hl.1 rfl (lv_room (Nat.le_of_ble_eq_true rfl)) dL_law_671 ⟨by show cl + 1 + 0 ≤ 94; omega, by show sl + 6 + 0 ≤ 10469; omega⟩) hS (fun q _ h => fd_AL hJ2 hS.1 h) (fun q h => fd_AL hJ2 hS.1 h) (fun v16 u t H1 locs ht hvm hw hB hz hk hS => ?_)
  obtain ⟨hP1, hK1⟩ := hB
  rw [ht] at hP1
  obtain ⟨e1, e2⟩ := Prod.mk.inj hw
  subst e1
  subst e2
  obtain ⟨σ19, rfl⟩ : ∃ z, z = u := ⟨_, rfl⟩
  have hP := fd_kH hdis hP hz hk
  have hQ := hP1
  generalize H1 = H at hP hQ hS ⊢
  refine W.cs (cells' := cl + 1) (slots' := sl + 6) rfl rfl ?_
  refine lv_iload hx hb dL_law_674 (lv_at hl 1 rfl) ?_
  refine lv_icmp_eq (tgt := 681) hx hb dL_law_676 (by decide) (fun c20 => ?_) (fun c20 => ?_)
  · have hf := fd_itp c20 hf
    refine lv_iload hx hb dL_law_681 (lv_at hl 1 rfl) ?_
    refine lv_if_ne (tgt := 698) hx hb dL_law_683 (by decide) (fun c21 => ?_) (fun c21 => ?_)
    · have hf := fd_itn c21 hf
      refine lv_goto (tgt := 1572) hx hb dL_law_698 (by decide) ?_
      obtain ⟨x22, ex22, hf⟩ := fd_lts hf
      refine lv_iinc (v := x22) (lv' := [(4, .int x22), (6, .int v11), (5, .int v4), (0, .ref b), (1, .ref (a 0)), (2, .ref (a2 0)), (3, .ref (a 39))]) hx hb dL_law_1572 hl (k := 6) rfl (by rw [ex22]; rfl) (by decide) rfl (fun ls hl => ?_)
      refine lv_goto (tgt := 23) hx hb dL_law_1575 (by decide) ?_
      exact hK9 _ _ _ _ _ _ _ _ (by omega) (by omega) hP hQ hS (lv_sub hl [3, 4, 5, 6, 0] rfl) hf
    · have hf := fd_itp c21 hf
      refine lv_aload_n hx hb dL_law_686 rfl (lv_at hl 5 rfl) ?_
      refine lv_iconst (v := (0 : Int32)) hx hb dL_law_687 (by decide) ?_
      obtain ⟨g23, hf⟩ := fd_gds hf
      refine va_lald hx hb hK hP 39 27 fd_WH_39 fd_tyH_39 g23 dL_law_688 ?_
      refine lv_iload hx hb dL_law_689 (lv_at hl 0 rfl) ?_
      refine lv_i2l hx hb dL_law_691 rfl ?_
      refine W.lcmp hx hb dL_law_692 ?_
      refine lv_if_eq (tgt := 698) hx hb dL_law_693 (by decide) (fun c24 => ?_) (fun c24 => ?_)
      · have hf := fd_itp c24 hf
        refine lv_goto (tgt := 1572) hx hb dL_law_698 (by decide) ?_
        obtain ⟨x25, ex25, hf⟩ := fd_lts hf
        refine lv_iinc (v := x25) (lv' := [(4, .int x25), (6, .int v11), (5, .int v4), (0, .ref b), (1, .ref (a 0)), (2, .ref (a2 0)), (3, .ref (a 39))]) hx hb dL_law_1572 hl (k := 6) rfl (by rw [ex25]; rfl) (by decide) rfl (fun ls hl => ?_)
        refine lv_goto (tgt := 23) hx hb dL_law_1575 (by decide) ?_
        exact hK9 _ _ _ _ _ _ _ _ (by omega) (by omega) hP hQ hS (lv_sub hl [3, 4, 5, 6, 0] rfl) hf
      · have hf := fd_itn c24 hf
        refine lv_iconst (v := (0 : Int32)) hx hb dL_law_696 (by decide) ?_
        exact absurd (Option.some.inj hf) (by decide)
  · have hf := fd_itn c20 hf
    refine lv_iconst (v := (0 : Int32)) hx hb dL_law_679 (by decide) ?_
    exact absurd (Option.some.inj hf) (by decide)
noncomputable def f_law_c8 (N L : Nat) (xs : Nat → Int32) (K : Int32 → fd_St → fd_St → Option Int32) (i : Int32) (σ μ : fd_St) : Option Int32 := fd_gd (vp_in (i + (1 : Int32)) L) (fd_gd (vp_in (i + (2 : Int32)) L) (fd_gd (vp_in (i + (3 : Int32)) L) (fd_bd (f_L_shows_0_39 N (xs (i + (1 : Int32)).toNatClampNeg) (xs (i + (2 : Int32)).toNatClampNeg) (xs (i + (3 : Int32)).toNatClampNeg) σ) (fun v5 σ8 => fd_gd (vp_in (i + (1 : Int32)) L) (fd_gd (vp_in (i + (2 : Int32)) L) (fd_gd (vp_in (i + (3 : Int32)) L) (fd_bd (f_X11_shows_0 N (xs (i + (1 : Int32)).toNatClampNeg) (xs (i + (2 : Int32)).toNatClampNeg) (xs (i + (3 : Int32)).toNatClampNeg) μ) (fun v13 σ16 => fd_bd (f_X11_thrown_0 N σ16) (fun v18 σ21 => if v18 = v5 then (if v5 = 0 then (fd_gd (vp_in (0 : Int32) 1) (if (lg_cmp (σ8.2.2 39 (0 : Int32).toNatClampNeg) v13) = 0 then (fd_lt (i + (6 : Int32)) (fun x27 => K x27 σ8 σ21)) else (some (0 : Int32)))) else (fd_lt (i + (6 : Int32)) (fun x24 => K x24 σ8 σ21))) else (some (0 : Int32)))))))))))
set_option maxHeartbeats 4000000 in
set_option maxRecDepth 100000 in
theorem law_c8 {p : Program} {l : Launch} {e : Env} {s : State} {m : MethodId} {below : List Frame} {meth : Method} {c : Code} {D : va_G} {a a2 : Nat → Nat} {k k2 : Nat → ClassId} {b L : Nat} {xs : Nat → Int32} (C0 : fd_Cx p l s m meth c D a a2 k k2 b L xs) (N : Nat) (K : Int32 → fd_St → fd_St → Option Int32) (n : Nat) (hK9 : ∀ (i : Int32) (σ μ : fd_St) (cl sl : Nat) (H : Heap) (locs : List Loc) (ls : Array Slot), cl + n ≤ 94 → sl + 6 * n ≤ 10469 → va_P D vwCl (fd_WH a k σ) H → va_P D vwCl (fd_WM a2 k2 μ) H → va_S (fun q => s.heap.size ≤ q) s.heap H locs → lv_has ls 8 [(0, .ref b), (1, .ref (a 0)), (2, .ref (a2 0)), (3, .ref (a 39)), (4, .int i)] → K i σ μ = some 1 → W p l e room_1 s m #[Value.ref b] below meth c H locs cl sl (lw_Z below #[Value.ref b] s) (F0 m 23 ls [])) : ∀ (i : Int32) (σ μ : fd_St) (cl sl : Nat) (H : Heap) (locs : List Loc) (ls : Array Slot), cl + (n + 1) ≤ 94 → sl + 6 * (n + 1) ≤ 10469 → va_P D vwCl (fd_WH a k σ) H → va_P D vwCl (fd_WM a2 k2 μ) H → va_S (fun q => s.heap.size ≤ q) s.heap H locs → lv_has ls 8 [(0, .ref b), (1, .ref (a 0)), (2, .ref (a2 0)), (3, .ref (a 39)), (4, .int i)] → f_law_c8 N L xs K i σ μ = some 1 → W p l e room_1 s m #[Value.ref b] below meth c H locs cl sl (lw_Z below #[Value.ref b] s) (F0 m 701 ls []) := by
  obtain ⟨⟨hx, hb, hr, hml, hown, hts0, hX, hbl, hlocks, hgv⟩, hl9, hI, hI2, hJ, hJ2, hdis, hK, hK2, hZ⟩ := C0
  have hown : s.vm.findClass RL = some m.cls := hown
  have hts : ∀ w ∈ fd_wl, w.before #[Value.ref b] s = true := fun w h => hts0 w (fd_wl_in w h)
  have hA : ∀ q : Nat, s.heap.size ≤ q → (fun q : Nat => s.heap.size ≤ q) q := fun _ h => h
  have hbA : ¬ (fun q : Nat => s.heap.size ≤ q) b := Nat.not_le.mpr hbl
  intro i σ μ cl sl H locs ls hcl hsl hP hQ hS hl hf
  unfold f_law_c8 at hf
  refine lv_aload_n hx hb dL_law_701 rfl (lv_at hl 1 rfl) ?_
  refine lv_aload_n hx hb dL_law_702 rfl (lv_at hl 0 rfl) ?_
  refine lv_iload hx hb dL_law_703 (lv_at hl 4 rfl) ?_
  refine lv_iconst (v := (1 : Int32)) hx hb dL_law_705 (by decide) ?_
  refine lv_iadd hx hb dL_law_706 ?_
  obtain ⟨g1, hf⟩ := fd_gds hf
  refine va_sld hx hb hX hbl hbA hS g1 dL_law_707 ?_
  refine lv_aload_n hx hb dL_law_708 rfl (lv_at hl 0 rfl) ?_
  refine lv_iload hx hb dL_law_709 (lv_at hl 4 rfl) ?_
  refine lv_iconst (v := (2 : Int32)) hx hb dL_law_711 (by decide) ?_
  refine lv_iadd hx hb dL_law_712 ?_
  obtain ⟨g2, hf⟩ := fd_gds hf
  refine va_sld hx hb hX hbl hbA hS g2 dL_law_713 ?_
  refine lv_aload_n hx hb dL_law_714 rfl (lv_at hl 0 rfl) ?_
  refine lv_iload hx hb dL_law_715 (lv_at hl 4 rfl) ?_
  refine lv_iconst (v := (3 : Int32)) hx hb dL_law_717 (by decide) ?_
  refine lv_iadd hx hb dL_law_718 ?_
  obtain ⟨g3, hf⟩ := fd_gds hf
  refine va_sld hx hb hX hbl hbA hS g3 dL_law_719 ?_
  refine lv_aload_n hx hb dL_law_720 rfl (lv_at hl 3 rfl) ?_
  obtain ⟨w6, τ7, hc4, hf⟩ := fd_bds hf
  refine va_calli (vx_runSW (As := [.ref (a 0), .int (xs (i + (1 : Int32)).toNatClampNeg), .int (xs (i + (2 : Int32)).toNatClampNeg), .int (xs (i + (3 : Int32)).toNatClampNeg), .ref (a 39)]) (rest := []) ⟨hx, hb, hml, hown, hts⟩ (m_L_shows_0_39 l hl9 D a k H.size hI N (xs (i + (1 : Int32)).toNatClampNeg) (xs (i + (2 : Int32)).toNatClampNeg) (xs (i + (3 : Int32)).toNatClampNeg) σ _ hc4) (vx_cwSW 5 hts gL_law_L_shows rfl rfl rfl (by decide +kernel) ⟨Nat.le_of_ble_eq_true rfl, Nat.le_of_ble_eq_true rfl⟩) ⟨fd_blH, fd_prL hP hK hZ hS hJ⟩ rfl rfl hl.1 rfl (lv_room (Nat.le_of_ble_eq_true rfl)) dL_law_721 ⟨by show cl + 1 ≤ 94; omega, by show sl + 6 ≤ 10469; omega⟩) hS (fun q _ h => fd_AL hJ hS.1 h) (fun q h => fd_AL hJ hS.1 h) (fun v5 u t H1 locs ht hvm hw hB hz hk hS => ?_)
  obtain ⟨hP1, hK1⟩ := hB
  rw [ht] at hP1
  obtain ⟨e1, e2⟩ := Prod.mk.inj hw
  subst e1
  subst e2
  obtain ⟨σ8, rfl⟩ : ∃ z, z = u := ⟨_, rfl⟩
  have hQ := fd_kM hdis hJ hQ hz hk
  have hP := hP1
  generalize H1 = H at hP hQ hS ⊢
  refine W.cs (cells' := cl + 1) (slots' := sl + 6) rfl rfl ?_
  refine lv_istore (lv' := [(5, .int v5), (0, .ref b), (1, .ref (a 0)), (2, .ref (a2 0)), (3, .ref (a 39)), (4, .int i)]) hx hb dL_law_724 hl (by decide) rfl (fun ls hl => ?_)
  refine lv_aload_n hx hb dL_law_726 rfl (lv_at hl 3 rfl) ?_
  refine lv_aload_n hx hb dL_law_727 rfl (lv_at hl 1 rfl) ?_
  refine lv_iload hx hb dL_law_728 (lv_at hl 5 rfl) ?_
  refine lv_iconst (v := (1 : Int32)) hx hb dL_law_730 (by decide) ?_
  refine lv_iadd hx hb dL_law_731 ?_
  obtain ⟨g9, hf⟩ := fd_gds hf
  refine va_sld hx hb hX hbl hbA hS g9 dL_law_732 ?_
  refine lv_aload_n hx hb dL_law_733 rfl (lv_at hl 1 rfl) ?_
  refine lv_iload hx hb dL_law_734 (lv_at hl 5 rfl) ?_
  refine lv_iconst (v := (2 : Int32)) hx hb dL_law_736 (by decide) ?_
  refine lv_iadd hx hb dL_law_737 ?_
  obtain ⟨g10, hf⟩ := fd_gds hf
  refine va_sld hx hb hX hbl hbA hS g10 dL_law_738 ?_
  refine lv_aload_n hx hb dL_law_739 rfl (lv_at hl 1 rfl) ?_
  refine lv_iload hx hb dL_law_740 (lv_at hl 5 rfl) ?_
  refine lv_iconst (v := (3 : Int32)) hx hb dL_law_742 (by decide) ?_
  refine lv_iadd hx hb dL_law_743 ?_
  obtain ⟨g11, hf⟩ := fd_gds hf
  refine va_sld hx hb hX hbl hbA hS g11 dL_law_744 ?_
  obtain ⟨w14, τ15, hc12, hf⟩ := fd_bds hf
  refine va_calll (va_runV (As := [.int (xs (i + (1 : Int32)).toNatClampNeg), .int (xs (i + (2 : Int32)).toNatClampNeg), .int (xs (i + (3 : Int32)).toNatClampNeg)]) (rest := []) ⟨hx, hb, hml, hown, hts⟩ (m_X11_shows_0 l D a2 k2 H.size hI2 N (xs (i + (1 : Int32)).toNatClampNeg) (xs (i + (2 : Int32)).toNatClampNeg) (xs (i + (3 : Int32)).toNatClampNeg) μ _ hc12) (cwV 3 hts gL_law_X11_shows rfl rfl rfl (by decide +kernel) ⟨Nat.le_of_ble_eq_true rfl, Nat.le_of_ble_eq_true rfl⟩) ⟨fd_blM, va_recv hK2 hQ (ci := 11) (q0 := 0) rfl fd_WM_0, fd_prM hQ hK2⟩ rfl rfl hl.1 rfl (lv_room (Nat.le_of_ble_eq_true rfl)) dL_law_745 ⟨by show cl + 1 + 0 ≤ 94; omega, by show sl + 6 + 0 ≤ 10469; omega⟩) hS (fun q _ h => fd_AL hJ2 hS.1 h) (fun q h => fd_AL hJ2 hS.1 h) (fun v13 u t H1 locs ht hvm hw hB hz hk hS => ?_)
  obtain ⟨hP1, hK1⟩ := hB
  rw [ht] at hP1
  obtain ⟨e1, e2⟩ := Prod.mk.inj hw
  subst e1
  subst e2
  obtain ⟨σ16, rfl⟩ : ∃ z, z = u := ⟨_, rfl⟩
  have hP := fd_kH hdis hP hz hk
  have hQ := hP1
  generalize H1 = H at hP hQ hS ⊢
  refine W.cs (cells' := cl + 1) (slots' := sl + 6) rfl rfl ?_
  refine lv_lstore (lv' := [(6, .long v13), (5, .int v5), (0, .ref b), (1, .ref (a 0)), (2, .ref (a2 0)), (3, .ref (a 39)), (4, .int i)]) hx hb dL_law_748 hl (by decide) rfl (fun ls hl => ?_)
  refine lv_aload_n hx hb dL_law_750 rfl (lv_at hl 4 rfl) ?_
  obtain ⟨w19, τ20, hc17, hf⟩ := fd_bds hf
  refine va_calli (va_runV (As := []) (rest := []) ⟨hx, hb, hml, hown, hts⟩ (m_X11_thrown_0 l D a2 k2 H.size hI2 N σ16 _ hc17) (cwV 0 hts gL_law_X11_thrown rfl rfl rfl (by decide +kernel) ⟨Nat.le_of_ble_eq_true rfl, Nat.le_of_ble_eq_true rfl⟩) ⟨fd_blM, va_recv hK2 hQ (ci := 11) (q0 := 0) rfl fd_WM_0, fd_prM hQ hK2⟩ rfl rfl hl.1 rfl (lv_room (Nat.le_of_ble_eq_true rfl)) dL_law_751 ⟨by show cl + 1 + 0 ≤ 94; omega, by show sl + 6 + 0 ≤ 10469; omega⟩) hS (fun q _ h => fd_AL hJ2 hS.1 h) (fun q h => fd_AL hJ2 hS.1 h) (fun v18 u t H1 locs ht hvm hw hB hz hk hS => ?_)
  obtain ⟨hP1, hK1⟩ := hB
  rw [ht] at hP1
  obtain ⟨e1, e2⟩ := Prod.mk.inj hw
  subst e1
  subst e2
  obtain ⟨σ21, rfl⟩ : ∃ z, z = u := ⟨_, rfl⟩
  have hP := fd_kH hdis hP hz hk
  have hQ := hP1
  generalize H1 = H at hP hQ hS ⊢
  refine W.cs (cells' := cl + 1) (slots' := sl + 6) rfl rfl ?_
  refine lv_iload hx hb dL_law_754 (lv_at hl 1 rfl) ?_
  refine lv_icmp_eq (tgt := 761) hx hb dL_law_756 (by decide) (fun c22 => ?_) (fun c22 => ?_)
  · have hf := fd_itp c22 hf
    refine lv_iload hx hb dL_law_761 (lv_at hl 1 rfl) ?_
    refine lv_if_ne (tgt := 777) hx hb dL_law_763 (by decide) (fun c23 => ?_) (fun c23 => ?_)
    · have hf := fd_itn c23 hf
      refine lv_goto (tgt := 1572) hx hb dL_law_777 (by decide) ?_
      obtain ⟨x24, ex24, hf⟩ := fd_lts hf
      refine lv_iinc (v := x24) (lv' := [(4, .int x24), (6, .long v13), (5, .int v5), (0, .ref b), (1, .ref (a 0)), (2, .ref (a2 0)), (3, .ref (a 39))]) hx hb dL_law_1572 hl (k := 6) rfl (by rw [ex24]; rfl) (by decide) rfl (fun ls hl => ?_)
      refine lv_goto (tgt := 23) hx hb dL_law_1575 (by decide) ?_
      exact hK9 _ _ _ _ _ _ _ _ (by omega) (by omega) hP hQ hS (lv_sub hl [3, 4, 5, 6, 0] rfl) hf
    · have hf := fd_itp c23 hf
      refine lv_aload_n hx hb dL_law_766 rfl (lv_at hl 5 rfl) ?_
      refine lv_iconst (v := (0 : Int32)) hx hb dL_law_767 (by decide) ?_
      obtain ⟨g25, hf⟩ := fd_gds hf
      refine va_lald hx hb hK hP 39 27 fd_WH_39 fd_tyH_39 g25 dL_law_768 ?_
      refine lv_lload hx hb dL_law_769 (lv_at hl 0 rfl) ?_
      refine W.lcmp hx hb dL_law_771 ?_
      refine lv_if_eq (tgt := 777) hx hb dL_law_772 (by decide) (fun c26 => ?_) (fun c26 => ?_)
      · have hf := fd_itp c26 hf
        refine lv_goto (tgt := 1572) hx hb dL_law_777 (by decide) ?_
        obtain ⟨x27, ex27, hf⟩ := fd_lts hf
        refine lv_iinc (v := x27) (lv' := [(4, .int x27), (6, .long v13), (5, .int v5), (0, .ref b), (1, .ref (a 0)), (2, .ref (a2 0)), (3, .ref (a 39))]) hx hb dL_law_1572 hl (k := 6) rfl (by rw [ex27]; rfl) (by decide) rfl (fun ls hl => ?_)
        refine lv_goto (tgt := 23) hx hb dL_law_1575 (by decide) ?_
        exact hK9 _ _ _ _ _ _ _ _ (by omega) (by omega) hP hQ hS (lv_sub hl [3, 4, 5, 6, 0] rfl) hf
      · have hf := fd_itn c26 hf
        refine lv_iconst (v := (0 : Int32)) hx hb dL_law_775 (by decide) ?_
        exact absurd (Option.some.inj hf) (by decide)
  · have hf := fd_itn c22 hf
    refine lv_iconst (v := (0 : Int32)) hx hb dL_law_759 (by decide) ?_
    exact absurd (Option.some.inj hf) (by decide)
noncomputable def f_law_c9 (N L : Nat) (xs : Nat → Int32) (K : Int32 → fd_St → fd_St → Option Int32) (i : Int32) (σ μ : fd_St) : Option Int32 := fd_bd (f_X10_run_0 N σ) (fun v2 σ5 => fd_lt (fd_mix σ5 σ) (fun σ6 => fd_bd (f_X11_run_0 N μ) (fun v8 σ11 => if v2 = v8 then (fd_lt (i + (6 : Int32)) (fun x13 => K x13 σ6 σ11)) else (some (0 : Int32)))))
set_option maxHeartbeats 4000000 in
set_option maxRecDepth 100000 in
theorem law_c9 {p : Program} {l : Launch} {e : Env} {s : State} {m : MethodId} {below : List Frame} {meth : Method} {c : Code} {D : va_G} {a a2 : Nat → Nat} {k k2 : Nat → ClassId} {b L : Nat} {xs : Nat → Int32} (C0 : fd_Cx p l s m meth c D a a2 k k2 b L xs) (N : Nat) (K : Int32 → fd_St → fd_St → Option Int32) (n : Nat) (hK9 : ∀ (i : Int32) (σ μ : fd_St) (cl sl : Nat) (H : Heap) (locs : List Loc) (ls : Array Slot), cl + n ≤ 94 → sl + 6 * n ≤ 10469 → va_P D vwCl (fd_WH a k σ) H → va_P D vwCl (fd_WM a2 k2 μ) H → va_S (fun q => s.heap.size ≤ q) s.heap H locs → lv_has ls 8 [(0, .ref b), (1, .ref (a 0)), (2, .ref (a2 0)), (3, .ref (a 39)), (4, .int i)] → K i σ μ = some 1 → W p l e room_1 s m #[Value.ref b] below meth c H locs cl sl (lw_Z below #[Value.ref b] s) (F0 m 23 ls [])) : ∀ (i : Int32) (σ μ : fd_St) (cl sl : Nat) (H : Heap) (locs : List Loc) (ls : Array Slot), cl + (n + 1) ≤ 94 → sl + 6 * (n + 1) ≤ 10469 → va_P D vwCl (fd_WH a k σ) H → va_P D vwCl (fd_WM a2 k2 μ) H → va_S (fun q => s.heap.size ≤ q) s.heap H locs → lv_has ls 8 [(0, .ref b), (1, .ref (a 0)), (2, .ref (a2 0)), (3, .ref (a 39)), (4, .int i)] → f_law_c9 N L xs K i σ μ = some 1 → W p l e room_1 s m #[Value.ref b] below meth c H locs cl sl (lw_Z below #[Value.ref b] s) (F0 m 780 ls []) := by
  obtain ⟨⟨hx, hb, hr, hml, hown, hts0, hX, hbl, hlocks, hgv⟩, hl9, hI, hI2, hJ, hJ2, hdis, hK, hK2, hZ⟩ := C0
  have hown : s.vm.findClass RL = some m.cls := hown
  have hts : ∀ w ∈ fd_wl, w.before #[Value.ref b] s = true := fun w h => hts0 w (fd_wl_in w h)
  have hA : ∀ q : Nat, s.heap.size ≤ q → (fun q : Nat => s.heap.size ≤ q) q := fun _ h => h
  have hbA : ¬ (fun q : Nat => s.heap.size ≤ q) b := Nat.not_le.mpr hbl
  intro i σ μ cl sl H locs ls hcl hsl hP hQ hS hl hf
  unfold f_law_c9 at hf
  refine lv_aload_n hx hb dL_law_780 rfl (lv_at hl 1 rfl) ?_
  obtain ⟨w3, τ4, hc1, hf⟩ := fd_bds hf
  refine va_calli (va_runV (As := []) (rest := []) ⟨hx, hb, hml, hown, hts⟩ (m_X10_run_0 l D a k H.size (fd_I40 hI) N σ _ hc1) (cwV 0 hts gL_law_X10_run rfl rfl rfl (by decide +kernel) ⟨Nat.le_of_ble_eq_true rfl, Nat.le_of_ble_eq_true rfl⟩) ⟨fd_blC, va_recv (fd_HK hK) (fd_HC hP) (ci := 10) (q0 := 0) rfl fd_WC_0, fd_prC (fd_HC hP) (fd_HK hK)⟩ rfl rfl hl.1 rfl (lv_room (Nat.le_of_ble_eq_true rfl)) dL_law_781 ⟨by show cl + 0 ≤ 94; omega, by show sl + 0 ≤ 10469; omega⟩) hS (fun q _ h => fd_AL3 hJ hS.1 h) (fun q h => fd_AL3 hJ hS.1 h) (fun v2 u t H1 locs ht hvm hw hB hz hk hS => ?_)
  obtain ⟨hP1, hK1⟩ := hB
  rw [ht] at hP1
  obtain ⟨e1, e2⟩ := Prod.mk.inj hw
  subst e1
  subst e2
  obtain ⟨σ5, rfl⟩ : ∃ z, z = u := ⟨_, rfl⟩
  obtain ⟨σ6, eσ6, hf⟩ := fd_lts hf
  have hQ := fd_kM3 hdis hJ hQ hz hk
  have hP : va_P D vwCl (fd_WH a k σ6) H1 := by rw [eσ6]; exact fd_HJ hI hP hP1 hk
  generalize H1 = H at hP hQ hS ⊢
  refine W.cs (cells' := cl) (slots' := sl) rfl rfl ?_
  refine lv_aload_n hx hb dL_law_784 rfl (lv_at hl 2 rfl) ?_
  obtain ⟨w9, τ10, hc7, hf⟩ := fd_bds hf
  refine va_calli (va_runV (As := []) (rest := [.int v2]) ⟨hx, hb, hml, hown, hts⟩ (m_X11_run_0 l D a2 k2 H.size hI2 N μ _ hc7) (cwV 0 hts gL_law_X11_run rfl rfl rfl (by decide +kernel) ⟨Nat.le_of_ble_eq_true rfl, Nat.le_of_ble_eq_true rfl⟩) ⟨fd_blM, va_recv hK2 hQ (ci := 11) (q0 := 0) rfl fd_WM_0, fd_prM hQ hK2⟩ rfl rfl hl.1 rfl (lv_room (Nat.le_of_ble_eq_true rfl)) dL_law_785 ⟨by show cl + 0 ≤ 94; omega, by show sl + 0 ≤ 10469; omega⟩) hS (fun q _ h => fd_AL hJ2 hS.1 h) (fun q h => fd_AL hJ2 hS.1 h) (fun v8 u t H1 locs ht hvm hw hB hz hk hS => ?_)
  obtain ⟨hP1, hK1⟩ := hB
  rw [ht] at hP1
  obtain ⟨e1, e2⟩ := Prod.mk.inj hw
  subst e1
  subst e2
  obtain ⟨σ11, rfl⟩ : ∃ z, z = u := ⟨_, rfl⟩
  have hP := fd_kH hdis hP hz hk
  have hQ := hP1
  generalize H1 = H at hP hQ hS ⊢
  refine W.cs (cells' := cl) (slots' := sl) rfl rfl ?_
  refine lv_icmp_eq (tgt := 1572) hx hb dL_law_788 (by decide) (fun c12 => ?_) (fun c12 => ?_)
  · have hf := fd_itp c12 hf
    obtain ⟨x13, ex13, hf⟩ := fd_lts hf
    refine lv_iinc (v := x13) (lv' := [(4, .int x13), (0, .ref b), (1, .ref (a 0)), (2, .ref (a2 0)), (3, .ref (a 39))]) hx hb dL_law_1572 hl (k := 4) rfl (by rw [ex13]; rfl) (by decide) rfl (fun ls hl => ?_)
    refine lv_goto (tgt := 23) hx hb dL_law_1575 (by decide) ?_
    exact hK9 _ _ _ _ _ _ _ _ (by omega) (by omega) hP hQ hS (lv_sub hl [1, 2, 3, 4, 0] rfl) hf
  · have hf := fd_itn c12 hf
    refine lv_iconst (v := (0 : Int32)) hx hb dL_law_791 (by decide) ?_
    exact absurd (Option.some.inj hf) (by decide)
noncomputable def f_law_c10 (N L : Nat) (xs : Nat → Int32) (K : Int32 → fd_St → fd_St → Option Int32) (i : Int32) (σ μ : fd_St) : Option Int32 := fd_gd (vp_in (i + (1 : Int32)) L) (fd_gd (vp_in (i + (2 : Int32)) L) (fd_bd (f_L_suspect_0_39 N (xs (i + (1 : Int32)).toNatClampNeg) (xs (i + (2 : Int32)).toNatClampNeg) σ) (fun v4 σ7 => fd_gd (vp_in (i + (1 : Int32)) L) (fd_gd (vp_in (i + (2 : Int32)) L) (fd_bd (f_X11_suspect_0 N (xs (i + (1 : Int32)).toNatClampNeg) (xs (i + (2 : Int32)).toNatClampNeg) μ) (fun v11 σ14 => fd_bd (f_X11_thrown_0 N σ14) (fun v16 σ19 => if v16 = v4 then (if v4 = 0 then (fd_gd (vp_in (0 : Int32) 1) (if (lg_cmp (σ7.2.2 39 (0 : Int32).toNatClampNeg) v11.toInt64) = 0 then (fd_lt (i + (6 : Int32)) (fun x25 => K x25 σ7 σ19)) else (some (0 : Int32)))) else (fd_lt (i + (6 : Int32)) (fun x22 => K x22 σ7 σ19))) else (some (0 : Int32)))))))))
set_option maxHeartbeats 4000000 in
set_option maxRecDepth 100000 in
theorem law_c10 {p : Program} {l : Launch} {e : Env} {s : State} {m : MethodId} {below : List Frame} {meth : Method} {c : Code} {D : va_G} {a a2 : Nat → Nat} {k k2 : Nat → ClassId} {b L : Nat} {xs : Nat → Int32} (C0 : fd_Cx p l s m meth c D a a2 k k2 b L xs) (N : Nat) (K : Int32 → fd_St → fd_St → Option Int32) (n : Nat) (hK9 : ∀ (i : Int32) (σ μ : fd_St) (cl sl : Nat) (H : Heap) (locs : List Loc) (ls : Array Slot), cl + n ≤ 94 → sl + 6 * n ≤ 10469 → va_P D vwCl (fd_WH a k σ) H → va_P D vwCl (fd_WM a2 k2 μ) H → va_S (fun q => s.heap.size ≤ q) s.heap H locs → lv_has ls 8 [(0, .ref b), (1, .ref (a 0)), (2, .ref (a2 0)), (3, .ref (a 39)), (4, .int i)] → K i σ μ = some 1 → W p l e room_1 s m #[Value.ref b] below meth c H locs cl sl (lw_Z below #[Value.ref b] s) (F0 m 23 ls [])) : ∀ (i : Int32) (σ μ : fd_St) (cl sl : Nat) (H : Heap) (locs : List Loc) (ls : Array Slot), cl + (n + 1) ≤ 94 → sl + 6 * (n + 1) ≤ 10469 → va_P D vwCl (fd_WH a k σ) H → va_P D vwCl (fd_WM a2 k2 μ) H → va_S (fun q => s.heap.size ≤ q) s.heap H locs → lv_has ls 8 [(0, .ref b), (1, .ref (a 0)), (2, .ref (a2 0)), (3, .ref (a 39)), (4, .int i)] → f_law_c10 N L xs K i σ μ = some 1 → W p l e room_1 s m #[Value.ref b] below meth c H locs cl sl (lw_Z below #[Value.ref b] s) (F0 m 793 ls []) := by
  obtain ⟨⟨hx, hb, hr, hml, hown, hts0, hX, hbl, hlocks, hgv⟩, hl9, hI, hI2, hJ, hJ2, hdis, hK, hK2, hZ⟩ := C0
  have hown : s.vm.findClass RL = some m.cls := hown
  have hts : ∀ w ∈ fd_wl, w.before #[Value.ref b] s = true := fun w h => hts0 w (fd_wl_in w h)
  have hA : ∀ q : Nat, s.heap.size ≤ q → (fun q : Nat => s.heap.size ≤ q) q := fun _ h => h
  have hbA : ¬ (fun q : Nat => s.heap.size ≤ q) b := Nat.not_le.mpr hbl
  intro i σ μ cl sl H locs ls hcl hsl hP hQ hS hl hf
  unfold f_law_c10 at hf
  refine lv_aload_n hx hb dL_law_793 rfl (lv_at hl 1 rfl) ?_
  refine lv_aload_n hx hb dL_law_794 rfl (lv_at hl 0 rfl) ?_
  refine lv_iload hx hb dL_law_795 (lv_at hl 4 rfl) ?_
  refine lv_iconst (v := (1 : Int32)) hx hb dL_law_797 (by decide) ?_
  refine lv_iadd hx hb dL_law_798 ?_
  obtain ⟨g1, hf⟩ := fd_gds hf
  refine va_sld hx hb hX hbl hbA hS g1 dL_law_799 ?_
  refine lv_aload_n hx hb dL_law_800 rfl (lv_at hl 0 rfl) ?_
  refine lv_iload hx hb dL_law_801 (lv_at hl 4 rfl) ?_
  refine lv_iconst (v := (2 : Int32)) hx hb dL_law_803 (by decide) ?_
  refine lv_iadd hx hb dL_law_804 ?_
  obtain ⟨g2, hf⟩ := fd_gds hf
  refine va_sld hx hb hX hbl hbA hS g2 dL_law_805 ?_
  refine lv_aload_n hx hb dL_law_806 rfl (lv_at hl 3 rfl) ?_
  obtain ⟨w5, τ6, hc3, hf⟩ := fd_bds hf
  refine va_calli (vx_runSW (As := [.ref (a 0), .int (xs (i + (1 : Int32)).toNatClampNeg), .int (xs (i + (2 : Int32)).toNatClampNeg), .ref (a 39)]) (rest := []) ⟨hx, hb, hml, hown, hts⟩ (m_L_suspect_0_39 l hl9 D a k H.size hI N (xs (i + (1 : Int32)).toNatClampNeg) (xs (i + (2 : Int32)).toNatClampNeg) σ _ hc3) (vx_cwSW 4 hts gL_law_L_suspect rfl rfl rfl (by decide +kernel) ⟨Nat.le_of_ble_eq_true rfl, Nat.le_of_ble_eq_true rfl⟩) ⟨fd_blH, fd_prL hP hK hZ hS hJ⟩ rfl rfl hl.1 rfl (lv_room (Nat.le_of_ble_eq_true rfl)) dL_law_807 ⟨by show cl + 1 ≤ 94; omega, by show sl + 6 ≤ 10469; omega⟩) hS (fun q _ h => fd_AL hJ hS.1 h) (fun q h => fd_AL hJ hS.1 h) (fun v4 u t H1 locs ht hvm hw hB hz hk hS => ?_)
  obtain ⟨hP1, hK1⟩ := hB
  rw [ht] at hP1
  obtain ⟨e1, e2⟩ := Prod.mk.inj hw
  subst e1
  subst e2
  obtain ⟨σ7, rfl⟩ : ∃ z, z = u := ⟨_, rfl⟩
  have hQ := fd_kM hdis hJ hQ hz hk
  have hP := hP1
  generalize H1 = H at hP hQ hS ⊢
  refine W.cs (cells' := cl + 1) (slots' := sl + 6) rfl rfl ?_
  refine lv_istore (lv' := [(5, .int v4), (0, .ref b), (1, .ref (a 0)), (2, .ref (a2 0)), (3, .ref (a 39)), (4, .int i)]) hx hb dL_law_810 hl (by decide) rfl (fun ls hl => ?_)
  refine lv_aload_n hx hb dL_law_812 rfl (lv_at hl 3 rfl) ?_
  refine lv_aload_n hx hb dL_law_813 rfl (lv_at hl 1 rfl) ?_
  refine lv_iload hx hb dL_law_814 (lv_at hl 5 rfl) ?_
  refine lv_iconst (v := (1 : Int32)) hx hb dL_law_816 (by decide) ?_
  refine lv_iadd hx hb dL_law_817 ?_
  obtain ⟨g8, hf⟩ := fd_gds hf
  refine va_sld hx hb hX hbl hbA hS g8 dL_law_818 ?_
  refine lv_aload_n hx hb dL_law_819 rfl (lv_at hl 1 rfl) ?_
  refine lv_iload hx hb dL_law_820 (lv_at hl 5 rfl) ?_
  refine lv_iconst (v := (2 : Int32)) hx hb dL_law_822 (by decide) ?_
  refine lv_iadd hx hb dL_law_823 ?_
  obtain ⟨g9, hf⟩ := fd_gds hf
  refine va_sld hx hb hX hbl hbA hS g9 dL_law_824 ?_
  obtain ⟨w12, τ13, hc10, hf⟩ := fd_bds hf
  refine va_calli (va_runV (As := [.int (xs (i + (1 : Int32)).toNatClampNeg), .int (xs (i + (2 : Int32)).toNatClampNeg)]) (rest := []) ⟨hx, hb, hml, hown, hts⟩ (m_X11_suspect_0 l D a2 k2 H.size hI2 N (xs (i + (1 : Int32)).toNatClampNeg) (xs (i + (2 : Int32)).toNatClampNeg) μ _ hc10) (cwV 2 hts gL_law_X11_suspect rfl rfl rfl (by decide +kernel) ⟨Nat.le_of_ble_eq_true rfl, Nat.le_of_ble_eq_true rfl⟩) ⟨fd_blM, va_recv hK2 hQ (ci := 11) (q0 := 0) rfl fd_WM_0, fd_prM hQ hK2⟩ rfl rfl hl.1 rfl (lv_room (Nat.le_of_ble_eq_true rfl)) dL_law_825 ⟨by show cl + 1 + 0 ≤ 94; omega, by show sl + 6 + 0 ≤ 10469; omega⟩) hS (fun q _ h => fd_AL hJ2 hS.1 h) (fun q h => fd_AL hJ2 hS.1 h) (fun v11 u t H1 locs ht hvm hw hB hz hk hS => ?_)
  obtain ⟨hP1, hK1⟩ := hB
  rw [ht] at hP1
  obtain ⟨e1, e2⟩ := Prod.mk.inj hw
  subst e1
  subst e2
  obtain ⟨σ14, rfl⟩ : ∃ z, z = u := ⟨_, rfl⟩
  have hP := fd_kH hdis hP hz hk
  have hQ := hP1
  generalize H1 = H at hP hQ hS ⊢
  refine W.cs (cells' := cl + 1) (slots' := sl + 6) rfl rfl ?_
  refine lv_istore (lv' := [(6, .int v11), (5, .int v4), (0, .ref b), (1, .ref (a 0)), (2, .ref (a2 0)), (3, .ref (a 39)), (4, .int i)]) hx hb dL_law_828 hl (by decide) rfl (fun ls hl => ?_)
  refine lv_aload_n hx hb dL_law_830 rfl (lv_at hl 4 rfl) ?_
  obtain ⟨w17, τ18, hc15, hf⟩ := fd_bds hf
  refine va_calli (va_runV (As := []) (rest := []) ⟨hx, hb, hml, hown, hts⟩ (m_X11_thrown_0 l D a2 k2 H.size hI2 N σ14 _ hc15) (cwV 0 hts gL_law_X11_thrown rfl rfl rfl (by decide +kernel) ⟨Nat.le_of_ble_eq_true rfl, Nat.le_of_ble_eq_true rfl⟩) ⟨fd_blM, va_recv hK2 hQ (ci := 11) (q0 := 0) rfl fd_WM_0, fd_prM hQ hK2⟩ rfl rfl hl.1 rfl (lv_room (Nat.le_of_ble_eq_true rfl)) dL_law_831 ⟨by show cl + 1 + 0 ≤ 94; omega, by show sl + 6 + 0 ≤ 10469; omega⟩) hS (fun q _ h => fd_AL hJ2 hS.1 h) (fun q h => fd_AL hJ2 hS.1 h) (fun v16 u t H1 locs ht hvm hw hB hz hk hS => ?_)
  obtain ⟨hP1, hK1⟩ := hB
  rw [ht] at hP1
  obtain ⟨e1, e2⟩ := Prod.mk.inj hw
  subst e1
  subst e2
  obtain ⟨σ19, rfl⟩ : ∃ z, z = u := ⟨_, rfl⟩
  have hP := fd_kH hdis hP hz hk
  have hQ := hP1
  generalize H1 = H at hP hQ hS ⊢
  refine W.cs (cells' := cl + 1) (slots' := sl + 6) rfl rfl ?_
  refine lv_iload hx hb dL_law_834 (lv_at hl 1 rfl) ?_
  refine lv_icmp_eq (tgt := 841) hx hb dL_law_836 (by decide) (fun c20 => ?_) (fun c20 => ?_)
  · have hf := fd_itp c20 hf
    refine lv_iload hx hb dL_law_841 (lv_at hl 1 rfl) ?_
    refine lv_if_ne (tgt := 858) hx hb dL_law_843 (by decide) (fun c21 => ?_) (fun c21 => ?_)
    · have hf := fd_itn c21 hf
      refine lv_goto (tgt := 1572) hx hb dL_law_858 (by decide) ?_
      obtain ⟨x22, ex22, hf⟩ := fd_lts hf
      refine lv_iinc (v := x22) (lv' := [(4, .int x22), (6, .int v11), (5, .int v4), (0, .ref b), (1, .ref (a 0)), (2, .ref (a2 0)), (3, .ref (a 39))]) hx hb dL_law_1572 hl (k := 6) rfl (by rw [ex22]; rfl) (by decide) rfl (fun ls hl => ?_)
      refine lv_goto (tgt := 23) hx hb dL_law_1575 (by decide) ?_
      exact hK9 _ _ _ _ _ _ _ _ (by omega) (by omega) hP hQ hS (lv_sub hl [3, 4, 5, 6, 0] rfl) hf
    · have hf := fd_itp c21 hf
      refine lv_aload_n hx hb dL_law_846 rfl (lv_at hl 5 rfl) ?_
      refine lv_iconst (v := (0 : Int32)) hx hb dL_law_847 (by decide) ?_
      obtain ⟨g23, hf⟩ := fd_gds hf
      refine va_lald hx hb hK hP 39 27 fd_WH_39 fd_tyH_39 g23 dL_law_848 ?_
      refine lv_iload hx hb dL_law_849 (lv_at hl 0 rfl) ?_
      refine lv_i2l hx hb dL_law_851 rfl ?_
      refine W.lcmp hx hb dL_law_852 ?_
      refine lv_if_eq (tgt := 858) hx hb dL_law_853 (by decide) (fun c24 => ?_) (fun c24 => ?_)
      · have hf := fd_itp c24 hf
        refine lv_goto (tgt := 1572) hx hb dL_law_858 (by decide) ?_
        obtain ⟨x25, ex25, hf⟩ := fd_lts hf
        refine lv_iinc (v := x25) (lv' := [(4, .int x25), (6, .int v11), (5, .int v4), (0, .ref b), (1, .ref (a 0)), (2, .ref (a2 0)), (3, .ref (a 39))]) hx hb dL_law_1572 hl (k := 6) rfl (by rw [ex25]; rfl) (by decide) rfl (fun ls hl => ?_)
        refine lv_goto (tgt := 23) hx hb dL_law_1575 (by decide) ?_
        exact hK9 _ _ _ _ _ _ _ _ (by omega) (by omega) hP hQ hS (lv_sub hl [3, 4, 5, 6, 0] rfl) hf
      · have hf := fd_itn c24 hf
        refine lv_iconst (v := (0 : Int32)) hx hb dL_law_856 (by decide) ?_
        exact absurd (Option.some.inj hf) (by decide)
  · have hf := fd_itn c20 hf
    refine lv_iconst (v := (0 : Int32)) hx hb dL_law_839 (by decide) ?_
    exact absurd (Option.some.inj hf) (by decide)
noncomputable def f_law_c11 (N L : Nat) (xs : Nat → Int32) (K : Int32 → fd_St → fd_St → Option Int32) (i : Int32) (σ μ : fd_St) : Option Int32 := fd_gd (vp_in (i + (1 : Int32)) L) (fd_bd (f_L_pair_0_39 N (xs (i + (1 : Int32)).toNatClampNeg) σ) (fun v3 σ6 => fd_gd (vp_in (i + (1 : Int32)) L) (fd_bd (f_X11_pair_0 N (xs (i + (1 : Int32)).toNatClampNeg) μ) (fun v9 σ12 => fd_bd (f_X11_thrown_0 N σ12) (fun v14 σ17 => if v14 = v3 then (if v3 = 0 then (fd_gd (vp_in (0 : Int32) 1) (if (lg_cmp (σ6.2.2 39 (0 : Int32).toNatClampNeg) v9.toInt64) = 0 then (fd_lt (i + (6 : Int32)) (fun x23 => K x23 σ6 σ17)) else (some (0 : Int32)))) else (fd_lt (i + (6 : Int32)) (fun x20 => K x20 σ6 σ17))) else (some (0 : Int32)))))))
set_option maxHeartbeats 4000000 in
set_option maxRecDepth 100000 in
theorem law_c11 {p : Program} {l : Launch} {e : Env} {s : State} {m : MethodId} {below : List Frame} {meth : Method} {c : Code} {D : va_G} {a a2 : Nat → Nat} {k k2 : Nat → ClassId} {b L : Nat} {xs : Nat → Int32} (C0 : fd_Cx p l s m meth c D a a2 k k2 b L xs) (N : Nat) (K : Int32 → fd_St → fd_St → Option Int32) (n : Nat) (hK9 : ∀ (i : Int32) (σ μ : fd_St) (cl sl : Nat) (H : Heap) (locs : List Loc) (ls : Array Slot), cl + n ≤ 94 → sl + 6 * n ≤ 10469 → va_P D vwCl (fd_WH a k σ) H → va_P D vwCl (fd_WM a2 k2 μ) H → va_S (fun q => s.heap.size ≤ q) s.heap H locs → lv_has ls 8 [(0, .ref b), (1, .ref (a 0)), (2, .ref (a2 0)), (3, .ref (a 39)), (4, .int i)] → K i σ μ = some 1 → W p l e room_1 s m #[Value.ref b] below meth c H locs cl sl (lw_Z below #[Value.ref b] s) (F0 m 23 ls [])) : ∀ (i : Int32) (σ μ : fd_St) (cl sl : Nat) (H : Heap) (locs : List Loc) (ls : Array Slot), cl + (n + 1) ≤ 94 → sl + 6 * (n + 1) ≤ 10469 → va_P D vwCl (fd_WH a k σ) H → va_P D vwCl (fd_WM a2 k2 μ) H → va_S (fun q => s.heap.size ≤ q) s.heap H locs → lv_has ls 8 [(0, .ref b), (1, .ref (a 0)), (2, .ref (a2 0)), (3, .ref (a 39)), (4, .int i)] → f_law_c11 N L xs K i σ μ = some 1 → W p l e room_1 s m #[Value.ref b] below meth c H locs cl sl (lw_Z below #[Value.ref b] s) (F0 m 861 ls []) := by
  obtain ⟨⟨hx, hb, hr, hml, hown, hts0, hX, hbl, hlocks, hgv⟩, hl9, hI, hI2, hJ, hJ2, hdis, hK, hK2, hZ⟩ := C0
  have hown : s.vm.findClass RL = some m.cls := hown
  have hts : ∀ w ∈ fd_wl, w.before #[Value.ref b] s = true := fun w h => hts0 w (fd_wl_in w h)
  have hA : ∀ q : Nat, s.heap.size ≤ q → (fun q : Nat => s.heap.size ≤ q) q := fun _ h => h
  have hbA : ¬ (fun q : Nat => s.heap.size ≤ q) b := Nat.not_le.mpr hbl
  intro i σ μ cl sl H locs ls hcl hsl hP hQ hS hl hf
  unfold f_law_c11 at hf
  refine lv_aload_n hx hb dL_law_861 rfl (lv_at hl 1 rfl) ?_
  refine lv_aload_n hx hb dL_law_862 rfl (lv_at hl 0 rfl) ?_
  refine lv_iload hx hb dL_law_863 (lv_at hl 4 rfl) ?_
  refine lv_iconst (v := (1 : Int32)) hx hb dL_law_865 (by decide) ?_
  refine lv_iadd hx hb dL_law_866 ?_
  obtain ⟨g1, hf⟩ := fd_gds hf
  refine va_sld hx hb hX hbl hbA hS g1 dL_law_867 ?_
  refine lv_aload_n hx hb dL_law_868 rfl (lv_at hl 3 rfl) ?_
  obtain ⟨w4, τ5, hc2, hf⟩ := fd_bds hf
  refine va_calli (vx_runSW (As := [.ref (a 0), .int (xs (i + (1 : Int32)).toNatClampNeg), .ref (a 39)]) (rest := []) ⟨hx, hb, hml, hown, hts⟩ (m_L_pair_0_39 l hl9 D a k H.size hI N (xs (i + (1 : Int32)).toNatClampNeg) σ _ hc2) (vx_cwSW 3 hts gL_law_L_pair rfl rfl rfl (by decide +kernel) ⟨Nat.le_of_ble_eq_true rfl, Nat.le_of_ble_eq_true rfl⟩) ⟨fd_blH, fd_prL hP hK hZ hS hJ⟩ rfl rfl hl.1 rfl (lv_room (Nat.le_of_ble_eq_true rfl)) dL_law_869 ⟨by show cl + 1 ≤ 94; omega, by show sl + 6 ≤ 10469; omega⟩) hS (fun q _ h => fd_AL hJ hS.1 h) (fun q h => fd_AL hJ hS.1 h) (fun v3 u t H1 locs ht hvm hw hB hz hk hS => ?_)
  obtain ⟨hP1, hK1⟩ := hB
  rw [ht] at hP1
  obtain ⟨e1, e2⟩ := Prod.mk.inj hw
  subst e1
  subst e2
  obtain ⟨σ6, rfl⟩ : ∃ z, z = u := ⟨_, rfl⟩
  have hQ := fd_kM hdis hJ hQ hz hk
  have hP := hP1
  generalize H1 = H at hP hQ hS ⊢
  refine W.cs (cells' := cl + 1) (slots' := sl + 6) rfl rfl ?_
  refine lv_istore (lv' := [(5, .int v3), (0, .ref b), (1, .ref (a 0)), (2, .ref (a2 0)), (3, .ref (a 39)), (4, .int i)]) hx hb dL_law_872 hl (by decide) rfl (fun ls hl => ?_)
  refine lv_aload_n hx hb dL_law_874 rfl (lv_at hl 3 rfl) ?_
  refine lv_aload_n hx hb dL_law_875 rfl (lv_at hl 1 rfl) ?_
  refine lv_iload hx hb dL_law_876 (lv_at hl 5 rfl) ?_
  refine lv_iconst (v := (1 : Int32)) hx hb dL_law_878 (by decide) ?_
  refine lv_iadd hx hb dL_law_879 ?_
  obtain ⟨g7, hf⟩ := fd_gds hf
  refine va_sld hx hb hX hbl hbA hS g7 dL_law_880 ?_
  obtain ⟨w10, τ11, hc8, hf⟩ := fd_bds hf
  refine va_calli (va_runV (As := [.int (xs (i + (1 : Int32)).toNatClampNeg)]) (rest := []) ⟨hx, hb, hml, hown, hts⟩ (m_X11_pair_0 l D a2 k2 H.size hI2 N (xs (i + (1 : Int32)).toNatClampNeg) μ _ hc8) (cwV 1 hts gL_law_X11_pair rfl rfl rfl (by decide +kernel) ⟨Nat.le_of_ble_eq_true rfl, Nat.le_of_ble_eq_true rfl⟩) ⟨fd_blM, va_recv hK2 hQ (ci := 11) (q0 := 0) rfl fd_WM_0, fd_prM hQ hK2⟩ rfl rfl hl.1 rfl (lv_room (Nat.le_of_ble_eq_true rfl)) dL_law_881 ⟨by show cl + 1 + 0 ≤ 94; omega, by show sl + 6 + 0 ≤ 10469; omega⟩) hS (fun q _ h => fd_AL hJ2 hS.1 h) (fun q h => fd_AL hJ2 hS.1 h) (fun v9 u t H1 locs ht hvm hw hB hz hk hS => ?_)
  obtain ⟨hP1, hK1⟩ := hB
  rw [ht] at hP1
  obtain ⟨e1, e2⟩ := Prod.mk.inj hw
  subst e1
  subst e2
  obtain ⟨σ12, rfl⟩ : ∃ z, z = u := ⟨_, rfl⟩
  have hP := fd_kH hdis hP hz hk
  have hQ := hP1
  generalize H1 = H at hP hQ hS ⊢
  refine W.cs (cells' := cl + 1) (slots' := sl + 6) rfl rfl ?_
  refine lv_istore (lv' := [(6, .int v9), (5, .int v3), (0, .ref b), (1, .ref (a 0)), (2, .ref (a2 0)), (3, .ref (a 39)), (4, .int i)]) hx hb dL_law_884 hl (by decide) rfl (fun ls hl => ?_)
  refine lv_aload_n hx hb dL_law_886 rfl (lv_at hl 4 rfl) ?_
  obtain ⟨w15, τ16, hc13, hf⟩ := fd_bds hf
  refine va_calli (va_runV (As := []) (rest := []) ⟨hx, hb, hml, hown, hts⟩ (m_X11_thrown_0 l D a2 k2 H.size hI2 N σ12 _ hc13) (cwV 0 hts gL_law_X11_thrown rfl rfl rfl (by decide +kernel) ⟨Nat.le_of_ble_eq_true rfl, Nat.le_of_ble_eq_true rfl⟩) ⟨fd_blM, va_recv hK2 hQ (ci := 11) (q0 := 0) rfl fd_WM_0, fd_prM hQ hK2⟩ rfl rfl hl.1 rfl (lv_room (Nat.le_of_ble_eq_true rfl)) dL_law_887 ⟨by show cl + 1 + 0 ≤ 94; omega, by show sl + 6 + 0 ≤ 10469; omega⟩) hS (fun q _ h => fd_AL hJ2 hS.1 h) (fun q h => fd_AL hJ2 hS.1 h) (fun v14 u t H1 locs ht hvm hw hB hz hk hS => ?_)
  obtain ⟨hP1, hK1⟩ := hB
  rw [ht] at hP1
  obtain ⟨e1, e2⟩ := Prod.mk.inj hw
  subst e1
  subst e2
  obtain ⟨σ17, rfl⟩ : ∃ z, z = u := ⟨_, rfl⟩
  have hP := fd_kH hdis hP hz hk
  have hQ := hP1
  generalize H1 = H at hP hQ hS ⊢
  refine W.cs (cells' := cl + 1) (slots' := sl + 6) rfl rfl ?_
  refine lv_iload hx hb dL_law_890 (lv_at hl 1 rfl) ?_
  refine lv_icmp_eq (tgt := 897) hx hb dL_law_892 (by decide) (fun c18 => ?_) (fun c18 => ?_)
  · have hf := fd_itp c18 hf
    refine lv_iload hx hb dL_law_897 (lv_at hl 1 rfl) ?_
    refine lv_if_ne (tgt := 914) hx hb dL_law_899 (by decide) (fun c19 => ?_) (fun c19 => ?_)
    · have hf := fd_itn c19 hf
      refine lv_goto (tgt := 1572) hx hb dL_law_914 (by decide) ?_
      obtain ⟨x20, ex20, hf⟩ := fd_lts hf
      refine lv_iinc (v := x20) (lv' := [(4, .int x20), (6, .int v9), (5, .int v3), (0, .ref b), (1, .ref (a 0)), (2, .ref (a2 0)), (3, .ref (a 39))]) hx hb dL_law_1572 hl (k := 6) rfl (by rw [ex20]; rfl) (by decide) rfl (fun ls hl => ?_)
      refine lv_goto (tgt := 23) hx hb dL_law_1575 (by decide) ?_
      exact hK9 _ _ _ _ _ _ _ _ (by omega) (by omega) hP hQ hS (lv_sub hl [3, 4, 5, 6, 0] rfl) hf
    · have hf := fd_itp c19 hf
      refine lv_aload_n hx hb dL_law_902 rfl (lv_at hl 5 rfl) ?_
      refine lv_iconst (v := (0 : Int32)) hx hb dL_law_903 (by decide) ?_
      obtain ⟨g21, hf⟩ := fd_gds hf
      refine va_lald hx hb hK hP 39 27 fd_WH_39 fd_tyH_39 g21 dL_law_904 ?_
      refine lv_iload hx hb dL_law_905 (lv_at hl 0 rfl) ?_
      refine lv_i2l hx hb dL_law_907 rfl ?_
      refine W.lcmp hx hb dL_law_908 ?_
      refine lv_if_eq (tgt := 914) hx hb dL_law_909 (by decide) (fun c22 => ?_) (fun c22 => ?_)
      · have hf := fd_itp c22 hf
        refine lv_goto (tgt := 1572) hx hb dL_law_914 (by decide) ?_
        obtain ⟨x23, ex23, hf⟩ := fd_lts hf
        refine lv_iinc (v := x23) (lv' := [(4, .int x23), (6, .int v9), (5, .int v3), (0, .ref b), (1, .ref (a 0)), (2, .ref (a2 0)), (3, .ref (a 39))]) hx hb dL_law_1572 hl (k := 6) rfl (by rw [ex23]; rfl) (by decide) rfl (fun ls hl => ?_)
        refine lv_goto (tgt := 23) hx hb dL_law_1575 (by decide) ?_
        exact hK9 _ _ _ _ _ _ _ _ (by omega) (by omega) hP hQ hS (lv_sub hl [3, 4, 5, 6, 0] rfl) hf
      · have hf := fd_itn c22 hf
        refine lv_iconst (v := (0 : Int32)) hx hb dL_law_912 (by decide) ?_
        exact absurd (Option.some.inj hf) (by decide)
  · have hf := fd_itn c18 hf
    refine lv_iconst (v := (0 : Int32)) hx hb dL_law_895 (by decide) ?_
    exact absurd (Option.some.inj hf) (by decide)
