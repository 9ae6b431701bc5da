noncomputable def f_law_c6 (N L : Nat) (xs : Nat → Int32) (K : Int32 → fd_St → fd_St → Option Int32) (i : Int32) (σ μ : fd_St) : Option Int32 := fd_gd (vp_in (i + (1 : Int32)) L) (fd_gd (vp_in (i + (2 : Int32)) L) (fd_gd (vp_in (i + (3 : Int32)) L) (fd_bd (f_L_fail_0_39 N (xs (i + (1 : Int32)).toNatClampNeg) ((((xs (i + (2 : Int32)).toNatClampNeg).toInt64) <<< ((32 : Int32).toInt64 &&& 63)) ||| (((xs (i + (3 : Int32)).toNatClampNeg).toInt64) &&& (4294967295 : Int64))) σ) (fun v5 σ8 => fd_gd (vp_in (i + (1 : Int32)) L) (fd_gd (vp_in (i + (2 : Int32)) L) (fd_gd (vp_in (i + (3 : Int32)) L) (fd_bd (f_X11_fail_0 N (xs (i + (1 : Int32)).toNatClampNeg) ((((xs (i + (2 : Int32)).toNatClampNeg).toInt64) <<< ((32 : Int32).toInt64 &&& 63)) ||| (((xs (i + (3 : Int32)).toNatClampNeg).toInt64) &&& (4294967295 : Int64))) μ) (fun v13 σ16 => fd_lt (i + (6 : Int32)) (fun x17 => K x17 σ8 σ16)))))))))
set_option maxHeartbeats 4000000 in
set_option maxRecDepth 100000 in
theorem law_c6 {p : Program} {l : Launch} {e : Env} {s : State} {m : MethodId} {below : List Frame} {meth : Method} {c : Code} {D : va_G} {a a2 : Nat → Nat} {k k2 : Nat → ClassId} {b L : Nat} {xs : Nat → Int32} (C0 : fd_Cx p l s m meth c D a a2 k k2 b L xs) (N : Nat) (K : Int32 → fd_St → fd_St → Option Int32) (n : Nat) (hK9 : ∀ (i : Int32) (σ μ : fd_St) (cl sl : Nat) (H : Heap) (locs : List Loc) (ls : Array Slot), cl + n ≤ 1116 → sl + 6 * n ≤ 18645 → va_P D vwCl (fd_WH a k σ) H → va_P D vwCl (fd_WM a2 k2 μ) H → va_S (fun q => s.heap.size ≤ q) s.heap H locs → lv_has ls 8 [(0, .ref b), (1, .ref (a 0)), (2, .ref (a2 0)), (3, .ref (a 39)), (4, .int i)] → K i σ μ = some 1 → W p l e room_1 s m #[Value.ref b] below meth c H locs cl sl (lw_Z below #[Value.ref b] s) (F0 m 23 ls [])) : ∀ (i : Int32) (σ μ : fd_St) (cl sl : Nat) (H : Heap) (locs : List Loc) (ls : Array Slot), cl + (n + 1) ≤ 1116 → sl + 6 * (n + 1) ≤ 18645 → va_P D vwCl (fd_WH a k σ) H → va_P D vwCl (fd_WM a2 k2 μ) H → va_S (fun q => s.heap.size ≤ q) s.heap H locs → lv_has ls 8 [(0, .ref b), (1, .ref (a 0)), (2, .ref (a2 0)), (3, .ref (a 39)), (4, .int i)] → f_law_c6 N L xs K i σ μ = some 1 → W p l e room_1 s m #[Value.ref b] below meth c H locs cl sl (lw_Z below #[Value.ref b] s) (F0 m 368 ls []) := by
  obtain ⟨⟨hx, hb, hr, hml, hown, hts0, hX, hbl, hlocks, hgv⟩, hl9, hI, hI2, hJ, hJ2, hdis, hK, hK2, hZ⟩ := C0
  have hown : s.vm.findClass RL = some m.cls := hown
  have hts : ∀ w ∈ fd_wl, w.before #[Value.ref b] s = true := fun w h => hts0 w (fd_wl_in w h)
  have hA : ∀ q : Nat, s.heap.size ≤ q → (fun q : Nat => s.heap.size ≤ q) q := fun _ h => h
  have hbA : ¬ (fun q : Nat => s.heap.size ≤ q) b := Nat.not_le.mpr hbl
  intro i σ μ cl sl H locs ls hcl hsl hP hQ hS hl hf
  unfold f_law_c6 at hf
  refine lv_aload_n hx hb dL_law_368 rfl (lv_at hl 1 rfl) ?_
  refine lv_aload_n hx hb dL_law_369 rfl (lv_at hl 0 rfl) ?_
  refine lv_iload hx hb dL_law_370 (lv_at hl 4 rfl) ?_
  refine lv_iconst (v := (1 : Int32)) hx hb dL_law_372 (by decide) ?_
  refine lv_iadd hx hb dL_law_373 ?_
  obtain ⟨g1, hf⟩ := fd_gds hf
  refine va_sld hx hb hX hbl hbA hS g1 dL_law_374 ?_
  refine lv_aload_n hx hb dL_law_375 rfl (lv_at hl 0 rfl) ?_
  refine lv_iload hx hb dL_law_376 (lv_at hl 4 rfl) ?_
  refine lv_iconst (v := (2 : Int32)) hx hb dL_law_378 (by decide) ?_
  refine lv_iadd hx hb dL_law_379 ?_
  obtain ⟨g2, hf⟩ := fd_gds hf
  refine va_sld hx hb hX hbl hbA hS g2 dL_law_380 ?_
  refine lv_i2l hx hb dL_law_381 rfl ?_
  refine lv_bipush (v := (32 : Int32)) hx hb dL_law_382 (by decide) ?_
  refine lv_lshl hx hb dL_law_384 rfl ?_
  refine lv_aload_n hx hb dL_law_385 rfl (lv_at hl 0 rfl) ?_
  refine lv_iload hx hb dL_law_386 (lv_at hl 4 rfl) ?_
  refine lv_iconst (v := (3 : Int32)) hx hb dL_law_388 (by decide) ?_
  refine lv_iadd hx hb dL_law_389 ?_
  obtain ⟨g3, hf⟩ := fd_gds hf
  refine va_sld hx hb hX hbl hbA hS g3 dL_law_390 ?_
  refine lv_i2l hx hb dL_law_391 rfl ?_
  refine lv_ldc2 hx hb hown (hts (.constantLong RL 106 (4294967295)) (by decide +kernel)) dL_law_392 ?_
  refine lv_land hx hb dL_law_395 ?_
  refine lv_lor hx hb dL_law_396 ?_
  refine lv_aload_n hx hb dL_law_397 rfl (lv_at hl 3 rfl) ?_
  obtain ⟨w6, τ7, hc4, hf⟩ := fd_bds hf
  refine va_calli (vx_runSW (As := [.ref (a 0), .int (xs (i + (1 : Int32)).toNatClampNeg), .long ((((xs (i + (2 : Int32)).toNatClampNeg).toInt64) <<< ((32 : Int32).toInt64 &&& 63)) ||| (((xs (i + (3 : Int32)).toNatClampNeg).toInt64) &&& (4294967295 : Int64))), .ref (a 39)]) (rest := []) ⟨hx, hb, hml, hown, hts⟩ (m_L_fail_0_39 l hl9 D a k H.size hI N (xs (i + (1 : Int32)).toNatClampNeg) ((((xs (i + (2 : Int32)).toNatClampNeg).toInt64) <<< ((32 : Int32).toInt64 &&& 63)) ||| (((xs (i + (3 : Int32)).toNatClampNeg).toInt64) &&& (4294967295 : Int64))) σ _ hc4) (vx_cwSW 4 hts gL_law_L_fail rfl rfl rfl (by decide +kernel) ⟨Nat.le_of_ble_eq_true rfl, Nat.le_of_ble_eq_true rfl⟩) ⟨fd_blH, fd_prL hP hK hZ hS hJ⟩ rfl rfl hl.1 rfl (lv_room (Nat.le_of_ble_eq_true rfl)) dL_law_398 ⟨by show cl + 1 ≤ 1116; omega, by show sl + 6 ≤ 18645; omega⟩) hS (fun q _ h => fd_AL hJ hS.1 h) (fun q h => fd_AL hJ hS.1 h) (fun v5 u t H1 locs ht hvm hw hB hz hk hS => ?_)
  obtain ⟨hP1, hK1⟩ := hB
  rw [ht] at hP1
  obtain ⟨e1, e2⟩ := Prod.mk.inj hw
  subst e1
  subst e2
  obtain ⟨σ8, rfl⟩ : ∃ z, z = u := ⟨_, rfl⟩
  have hQ := fd_kM hdis hJ hQ hz hk
  have hP := hP1
  generalize H1 = H at hP hQ hS ⊢
  refine W.cs (cells' := cl + 1) (slots' := sl + 6) rfl rfl ?_
  refine lv_istore (lv' := [(5, .int v5), (0, .ref b), (1, .ref (a 0)), (2, .ref (a2 0)), (3, .ref (a 39)), (4, .int i)]) hx hb dL_law_401 hl (by decide) rfl (fun ls hl => ?_)
  refine lv_aload_n hx hb dL_law_403 rfl (lv_at hl 3 rfl) ?_
  refine lv_aload_n hx hb dL_law_404 rfl (lv_at hl 1 rfl) ?_
  refine lv_iload hx hb dL_law_405 (lv_at hl 5 rfl) ?_
  refine lv_iconst (v := (1 : Int32)) hx hb dL_law_407 (by decide) ?_
  refine lv_iadd hx hb dL_law_408 ?_
  obtain ⟨g9, hf⟩ := fd_gds hf
  refine va_sld hx hb hX hbl hbA hS g9 dL_law_409 ?_
  refine lv_aload_n hx hb dL_law_410 rfl (lv_at hl 1 rfl) ?_
  refine lv_iload hx hb dL_law_411 (lv_at hl 5 rfl) ?_
  refine lv_iconst (v := (2 : Int32)) hx hb dL_law_413 (by decide) ?_
  refine lv_iadd hx hb dL_law_414 ?_
  obtain ⟨g10, hf⟩ := fd_gds hf
  refine va_sld hx hb hX hbl hbA hS g10 dL_law_415 ?_
  refine lv_i2l hx hb dL_law_416 rfl ?_
  refine lv_bipush (v := (32 : Int32)) hx hb dL_law_417 (by decide) ?_
  refine lv_lshl hx hb dL_law_419 rfl ?_
  refine lv_aload_n hx hb dL_law_420 rfl (lv_at hl 1 rfl) ?_
  refine lv_iload hx hb dL_law_421 (lv_at hl 5 rfl) ?_
  refine lv_iconst (v := (3 : Int32)) hx hb dL_law_423 (by decide) ?_
  refine lv_iadd hx hb dL_law_424 ?_
  obtain ⟨g11, hf⟩ := fd_gds hf
  refine va_sld hx hb hX hbl hbA hS g11 dL_law_425 ?_
  refine lv_i2l hx hb dL_law_426 rfl ?_
  refine lv_ldc2 hx hb hown (hts (.constantLong RL 106 (4294967295)) (by decide +kernel)) dL_law_427 ?_
  refine lv_land hx hb dL_law_430 ?_
  refine lv_lor hx hb dL_law_431 ?_
  obtain ⟨w14, τ15, hc12, hf⟩ := fd_bds hf
  refine va_calll (va_runV (As := [.int (xs (i + (1 : Int32)).toNatClampNeg), .long ((((xs (i + (2 : Int32)).toNatClampNeg).toInt64) <<< ((32 : Int32).toInt64 &&& 63)) ||| (((xs (i + (3 : Int32)).toNatClampNeg).toInt64) &&& (4294967295 : Int64)))]) (rest := []) ⟨hx, hb, hml, hown, hts⟩ (m_X11_fail_0 l D a2 k2 H.size hI2 N (xs (i + (1 : Int32)).toNatClampNeg) ((((xs (i + (2 : Int32)).toNatClampNeg).toInt64) <<< ((32 : Int32).toInt64 &&& 63)) ||| (((xs (i + (3 : Int32)).toNatClampNeg).toInt64) &&& (4294967295 : Int64))) μ _ hc12) (cwV 2 hts gL_law_X11_fail rfl rfl rfl (by decide +kernel) ⟨Nat.le_of_ble_eq_true rfl, Nat.le_of_ble_eq_true rfl⟩) ⟨fd_blM, va_recv hK2 hQ (ci := 11) (q0 := 0) rfl fd_WM_0, fd_prM hQ hK2⟩ rfl rfl hl.1 rfl (lv_room (Nat.le_of_ble_eq_true rfl)) dL_law_432 ⟨by show cl + 1 + 0 ≤ 1116; omega, by show sl + 6 + 0 ≤ 18645; omega⟩) hS (fun q _ h => fd_AL hJ2 hS.1 h) (fun q h => fd_AL hJ2 hS.1 h) (fun v13 u t H1 locs ht hvm hw hB hz hk hS => ?_)
  obtain ⟨hP1, hK1⟩ := hB
  rw [ht] at hP1
  obtain ⟨e1, e2⟩ := Prod.mk.inj hw
  subst e1
  subst e2
  obtain ⟨σ16, rfl⟩ : ∃ z, z = u := ⟨_, rfl⟩
  have hP := fd_kH hdis hP hz hk
  have hQ := hP1
  generalize H1 = H at hP hQ hS ⊢
  refine W.cs (cells' := cl + 1) (slots' := sl + 6) rfl rfl ?_
  refine lv_lstore (lv' := [(6, .long v13), (5, .int v5), (0, .ref b), (1, .ref (a 0)), (2, .ref (a2 0)), (3, .ref (a 39)), (4, .int i)]) hx hb dL_law_435 hl (by decide) rfl (fun ls hl => ?_)
  refine lv_goto (tgt := 1061) hx hb dL_law_437 (by decide) ?_
  obtain ⟨x17, ex17, hf⟩ := fd_lts hf
  refine lv_iinc (v := x17) (lv' := [(4, .int x17), (6, .long v13), (5, .int v5), (0, .ref b), (1, .ref (a 0)), (2, .ref (a2 0)), (3, .ref (a 39))]) hx hb dL_law_1061 hl (k := 6) rfl (by rw [ex17]; rfl) (by decide) rfl (fun ls hl => ?_)
  refine lv_goto (tgt := 23) hx hb dL_law_1064 (by decide) ?_
  exact hK9 _ _ _ _ _ _ _ _ (by omega) (by omega) hP hQ hS (lv_sub hl [3, 4, 5, 6, 0] rfl) hf
noncomputable def f_law_c7 (N L : Nat) (xs : Nat → Int32) (K : Int32 → fd_St → fd_St → Option Int32) (i : Int32) (σ μ : fd_St) : Option Int32 := fd_gd (vp_in (i + (1 : Int32)) L) (fd_gd (vp_in (i + (2 : Int32)) L) (fd_bd (f_L_near_0_39 N (xs (i + (1 : Int32)).toNatClampNeg) (xs (i + (2 : Int32)).toNatClampNeg) σ) (fun v4 σ7 => fd_gd (vp_in (i + (1 : Int32)) L) (fd_gd (vp_in (i + (2 : Int32)) L) (fd_bd (f_X11_near_0 N (xs (i + (1 : Int32)).toNatClampNeg) (xs (i + (2 : Int32)).toNatClampNeg) μ) (fun v11 σ14 => fd_lt (i + (6 : Int32)) (fun x15 => K x15 σ7 σ14)))))))
set_option maxHeartbeats 4000000 in
set_option maxRecDepth 100000 in
theorem law_c7 {p : Program} {l : Launch} {e : Env} {s : State} {m : MethodId} {below : List Frame} {meth : Method} {c : Code} {D : va_G} {a a2 : Nat → Nat} {k k2 : Nat → ClassId} {b L : Nat} {xs : Nat → Int32} (C0 : fd_Cx p l s m meth c D a a2 k k2 b L xs) (N : Nat) (K : Int32 → fd_St → fd_St → Option Int32) (n : Nat) (hK9 : ∀ (i : Int32) (σ μ : fd_St) (cl sl : Nat) (H : Heap) (locs : List Loc) (ls : Array Slot), cl + n ≤ 1116 → sl + 6 * n ≤ 18645 → va_P D vwCl (fd_WH a k σ) H → va_P D vwCl (fd_WM a2 k2 μ) H → va_S (fun q => s.heap.size ≤ q) s.heap H locs → lv_has ls 8 [(0, .ref b), (1, .ref (a 0)), (2, .ref (a2 0)), (3, .ref (a 39)), (4, .int i)] → K i σ μ = some 1 → W p l e room_1 s m #[Value.ref b] below meth c H locs cl sl (lw_Z below #[Value.ref b] s) (F0 m 23 ls [])) : ∀ (i : Int32) (σ μ : fd_St) (cl sl : Nat) (H : Heap) (locs : List Loc) (ls : Array Slot), cl + (n + 1) ≤ 1116 → sl + 6 * (n + 1) ≤ 18645 → va_P D vwCl (fd_WH a k σ) H → va_P D vwCl (fd_WM a2 k2 μ) H → va_S (fun q => s.heap.size ≤ q) s.heap H locs → lv_has ls 8 [(0, .ref b), (1, .ref (a 0)), (2, .ref (a2 0)), (3, .ref (a 39)), (4, .int i)] → f_law_c7 N L xs K i σ μ = some 1 → W p l e room_1 s m #[Value.ref b] below meth c H locs cl sl (lw_Z below #[Value.ref b] s) (F0 m 440 ls []) := by
  obtain ⟨⟨hx, hb, hr, hml, hown, hts0, hX, hbl, hlocks, hgv⟩, hl9, hI, hI2, hJ, hJ2, hdis, hK, hK2, hZ⟩ := C0
  have hown : s.vm.findClass RL = some m.cls := hown
  have hts : ∀ w ∈ fd_wl, w.before #[Value.ref b] s = true := fun w h => hts0 w (fd_wl_in w h)
  have hA : ∀ q : Nat, s.heap.size ≤ q → (fun q : Nat => s.heap.size ≤ q) q := fun _ h => h
  have hbA : ¬ (fun q : Nat => s.heap.size ≤ q) b := Nat.not_le.mpr hbl
  intro i σ μ cl sl H locs ls hcl hsl hP hQ hS hl hf
  unfold f_law_c7 at hf
  refine lv_aload_n hx hb dL_law_440 rfl (lv_at hl 1 rfl) ?_
  refine lv_aload_n hx hb dL_law_441 rfl (lv_at hl 0 rfl) ?_
  refine lv_iload hx hb dL_law_442 (lv_at hl 4 rfl) ?_
  refine lv_iconst (v := (1 : Int32)) hx hb dL_law_444 (by decide) ?_
  refine lv_iadd hx hb dL_law_445 ?_
  obtain ⟨g1, hf⟩ := fd_gds hf
  refine va_sld hx hb hX hbl hbA hS g1 dL_law_446 ?_
  refine lv_aload_n hx hb dL_law_447 rfl (lv_at hl 0 rfl) ?_
  refine lv_iload hx hb dL_law_448 (lv_at hl 4 rfl) ?_
  refine lv_iconst (v := (2 : Int32)) hx hb dL_law_450 (by decide) ?_
  refine lv_iadd hx hb dL_law_451 ?_
  obtain ⟨g2, hf⟩ := fd_gds hf
  refine va_sld hx hb hX hbl hbA hS g2 dL_law_452 ?_
  refine lv_aload_n hx hb dL_law_453 rfl (lv_at hl 3 rfl) ?_
  obtain ⟨w5, τ6, hc3, hf⟩ := fd_bds hf
  refine va_calli (vx_runSW (As := [.ref (a 0), .int (xs (i + (1 : Int32)).toNatClampNeg), .int (xs (i + (2 : Int32)).toNatClampNeg), .ref (a 39)]) (rest := []) ⟨hx, hb, hml, hown, hts⟩ (m_L_near_0_39 l hl9 D a k H.size hI N (xs (i + (1 : Int32)).toNatClampNeg) (xs (i + (2 : Int32)).toNatClampNeg) σ _ hc3) (vx_cwSW 4 hts gL_law_L_near rfl rfl rfl (by decide +kernel) ⟨Nat.le_of_ble_eq_true rfl, Nat.le_of_ble_eq_true rfl⟩) ⟨fd_blH, fd_prL hP hK hZ hS hJ⟩ rfl rfl hl.1 rfl (lv_room (Nat.le_of_ble_eq_true rfl)) dL_law_454 ⟨by show cl + 1 ≤ 1116; omega, by show sl + 6 ≤ 18645; omega⟩) hS (fun q _ h => fd_AL hJ hS.1 h) (fun q h => fd_AL hJ hS.1 h) (fun v4 u t H1 locs ht hvm hw hB hz hk hS => ?_)
  obtain ⟨hP1, hK1⟩ := hB
  rw [ht] at hP1
  obtain ⟨e1, e2⟩ := Prod.mk.inj hw
  subst e1
  subst e2
  obtain ⟨σ7, rfl⟩ : ∃ z, z = u := ⟨_, rfl⟩
  have hQ := fd_kM hdis hJ hQ hz hk
  have hP := hP1
  generalize H1 = H at hP hQ hS ⊢
  refine W.cs (cells' := cl + 1) (slots' := sl + 6) rfl rfl ?_
  refine lv_istore (lv' := [(5, .int v4), (0, .ref b), (1, .ref (a 0)), (2, .ref (a2 0)), (3, .ref (a 39)), (4, .int i)]) hx hb dL_law_457 hl (by decide) rfl (fun ls hl => ?_)
  refine lv_aload_n hx hb dL_law_459 rfl (lv_at hl 3 rfl) ?_
  refine lv_aload_n hx hb dL_law_460 rfl (lv_at hl 1 rfl) ?_
  refine lv_iload hx hb dL_law_461 (lv_at hl 5 rfl) ?_
  refine lv_iconst (v := (1 : Int32)) hx hb dL_law_463 (by decide) ?_
  refine lv_iadd hx hb dL_law_464 ?_
  obtain ⟨g8, hf⟩ := fd_gds hf
  refine va_sld hx hb hX hbl hbA hS g8 dL_law_465 ?_
  refine lv_aload_n hx hb dL_law_466 rfl (lv_at hl 1 rfl) ?_
  refine lv_iload hx hb dL_law_467 (lv_at hl 5 rfl) ?_
  refine lv_iconst (v := (2 : Int32)) hx hb dL_law_469 (by decide) ?_
  refine lv_iadd hx hb dL_law_470 ?_
  obtain ⟨g9, hf⟩ := fd_gds hf
  refine va_sld hx hb hX hbl hbA hS g9 dL_law_471 ?_
  obtain ⟨w12, τ13, hc10, hf⟩ := fd_bds hf
  refine va_calli (va_runV (As := [.int (xs (i + (1 : Int32)).toNatClampNeg), .int (xs (i + (2 : Int32)).toNatClampNeg)]) (rest := []) ⟨hx, hb, hml, hown, hts⟩ (m_X11_near_0 l D a2 k2 H.size hI2 N (xs (i + (1 : Int32)).toNatClampNeg) (xs (i + (2 : Int32)).toNatClampNeg) μ _ hc10) (cwV 2 hts gL_law_X11_near rfl rfl rfl (by decide +kernel) ⟨Nat.le_of_ble_eq_true rfl, Nat.le_of_ble_eq_true rfl⟩) ⟨fd_blM, va_recv hK2 hQ (ci := 11) (q0 := 0) rfl fd_WM_0, fd_prM hQ hK2⟩ rfl rfl hl.1 rfl (lv_room (Nat.le_of_ble_eq_true rfl)) dL_law_472 ⟨by show cl + 1 + 0 ≤ 1116; omega, by show sl + 6 + 0 ≤ 18645; omega⟩) hS (fun q _ h => fd_AL hJ2 hS.1 h) (fun q h => fd_AL hJ2 hS.1 h) (fun v11 u t H1 locs ht hvm hw hB hz hk hS => ?_)
  obtain ⟨hP1, hK1⟩ := hB
  rw [ht] at hP1
  obtain ⟨e1, e2⟩ := Prod.mk.inj hw
  subst e1
  subst e2
  obtain ⟨σ14, rfl⟩ : ∃ z, z = u := ⟨_, rfl⟩
  have hP := fd_kH hdis hP hz hk
  have hQ := hP1
  generalize H1 = H at hP hQ hS ⊢
  refine W.cs (cells' := cl + 1) (slots' := sl + 6) rfl rfl ?_
  refine lv_istore (lv' := [(6, .int v11), (5, .int v4), (0, .ref b), (1, .ref (a 0)), (2, .ref (a2 0)), (3, .ref (a 39)), (4, .int i)]) hx hb dL_law_475 hl (by decide) rfl (fun ls hl => ?_)
  refine lv_goto (tgt := 1061) hx hb dL_law_477 (by decide) ?_
  obtain ⟨x15, ex15, hf⟩ := fd_lts hf
  refine lv_iinc (v := x15) (lv' := [(4, .int x15), (6, .int v11), (5, .int v4), (0, .ref b), (1, .ref (a 0)), (2, .ref (a2 0)), (3, .ref (a 39))]) hx hb dL_law_1061 hl (k := 6) rfl (by rw [ex15]; rfl) (by decide) rfl (fun ls hl => ?_)
  refine lv_goto (tgt := 23) hx hb dL_law_1064 (by decide) ?_
  exact hK9 _ _ _ _ _ _ _ _ (by omega) (by omega) hP hQ hS (lv_sub hl [3, 4, 5, 6, 0] rfl) hf
noncomputable def f_law_c8 (N L : Nat) (xs : Nat → Int32) (K : Int32 → fd_St → fd_St → Option Int32) (i : Int32) (σ μ : fd_St) : Option Int32 := fd_gd (vp_in (i + (1 : Int32)) L) (fd_gd (vp_in (i + (2 : Int32)) L) (fd_gd (vp_in (i + (3 : Int32)) L) (fd_bd (f_L_shows_0_39 N (xs (i + (1 : Int32)).toNatClampNeg) (xs (i + (2 : Int32)).toNatClampNeg) (xs (i + (3 : Int32)).toNatClampNeg) σ) (fun v5 σ8 => fd_gd (vp_in (i + (1 : Int32)) L) (fd_gd (vp_in (i + (2 : Int32)) L) (fd_gd (vp_in (i + (3 : Int32)) L) (fd_bd (f_X11_shows_0 N (xs (i + (1 : Int32)).toNatClampNeg) (xs (i + (2 : Int32)).toNatClampNeg) (xs (i + (3 : Int32)).toNatClampNeg) μ) (fun v13 σ16 => fd_lt (i + (6 : Int32)) (fun x17 => K x17 σ8 σ16)))))))))
set_option maxHeartbeats 4000000 in
set_option maxRecDepth 100000 in
theorem law_c8 {p : Program} {l : Launch} {e : Env} {s : State} {m : MethodId} {below : List Frame} {meth : Method} {c : Code} {D : va_G} {a a2 : Nat → Nat} {k k2 : Nat → ClassId} {b L : Nat} {xs : Nat → Int32} (C0 : fd_Cx p l s m meth c D a a2 k k2 b L xs) (N : Nat) (K : Int32 → fd_St → fd_St → Option Int32) (n : Nat) (hK9 : ∀ (i : Int32) (σ μ : fd_St) (cl sl : Nat) (H : Heap) (locs : List Loc) (ls : Array Slot), cl + n ≤ 1116 → sl + 6 * n ≤ 18645 → va_P D vwCl (fd_WH a k σ) H → va_P D vwCl (fd_WM a2 k2 μ) H → va_S (fun q => s.heap.size ≤ q) s.heap H locs → lv_has ls 8 [(0, .ref b), (1, .ref (a 0)), (2, .ref (a2 0)), (3, .ref (a 39)), (4, .int i)] → K i σ μ = some 1 → W p l e room_1 s m #[Value.ref b] below meth c H locs cl sl (lw_Z below #[Value.ref b] s) (F0 m 23 ls [])) : ∀ (i : Int32) (σ μ : fd_St) (cl sl : Nat) (H : Heap) (locs : List Loc) (ls : Array Slot), cl + (n + 1) ≤ 1116 → sl + 6 * (n + 1) ≤ 18645 → va_P D vwCl (fd_WH a k σ) H → va_P D vwCl (fd_WM a2 k2 μ) H → va_S (fun q => s.heap.size ≤ q) s.heap H locs → lv_has ls 8 [(0, .ref b), (1, .ref (a 0)), (2, .ref (a2 0)), (3, .ref (a 39)), (4, .int i)] → f_law_c8 N L xs K i σ μ = some 1 → W p l e room_1 s m #[Value.ref b] below meth c H locs cl sl (lw_Z below #[Value.ref b] s) (F0 m 480 ls []) := by
  obtain ⟨⟨hx, hb, hr, hml, hown, hts0, hX, hbl, hlocks, hgv⟩, hl9, hI, hI2, hJ, hJ2, hdis, hK, hK2, hZ⟩ := C0
  have hown : s.vm.findClass RL = some m.cls := hown
  have hts : ∀ w ∈ fd_wl, w.before #[Value.ref b] s = true := fun w h => hts0 w (fd_wl_in w h)
  have hA : ∀ q : Nat, s.heap.size ≤ q → (fun q : Nat => s.heap.size ≤ q) q := fun _ h => h
  have hbA : ¬ (fun q : Nat => s.heap.size ≤ q) b := Nat.not_le.mpr hbl
  intro i σ μ cl sl H locs ls hcl hsl hP hQ hS hl hf
  unfold f_law_c8 at hf
  refine lv_aload_n hx hb dL_law_480 rfl (lv_at hl 1 rfl) ?_
  refine lv_aload_n hx hb dL_law_481 rfl (lv_at hl 0 rfl) ?_
  refine lv_iload hx hb dL_law_482 (lv_at hl 4 rfl) ?_
  refine lv_iconst (v := (1 : Int32)) hx hb dL_law_484 (by decide) ?_
  refine lv_iadd hx hb dL_law_485 ?_
  obtain ⟨g1, hf⟩ := fd_gds hf
  refine va_sld hx hb hX hbl hbA hS g1 dL_law_486 ?_
  refine lv_aload_n hx hb dL_law_487 rfl (lv_at hl 0 rfl) ?_
  refine lv_iload hx hb dL_law_488 (lv_at hl 4 rfl) ?_
  refine lv_iconst (v := (2 : Int32)) hx hb dL_law_490 (by decide) ?_
  refine lv_iadd hx hb dL_law_491 ?_
  obtain ⟨g2, hf⟩ := fd_gds hf
  refine va_sld hx hb hX hbl hbA hS g2 dL_law_492 ?_
  refine lv_aload_n hx hb dL_law_493 rfl (lv_at hl 0 rfl) ?_
  refine lv_iload hx hb dL_law_494 (lv_at hl 4 rfl) ?_
  refine lv_iconst (v := (3 : Int32)) hx hb dL_law_496 (by decide) ?_
  refine lv_iadd hx hb dL_law_497 ?_
  obtain ⟨g3, hf⟩ := fd_gds hf
  refine va_sld hx hb hX hbl hbA hS g3 dL_law_498 ?_
  refine lv_aload_n hx hb dL_law_499 rfl (lv_at hl 3 rfl) ?_
  obtain ⟨w6, τ7, hc4, hf⟩ := fd_bds hf
  refine va_calli (vx_runSW (As := [.ref (a 0), .int (xs (i + (1 : Int32)).toNatClampNeg), .int (xs (i + (2 : Int32)).toNatClampNeg), .int (xs (i + (3 : Int32)).toNatClampNeg), .ref (a 39)]) (rest := []) ⟨hx, hb, hml, hown, hts⟩ (m_L_shows_0_39 l hl9 D a k H.size hI N (xs (i + (1 : Int32)).toNatClampNeg) (xs (i + (2 : Int32)).toNatClampNeg) (xs (i + (3 : Int32)).toNatClampNeg) σ _ hc4) (vx_cwSW 5 hts gL_law_L_shows rfl rfl rfl (by decide +kernel) ⟨Nat.le_of_ble_eq_true rfl, Nat.le_of_ble_eq_true rfl⟩) ⟨fd_blH, fd_prL hP hK hZ hS hJ⟩ rfl rfl hl.1 rfl (lv_room (Nat.le_of_ble_eq_true rfl)) dL_law_500 ⟨by show cl + 1 ≤ 1116; omega, by show sl + 6 ≤ 18645; omega⟩) hS (fun q _ h => fd_AL hJ hS.1 h) (fun q h => fd_AL hJ hS.1 h) (fun v5 u t H1 locs ht hvm hw hB hz hk hS => ?_)
  obtain ⟨hP1, hK1⟩ := hB
  rw [ht] at hP1
  obtain ⟨e1, e2⟩ := Prod.mk.inj hw
  subst e1
  subst e2
  obtain ⟨σ8, rfl⟩ : ∃ z, z = u := ⟨_, rfl⟩
  have hQ := fd_kM hdis hJ hQ hz hk
  have hP := hP1
  generalize H1 = H at hP hQ hS ⊢
  refine W.cs (cells' := cl + 1) (slots' := sl + 6) rfl rfl ?_
  refine lv_istore (lv' := [(5, .int v5), (0, .ref b), (1, .ref (a 0)), (2, .ref (a2 0)), (3, .ref (a 39)), (4, .int i)]) hx hb dL_law_503 hl (by decide) rfl (fun ls hl => ?_)
  refine lv_aload_n hx hb dL_law_505 rfl (lv_at hl 3 rfl) ?_
  refine lv_aload_n hx hb dL_law_506 rfl (lv_at hl 1 rfl) ?_
  refine lv_iload hx hb dL_law_507 (lv_at hl 5 rfl) ?_
  refine lv_iconst (v := (1 : Int32)) hx hb dL_law_509 (by decide) ?_
  refine lv_iadd hx hb dL_law_510 ?_
  obtain ⟨g9, hf⟩ := fd_gds hf
  refine va_sld hx hb hX hbl hbA hS g9 dL_law_511 ?_
  refine lv_aload_n hx hb dL_law_512 rfl (lv_at hl 1 rfl) ?_
  refine lv_iload hx hb dL_law_513 (lv_at hl 5 rfl) ?_
  refine lv_iconst (v := (2 : Int32)) hx hb dL_law_515 (by decide) ?_
  refine lv_iadd hx hb dL_law_516 ?_
  obtain ⟨g10, hf⟩ := fd_gds hf
  refine va_sld hx hb hX hbl hbA hS g10 dL_law_517 ?_
  refine lv_aload_n hx hb dL_law_518 rfl (lv_at hl 1 rfl) ?_
  refine lv_iload hx hb dL_law_519 (lv_at hl 5 rfl) ?_
  refine lv_iconst (v := (3 : Int32)) hx hb dL_law_521 (by decide) ?_
  refine lv_iadd hx hb dL_law_522 ?_
  obtain ⟨g11, hf⟩ := fd_gds hf
  refine va_sld hx hb hX hbl hbA hS g11 dL_law_523 ?_
  obtain ⟨w14, τ15, hc12, hf⟩ := fd_bds hf
  refine va_calll (va_runV (As := [.int (xs (i + (1 : Int32)).toNatClampNeg), .int (xs (i + (2 : Int32)).toNatClampNeg), .int (xs (i + (3 : Int32)).toNatClampNeg)]) (rest := []) ⟨hx, hb, hml, hown, hts⟩ (m_X11_shows_0 l D a2 k2 H.size hI2 N (xs (i + (1 : Int32)).toNatClampNeg) (xs (i + (2 : Int32)).toNatClampNeg) (xs (i + (3 : Int32)).toNatClampNeg) μ _ hc12) (cwV 3 hts gL_law_X11_shows rfl rfl rfl (by decide +kernel) ⟨Nat.le_of_ble_eq_true rfl, Nat.le_of_ble_eq_true rfl⟩) ⟨fd_blM, va_recv hK2 hQ (ci := 11) (q0 := 0) rfl fd_WM_0, fd_prM hQ hK2⟩ rfl rfl hl.1 rfl (lv_room (Nat.le_of_ble_eq_true rfl)) dL_law_524 ⟨by show cl + 1 + 0 ≤ 1116; omega, by show sl + 6 + 0 ≤ 18645; omega⟩) hS (fun q _ h => fd_AL hJ2 hS.1 h) (fun q h => fd_AL hJ2 hS.1 h) (fun v13 u t H1 locs ht hvm hw hB hz hk hS => ?_)
  obtain ⟨hP1, hK1⟩ := hB
  rw [ht] at hP1
  obtain ⟨e1, e2⟩ := Prod.mk.inj hw
  subst e1
  subst e2
  obtain ⟨σ16, rfl⟩ : ∃ z, z = u := ⟨_, rfl⟩
  have hP := fd_kH hdis hP hz hk
  have hQ := hP1
  generalize H1 = H at hP hQ hS ⊢
  refine W.cs (cells' := cl + 1) (slots' := sl + 6) rfl rfl ?_
  refine lv_lstore (lv' := [(6, .long v13), (5, .int v5), (0, .ref b), (1, .ref (a 0)), (2, .ref (a2 0)), (3, .ref (a 39)), (4, .int i)]) hx hb dL_law_527 hl (by decide) rfl (fun ls hl => ?_)
  refine lv_goto (tgt := 1061) hx hb dL_law_529 (by decide) ?_
  obtain ⟨x17, ex17, hf⟩ := fd_lts hf
  refine lv_iinc (v := x17) (lv' := [(4, .int x17), (6, .long v13), (5, .int v5), (0, .ref b), (1, .ref (a 0)), (2, .ref (a2 0)), (3, .ref (a 39))]) hx hb dL_law_1061 hl (k := 6) rfl (by rw [ex17]; rfl) (by decide) rfl (fun ls hl => ?_)
  refine lv_goto (tgt := 23) hx hb dL_law_1064 (by decide) ?_
  exact hK9 _ _ _ _ _ _ _ _ (by omega) (by omega) hP hQ hS (lv_sub hl [3, 4, 5, 6, 0] rfl) hf
noncomputable def f_law_c9 (N L : Nat) (xs : Nat → Int32) (K : Int32 → fd_St → fd_St → Option Int32) (i : Int32) (σ μ : fd_St) : Option Int32 := fd_bd (f_X10_run_0 N σ) (fun v2 σ5 => fd_lt (fd_mix σ5 σ) (fun σ6 => fd_bd (f_X11_run_0 N μ) (fun v8 σ11 => fd_lt (i + (6 : Int32)) (fun x12 => K x12 σ6 σ11))))
set_option maxHeartbeats 4000000 in
set_option maxRecDepth 100000 in
theorem law_c9 {p : Program} {l : Launch} {e : Env} {s : State} {m : MethodId} {below : List Frame} {meth : Method} {c : Code} {D : va_G} {a a2 : Nat → Nat} {k k2 : Nat → ClassId} {b L : Nat} {xs : Nat → Int32} (C0 : fd_Cx p l s m meth c D a a2 k k2 b L xs) (N : Nat) (K : Int32 → fd_St → fd_St → Option Int32) (n : Nat) (hK9 : ∀ (i : Int32) (σ μ : fd_St) (cl sl : Nat) (H : Heap) (locs : List Loc) (ls : Array Slot), cl + n ≤ 1116 → sl + 6 * n ≤ 18645 → va_P D vwCl (fd_WH a k σ) H → va_P D vwCl (fd_WM a2 k2 μ) H → va_S (fun q => s.heap.size ≤ q) s.heap H locs → lv_has ls 8 [(0, .ref b), (1, .ref (a 0)), (2, .ref (a2 0)), (3, .ref (a 39)), (4, .int i)] → K i σ μ = some 1 → W p l e room_1 s m #[Value.ref b] below meth c H locs cl sl (lw_Z below #[Value.ref b] s) (F0 m 23 ls [])) : ∀ (i : Int32) (σ μ : fd_St) (cl sl : Nat) (H : Heap) (locs : List Loc) (ls : Array Slot), cl + (n + 1) ≤ 1116 → sl + 6 * (n + 1) ≤ 18645 → va_P D vwCl (fd_WH a k σ) H → va_P D vwCl (fd_WM a2 k2 μ) H → va_S (fun q => s.heap.size ≤ q) s.heap H locs → lv_has ls 8 [(0, .ref b), (1, .ref (a 0)), (2, .ref (a2 0)), (3, .ref (a 39)), (4, .int i)] → f_law_c9 N L xs K i σ μ = some 1 → W p l e room_1 s m #[Value.ref b] below meth c H locs cl sl (lw_Z below #[Value.ref b] s) (F0 m 532 ls []) := by
  obtain ⟨⟨hx, hb, hr, hml, hown, hts0, hX, hbl, hlocks, hgv⟩, hl9, hI, hI2, hJ, hJ2, hdis, hK, hK2, hZ⟩ := C0
  have hown : s.vm.findClass RL = some m.cls := hown
  have hts : ∀ w ∈ fd_wl, w.before #[Value.ref b] s = true := fun w h => hts0 w (fd_wl_in w h)
  have hA : ∀ q : Nat, s.heap.size ≤ q → (fun q : Nat => s.heap.size ≤ q) q := fun _ h => h
  have hbA : ¬ (fun q : Nat => s.heap.size ≤ q) b := Nat.not_le.mpr hbl
  intro i σ μ cl sl H locs ls hcl hsl hP hQ hS hl hf
  unfold f_law_c9 at hf
  refine lv_aload_n hx hb dL_law_532 rfl (lv_at hl 1 rfl) ?_
  obtain ⟨w3, τ4, hc1, hf⟩ := fd_bds hf
  refine va_calli (va_runV (As := []) (rest := []) ⟨hx, hb, hml, hown, hts⟩ (m_X10_run_0 l D a k H.size (fd_I40 hI) N σ _ hc1) (cwV 0 hts gL_law_X10_run rfl rfl rfl (by decide +kernel) ⟨Nat.le_of_ble_eq_true rfl, Nat.le_of_ble_eq_true rfl⟩) ⟨fd_blC, va_recv (fd_HK hK) (fd_HC hP) (ci := 10) (q0 := 0) rfl fd_WC_0, fd_prC (fd_HC hP) (fd_HK hK)⟩ rfl rfl hl.1 rfl (lv_room (Nat.le_of_ble_eq_true rfl)) dL_law_533 ⟨by show cl + 0 ≤ 1116; omega, by show sl + 0 ≤ 18645; omega⟩) hS (fun q _ h => fd_AL3 hJ hS.1 h) (fun q h => fd_AL3 hJ hS.1 h) (fun v2 u t H1 locs ht hvm hw hB hz hk hS => ?_)
  obtain ⟨hP1, hK1⟩ := hB
  rw [ht] at hP1
  obtain ⟨e1, e2⟩ := Prod.mk.inj hw
  subst e1
  subst e2
  obtain ⟨σ5, rfl⟩ : ∃ z, z = u := ⟨_, rfl⟩
  obtain ⟨σ6, eσ6, hf⟩ := fd_lts hf
  have hQ := fd_kM3 hdis hJ hQ hz hk
  have hP : va_P D vwCl (fd_WH a k σ6) H1 := by rw [eσ6]; exact fd_HJ hI hP hP1 hk
  generalize H1 = H at hP hQ hS ⊢
  refine W.cs (cells' := cl) (slots' := sl) rfl rfl ?_
  refine lv_pop hx hb dL_law_536 rfl ?_
  refine lv_aload_n hx hb dL_law_537 rfl (lv_at hl 2 rfl) ?_
  obtain ⟨w9, τ10, hc7, hf⟩ := fd_bds hf
  refine va_calli (va_runV (As := []) (rest := []) ⟨hx, hb, hml, hown, hts⟩ (m_X11_run_0 l D a2 k2 H.size hI2 N μ _ hc7) (cwV 0 hts gL_law_X11_run rfl rfl rfl (by decide +kernel) ⟨Nat.le_of_ble_eq_true rfl, Nat.le_of_ble_eq_true rfl⟩) ⟨fd_blM, va_recv hK2 hQ (ci := 11) (q0 := 0) rfl fd_WM_0, fd_prM hQ hK2⟩ rfl rfl hl.1 rfl (lv_room (Nat.le_of_ble_eq_true rfl)) dL_law_538 ⟨by show cl + 0 ≤ 1116; omega, by show sl + 0 ≤ 18645; omega⟩) hS (fun q _ h => fd_AL hJ2 hS.1 h) (fun q h => fd_AL hJ2 hS.1 h) (fun v8 u t H1 locs ht hvm hw hB hz hk hS => ?_)
  obtain ⟨hP1, hK1⟩ := hB
  rw [ht] at hP1
  obtain ⟨e1, e2⟩ := Prod.mk.inj hw
  subst e1
  subst e2
  obtain ⟨σ11, rfl⟩ : ∃ z, z = u := ⟨_, rfl⟩
  have hP := fd_kH hdis hP hz hk
  have hQ := hP1
  generalize H1 = H at hP hQ hS ⊢
  refine W.cs (cells' := cl) (slots' := sl) rfl rfl ?_
  refine lv_pop hx hb dL_law_541 rfl ?_
  refine lv_goto (tgt := 1061) hx hb dL_law_542 (by decide) ?_
  obtain ⟨x12, ex12, hf⟩ := fd_lts hf
  refine lv_iinc (v := x12) (lv' := [(4, .int x12), (0, .ref b), (1, .ref (a 0)), (2, .ref (a2 0)), (3, .ref (a 39))]) hx hb dL_law_1061 hl (k := 4) rfl (by rw [ex12]; rfl) (by decide) rfl (fun ls hl => ?_)
  refine lv_goto (tgt := 23) hx hb dL_law_1064 (by decide) ?_
  exact hK9 _ _ _ _ _ _ _ _ (by omega) (by omega) hP hQ hS (lv_sub hl [1, 2, 3, 4, 0] rfl) hf
noncomputable def f_law_c10 (N L : Nat) (xs : Nat → Int32) (K : Int32 → fd_St → fd_St → Option Int32) (i : Int32) (σ μ : fd_St) : Option Int32 := fd_gd (vp_in (i + (1 : Int32)) L) (fd_gd (vp_in (i + (2 : Int32)) L) (fd_bd (f_L_suspect_0_39 N (xs (i + (1 : Int32)).toNatClampNeg) (xs (i + (2 : Int32)).toNatClampNeg) σ) (fun v4 σ7 => fd_gd (vp_in (i + (1 : Int32)) L) (fd_gd (vp_in (i + (2 : Int32)) L) (fd_bd (f_X11_suspect_0 N (xs (i + (1 : Int32)).toNatClampNeg) (xs (i + (2 : Int32)).toNatClampNeg) μ) (fun v11 σ14 => fd_lt (i + (6 : Int32)) (fun x15 => K x15 σ7 σ14)))))))
set_option maxHeartbeats 4000000 in
set_option maxRecDepth 100000 in
theorem law_c10 {p : Program} {l : Launch} {e : Env} {s : State} {m : MethodId} {below : List Frame} {meth : Method} {c : Code} {D : va_G} {a a2 : Nat → Nat} {k k2 : Nat → ClassId} {b L : Nat} {xs : Nat → Int32} (C0 : fd_Cx p l s m meth c D a a2 k k2 b L xs) (N : Nat) (K : Int32 → fd_St → fd_St → Option Int32) (n : Nat) (hK9 : ∀ (i : Int32) (σ μ : fd_St) (cl sl : Nat) (H : Heap) (locs : List Loc) (ls : Array Slot), cl + n ≤ 1116 → sl + 6 * n ≤ 18645 → va_P D vwCl (fd_WH a k σ) H → va_P D vwCl (fd_WM a2 k2 μ) H → va_S (fun q => s.heap.size ≤ q) s.heap H locs → lv_has ls 8 [(0, .ref b), (1, .ref (a 0)), (2, .ref (a2 0)), (3, .ref (a 39)), (4, .int i)] → K i σ μ = some 1 → W p l e room_1 s m #[Value.ref b] below meth c H locs cl sl (lw_Z below #[Value.ref b] s) (F0 m 23 ls [])) : ∀ (i : Int32) (σ μ : fd_St) (cl sl : Nat) (H : Heap) (locs : List Loc) (ls : Array Slot), cl + (n + 1) ≤ 1116 → sl + 6 * (n + 1) ≤ 18645 → va_P D vwCl (fd_WH a k σ) H → va_P D vwCl (fd_WM a2 k2 μ) H → va_S (fun q => s.heap.size ≤ q) s.heap H locs → lv_has ls 8 [(0, .ref b), (1, .ref (a 0)), (2, .ref (a2 0)), (3, .ref (a 39)), (4, .int i)] → f_law_c10 N L xs K i σ μ = some 1 → W p l e room_1 s m #[Value.ref b] below meth c H locs cl sl (lw_Z below #[Value.ref b] s) (F0 m 545 ls []) := by
  obtain ⟨⟨hx, hb, hr, hml, hown, hts0, hX, hbl, hlocks, hgv⟩, hl9, hI, hI2, hJ, hJ2, hdis, hK, hK2, hZ⟩ := C0
  have hown : s.vm.findClass RL = some m.cls := hown
  have hts : ∀ w ∈ fd_wl, w.before #[Value.ref b] s = true := fun w h => hts0 w (fd_wl_in w h)
  have hA : ∀ q : Nat, s.heap.size ≤ q → (fun q : Nat => s.heap.size ≤ q) q := fun _ h => h
  have hbA : ¬ (fun q : Nat => s.heap.size ≤ q) b := Nat.not_le.mpr hbl
  intro i σ μ cl sl H locs ls hcl hsl hP hQ hS hl hf
  unfold f_law_c10 at hf
  refine lv_aload_n hx hb dL_law_545 rfl (lv_at hl 1 rfl) ?_
  refine lv_aload_n hx hb dL_law_546 rfl (lv_at hl 0 rfl) ?_
  refine lv_iload hx hb dL_law_547 (lv_at hl 4 rfl) ?_
  refine lv_iconst (v := (1 : Int32)) hx hb dL_law_549 (by decide) ?_
  refine lv_iadd hx hb dL_law_550 ?_
  obtain ⟨g1, hf⟩ := fd_gds hf
  refine va_sld hx hb hX hbl hbA hS g1 dL_law_551 ?_
  refine lv_aload_n hx hb dL_law_552 rfl (lv_at hl 0 rfl) ?_
  refine lv_iload hx hb dL_law_553 (lv_at hl 4 rfl) ?_
  refine lv_iconst (v := (2 : Int32)) hx hb dL_law_555 (by decide) ?_
  refine lv_iadd hx hb dL_law_556 ?_
  obtain ⟨g2, hf⟩ := fd_gds hf
  refine va_sld hx hb hX hbl hbA hS g2 dL_law_557 ?_
  refine lv_aload_n hx hb dL_law_558 rfl (lv_at hl 3 rfl) ?_
  obtain ⟨w5, τ6, hc3, hf⟩ := fd_bds hf
  refine va_calli (vx_runSW (As := [.ref (a 0), .int (xs (i + (1 : Int32)).toNatClampNeg), .int (xs (i + (2 : Int32)).toNatClampNeg), .ref (a 39)]) (rest := []) ⟨hx, hb, hml, hown, hts⟩ (m_L_suspect_0_39 l hl9 D a k H.size hI N (xs (i + (1 : Int32)).toNatClampNeg) (xs (i + (2 : Int32)).toNatClampNeg) σ _ hc3) (vx_cwSW 4 hts gL_law_L_suspect rfl rfl rfl (by decide +kernel) ⟨Nat.le_of_ble_eq_true rfl, Nat.le_of_ble_eq_true rfl⟩) ⟨fd_blH, fd_prL hP hK hZ hS hJ⟩ rfl rfl hl.1 rfl (lv_room (Nat.le_of_ble_eq_true rfl)) dL_law_559 ⟨by show cl + 1 ≤ 1116; omega, by show sl + 6 ≤ 18645; omega⟩) hS (fun q _ h => fd_AL hJ hS.1 h) (fun q h => fd_AL hJ hS.1 h) (fun v4 u t H1 locs ht hvm hw hB hz hk hS => ?_)
  obtain ⟨hP1, hK1⟩ := hB
  rw [ht] at hP1
  obtain ⟨e1, e2⟩ := Prod.mk.inj hw
  subst e1
  subst e2
  obtain ⟨σ7, rfl⟩ : ∃ z, z = u := ⟨_, rfl⟩
  have hQ := fd_kM hdis hJ hQ hz hk
  have hP := hP1
  generalize H1 = H at hP hQ hS ⊢
  refine W.cs (cells' := cl + 1) (slots' := sl + 6) rfl rfl ?_
  refine lv_istore (lv' := [(5, .int v4), (0, .ref b), (1, .ref (a 0)), (2, .ref (a2 0)), (3, .ref (a 39)), (4, .int i)]) hx hb dL_law_562 hl (by decide) rfl (fun ls hl => ?_)
  refine lv_aload_n hx hb dL_law_564 rfl (lv_at hl 3 rfl) ?_
  refine lv_aload_n hx hb dL_law_565 rfl (lv_at hl 1 rfl) ?_
  refine lv_iload hx hb dL_law_566 (lv_at hl 5 rfl) ?_
  refine lv_iconst (v := (1 : Int32)) hx hb dL_law_568 (by decide) ?_
  refine lv_iadd hx hb dL_law_569 ?_
  obtain ⟨g8, hf⟩ := fd_gds hf
  refine va_sld hx hb hX hbl hbA hS g8 dL_law_570 ?_
  refine lv_aload_n hx hb dL_law_571 rfl (lv_at hl 1 rfl) ?_
  refine lv_iload hx hb dL_law_572 (lv_at hl 5 rfl) ?_
  refine lv_iconst (v := (2 : Int32)) hx hb dL_law_574 (by decide) ?_
  refine lv_iadd hx hb dL_law_575 ?_
  obtain ⟨g9, hf⟩ := fd_gds hf
  refine va_sld hx hb hX hbl hbA hS g9 dL_law_576 ?_
  obtain ⟨w12, τ13, hc10, hf⟩ := fd_bds hf
  refine va_calli (va_runV (As := [.int (xs (i + (1 : Int32)).toNatClampNeg), .int (xs (i + (2 : Int32)).toNatClampNeg)]) (rest := []) ⟨hx, hb, hml, hown, hts⟩ (m_X11_suspect_0 l D a2 k2 H.size hI2 N (xs (i + (1 : Int32)).toNatClampNeg) (xs (i + (2 : Int32)).toNatClampNeg) μ _ hc10) (cwV 2 hts gL_law_X11_suspect rfl rfl rfl (by decide +kernel) ⟨Nat.le_of_ble_eq_true rfl, Nat.le_of_ble_eq_true rfl⟩) ⟨fd_blM, va_recv hK2 hQ (ci := 11) (q0 := 0) rfl fd_WM_0, fd_prM hQ hK2⟩ rfl rfl hl.1 rfl (lv_room (Nat.le_of_ble_eq_true rfl)) dL_law_577 ⟨by show cl + 1 + 0 ≤ 1116; omega, by show sl + 6 + 0 ≤ 18645; omega⟩) hS (fun q _ h => fd_AL hJ2 hS.1 h) (fun q h => fd_AL hJ2 hS.1 h) (fun v11 u t H1 locs ht hvm hw hB hz hk hS => ?_)
  obtain ⟨hP1, hK1⟩ := hB
  rw [ht] at hP1
  obtain ⟨e1, e2⟩ := Prod.mk.inj hw
  subst e1
  subst e2
  obtain ⟨σ14, rfl⟩ : ∃ z, z = u := ⟨_, rfl⟩
  have hP := fd_kH hdis hP hz hk
  have hQ := hP1
  generalize H1 = H at hP hQ hS ⊢
  refine W.cs (cells' := cl + 1) (slots' := sl + 6) rfl rfl ?_
  refine lv_istore (lv' := [(6, .int v11), (5, .int v4), (0, .ref b), (1, .ref (a 0)), (2, .ref (a2 0)), (3, .ref (a 39)), (4, .int i)]) hx hb dL_law_580 hl (by decide) rfl (fun ls hl => ?_)
  refine lv_goto (tgt := 1061) hx hb dL_law_582 (by decide) ?_
  obtain ⟨x15, ex15, hf⟩ := fd_lts hf
  refine lv_iinc (v := x15) (lv' := [(4, .int x15), (6, .int v11), (5, .int v4), (0, .ref b), (1, .ref (a 0)), (2, .ref (a2 0)), (3, .ref (a 39))]) hx hb dL_law_1061 hl (k := 6) rfl (by rw [ex15]; rfl) (by decide) rfl (fun ls hl => ?_)
  refine lv_goto (tgt := 23) hx hb dL_law_1064 (by decide) ?_
  exact hK9 _ _ _ _ _ _ _ _ (by omega) (by omega) hP hQ hS (lv_sub hl [3, 4, 5, 6, 0] rfl) hf
noncomputable def f_law_c11 (N L : Nat) (xs : Nat → Int32) (K : Int32 → fd_St → fd_St → Option Int32) (i : Int32) (σ μ : fd_St) : Option Int32 := fd_gd (vp_in (i + (1 : Int32)) L) (fd_bd (f_L_pair_0_39 N (xs (i + (1 : Int32)).toNatClampNeg) σ) (fun v3 σ6 => fd_gd (vp_in (i + (1 : Int32)) L) (fd_bd (f_X11_pair_0 N (xs (i + (1 : Int32)).toNatClampNeg) μ) (fun v9 σ12 => fd_lt (i + (6 : Int32)) (fun x13 => K x13 σ6 σ12)))))
set_option maxHeartbeats 4000000 in
set_option maxRecDepth 100000 in
theorem law_c11 {p : Program} {l : Launch} {e : Env} {s : State} {m : MethodId} {below : List Frame} {meth : Method} {c : Code} {D : va_G} {a a2 : Nat → Nat} {k k2 : Nat → ClassId} {b L : Nat} {xs : Nat → Int32} (C0 : fd_Cx p l s m meth c D a a2 k k2 b L xs) (N : Nat) (K : Int32 → fd_St → fd_St → Option Int32) (n : Nat) (hK9 : ∀ (i : Int32) (σ μ : fd_St) (cl sl : Nat) (H : Heap) (locs : List Loc) (ls : Array Slot), cl + n ≤ 1116 → sl + 6 * n ≤ 18645 → va_P D vwCl (fd_WH a k σ) H → va_P D vwCl (fd_WM a2 k2 μ) H → va_S (fun q => s.heap.size ≤ q) s.heap H locs → lv_has ls 8 [(0, .ref b), (1, .ref (a 0)), (2, .ref (a2 0)), (3, .ref (a 39)), (4, .int i)] → K i σ μ = some 1 → W p l e room_1 s m #[Value.ref b] below meth c H locs cl sl (lw_Z below #[Value.ref b] s) (F0 m 23 ls [])) : ∀ (i : Int32) (σ μ : fd_St) (cl sl : Nat) (H : Heap) (locs : List Loc) (ls : Array Slot), cl + (n + 1) ≤ 1116 → sl + 6 * (n + 1) ≤ 18645 → va_P D vwCl (fd_WH a k σ) H → va_P D vwCl (fd_WM a2 k2 μ) H → va_S (fun q => s.heap.size ≤ q) s.heap H locs → lv_has ls 8 [(0, .ref b), (1, .ref (a 0)), (2, .ref (a2 0)), (3, .ref (a 39)), (4, .int i)] → f_law_c11 N L xs K i σ μ = some 1 → W p l e room_1 s m #[Value.ref b] below meth c H locs cl sl (lw_Z below #[Value.ref b] s) (F0 m 585 ls []) := by
  obtain ⟨⟨hx, hb, hr, hml, hown, hts0, hX, hbl, hlocks, hgv⟩, hl9, hI, hI2, hJ, hJ2, hdis, hK, hK2, hZ⟩ := C0
  have hown : s.vm.findClass RL = some m.cls := hown
  have hts : ∀ w ∈ fd_wl, w.before #[Value.ref b] s = true := fun w h => hts0 w (fd_wl_in w h)
  have hA : ∀ q : Nat, s.heap.size ≤ q → (fun q : Nat => s.heap.size ≤ q) q := fun _ h => h
  have hbA : ¬ (fun q : Nat => s.heap.size ≤ q) b := Nat.not_le.mpr hbl
  intro i σ μ cl sl H locs ls hcl hsl hP hQ hS hl hf
  unfold f_law_c11 at hf
  refine lv_aload_n hx hb dL_law_585 rfl (lv_at hl 1 rfl) ?_
  refine lv_aload_n hx hb dL_law_586 rfl (lv_at hl 0 rfl) ?_
  refine lv_iload hx hb dL_law_587 (lv_at hl 4 rfl) ?_
  refine lv_iconst (v := (1 : Int32)) hx hb dL_law_589 (by decide) ?_
  refine lv_iadd hx hb dL_law_590 ?_
  obtain ⟨g1, hf⟩ := fd_gds hf
  refine va_sld hx hb hX hbl hbA hS g1 dL_law_591 ?_
  refine lv_aload_n hx hb dL_law_592 rfl (lv_at hl 3 rfl) ?_
  obtain ⟨w4, τ5, hc2, hf⟩ := fd_bds hf
  refine va_calli (vx_runSW (As := [.ref (a 0), .int (xs (i + (1 : Int32)).toNatClampNeg), .ref (a 39)]) (rest := []) ⟨hx, hb, hml, hown, hts⟩ (m_L_pair_0_39 l hl9 D a k H.size hI N (xs (i + (1 : Int32)).toNatClampNeg) σ _ hc2) (vx_cwSW 3 hts gL_law_L_pair rfl rfl rfl (by decide +kernel) ⟨Nat.le_of_ble_eq_true rfl, Nat.le_of_ble_eq_true rfl⟩) ⟨fd_blH, fd_prL hP hK hZ hS hJ⟩ rfl rfl hl.1 rfl (lv_room (Nat.le_of_ble_eq_true rfl)) dL_law_593 ⟨by show cl + 1 ≤ 1116; omega, by show sl + 6 ≤ 18645; omega⟩) hS (fun q _ h => fd_AL hJ hS.1 h) (fun q h => fd_AL hJ hS.1 h) (fun v3 u t H1 locs ht hvm hw hB hz hk hS => ?_)
  obtain ⟨hP1, hK1⟩ := hB
  rw [ht] at hP1
  obtain ⟨e1, e2⟩ := Prod.mk.inj hw
  subst e1
  subst e2
  obtain ⟨σ6, rfl⟩ : ∃ z, z = u := ⟨_, rfl⟩
  have hQ := fd_kM hdis hJ hQ hz hk
  have hP := hP1
  generalize H1 = H at hP hQ hS ⊢
  refine W.cs (cells' := cl + 1) (slots' := sl + 6) rfl rfl ?_
  refine lv_istore (lv' := [(5, .int v3), (0, .ref b), (1, .ref (a 0)), (2, .ref (a2 0)), (3, .ref (a 39)), (4, .int i)]) hx hb dL_law_596 hl (by decide) rfl (fun ls hl => ?_)
  refine lv_aload_n hx hb dL_law_598 rfl (lv_at hl 3 rfl) ?_
  refine lv_aload_n hx hb dL_law_599 rfl (lv_at hl 1 rfl) ?_
  refine lv_iload hx hb dL_law_600 (lv_at hl 5 rfl) ?_
  refine lv_iconst (v := (1 : Int32)) hx hb dL_law_602 (by decide) ?_
  refine lv_iadd hx hb dL_law_603 ?_
  obtain ⟨g7, hf⟩ := fd_gds hf
  refine va_sld hx hb hX hbl hbA hS g7 dL_law_604 ?_
  obtain ⟨w10, τ11, hc8, hf⟩ := fd_bds hf
  refine va_calli (va_runV (As := [.int (xs (i + (1 : Int32)).toNatClampNeg)]) (rest := []) ⟨hx, hb, hml, hown, hts⟩ (m_X11_pair_0 l D a2 k2 H.size hI2 N (xs (i + (1 : Int32)).toNatClampNeg) μ _ hc8) (cwV 1 hts gL_law_X11_pair rfl rfl rfl (by decide +kernel) ⟨Nat.le_of_ble_eq_true rfl, Nat.le_of_ble_eq_true rfl⟩) ⟨fd_blM, va_recv hK2 hQ (ci := 11) (q0 := 0) rfl fd_WM_0, fd_prM hQ hK2⟩ rfl rfl hl.1 rfl (lv_room (Nat.le_of_ble_eq_true rfl)) dL_law_605 ⟨by show cl + 1 + 0 ≤ 1116; omega, by show sl + 6 + 0 ≤ 18645; omega⟩) hS (fun q _ h => fd_AL hJ2 hS.1 h) (fun q h => fd_AL hJ2 hS.1 h) (fun v9 u t H1 locs ht hvm hw hB hz hk hS => ?_)
  obtain ⟨hP1, hK1⟩ := hB
  rw [ht] at hP1
  obtain ⟨e1, e2⟩ := Prod.mk.inj hw
  subst e1
  subst e2
  obtain ⟨σ12, rfl⟩ : ∃ z, z = u := ⟨_, rfl⟩
  have hP := fd_kH hdis hP hz hk
  have hQ := hP1
  generalize H1 = H at hP hQ hS ⊢
  refine W.cs (cells' := cl + 1) (slots' := sl + 6) rfl rfl ?_
  refine lv_istore (lv' := [(6, .int v9), (5, .int v3), (0, .ref b), (1, .ref (a 0)), (2, .ref (a2 0)), (3, .ref (a 39)), (4, .int i)]) hx hb dL_law_608 hl (by decide) rfl (fun ls hl => ?_)
  refine lv_goto (tgt := 1061) hx hb dL_law_610 (by decide) ?_
  obtain ⟨x13, ex13, hf⟩ := fd_lts hf
  refine lv_iinc (v := x13) (lv' := [(4, .int x13), (6, .int v9), (5, .int v3), (0, .ref b), (1, .ref (a 0)), (2, .ref (a2 0)), (3, .ref (a 39))]) hx hb dL_law_1061 hl (k := 6) rfl (by rw [ex13]; rfl) (by decide) rfl (fun ls hl => ?_)
  refine lv_goto (tgt := 23) hx hb dL_law_1064 (by decide) ?_
  exact hK9 _ _ _ _ _ _ _ _ (by omega) (by omega) hP hQ hS (lv_sub hl [3, 4, 5, 6, 0] rfl) hf
