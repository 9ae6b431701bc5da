noncomputable def f_law_c12 (N L : Nat) (xs : Nat → Int32) (K : Int32 → fd_St → fd_St → Option Int32) (i : Int32) (σ μ : fd_St) : Option Int32 := fd_bd (f_L_join_0_39 N σ) (fun v2 σ5 => fd_bd (f_X11_join_0 N μ) (fun v7 σ10 => fd_bd (f_X11_thrown_0 N σ10) (fun v12 σ15 => if v12 = v2 then (if v2 = 0 then (fd_gd (vp_in (0 : Int32) 1) (if (lg_cmp (σ5.2.2 39 (0 : Int32).toNatClampNeg) v7.toInt64) = 0 then (fd_lt (i + (6 : Int32)) (fun x21 => K x21 σ5 σ15)) else (some (0 : Int32)))) else (fd_lt (i + (6 : Int32)) (fun x18 => K x18 σ5 σ15))) else (some (0 : Int32)))))
set_option maxHeartbeats 4000000 in
set_option maxRecDepth 100000 in
theorem law_c12 {p : Program} {l : Launch} {e : Env} {s : State} {m : MethodId} {below : List Frame} {meth : Method} {c : Code} {D : va_G} {a a2 : Nat → Nat} {k k2 : Nat → ClassId} {b L : Nat} {xs : Nat → Int32} (C0 : fd_Cx p l s m meth c D a a2 k k2 b L xs) (N : Nat) (K : Int32 → fd_St → fd_St → Option Int32) (n : Nat) (hK9 : ∀ (i : Int32) (σ μ : fd_St) (cl sl : Nat) (H : Heap) (locs : List Loc) (ls : Array Slot), cl + n ≤ 94 → sl + 6 * n ≤ 10469 → va_P D vwCl (fd_WH a k σ) H → va_P D vwCl (fd_WM a2 k2 μ) H → va_S (fun q => s.heap.size ≤ q) s.heap H locs → lv_has ls 8 [(0, .ref b), (1, .ref (a 0)), (2, .ref (a2 0)), (3, .ref (a 39)), (4, .int i)] → K i σ μ = some 1 → W p l e room_1 s m #[Value.ref b] below meth c H locs cl sl (lw_Z below #[Value.ref b] s) (F0 m 23 ls [])) : ∀ (i : Int32) (σ μ : fd_St) (cl sl : Nat) (H : Heap) (locs : List Loc) (ls : Array Slot), cl + (n + 1) ≤ 94 → sl + 6 * (n + 1) ≤ 10469 → va_P D vwCl (fd_WH a k σ) H → va_P D vwCl (fd_WM a2 k2 μ) H → va_S (fun q => s.heap.size ≤ q) s.heap H locs → lv_has ls 8 [(0, .ref b), (1, .ref (a 0)), (2, .ref (a2 0)), (3, .ref (a 39)), (4, .int i)] → f_law_c12 N L xs K i σ μ = some 1 → W p l e room_1 s m #[Value.ref b] below meth c H locs cl sl (lw_Z below #[Value.ref b] s) (F0 m 917 ls []) := by
  obtain ⟨⟨hx, hb, hr, hml, hown, hts0, hX, hbl, hlocks, hgv⟩, hl9, hI, hI2, hJ, hJ2, hdis, hK, hK2, hZ⟩ := C0
  have hown : s.vm.findClass RL = some m.cls := hown
  have hts : ∀ w ∈ fd_wl, w.before #[Value.ref b] s = true := fun w h => hts0 w (fd_wl_in w h)
  have hA : ∀ q : Nat, s.heap.size ≤ q → (fun q : Nat => s.heap.size ≤ q) q := fun _ h => h
  have hbA : ¬ (fun q : Nat => s.heap.size ≤ q) b := Nat.not_le.mpr hbl
  intro i σ μ cl sl H locs ls hcl hsl hP hQ hS hl hf
  unfold f_law_c12 at hf
  refine lv_aload_n hx hb dL_law_917 rfl (lv_at hl 1 rfl) ?_
  refine lv_aload_n hx hb dL_law_918 rfl (lv_at hl 3 rfl) ?_
  obtain ⟨w3, τ4, hc1, hf⟩ := fd_bds hf
  refine va_calli (vx_runSW (As := [.ref (a 0), .ref (a 39)]) (rest := []) ⟨hx, hb, hml, hown, hts⟩ (m_L_join_0_39 l hl9 D a k H.size hI N σ _ hc1) (vx_cwSW 2 hts gL_law_L_join rfl rfl rfl (by decide +kernel) ⟨Nat.le_of_ble_eq_true rfl, Nat.le_of_ble_eq_true rfl⟩) ⟨fd_blH, fd_prL hP hK hZ hS hJ⟩ rfl rfl hl.1 rfl (lv_room (Nat.le_of_ble_eq_true rfl)) dL_law_919 ⟨by show cl + 1 ≤ 94; omega, by show sl + 6 ≤ 10469; omega⟩) hS (fun q _ h => fd_AL hJ hS.1 h) (fun q h => fd_AL hJ hS.1 h) (fun v2 u t H1 locs ht hvm hw hB hz hk hS => ?_)
  obtain ⟨hP1, hK1⟩ := hB
  rw [ht] at hP1
  obtain ⟨e1, e2⟩ := Prod.mk.inj hw
  subst e1
  subst e2
  obtain ⟨σ5, rfl⟩ : ∃ z, z = u := ⟨_, rfl⟩
  have hQ := fd_kM hdis hJ hQ hz hk
  have hP := hP1
  generalize H1 = H at hP hQ hS ⊢
  refine W.cs (cells' := cl + 1) (slots' := sl + 6) rfl rfl ?_
  refine lv_istore (lv' := [(5, .int v2), (0, .ref b), (1, .ref (a 0)), (2, .ref (a2 0)), (3, .ref (a 39)), (4, .int i)]) hx hb dL_law_922 hl (by decide) rfl (fun ls hl => ?_)
  refine lv_aload_n hx hb dL_law_924 rfl (lv_at hl 3 rfl) ?_
  obtain ⟨w8, τ9, hc6, hf⟩ := fd_bds hf
  refine va_calli (va_runV (As := []) (rest := []) ⟨hx, hb, hml, hown, hts⟩ (m_X11_join_0 l D a2 k2 H.size hI2 N μ _ hc6) (cwV 0 hts gL_law_X11_join rfl rfl rfl (by decide +kernel) ⟨Nat.le_of_ble_eq_true rfl, Nat.le_of_ble_eq_true rfl⟩) ⟨fd_blM, va_recv hK2 hQ (ci := 11) (q0 := 0) rfl fd_WM_0, fd_prM hQ hK2⟩ rfl rfl hl.1 rfl (lv_room (Nat.le_of_ble_eq_true rfl)) dL_law_925 ⟨by show cl + 1 + 0 ≤ 94; omega, by show sl + 6 + 0 ≤ 10469; omega⟩) hS (fun q _ h => fd_AL hJ2 hS.1 h) (fun q h => fd_AL hJ2 hS.1 h) (fun v7 u t H1 locs ht hvm hw hB hz hk hS => ?_)
  obtain ⟨hP1, hK1⟩ := hB
  rw [ht] at hP1
  obtain ⟨e1, e2⟩ := Prod.mk.inj hw
  subst e1
  subst e2
  obtain ⟨σ10, rfl⟩ : ∃ z, z = u := ⟨_, rfl⟩
  have hP := fd_kH hdis hP hz hk
  have hQ := hP1
  generalize H1 = H at hP hQ hS ⊢
  refine W.cs (cells' := cl + 1) (slots' := sl + 6) rfl rfl ?_
  refine lv_istore (lv' := [(6, .int v7), (5, .int v2), (0, .ref b), (1, .ref (a 0)), (2, .ref (a2 0)), (3, .ref (a 39)), (4, .int i)]) hx hb dL_law_928 hl (by decide) rfl (fun ls hl => ?_)
  refine lv_aload_n hx hb dL_law_930 rfl (lv_at hl 4 rfl) ?_
  obtain ⟨w13, τ14, hc11, hf⟩ := fd_bds hf
  refine va_calli (va_runV (As := []) (rest := []) ⟨hx, hb, hml, hown, hts⟩ (m_X11_thrown_0 l D a2 k2 H.size hI2 N σ10 _ hc11) (cwV 0 hts gL_law_X11_thrown rfl rfl rfl (by decide +kernel) ⟨Nat.le_of_ble_eq_true rfl, Nat.le_of_ble_eq_true rfl⟩) ⟨fd_blM, va_recv hK2 hQ (ci := 11) (q0 := 0) rfl fd_WM_0, fd_prM hQ hK2⟩ rfl rfl hl.1 rfl (lv_room (Nat.le_of_ble_eq_true rfl)) dL_law_931 ⟨by show cl + 1 + 0 ≤ 94; omega, by show sl + 6 + 0 ≤ 10469; omega⟩) hS (fun q _ h => fd_AL hJ2 hS.1 h) (fun q h => fd_AL hJ2 hS.1 h) (fun v12 u t H1 locs ht hvm hw hB hz hk hS => ?_)
  obtain ⟨hP1, hK1⟩ := hB
  rw [ht] at hP1
  obtain ⟨e1, e2⟩ := Prod.mk.inj hw
  subst e1
  subst e2
  obtain ⟨σ15, rfl⟩ : ∃ z, z = u := ⟨_, rfl⟩
  have hP := fd_kH hdis hP hz hk
  have hQ := hP1
  generalize H1 = H at hP hQ hS ⊢
  refine W.cs (cells' := cl + 1) (slots' := sl + 6) rfl rfl ?_
  refine lv_iload hx hb dL_law_934 (lv_at hl 1 rfl) ?_
  refine lv_icmp_eq (tgt := 941) hx hb dL_law_936 (by decide) (fun c16 => ?_) (fun c16 => ?_)
  · have hf := fd_itp c16 hf
    refine lv_iload hx hb dL_law_941 (lv_at hl 1 rfl) ?_
    refine lv_if_ne (tgt := 958) hx hb dL_law_943 (by decide) (fun c17 => ?_) (fun c17 => ?_)
    · have hf := fd_itn c17 hf
      refine lv_goto (tgt := 1572) hx hb dL_law_958 (by decide) ?_
      obtain ⟨x18, ex18, hf⟩ := fd_lts hf
      refine lv_iinc (v := x18) (lv' := [(4, .int x18), (6, .int v7), (5, .int v2), (0, .ref b), (1, .ref (a 0)), (2, .ref (a2 0)), (3, .ref (a 39))]) hx hb dL_law_1572 hl (k := 6) rfl (by rw [ex18]; rfl) (by decide) rfl (fun ls hl => ?_)
      refine lv_goto (tgt := 23) hx hb dL_law_1575 (by decide) ?_
      exact hK9 _ _ _ _ _ _ _ _ (by omega) (by omega) hP hQ hS (lv_sub hl [3, 4, 5, 6, 0] rfl) hf
    · have hf := fd_itp c17 hf
      refine lv_aload_n hx hb dL_law_946 rfl (lv_at hl 5 rfl) ?_
      refine lv_iconst (v := (0 : Int32)) hx hb dL_law_947 (by decide) ?_
      obtain ⟨g19, hf⟩ := fd_gds hf
      refine va_lald hx hb hK hP 39 27 fd_WH_39 fd_tyH_39 g19 dL_law_948 ?_
      refine lv_iload hx hb dL_law_949 (lv_at hl 0 rfl) ?_
      refine lv_i2l hx hb dL_law_951 rfl ?_
      refine W.lcmp hx hb dL_law_952 ?_
      refine lv_if_eq (tgt := 958) hx hb dL_law_953 (by decide) (fun c20 => ?_) (fun c20 => ?_)
      · have hf := fd_itp c20 hf
        refine lv_goto (tgt := 1572) hx hb dL_law_958 (by decide) ?_
        obtain ⟨x21, ex21, hf⟩ := fd_lts hf
        refine lv_iinc (v := x21) (lv' := [(4, .int x21), (6, .int v7), (5, .int v2), (0, .ref b), (1, .ref (a 0)), (2, .ref (a2 0)), (3, .ref (a 39))]) hx hb dL_law_1572 hl (k := 6) rfl (by rw [ex21]; rfl) (by decide) rfl (fun ls hl => ?_)
        refine lv_goto (tgt := 23) hx hb dL_law_1575 (by decide) ?_
        exact hK9 _ _ _ _ _ _ _ _ (by omega) (by omega) hP hQ hS (lv_sub hl [3, 4, 5, 6, 0] rfl) hf
      · have hf := fd_itn c20 hf
        refine lv_iconst (v := (0 : Int32)) hx hb dL_law_956 (by decide) ?_
        exact absurd (Option.some.inj hf) (by decide)
  · have hf := fd_itn c16 hf
    refine lv_iconst (v := (0 : Int32)) hx hb dL_law_939 (by decide) ?_
    exact absurd (Option.some.inj hf) (by decide)
noncomputable def f_law_c13 (N L : Nat) (xs : Nat → Int32) (K : Int32 → fd_St → fd_St → Option Int32) (i : Int32) (σ μ : fd_St) : Option Int32 := fd_gd (vp_in (i + (1 : Int32)) L) (fd_bd (f_L_share_0_39 N (xs (i + (1 : Int32)).toNatClampNeg) σ) (fun v3 σ6 => fd_gd (vp_in (i + (1 : Int32)) L) (fd_bd (f_X11_share_0 N (xs (i + (1 : Int32)).toNatClampNeg) μ) (fun v9 σ12 => fd_bd (f_X11_thrown_0 N σ12) (fun v14 σ17 => if v14 = v3 then (if v3 = 0 then (fd_gd (vp_in (0 : Int32) 1) (if (lg_cmp (σ6.2.2 39 (0 : Int32).toNatClampNeg) v9.toInt64) = 0 then (fd_lt (i + (6 : Int32)) (fun x23 => K x23 σ6 σ17)) else (some (0 : Int32)))) else (fd_lt (i + (6 : Int32)) (fun x20 => K x20 σ6 σ17))) else (some (0 : Int32)))))))
set_option maxHeartbeats 4000000 in
set_option maxRecDepth 100000 in
theorem law_c13 {p : Program} {l : Launch} {e : Env} {s : State} {m : MethodId} {below : List Frame} {meth : Method} {c : Code} {D : va_G} {a a2 : Nat → Nat} {k k2 : Nat → ClassId} {b L : Nat} {xs : Nat → Int32} (C0 : fd_Cx p l s m meth c D a a2 k k2 b L xs) (N : Nat) (K : Int32 → fd_St → fd_St → Option Int32) (n : Nat) (hK9 : ∀ (i : Int32) (σ μ : fd_St) (cl sl : Nat) (H : Heap) (locs : List Loc) (ls : Array Slot), cl + n ≤ 94 → sl + 6 * n ≤ 10469 → va_P D vwCl (fd_WH a k σ) H → va_P D vwCl (fd_WM a2 k2 μ) H → va_S (fun q => s.heap.size ≤ q) s.heap H locs → lv_has ls 8 [(0, .ref b), (1, .ref (a 0)), (2, .ref (a2 0)), (3, .ref (a 39)), (4, .int i)] → K i σ μ = some 1 → W p l e room_1 s m #[Value.ref b] below meth c H locs cl sl (lw_Z below #[Value.ref b] s) (F0 m 23 ls [])) : ∀ (i : Int32) (σ μ : fd_St) (cl sl : Nat) (H : Heap) (locs : List Loc) (ls : Array Slot), cl + (n + 1) ≤ 94 → sl + 6 * (n + 1) ≤ 10469 → va_P D vwCl (fd_WH a k σ) H → va_P D vwCl (fd_WM a2 k2 μ) H → va_S (fun q => s.heap.size ≤ q) s.heap H locs → lv_has ls 8 [(0, .ref b), (1, .ref (a 0)), (2, .ref (a2 0)), (3, .ref (a 39)), (4, .int i)] → f_law_c13 N L xs K i σ μ = some 1 → W p l e room_1 s m #[Value.ref b] below meth c H locs cl sl (lw_Z below #[Value.ref b] s) (F0 m 961 ls []) := by
  obtain ⟨⟨hx, hb, hr, hml, hown, hts0, hX, hbl, hlocks, hgv⟩, hl9, hI, hI2, hJ, hJ2, hdis, hK, hK2, hZ⟩ := C0
  have hown : s.vm.findClass RL = some m.cls := hown
  have hts : ∀ w ∈ fd_wl, w.before #[Value.ref b] s = true := fun w h => hts0 w (fd_wl_in w h)
  have hA : ∀ q : Nat, s.heap.size ≤ q → (fun q : Nat => s.heap.size ≤ q) q := fun _ h => h
  have hbA : ¬ (fun q : Nat => s.heap.size ≤ q) b := Nat.not_le.mpr hbl
  intro i σ μ cl sl H locs ls hcl hsl hP hQ hS hl hf
  unfold f_law_c13 at hf
  refine lv_aload_n hx hb dL_law_961 rfl (lv_at hl 1 rfl) ?_
  refine lv_aload_n hx hb dL_law_962 rfl (lv_at hl 0 rfl) ?_
  refine lv_iload hx hb dL_law_963 (lv_at hl 4 rfl) ?_
  refine lv_iconst (v := (1 : Int32)) hx hb dL_law_965 (by decide) ?_
  refine lv_iadd hx hb dL_law_966 ?_
  obtain ⟨g1, hf⟩ := fd_gds hf
  refine va_sld hx hb hX hbl hbA hS g1 dL_law_967 ?_
  refine lv_aload_n hx hb dL_law_968 rfl (lv_at hl 3 rfl) ?_
  obtain ⟨w4, τ5, hc2, hf⟩ := fd_bds hf
  refine va_calli (vx_runSW (As := [.ref (a 0), .int (xs (i + (1 : Int32)).toNatClampNeg), .ref (a 39)]) (rest := []) ⟨hx, hb, hml, hown, hts⟩ (m_L_share_0_39 l hl9 D a k H.size hI N (xs (i + (1 : Int32)).toNatClampNeg) σ _ hc2) (vx_cwSW 3 hts gL_law_L_share rfl rfl rfl (by decide +kernel) ⟨Nat.le_of_ble_eq_true rfl, Nat.le_of_ble_eq_true rfl⟩) ⟨fd_blH, fd_prL hP hK hZ hS hJ⟩ rfl rfl hl.1 rfl (lv_room (Nat.le_of_ble_eq_true rfl)) dL_law_969 ⟨by show cl + 1 ≤ 94; omega, by show sl + 6 ≤ 10469; omega⟩) hS (fun q _ h => fd_AL hJ hS.1 h) (fun q h => fd_AL hJ hS.1 h) (fun v3 u t H1 locs ht hvm hw hB hz hk hS => ?_)
  obtain ⟨hP1, hK1⟩ := hB
  rw [ht] at hP1
  obtain ⟨e1, e2⟩ := Prod.mk.inj hw
  subst e1
  subst e2
  obtain ⟨σ6, rfl⟩ : ∃ z, z = u := ⟨_, rfl⟩
  have hQ := fd_kM hdis hJ hQ hz hk
  have hP := hP1
  generalize H1 = H at hP hQ hS ⊢
  refine W.cs (cells' := cl + 1) (slots' := sl + 6) rfl rfl ?_
  refine lv_istore (lv' := [(5, .int v3), (0, .ref b), (1, .ref (a 0)), (2, .ref (a2 0)), (3, .ref (a 39)), (4, .int i)]) hx hb dL_law_972 hl (by decide) rfl (fun ls hl => ?_)
  refine lv_aload_n hx hb dL_law_974 rfl (lv_at hl 3 rfl) ?_
  refine lv_aload_n hx hb dL_law_975 rfl (lv_at hl 1 rfl) ?_
  refine lv_iload hx hb dL_law_976 (lv_at hl 5 rfl) ?_
  refine lv_iconst (v := (1 : Int32)) hx hb dL_law_978 (by decide) ?_
  refine lv_iadd hx hb dL_law_979 ?_
  obtain ⟨g7, hf⟩ := fd_gds hf
  refine va_sld hx hb hX hbl hbA hS g7 dL_law_980 ?_
  obtain ⟨w10, τ11, hc8, hf⟩ := fd_bds hf
  refine va_calli (va_runV (As := [.int (xs (i + (1 : Int32)).toNatClampNeg)]) (rest := []) ⟨hx, hb, hml, hown, hts⟩ (m_X11_share_0 l D a2 k2 H.size hI2 N (xs (i + (1 : Int32)).toNatClampNeg) μ _ hc8) (cwV 1 hts gL_law_X11_share rfl rfl rfl (by decide +kernel) ⟨Nat.le_of_ble_eq_true rfl, Nat.le_of_ble_eq_true rfl⟩) ⟨fd_blM, va_recv hK2 hQ (ci := 11) (q0 := 0) rfl fd_WM_0, fd_prM hQ hK2⟩ rfl rfl hl.1 rfl (lv_room (Nat.le_of_ble_eq_true rfl)) dL_law_981 ⟨by show cl + 1 + 0 ≤ 94; omega, by show sl + 6 + 0 ≤ 10469; omega⟩) hS (fun q _ h => fd_AL hJ2 hS.1 h) (fun q h => fd_AL hJ2 hS.1 h) (fun v9 u t H1 locs ht hvm hw hB hz hk hS => ?_)
  obtain ⟨hP1, hK1⟩ := hB
  rw [ht] at hP1
  obtain ⟨e1, e2⟩ := Prod.mk.inj hw
  subst e1
  subst e2
  obtain ⟨σ12, rfl⟩ : ∃ z, z = u := ⟨_, rfl⟩
  have hP := fd_kH hdis hP hz hk
  have hQ := hP1
  generalize H1 = H at hP hQ hS ⊢
  refine W.cs (cells' := cl + 1) (slots' := sl + 6) rfl rfl ?_
  refine lv_istore (lv' := [(6, .int v9), (5, .int v3), (0, .ref b), (1, .ref (a 0)), (2, .ref (a2 0)), (3, .ref (a 39)), (4, .int i)]) hx hb dL_law_984 hl (by decide) rfl (fun ls hl => ?_)
  refine lv_aload_n hx hb dL_law_986 rfl (lv_at hl 4 rfl) ?_
  obtain ⟨w15, τ16, hc13, hf⟩ := fd_bds hf
  refine va_calli (va_runV (As := []) (rest := []) ⟨hx, hb, hml, hown, hts⟩ (m_X11_thrown_0 l D a2 k2 H.size hI2 N σ12 _ hc13) (cwV 0 hts gL_law_X11_thrown rfl rfl rfl (by decide +kernel) ⟨Nat.le_of_ble_eq_true rfl, Nat.le_of_ble_eq_true rfl⟩) ⟨fd_blM, va_recv hK2 hQ (ci := 11) (q0 := 0) rfl fd_WM_0, fd_prM hQ hK2⟩ rfl rfl hl.1 rfl (lv_room (Nat.le_of_ble_eq_true rfl)) dL_law_987 ⟨by show cl + 1 + 0 ≤ 94; omega, by show sl + 6 + 0 ≤ 10469; omega⟩) hS (fun q _ h => fd_AL hJ2 hS.1 h) (fun q h => fd_AL hJ2 hS.1 h) (fun v14 u t H1 locs ht hvm hw hB hz hk hS => ?_)
  obtain ⟨hP1, hK1⟩ := hB
  rw [ht] at hP1
  obtain ⟨e1, e2⟩ := Prod.mk.inj hw
  subst e1
  subst e2
  obtain ⟨σ17, rfl⟩ : ∃ z, z = u := ⟨_, rfl⟩
  have hP := fd_kH hdis hP hz hk
  have hQ := hP1
  generalize H1 = H at hP hQ hS ⊢
  refine W.cs (cells' := cl + 1) (slots' := sl + 6) rfl rfl ?_
  refine lv_iload hx hb dL_law_990 (lv_at hl 1 rfl) ?_
  refine lv_icmp_eq (tgt := 997) hx hb dL_law_992 (by decide) (fun c18 => ?_) (fun c18 => ?_)
  · have hf := fd_itp c18 hf
    refine lv_iload hx hb dL_law_997 (lv_at hl 1 rfl) ?_
    refine lv_if_ne (tgt := 1014) hx hb dL_law_999 (by decide) (fun c19 => ?_) (fun c19 => ?_)
    · have hf := fd_itn c19 hf
      refine lv_goto (tgt := 1572) hx hb dL_law_1014 (by decide) ?_
      obtain ⟨x20, ex20, hf⟩ := fd_lts hf
      refine lv_iinc (v := x20) (lv' := [(4, .int x20), (6, .int v9), (5, .int v3), (0, .ref b), (1, .ref (a 0)), (2, .ref (a2 0)), (3, .ref (a 39))]) hx hb dL_law_1572 hl (k := 6) rfl (by rw [ex20]; rfl) (by decide) rfl (fun ls hl => ?_)
      refine lv_goto (tgt := 23) hx hb dL_law_1575 (by decide) ?_
      exact hK9 _ _ _ _ _ _ _ _ (by omega) (by omega) hP hQ hS (lv_sub hl [3, 4, 5, 6, 0] rfl) hf
    · have hf := fd_itp c19 hf
      refine lv_aload_n hx hb dL_law_1002 rfl (lv_at hl 5 rfl) ?_
      refine lv_iconst (v := (0 : Int32)) hx hb dL_law_1003 (by decide) ?_
      obtain ⟨g21, hf⟩ := fd_gds hf
      refine va_lald hx hb hK hP 39 27 fd_WH_39 fd_tyH_39 g21 dL_law_1004 ?_
      refine lv_iload hx hb dL_law_1005 (lv_at hl 0 rfl) ?_
      refine lv_i2l hx hb dL_law_1007 rfl ?_
      refine W.lcmp hx hb dL_law_1008 ?_
      refine lv_if_eq (tgt := 1014) hx hb dL_law_1009 (by decide) (fun c22 => ?_) (fun c22 => ?_)
      · have hf := fd_itp c22 hf
        refine lv_goto (tgt := 1572) hx hb dL_law_1014 (by decide) ?_
        obtain ⟨x23, ex23, hf⟩ := fd_lts hf
        refine lv_iinc (v := x23) (lv' := [(4, .int x23), (6, .int v9), (5, .int v3), (0, .ref b), (1, .ref (a 0)), (2, .ref (a2 0)), (3, .ref (a 39))]) hx hb dL_law_1572 hl (k := 6) rfl (by rw [ex23]; rfl) (by decide) rfl (fun ls hl => ?_)
        refine lv_goto (tgt := 23) hx hb dL_law_1575 (by decide) ?_
        exact hK9 _ _ _ _ _ _ _ _ (by omega) (by omega) hP hQ hS (lv_sub hl [3, 4, 5, 6, 0] rfl) hf
      · have hf := fd_itn c22 hf
        refine lv_iconst (v := (0 : Int32)) hx hb dL_law_1012 (by decide) ?_
        exact absurd (Option.some.inj hf) (by decide)
  · have hf := fd_itn c18 hf
    refine lv_iconst (v := (0 : Int32)) hx hb dL_law_995 (by decide) ?_
    exact absurd (Option.some.inj hf) (by decide)
noncomputable def f_law_c14 (N L : Nat) (xs : Nat → Int32) (K : Int32 → fd_St → fd_St → Option Int32) (i : Int32) (σ μ : fd_St) : Option Int32 := fd_gd (vp_in (i + (1 : Int32)) L) (fd_bd (f_L_chain_0 N (xs (i + (1 : Int32)).toNatClampNeg) σ) (fun v3 σ6 => fd_gd (vp_in (i + (1 : Int32)) L) (fd_bd (f_X11_chain_0 N (xs (i + (1 : Int32)).toNatClampNeg) μ) (fun _ σ12 => fd_bd (f_X11_thrown_0 N σ12) (fun v14 σ17 => if v14 = v3 then (fd_lt (i + (6 : Int32)) (fun x19 => K x19 σ6 σ17)) else (some (0 : Int32)))))))
set_option maxHeartbeats 4000000 in
set_option maxRecDepth 100000 in
theorem law_c14 {p : Program} {l : Launch} {e : Env} {s : State} {m : MethodId} {below : List Frame} {meth : Method} {c : Code} {D : va_G} {a a2 : Nat → Nat} {k k2 : Nat → ClassId} {b L : Nat} {xs : Nat → Int32} (C0 : fd_Cx p l s m meth c D a a2 k k2 b L xs) (N : Nat) (K : Int32 → fd_St → fd_St → Option Int32) (n : Nat) (hK9 : ∀ (i : Int32) (σ μ : fd_St) (cl sl : Nat) (H : Heap) (locs : List Loc) (ls : Array Slot), cl + n ≤ 94 → sl + 6 * n ≤ 10469 → va_P D vwCl (fd_WH a k σ) H → va_P D vwCl (fd_WM a2 k2 μ) H → va_S (fun q => s.heap.size ≤ q) s.heap H locs → lv_has ls 8 [(0, .ref b), (1, .ref (a 0)), (2, .ref (a2 0)), (3, .ref (a 39)), (4, .int i)] → K i σ μ = some 1 → W p l e room_1 s m #[Value.ref b] below meth c H locs cl sl (lw_Z below #[Value.ref b] s) (F0 m 23 ls [])) : ∀ (i : Int32) (σ μ : fd_St) (cl sl : Nat) (H : Heap) (locs : List Loc) (ls : Array Slot), cl + (n + 1) ≤ 94 → sl + 6 * (n + 1) ≤ 10469 → va_P D vwCl (fd_WH a k σ) H → va_P D vwCl (fd_WM a2 k2 μ) H → va_S (fun q => s.heap.size ≤ q) s.heap H locs → lv_has ls 8 [(0, .ref b), (1, .ref (a 0)), (2, .ref (a2 0)), (3, .ref (a 39)), (4, .int i)] → f_law_c14 N L xs K i σ μ = some 1 → W p l e room_1 s m #[Value.ref b] below meth c H locs cl sl (lw_Z below #[Value.ref b] s) (F0 m 1017 ls []) := by
  obtain ⟨⟨hx, hb, hr, hml, hown, hts0, hX, hbl, hlocks, hgv⟩, hl9, hI, hI2, hJ, hJ2, hdis, hK, hK2, hZ⟩ := C0
  have hown : s.vm.findClass RL = some m.cls := hown
  have hts : ∀ w ∈ fd_wl, w.before #[Value.ref b] s = true := fun w h => hts0 w (fd_wl_in w h)
  have hA : ∀ q : Nat, s.heap.size ≤ q → (fun q : Nat => s.heap.size ≤ q) q := fun _ h => h
  have hbA : ¬ (fun q : Nat => s.heap.size ≤ q) b := Nat.not_le.mpr hbl
  intro i σ μ cl sl H locs ls hcl hsl hP hQ hS hl hf
  unfold f_law_c14 at hf
  refine lv_aload_n hx hb dL_law_1017 rfl (lv_at hl 1 rfl) ?_
  refine lv_aload_n hx hb dL_law_1018 rfl (lv_at hl 0 rfl) ?_
  refine lv_iload hx hb dL_law_1019 (lv_at hl 4 rfl) ?_
  refine lv_iconst (v := (1 : Int32)) hx hb dL_law_1021 (by decide) ?_
  refine lv_iadd hx hb dL_law_1022 ?_
  obtain ⟨g1, hf⟩ := fd_gds hf
  refine va_sld hx hb hX hbl hbA hS g1 dL_law_1023 ?_
  obtain ⟨w4, τ5, hc2, hf⟩ := fd_bds hf
  refine va_calli (vx_runSW (As := [.ref (a 0), .int (xs (i + (1 : Int32)).toNatClampNeg)]) (rest := []) ⟨hx, hb, hml, hown, hts⟩ (m_L_chain_0 l hl9 D a k H.size hI N (xs (i + (1 : Int32)).toNatClampNeg) σ _ hc2) (vx_cwSW 2 hts gL_law_L_chain rfl rfl rfl (by decide +kernel) ⟨Nat.le_of_ble_eq_true rfl, Nat.le_of_ble_eq_true rfl⟩) ⟨fd_blH, fd_prL hP hK hZ hS hJ⟩ rfl rfl hl.1 rfl (lv_room (Nat.le_of_ble_eq_true rfl)) dL_law_1024 ⟨by show cl + 1 ≤ 94; omega, by show sl + 6 ≤ 10469; omega⟩) hS (fun q _ h => fd_AL hJ hS.1 h) (fun q h => fd_AL hJ hS.1 h) (fun v3 u t H1 locs ht hvm hw hB hz hk hS => ?_)
  obtain ⟨hP1, hK1⟩ := hB
  rw [ht] at hP1
  obtain ⟨e1, e2⟩ := Prod.mk.inj hw
  subst e1
  subst e2
  obtain ⟨σ6, rfl⟩ : ∃ z, z = u := ⟨_, rfl⟩
  have hQ := fd_kM hdis hJ hQ hz hk
  have hP := hP1
  generalize H1 = H at hP hQ hS ⊢
  refine W.cs (cells' := cl + 1) (slots' := sl + 6) rfl rfl ?_
  refine lv_istore (lv' := [(5, .int v3), (0, .ref b), (1, .ref (a 0)), (2, .ref (a2 0)), (3, .ref (a 39)), (4, .int i)]) hx hb dL_law_1027 hl (by decide) rfl (fun ls hl => ?_)
  refine lv_aload_n hx hb dL_law_1029 rfl (lv_at hl 3 rfl) ?_
  refine lv_aload_n hx hb dL_law_1030 rfl (lv_at hl 1 rfl) ?_
  refine lv_iload hx hb dL_law_1031 (lv_at hl 5 rfl) ?_
  refine lv_iconst (v := (1 : Int32)) hx hb dL_law_1033 (by decide) ?_
  refine lv_iadd hx hb dL_law_1034 ?_
  obtain ⟨g7, hf⟩ := fd_gds hf
  refine va_sld hx hb hX hbl hbA hS g7 dL_law_1035 ?_
  obtain ⟨w10, τ11, hc8, hf⟩ := fd_bds hf
  refine va_callv (va_runV (As := [.int (xs (i + (1 : Int32)).toNatClampNeg)]) (rest := []) ⟨hx, hb, hml, hown, hts⟩ (m_X11_chain_0 l D a2 k2 H.size hI2 N (xs (i + (1 : Int32)).toNatClampNeg) μ _ hc8) (cwV 1 hts gL_law_X11_chain rfl rfl rfl (by decide +kernel) ⟨Nat.le_of_ble_eq_true rfl, Nat.le_of_ble_eq_true rfl⟩) ⟨fd_blM, va_recv hK2 hQ (ci := 11) (q0 := 0) rfl fd_WM_0, fd_prM hQ hK2⟩ rfl rfl hl.1 rfl (lv_room (Nat.le_of_ble_eq_true rfl)) dL_law_1036 ⟨by show cl + 1 + 0 ≤ 94; omega, by show sl + 6 + 0 ≤ 10469; omega⟩) hS (fun q _ h => fd_AL hJ2 hS.1 h) (fun q h => fd_AL hJ2 hS.1 h) (fun u t H1 locs ht hvm hw hB hz hk hS => ?_)
  obtain ⟨hP1, hK1⟩ := hB
  rw [ht] at hP1
  have e2 := (Prod.mk.inj hw).2
  subst e2
  obtain ⟨σ12, rfl⟩ : ∃ z, z = u := ⟨_, rfl⟩
  have hP := fd_kH hdis hP hz hk
  have hQ := hP1
  generalize H1 = H at hP hQ hS ⊢
  refine W.cs (cells' := cl + 1) (slots' := sl + 6) rfl rfl ?_
  refine lv_aload_n hx hb dL_law_1039 rfl (lv_at hl 3 rfl) ?_
  obtain ⟨w15, τ16, hc13, hf⟩ := fd_bds hf
  refine va_calli (va_runV (As := []) (rest := []) ⟨hx, hb, hml, hown, hts⟩ (m_X11_thrown_0 l D a2 k2 H.size hI2 N σ12 _ hc13) (cwV 0 hts gL_law_X11_thrown rfl rfl rfl (by decide +kernel) ⟨Nat.le_of_ble_eq_true rfl, Nat.le_of_ble_eq_true rfl⟩) ⟨fd_blM, va_recv hK2 hQ (ci := 11) (q0 := 0) rfl fd_WM_0, fd_prM hQ hK2⟩ rfl rfl hl.1 rfl (lv_room (Nat.le_of_ble_eq_true rfl)) dL_law_1040 ⟨by show cl + 1 + 0 ≤ 94; omega, by show sl + 6 + 0 ≤ 10469; omega⟩) hS (fun q _ h => fd_AL hJ2 hS.1 h) (fun q h => fd_AL hJ2 hS.1 h) (fun v14 u t H1 locs ht hvm hw hB hz hk hS => ?_)
  obtain ⟨hP1, hK1⟩ := hB
  rw [ht] at hP1
  obtain ⟨e1, e2⟩ := Prod.mk.inj hw
  subst e1
  subst e2
  obtain ⟨σ17, rfl⟩ : ∃ z, z = u := ⟨_, rfl⟩
  have hP := fd_kH hdis hP hz hk
  have hQ := hP1
  generalize H1 = H at hP hQ hS ⊢
  refine W.cs (cells' := cl + 1) (slots' := sl + 6) rfl rfl ?_
  refine lv_iload hx hb dL_law_1043 (lv_at hl 0 rfl) ?_
  refine lv_icmp_eq (tgt := 1050) hx hb dL_law_1045 (by decide) (fun c18 => ?_) (fun c18 => ?_)
  · have hf := fd_itp c18 hf
    refine lv_goto (tgt := 1572) hx hb dL_law_1050 (by decide) ?_
    obtain ⟨x19, ex19, hf⟩ := fd_lts hf
    refine lv_iinc (v := x19) (lv' := [(4, .int x19), (5, .int v3), (0, .ref b), (1, .ref (a 0)), (2, .ref (a2 0)), (3, .ref (a 39))]) hx hb dL_law_1572 hl (k := 5) rfl (by rw [ex19]; rfl) (by decide) rfl (fun ls hl => ?_)
    refine lv_goto (tgt := 23) hx hb dL_law_1575 (by decide) ?_
    exact hK9 _ _ _ _ _ _ _ _ (by omega) (by omega) hP hQ hS (lv_sub hl [2, 3, 4, 5, 0] rfl) hf
  · have hf := fd_itn c18 hf
    refine lv_iconst (v := (0 : Int32)) hx hb dL_law_1048 (by decide) ?_
    exact absurd (Option.some.inj hf) (by decide)
noncomputable def f_law_c15 (N L : Nat) (xs : Nat → Int32) (K : Int32 → fd_St → fd_St → Option Int32) (i : Int32) (σ μ : fd_St) : Option Int32 := fd_gd (vp_in (i + (1 : Int32)) L) (fd_gd (vp_in (i + (2 : Int32)) L) (fd_gd (vp_in (i + (3 : Int32)) L) (fd_gd (vp_in (i + (4 : Int32)) L) (fd_bd (f_L_caught_0_39 N ((((xs (i + (1 : Int32)).toNatClampNeg).toInt64) <<< ((32 : Int32).toInt64 &&& 63)) ||| (((xs (i + (2 : Int32)).toNatClampNeg).toInt64) &&& (4294967295 : Int64))) ((((xs (i + (3 : Int32)).toNatClampNeg).toInt64) <<< ((32 : Int32).toInt64 &&& 63)) ||| (((xs (i + (4 : Int32)).toNatClampNeg).toInt64) &&& (4294967295 : Int64))) σ) (fun v6 σ9 => fd_gd (vp_in (i + (1 : Int32)) L) (fd_gd (vp_in (i + (2 : Int32)) L) (fd_gd (vp_in (i + (3 : Int32)) L) (fd_gd (vp_in (i + (4 : Int32)) L) (fd_bd (f_X11_caught_0 N ((((xs (i + (1 : Int32)).toNatClampNeg).toInt64) <<< ((32 : Int32).toInt64 &&& 63)) ||| (((xs (i + (2 : Int32)).toNatClampNeg).toInt64) &&& (4294967295 : Int64))) ((((xs (i + (3 : Int32)).toNatClampNeg).toInt64) <<< ((32 : Int32).toInt64 &&& 63)) ||| (((xs (i + (4 : Int32)).toNatClampNeg).toInt64) &&& (4294967295 : Int64))) μ) (fun v15 σ18 => fd_bd (f_X11_thrown_0 N σ18) (fun v20 σ23 => if v20 = v6 then (if v6 = 0 then (fd_gd (vp_in (0 : Int32) 1) (if (lg_cmp (σ9.2.2 39 (0 : Int32).toNatClampNeg) v15.toInt64) = 0 then (fd_lt (i + (6 : Int32)) (fun x29 => K x29 σ9 σ23)) else (some (0 : Int32)))) else (fd_lt (i + (6 : Int32)) (fun x26 => K x26 σ9 σ23))) else (some (0 : Int32)))))))))))))
set_option maxHeartbeats 4000000 in
set_option maxRecDepth 100000 in
theorem law_c15 {p : Program} {l : Launch} {e : Env} {s : State} {m : MethodId} {below : List Frame} {meth : Method} {c : Code} {D : va_G} {a a2 : Nat → Nat} {k k2 : Nat → ClassId} {b L : Nat} {xs : Nat → Int32} (C0 : fd_Cx p l s m meth c D a a2 k k2 b L xs) (N : Nat) (K : Int32 → fd_St → fd_St → Option Int32) (n : Nat) (hK9 : ∀ (i : Int32) (σ μ : fd_St) (cl sl : Nat) (H : Heap) (locs : List Loc) (ls : Array Slot), cl + n ≤ 94 → sl + 6 * n ≤ 10469 → va_P D vwCl (fd_WH a k σ) H → va_P D vwCl (fd_WM a2 k2 μ) H → va_S (fun q => s.heap.size ≤ q) s.heap H locs → lv_has ls 8 [(0, .ref b), (1, .ref (a 0)), (2, .ref (a2 0)), (3, .ref (a 39)), (4, .int i)] → K i σ μ = some 1 → W p l e room_1 s m #[Value.ref b] below meth c H locs cl sl (lw_Z below #[Value.ref b] s) (F0 m 23 ls [])) : ∀ (i : Int32) (σ μ : fd_St) (cl sl : Nat) (H : Heap) (locs : List Loc) (ls : Array Slot), cl + (n + 1) ≤ 94 → sl + 6 * (n + 1) ≤ 10469 → va_P D vwCl (fd_WH a k σ) H → va_P D vwCl (fd_WM a2 k2 μ) H → va_S (fun q => s.heap.size ≤ q) s.heap H locs → lv_has ls 8 [(0, .ref b), (1, .ref (a 0)), (2, .ref (a2 0)), (3, .ref (a 39)), (4, .int i)] → f_law_c15 N L xs K i σ μ = some 1 → W p l e room_1 s m #[Value.ref b] below meth c H locs cl sl (lw_Z below #[Value.ref b] s) (F0 m 1053 ls []) := by
  obtain ⟨⟨hx, hb, hr, hml, hown, hts0, hX, hbl, hlocks, hgv⟩, hl9, hI, hI2, hJ, hJ2, hdis, hK, hK2, hZ⟩ := C0
  have hown : s.vm.findClass RL = some m.cls := hown
  have hts : ∀ w ∈ fd_wl, w.before #[Value.ref b] s = true := fun w h => hts0 w (fd_wl_in w h)
  have hA : ∀ q : Nat, s.heap.size ≤ q → (fun q : Nat => s.heap.size ≤ q) q := fun _ h => h
  have hbA : ¬ (fun q : Nat => s.heap.size ≤ q) b := Nat.not_le.mpr hbl
  intro i σ μ cl sl H locs ls hcl hsl hP hQ hS hl hf
  unfold f_law_c15 at hf
  refine lv_aload_n hx hb dL_law_1053 rfl (lv_at hl 1 rfl) ?_
  refine lv_aload_n hx hb dL_law_1054 rfl (lv_at hl 0 rfl) ?_
  refine lv_iload hx hb dL_law_1055 (lv_at hl 4 rfl) ?_
  refine lv_iconst (v := (1 : Int32)) hx hb dL_law_1057 (by decide) ?_
  refine lv_iadd hx hb dL_law_1058 ?_
  obtain ⟨g1, hf⟩ := fd_gds hf
  refine va_sld hx hb hX hbl hbA hS g1 dL_law_1059 ?_
  refine lv_i2l hx hb dL_law_1060 rfl ?_
  refine lv_bipush (v := (32 : Int32)) hx hb dL_law_1061 (by decide) ?_
  refine lv_lshl hx hb dL_law_1063 rfl ?_
  refine lv_aload_n hx hb dL_law_1064 rfl (lv_at hl 0 rfl) ?_
  refine lv_iload hx hb dL_law_1065 (lv_at hl 4 rfl) ?_
  refine lv_iconst (v := (2 : Int32)) hx hb dL_law_1067 (by decide) ?_
  refine lv_iadd hx hb dL_law_1068 ?_
  obtain ⟨g2, hf⟩ := fd_gds hf
  refine va_sld hx hb hX hbl hbA hS g2 dL_law_1069 ?_
  refine lv_i2l hx hb dL_law_1070 rfl ?_
  refine lv_ldc2 hx hb hown (hts (.constantLong RL 109 (4294967295)) (by decide +kernel)) dL_law_1071 ?_
  refine lv_land hx hb dL_law_1074 ?_
  refine lv_lor hx hb dL_law_1075 ?_
  refine lv_aload_n hx hb dL_law_1076 rfl (lv_at hl 0 rfl) ?_
  refine lv_iload hx hb dL_law_1077 (lv_at hl 4 rfl) ?_
  refine lv_iconst (v := (3 : Int32)) hx hb dL_law_1079 (by decide) ?_
  refine lv_iadd hx hb dL_law_1080 ?_
  obtain ⟨g3, hf⟩ := fd_gds hf
  refine va_sld hx hb hX hbl hbA hS g3 dL_law_1081 ?_
  refine lv_i2l hx hb dL_law_1082 rfl ?_
  refine lv_bipush (v := (32 : Int32)) hx hb dL_law_1083 (by decide) ?_
  refine lv_lshl hx hb dL_law_1085 rfl ?_
  refine lv_aload_n hx hb dL_law_1086 rfl (lv_at hl 0 rfl) ?_
  refine lv_iload hx hb dL_law_1087 (lv_at hl 4 rfl) ?_
  refine lv_iconst (v := (4 : Int32)) hx hb dL_law_1089 (by decide) ?_
  refine lv_iadd hx hb dL_law_1090 ?_
  obtain ⟨g4, hf⟩ := fd_gds hf
  refine va_sld hx hb hX hbl hbA hS g4 dL_law_1091 ?_
  refine lv_i2l hx hb dL_law_1092 rfl ?_
  refine lv_ldc2 hx hb hown (hts (.constantLong RL 109 (4294967295)) (by decide +kernel)) dL_law_1093 ?_
  refine lv_land hx hb dL_law_1096 ?_
  refine lv_lor hx hb dL_law_1097 ?_
  refine lv_aload_n hx hb dL_law_1098 rfl (lv_at hl 3 rfl) ?_
  obtain ⟨w7, τ8, hc5, hf⟩ := fd_bds hf
  refine va_calli (vx_runSW (As := [.ref (a 0), .long ((((xs (i + (1 : Int32)).toNatClampNeg).toInt64) <<< ((32 : Int32).toInt64 &&& 63)) ||| (((xs (i + (2 : Int32)).toNatClampNeg).toInt64) &&& (4294967295 : Int64))), .long ((((xs (i + (3 : Int32)).toNatClampNeg).toInt64) <<< ((32 : Int32).toInt64 &&& 63)) ||| (((xs (i + (4 : Int32)).toNatClampNeg).toInt64) &&& (4294967295 : Int64))), .ref (a 39)]) (rest := []) ⟨hx, hb, hml, hown, hts⟩ (m_L_caught_0_39 l hl9 D a k H.size hI N ((((xs (i + (1 : Int32)).toNatClampNeg).toInt64) <<< ((32 : Int32).toInt64 &&& 63)) ||| (((xs (i + (2 : Int32)).toNatClampNeg).toInt64) &&& (4294967295 : Int64))) ((((xs (i + (3 : Int32)).toNatClampNeg).toInt64) <<< ((32 : Int32).toInt64 &&& 63)) ||| (((xs (i + (4 : Int32)).toNatClampNeg).toInt64) &&& (4294967295 : Int64))) σ _ hc5) (vx_cwSW 4 hts gL_law_L_caught rfl rfl rfl (by decide +kernel) ⟨Nat.le_of_ble_eq_true rfl, Nat.le_of_ble_eq_true rfl⟩) ⟨fd_blH, fd_prL hP hK hZ hS hJ⟩ rfl rfl hl.1 rfl (lv_room (Nat.le_of_ble_eq_true rfl)) dL_law_1099 ⟨by show cl + 1 ≤ 94; omega, by show sl + 6 ≤ 10469; omega⟩) hS (fun q _ h => fd_AL hJ hS.1 h) (fun q h => fd_AL hJ hS.1 h) (fun v6 u t H1 locs ht hvm hw hB hz hk hS => ?_)
  obtain ⟨hP1, hK1⟩ := hB
  rw [ht] at hP1
  obtain ⟨e1, e2⟩ := Prod.mk.inj hw
  subst e1
  subst e2
  obtain ⟨σ9, rfl⟩ : ∃ z, z = u := ⟨_, rfl⟩
  have hQ := fd_kM hdis hJ hQ hz hk
  have hP := hP1
  generalize H1 = H at hP hQ hS ⊢
  refine W.cs (cells' := cl + 1) (slots' := sl + 6) rfl rfl ?_
  refine lv_istore (lv' := [(5, .int v6), (0, .ref b), (1, .ref (a 0)), (2, .ref (a2 0)), (3, .ref (a 39)), (4, .int i)]) hx hb dL_law_1102 hl (by decide) rfl (fun ls hl => ?_)
  refine lv_aload_n hx hb dL_law_1104 rfl (lv_at hl 3 rfl) ?_
  refine lv_aload_n hx hb dL_law_1105 rfl (lv_at hl 1 rfl) ?_
  refine lv_iload hx hb dL_law_1106 (lv_at hl 5 rfl) ?_
  refine lv_iconst (v := (1 : Int32)) hx hb dL_law_1108 (by decide) ?_
  refine lv_iadd hx hb dL_law_1109 ?_
  obtain ⟨g10, hf⟩ := fd_gds hf
  refine va_sld hx hb hX hbl hbA hS g10 dL_law_1110 ?_
  refine lv_i2l hx hb dL_law_1111 rfl ?_
  refine lv_bipush (v := (32 : Int32)) hx hb dL_law_1112 (by decide) ?_
  refine lv_lshl hx hb dL_law_1114 rfl ?_
  refine lv_aload_n hx hb dL_law_1115 rfl (lv_at hl 1 rfl) ?_
  refine lv_iload hx hb dL_law_1116 (lv_at hl 5 rfl) ?_
  refine lv_iconst (v := (2 : Int32)) hx hb dL_law_1118 (by decide) ?_
  refine lv_iadd hx hb dL_law_1119 ?_
  obtain ⟨g11, hf⟩ := fd_gds hf
  refine va_sld hx hb hX hbl hbA hS g11 dL_law_1120 ?_
  refine lv_i2l hx hb dL_law_1121 rfl ?_
  refine lv_ldc2 hx hb hown (hts (.constantLong RL 109 (4294967295)) (by decide +kernel)) dL_law_1122 ?_
  refine lv_land hx hb dL_law_1125 ?_
  refine lv_lor hx hb dL_law_1126 ?_
  refine lv_aload_n hx hb dL_law_1127 rfl (lv_at hl 1 rfl) ?_
  refine lv_iload hx hb dL_law_1128 (lv_at hl 5 rfl) ?_
  refine lv_iconst (v := (3 : Int32)) hx hb dL_law_1130 (by decide) ?_
  refine lv_iadd hx hb dL_law_1131 ?_
  obtain ⟨g12, hf⟩ := fd_gds hf
  refine va_sld hx hb hX hbl hbA hS g12 dL_law_1132 ?_
  refine lv_i2l hx hb dL_law_1133 rfl ?_
  refine lv_bipush (v := (32 : Int32)) hx hb dL_law_1134 (by decide) ?_
  refine lv_lshl hx hb dL_law_1136 rfl ?_
  refine lv_aload_n hx hb dL_law_1137 rfl (lv_at hl 1 rfl) ?_
  refine lv_iload hx hb dL_law_1138 (lv_at hl 5 rfl) ?_
  refine lv_iconst (v := (4 : Int32)) hx hb dL_law_1140 (by decide) ?_
  refine lv_iadd hx hb dL_law_1141 ?_
  obtain ⟨g13, hf⟩ := fd_gds hf
  refine va_sld hx hb hX hbl hbA hS g13 dL_law_1142 ?_
  refine lv_i2l hx hb dL_law_1143 rfl ?_
  refine lv_ldc2 hx hb hown (hts (.constantLong RL 109 (4294967295)) (by decide +kernel)) dL_law_1144 ?_
  refine lv_land hx hb dL_law_1147 ?_
  refine lv_lor hx hb dL_law_1148 ?_
  obtain ⟨w16, τ17, hc14, hf⟩ := fd_bds hf
  refine va_calli (va_runV (As := [.long ((((xs (i + (1 : Int32)).toNatClampNeg).toInt64) <<< ((32 : Int32).toInt64 &&& 63)) ||| (((xs (i + (2 : Int32)).toNatClampNeg).toInt64) &&& (4294967295 : Int64))), .long ((((xs (i + (3 : Int32)).toNatClampNeg).toInt64) <<< ((32 : Int32).toInt64 &&& 63)) ||| (((xs (i + (4 : Int32)).toNatClampNeg).toInt64) &&& (4294967295 : Int64)))]) (rest := []) ⟨hx, hb, hml, hown, hts⟩ (m_X11_caught_0 l D a2 k2 H.size hI2 N ((((xs (i + (1 : Int32)).toNatClampNeg).toInt64) <<< ((32 : Int32).toInt64 &&& 63)) ||| (((xs (i + (2 : Int32)).toNatClampNeg).toInt64) &&& (4294967295 : Int64))) ((((xs (i + (3 : Int32)).toNatClampNeg).toInt64) <<< ((32 : Int32).toInt64 &&& 63)) ||| (((xs (i + (4 : Int32)).toNatClampNeg).toInt64) &&& (4294967295 : Int64))) μ _ hc14) (cwV 2 hts gL_law_X11_caught rfl rfl rfl (by decide +kernel) ⟨Nat.le_of_ble_eq_true rfl, Nat.le_of_ble_eq_true rfl⟩) ⟨fd_blM, va_recv hK2 hQ (ci := 11) (q0 := 0) rfl fd_WM_0, fd_prM hQ hK2⟩ rfl rfl hl.1 rfl (lv_room (Nat.le_of_ble_eq_true rfl)) dL_law_1149 ⟨by show cl + 1 + 0 ≤ 94; omega, by show sl + 6 + 0 ≤ 10469; omega⟩) hS (fun q _ h => fd_AL hJ2 hS.1 h) (fun q h => fd_AL hJ2 hS.1 h) (fun v15 u t H1 locs ht hvm hw hB hz hk hS => ?_)
  obtain ⟨hP1, hK1⟩ := hB
  rw [ht] at hP1
  obtain ⟨e1, e2⟩ := Prod.mk.inj hw
  subst e1
  subst e2
  obtain ⟨σ18, rfl⟩ : ∃ z, z = u := ⟨_, rfl⟩
  have hP := fd_kH hdis hP hz hk
  have hQ := hP1
  generalize H1 = H at hP hQ hS ⊢
  refine W.cs (cells' := cl + 1) (slots' := sl + 6) rfl rfl ?_
  refine lv_istore (lv' := [(6, .int v15), (5, .int v6), (0, .ref b), (1, .ref (a 0)), (2, .ref (a2 0)), (3, .ref (a 39)), (4, .int i)]) hx hb dL_law_1152 hl (by decide) rfl (fun ls hl => ?_)
  refine lv_aload_n hx hb dL_law_1154 rfl (lv_at hl 4 rfl) ?_
  obtain ⟨w21, τ22, hc19, hf⟩ := fd_bds hf
  refine va_calli (va_runV (As := []) (rest := []) ⟨hx, hb, hml, hown, hts⟩ (m_X11_thrown_0 l D a2 k2 H.size hI2 N σ18 _ hc19) (cwV 0 hts gL_law_X11_thrown rfl rfl rfl (by decide +kernel) ⟨Nat.le_of_ble_eq_true rfl, Nat.le_of_ble_eq_true rfl⟩) ⟨fd_blM, va_recv hK2 hQ (ci := 11) (q0 := 0) rfl fd_WM_0, fd_prM hQ hK2⟩ rfl rfl hl.1 rfl (lv_room (Nat.le_of_ble_eq_true rfl)) dL_law_1155 ⟨by show cl + 1 + 0 ≤ 94; omega, by show sl + 6 + 0 ≤ 10469; omega⟩) hS (fun q _ h => fd_AL hJ2 hS.1 h) (fun q h => fd_AL hJ2 hS.1 h) (fun v20 u t H1 locs ht hvm hw hB hz hk hS => ?_)
  obtain ⟨hP1, hK1⟩ := hB
  rw [ht] at hP1
  obtain ⟨e1, e2⟩ := Prod.mk.inj hw
  subst e1
  subst e2
  obtain ⟨σ23, rfl⟩ : ∃ z, z = u := ⟨_, rfl⟩
  have hP := fd_kH hdis hP hz hk
  have hQ := hP1
  generalize H1 = H at hP hQ hS ⊢
  refine W.cs (cells' := cl + 1) (slots' := sl + 6) rfl rfl ?_
  refine lv_iload hx hb dL_law_1158 (lv_at hl 1 rfl) ?_
  refine lv_icmp_eq (tgt := 1165) hx hb dL_law_1160 (by decide) (fun c24 => ?_) (fun c24 => ?_)
  · have hf := fd_itp c24 hf
    refine lv_iload hx hb dL_law_1165 (lv_at hl 1 rfl) ?_
    refine lv_if_ne (tgt := 1182) hx hb dL_law_1167 (by decide) (fun c25 => ?_) (fun c25 => ?_)
    · have hf := fd_itn c25 hf
      refine lv_goto (tgt := 1572) hx hb dL_law_1182 (by decide) ?_
      obtain ⟨x26, ex26, hf⟩ := fd_lts hf
      refine lv_iinc (v := x26) (lv' := [(4, .int x26), (6, .int v15), (5, .int v6), (0, .ref b), (1, .ref (a 0)), (2, .ref (a2 0)), (3, .ref (a 39))]) hx hb dL_law_1572 hl (k := 6) rfl (by rw [ex26]; rfl) (by decide) rfl (fun ls hl => ?_)
      refine lv_goto (tgt := 23) hx hb dL_law_1575 (by decide) ?_
      exact hK9 _ _ _ _ _ _ _ _ (by omega) (by omega) hP hQ hS (lv_sub hl [3, 4, 5, 6, 0] rfl) hf
    · have hf := fd_itp c25 hf
      refine lv_aload_n hx hb dL_law_1170 rfl (lv_at hl 5 rfl) ?_
      refine lv_iconst (v := (0 : Int32)) hx hb dL_law_1171 (by decide) ?_
      obtain ⟨g27, hf⟩ := fd_gds hf
      refine va_lald hx hb hK hP 39 27 fd_WH_39 fd_tyH_39 g27 dL_law_1172 ?_
      refine lv_iload hx hb dL_law_1173 (lv_at hl 0 rfl) ?_
      refine lv_i2l hx hb dL_law_1175 rfl ?_
      refine W.lcmp hx hb dL_law_1176 ?_
      refine lv_if_eq (tgt := 1182) hx hb dL_law_1177 (by decide) (fun c28 => ?_) (fun c28 => ?_)
      · have hf := fd_itp c28 hf
        refine lv_goto (tgt := 1572) hx hb dL_law_1182 (by decide) ?_
        obtain ⟨x29, ex29, hf⟩ := fd_lts hf
        refine lv_iinc (v := x29) (lv' := [(4, .int x29), (6, .int v15), (5, .int v6), (0, .ref b), (1, .ref (a 0)), (2, .ref (a2 0)), (3, .ref (a 39))]) hx hb dL_law_1572 hl (k := 6) rfl (by rw [ex29]; rfl) (by decide) rfl (fun ls hl => ?_)
        refine lv_goto (tgt := 23) hx hb dL_law_1575 (by decide) ?_
        exact hK9 _ _ _ _ _ _ _ _ (by omega) (by omega) hP hQ hS (lv_sub hl [3, 4, 5, 6, 0] rfl) hf
      · have hf := fd_itn c28 hf
        refine lv_iconst (v := (0 : Int32)) hx hb dL_law_1180 (by decide) ?_
        exact absurd (Option.some.inj hf) (by decide)
  · have hf := fd_itn c24 hf
    refine lv_iconst (v := (0 : Int32)) hx hb dL_law_1163 (by decide) ?_
    exact absurd (Option.some.inj hf) (by decide)
noncomputable def f_law_c16 (N L : Nat) (xs : Nat → Int32) (K : Int32 → fd_St → fd_St → Option Int32) (i : Int32) (σ μ : fd_St) : Option Int32 := fd_gd (vp_in (i + (1 : Int32)) L) (fd_gd (vp_in (i + (2 : Int32)) L) (fd_bd (f_L_span_0_39 N (xs (i + (1 : Int32)).toNatClampNeg) (xs (i + (2 : Int32)).toNatClampNeg) σ) (fun v4 σ7 => fd_gd (vp_in (i + (1 : Int32)) L) (fd_gd (vp_in (i + (2 : Int32)) L) (fd_bd (f_X11_span_0 N (xs (i + (1 : Int32)).toNatClampNeg) (xs (i + (2 : Int32)).toNatClampNeg) μ) (fun v11 σ14 => fd_bd (f_X11_thrown_0 N σ14) (fun v16 σ19 => if v16 = v4 then (if v4 = 0 then (fd_gd (vp_in (0 : Int32) 1) (if (lg_cmp (σ7.2.2 39 (0 : Int32).toNatClampNeg) v11.toInt64) = 0 then (fd_lt (i + (6 : Int32)) (fun x25 => K x25 σ7 σ19)) else (some (0 : Int32)))) else (fd_lt (i + (6 : Int32)) (fun x22 => K x22 σ7 σ19))) else (some (0 : Int32)))))))))
set_option maxHeartbeats 4000000 in
set_option maxRecDepth 100000 in
theorem law_c16 {p : Program} {l : Launch} {e : Env} {s : State} {m : MethodId} {below : List Frame} {meth : Method} {c : Code} {D : va_G} {a a2 : Nat → Nat} {k k2 : Nat → ClassId} {b L : Nat} {xs : Nat → Int32} (C0 : fd_Cx p l s m meth c D a a2 k k2 b L xs) (N : Nat) (K : Int32 → fd_St → fd_St → Option Int32) (n : Nat) (hK9 : ∀ (i : Int32) (σ μ : fd_St) (cl sl : Nat) (H : Heap) (locs : List Loc) (ls : Array Slot), cl + n ≤ 94 → sl + 6 * n ≤ 10469 → va_P D vwCl (fd_WH a k σ) H → va_P D vwCl (fd_WM a2 k2 μ) H → va_S (fun q => s.heap.size ≤ q) s.heap H locs → lv_has ls 8 [(0, .ref b), (1, .ref (a 0)), (2, .ref (a2 0)), (3, .ref (a 39)), (4, .int i)] → K i σ μ = some 1 → W p l e room_1 s m #[Value.ref b] below meth c H locs cl sl (lw_Z below #[Value.ref b] s) (F0 m 23 ls [])) : ∀ (i : Int32) (σ μ : fd_St) (cl sl : Nat) (H : Heap) (locs : List Loc) (ls : Array Slot), cl + (n + 1) ≤ 94 → sl + 6 * (n + 1) ≤ 10469 → va_P D vwCl (fd_WH a k σ) H → va_P D vwCl (fd_WM a2 k2 μ) H → va_S (fun q => s.heap.size ≤ q) s.heap H locs → lv_has ls 8 [(0, .ref b), (1, .ref (a 0)), (2, .ref (a2 0)), (3, .ref (a 39)), (4, .int i)] → f_law_c16 N L xs K i σ μ = some 1 → W p l e room_1 s m #[Value.ref b] below meth c H locs cl sl (lw_Z below #[Value.ref b] s) (F0 m 1185 ls []) := by
  obtain ⟨⟨hx, hb, hr, hml, hown, hts0, hX, hbl, hlocks, hgv⟩, hl9, hI, hI2, hJ, hJ2, hdis, hK, hK2, hZ⟩ := C0
  have hown : s.vm.findClass RL = some m.cls := hown
  have hts : ∀ w ∈ fd_wl, w.before #[Value.ref b] s = true := fun w h => hts0 w (fd_wl_in w h)
  have hA : ∀ q : Nat, s.heap.size ≤ q → (fun q : Nat => s.heap.size ≤ q) q := fun _ h => h
  have hbA : ¬ (fun q : Nat => s.heap.size ≤ q) b := Nat.not_le.mpr hbl
  intro i σ μ cl sl H locs ls hcl hsl hP hQ hS hl hf
  unfold f_law_c16 at hf
  refine lv_aload_n hx hb dL_law_1185 rfl (lv_at hl 1 rfl) ?_
  refine lv_aload_n hx hb dL_law_1186 rfl (lv_at hl 0 rfl) ?_
  refine lv_iload hx hb dL_law_1187 (lv_at hl 4 rfl) ?_
  refine lv_iconst (v := (1 : Int32)) hx hb dL_law_1189 (by decide) ?_
  refine lv_iadd hx hb dL_law_1190 ?_
  obtain ⟨g1, hf⟩ := fd_gds hf
  refine va_sld hx hb hX hbl hbA hS g1 dL_law_1191 ?_
  refine lv_aload_n hx hb dL_law_1192 rfl (lv_at hl 0 rfl) ?_
  refine lv_iload hx hb dL_law_1193 (lv_at hl 4 rfl) ?_
  refine lv_iconst (v := (2 : Int32)) hx hb dL_law_1195 (by decide) ?_
  refine lv_iadd hx hb dL_law_1196 ?_
  obtain ⟨g2, hf⟩ := fd_gds hf
  refine va_sld hx hb hX hbl hbA hS g2 dL_law_1197 ?_
  refine lv_aload_n hx hb dL_law_1198 rfl (lv_at hl 3 rfl) ?_
  obtain ⟨w5, τ6, hc3, hf⟩ := fd_bds hf
  refine va_calli (vx_runSW (As := [.ref (a 0), .int (xs (i + (1 : Int32)).toNatClampNeg), .int (xs (i + (2 : Int32)).toNatClampNeg), .ref (a 39)]) (rest := []) ⟨hx, hb, hml, hown, hts⟩ (m_L_span_0_39 l hl9 D a k H.size hI N (xs (i + (1 : Int32)).toNatClampNeg) (xs (i + (2 : Int32)).toNatClampNeg) σ _ hc3) (vx_cwSW 4 hts gL_law_L_span rfl rfl rfl (by decide +kernel) ⟨Nat.le_of_ble_eq_true rfl, Nat.le_of_ble_eq_true rfl⟩) ⟨fd_blH, fd_prL hP hK hZ hS hJ⟩ rfl rfl hl.1 rfl (lv_room (Nat.le_of_ble_eq_true rfl)) dL_law_1199 ⟨by show cl + 1 ≤ 94; omega, by show sl + 6 ≤ 10469; omega⟩) hS (fun q _ h => fd_AL hJ hS.1 h) (fun q h => fd_AL hJ hS.1 h) (fun v4 u t H1 locs ht hvm hw hB hz hk hS => ?_)
  obtain ⟨hP1, hK1⟩ := hB
  rw [ht] at hP1
  obtain ⟨e1, e2⟩ := Prod.mk.inj hw
  subst e1
  subst e2
  obtain ⟨σ7, rfl⟩ : ∃ z, z = u := ⟨_, rfl⟩
  have hQ := fd_kM hdis hJ hQ hz hk
  have hP := hP1
  generalize H1 = H at hP hQ hS ⊢
  refine W.cs (cells' := cl + 1) (slots' := sl + 6) rfl rfl ?_
  refine lv_istore (lv' := [(5, .int v4), (0, .ref b), (1, .ref (a 0)), (2, .ref (a2 0)), (3, .ref (a 39)), (4, .int i)]) hx hb dL_law_1202 hl (by decide) rfl (fun ls hl => ?_)
  refine lv_aload_n hx hb dL_law_1204 rfl (lv_at hl 3 rfl) ?_
  refine lv_aload_n hx hb dL_law_1205 rfl (lv_at hl 1 rfl) ?_
  refine lv_iload hx hb dL_law_1206 (lv_at hl 5 rfl) ?_
  refine lv_iconst (v := (1 : Int32)) hx hb dL_law_1208 (by decide) ?_
  refine lv_iadd hx hb dL_law_1209 ?_
  obtain ⟨g8, hf⟩ := fd_gds hf
  refine va_sld hx hb hX hbl hbA hS g8 dL_law_1210 ?_
  refine lv_aload_n hx hb dL_law_1211 rfl (lv_at hl 1 rfl) ?_
  refine lv_iload hx hb dL_law_1212 (lv_at hl 5 rfl) ?_
  refine lv_iconst (v := (2 : Int32)) hx hb dL_law_1214 (by decide) ?_
  refine lv_iadd hx hb dL_law_1215 ?_
  obtain ⟨g9, hf⟩ := fd_gds hf
  refine va_sld hx hb hX hbl hbA hS g9 dL_law_1216 ?_
  obtain ⟨w12, τ13, hc10, hf⟩ := fd_bds hf
  refine va_calli (va_runV (As := [.int (xs (i + (1 : Int32)).toNatClampNeg), .int (xs (i + (2 : Int32)).toNatClampNeg)]) (rest := []) ⟨hx, hb, hml, hown, hts⟩ (m_X11_span_0 l D a2 k2 H.size hI2 N (xs (i + (1 : Int32)).toNatClampNeg) (xs (i + (2 : Int32)).toNatClampNeg) μ _ hc10) (cwV 2 hts gL_law_X11_span rfl rfl rfl (by decide +kernel) ⟨Nat.le_of_ble_eq_true rfl, Nat.le_of_ble_eq_true rfl⟩) ⟨fd_blM, va_recv hK2 hQ (ci := 11) (q0 := 0) rfl fd_WM_0, fd_prM hQ hK2⟩ rfl rfl hl.1 rfl (lv_room (Nat.le_of_ble_eq_true rfl)) dL_law_1217 ⟨by show cl + 1 + 0 ≤ 94; omega, by show sl + 6 + 0 ≤ 10469; omega⟩) hS (fun q _ h => fd_AL hJ2 hS.1 h) (fun q h => fd_AL hJ2 hS.1 h) (fun v11 u t H1 locs ht hvm hw hB hz hk hS => ?_)
  obtain ⟨hP1, hK1⟩ := hB
  rw [ht] at hP1
  obtain ⟨e1, e2⟩ := Prod.mk.inj hw
  subst e1
  subst e2
  obtain ⟨σ14, rfl⟩ : ∃ z, z = u := ⟨_, rfl⟩
  have hP := fd_kH hdis hP hz hk
  have hQ := hP1
  generalize H1 = H at hP hQ hS ⊢
  refine W.cs (cells' := cl + 1) (slots' := sl + 6) rfl rfl ?_
  refine lv_istore (lv' := [(6, .int v11), (5, .int v4), (0, .ref b), (1, .ref (a 0)), (2, .ref (a2 0)), (3, .ref (a 39)), (4, .int i)]) hx hb dL_law_1220 hl (by decide) rfl (fun ls hl => ?_)
  refine lv_aload_n hx hb dL_law_1222 rfl (lv_at hl 4 rfl) ?_
  obtain ⟨w17, τ18, hc15, hf⟩ := fd_bds hf
  refine va_calli (va_runV (As := []) (rest := []) ⟨hx, hb, hml, hown, hts⟩ (m_X11_thrown_0 l D a2 k2 H.size hI2 N σ14 _ hc15) (cwV 0 hts gL_law_X11_thrown rfl rfl rfl (by decide +kernel) ⟨Nat.le_of_ble_eq_true rfl, Nat.le_of_ble_eq_true rfl⟩) ⟨fd_blM, va_recv hK2 hQ (ci := 11) (q0 := 0) rfl fd_WM_0, fd_prM hQ hK2⟩ rfl rfl hl.1 rfl (lv_room (Nat.le_of_ble_eq_true rfl)) dL_law_1223 ⟨by show cl + 1 + 0 ≤ 94; omega, by show sl + 6 + 0 ≤ 10469; omega⟩) hS (fun q _ h => fd_AL hJ2 hS.1 h) (fun q h => fd_AL hJ2 hS.1 h) (fun v16 u t H1 locs ht hvm hw hB hz hk hS => ?_)
  obtain ⟨hP1, hK1⟩ := hB
  rw [ht] at hP1
  obtain ⟨e1, e2⟩ := Prod.mk.inj hw
  subst e1
  subst e2
  obtain ⟨σ19, rfl⟩ : ∃ z, z = u := ⟨_, rfl⟩
  have hP := fd_kH hdis hP hz hk
  have hQ := hP1
  generalize H1 = H at hP hQ hS ⊢
  refine W.cs (cells' := cl + 1) (slots' := sl + 6) rfl rfl ?_
  refine lv_iload hx hb dL_law_1226 (lv_at hl 1 rfl) ?_
  refine lv_icmp_eq (tgt := 1233) hx hb dL_law_1228 (by decide) (fun c20 => ?_) (fun c20 => ?_)
  · have hf := fd_itp c20 hf
    refine lv_iload hx hb dL_law_1233 (lv_at hl 1 rfl) ?_
    refine lv_if_ne (tgt := 1250) hx hb dL_law_1235 (by decide) (fun c21 => ?_) (fun c21 => ?_)
    · have hf := fd_itn c21 hf
      refine lv_goto (tgt := 1572) hx hb dL_law_1250 (by decide) ?_
      obtain ⟨x22, ex22, hf⟩ := fd_lts hf
      refine lv_iinc (v := x22) (lv' := [(4, .int x22), (6, .int v11), (5, .int v4), (0, .ref b), (1, .ref (a 0)), (2, .ref (a2 0)), (3, .ref (a 39))]) hx hb dL_law_1572 hl (k := 6) rfl (by rw [ex22]; rfl) (by decide) rfl (fun ls hl => ?_)
      refine lv_goto (tgt := 23) hx hb dL_law_1575 (by decide) ?_
      exact hK9 _ _ _ _ _ _ _ _ (by omega) (by omega) hP hQ hS (lv_sub hl [3, 4, 5, 6, 0] rfl) hf
    · have hf := fd_itp c21 hf
      refine lv_aload_n hx hb dL_law_1238 rfl (lv_at hl 5 rfl) ?_
      refine lv_iconst (v := (0 : Int32)) hx hb dL_law_1239 (by decide) ?_
      obtain ⟨g23, hf⟩ := fd_gds hf
      refine va_lald hx hb hK hP 39 27 fd_WH_39 fd_tyH_39 g23 dL_law_1240 ?_
      refine lv_iload hx hb dL_law_1241 (lv_at hl 0 rfl) ?_
      refine lv_i2l hx hb dL_law_1243 rfl ?_
      refine W.lcmp hx hb dL_law_1244 ?_
      refine lv_if_eq (tgt := 1250) hx hb dL_law_1245 (by decide) (fun c24 => ?_) (fun c24 => ?_)
      · have hf := fd_itp c24 hf
        refine lv_goto (tgt := 1572) hx hb dL_law_1250 (by decide) ?_
        obtain ⟨x25, ex25, hf⟩ := fd_lts hf
        refine lv_iinc (v := x25) (lv' := [(4, .int x25), (6, .int v11), (5, .int v4), (0, .ref b), (1, .ref (a 0)), (2, .ref (a2 0)), (3, .ref (a 39))]) hx hb dL_law_1572 hl (k := 6) rfl (by rw [ex25]; rfl) (by decide) rfl (fun ls hl => ?_)
        refine lv_goto (tgt := 23) hx hb dL_law_1575 (by decide) ?_
        exact hK9 _ _ _ _ _ _ _ _ (by omega) (by omega) hP hQ hS (lv_sub hl [3, 4, 5, 6, 0] rfl) hf
      · have hf := fd_itn c24 hf
        refine lv_iconst (v := (0 : Int32)) hx hb dL_law_1248 (by decide) ?_
        exact absurd (Option.some.inj hf) (by decide)
  · have hf := fd_itn c20 hf
    refine lv_iconst (v := (0 : Int32)) hx hb dL_law_1231 (by decide) ?_
    exact absurd (Option.some.inj hf) (by decide)
noncomputable def f_law_c17 (N L : Nat) (xs : Nat → Int32) (K : Int32 → fd_St → fd_St → Option Int32) (i : Int32) (σ μ : fd_St) : Option Int32 := fd_gd (vp_in (i + (1 : Int32)) L) (fd_gd (vp_in (i + (2 : Int32)) L) (fd_gd (vp_in (i + (3 : Int32)) L) (fd_gd (vp_in (i + (4 : Int32)) L) (fd_gd (vp_in (i + (5 : Int32)) L) (fd_bd (f_L_shape_0_39 N (xs (i + (1 : Int32)).toNatClampNeg) (xs (i + (2 : Int32)).toNatClampNeg) (xs (i + (3 : Int32)).toNatClampNeg) (xs (i + (4 : Int32)).toNatClampNeg) (xs (i + (5 : Int32)).toNatClampNeg) σ) (fun v7 σ10 => fd_gd (vp_in (i + (1 : Int32)) L) (fd_gd (vp_in (i + (2 : Int32)) L) (fd_gd (vp_in (i + (3 : Int32)) L) (fd_gd (vp_in (i + (4 : Int32)) L) (fd_gd (vp_in (i + (5 : Int32)) L) (fd_bd (f_X11_shape_0 N (xs (i + (1 : Int32)).toNatClampNeg) (xs (i + (2 : Int32)).toNatClampNeg) (xs (i + (3 : Int32)).toNatClampNeg) (xs (i + (4 : Int32)).toNatClampNeg) (xs (i + (5 : Int32)).toNatClampNeg) μ) (fun v17 σ20 => fd_bd (f_X11_thrown_0 N σ20) (fun v22 σ25 => if v22 = v7 then (if v7 = 0 then (fd_gd (vp_in (0 : Int32) 1) (if (lg_cmp (σ10.2.2 39 (0 : Int32).toNatClampNeg) v17.toInt64) = 0 then (fd_lt (i + (6 : Int32)) (fun x31 => K x31 σ10 σ25)) else (some (0 : Int32)))) else (fd_lt (i + (6 : Int32)) (fun x28 => K x28 σ10 σ25))) else (some (0 : Int32)))))))))))))))
set_option maxHeartbeats 4000000 in
set_option maxRecDepth 100000 in
theorem law_c17 {p : Program} {l : Launch} {e : Env} {s : State} {m : MethodId} {below : List Frame} {meth : Method} {c : Code} {D : va_G} {a a2 : Nat → Nat} {k k2 : Nat → ClassId} {b L : Nat} {xs : Nat → Int32} (C0 : fd_Cx p l s m meth c D a a2 k k2 b L xs) (N : Nat) (K : Int32 → fd_St → fd_St → Option Int32) (n : Nat) (hK9 : ∀ (i : Int32) (σ μ : fd_St) (cl sl : Nat) (H : Heap) (locs : List Loc) (ls : Array Slot), cl + n ≤ 94 → sl + 6 * n ≤ 10469 → va_P D vwCl (fd_WH a k σ) H → va_P D vwCl (fd_WM a2 k2 μ) H → va_S (fun q => s.heap.size ≤ q) s.heap H locs → lv_has ls 8 [(0, .ref b), (1, .ref (a 0)), (2, .ref (a2 0)), (3, .ref (a 39)), (4, .int i)] → K i σ μ = some 1 → W p l e room_1 s m #[Value.ref b] below meth c H locs cl sl (lw_Z below #[Value.ref b] s) (F0 m 23 ls [])) : ∀ (i : Int32) (σ μ : fd_St) (cl sl : Nat) (H : Heap) (locs : List Loc) (ls : Array Slot), cl + (n + 1) ≤ 94 → sl + 6 * (n + 1) ≤ 10469 → va_P D vwCl (fd_WH a k σ) H → va_P D vwCl (fd_WM a2 k2 μ) H → va_S (fun q => s.heap.size ≤ q) s.heap H locs → lv_has ls 8 [(0, .ref b), (1, .ref (a 0)), (2, .ref (a2 0)), (3, .ref (a 39)), (4, .int i)] → f_law_c17 N L xs K i σ μ = some 1 → W p l e room_1 s m #[Value.ref b] below meth c H locs cl sl (lw_Z below #[Value.ref b] s) (F0 m 1253 ls []) := by
  obtain ⟨⟨hx, hb, hr, hml, hown, hts0, hX, hbl, hlocks, hgv⟩, hl9, hI, hI2, hJ, hJ2, hdis, hK, hK2, hZ⟩ := C0
  have hown : s.vm.findClass RL = some m.cls := hown
  have hts : ∀ w ∈ fd_wl, w.before #[Value.ref b] s = true := fun w h => hts0 w (fd_wl_in w h)
  have hA : ∀ q : Nat, s.heap.size ≤ q → (fun q : Nat => s.heap.size ≤ q) q := fun _ h => h
  have hbA : ¬ (fun q : Nat => s.heap.size ≤ q) b := Nat.not_le.mpr hbl
  intro i σ μ cl sl H locs ls hcl hsl hP hQ hS hl hf
  unfold f_law_c17 at hf
  refine lv_aload_n hx hb dL_law_1253 rfl (lv_at hl 1 rfl) ?_
  refine lv_aload_n hx hb dL_law_1254 rfl (lv_at hl 0 rfl) ?_
  refine lv_iload hx hb dL_law_1255 (lv_at hl 4 rfl) ?_
  refine lv_iconst (v := (1 : Int32)) hx hb dL_law_1257 (by decide) ?_
  refine lv_iadd hx hb dL_law_1258 ?_
  obtain ⟨g1, hf⟩ := fd_gds hf
  refine va_sld hx hb hX hbl hbA hS g1 dL_law_1259 ?_
  refine lv_aload_n hx hb dL_law_1260 rfl (lv_at hl 0 rfl) ?_
  refine lv_iload hx hb dL_law_1261 (lv_at hl 4 rfl) ?_
  refine lv_iconst (v := (2 : Int32)) hx hb dL_law_1263 (by decide) ?_
  refine lv_iadd hx hb dL_law_1264 ?_
  obtain ⟨g2, hf⟩ := fd_gds hf
  refine va_sld hx hb hX hbl hbA hS g2 dL_law_1265 ?_
  refine lv_aload_n hx hb dL_law_1266 rfl (lv_at hl 0 rfl) ?_
  refine lv_iload hx hb dL_law_1267 (lv_at hl 4 rfl) ?_
  refine lv_iconst (v := (3 : Int32)) hx hb dL_law_1269 (by decide) ?_
  refine lv_iadd hx hb dL_law_1270 ?_
  obtain ⟨g3, hf⟩ := fd_gds hf
  refine va_sld hx hb hX hbl hbA hS g3 dL_law_1271 ?_
  refine lv_aload_n hx hb dL_law_1272 rfl (lv_at hl 0 rfl) ?_
  refine lv_iload hx hb dL_law_1273 (lv_at hl 4 rfl) ?_
  refine lv_iconst (v := (4 : Int32)) hx hb dL_law_1275 (by decide) ?_
  refine lv_iadd hx hb dL_law_1276 ?_
  obtain ⟨g4, hf⟩ := fd_gds hf
  refine va_sld hx hb hX hbl hbA hS g4 dL_law_1277 ?_
  refine lv_aload_n hx hb dL_law_1278 rfl (lv_at hl 0 rfl) ?_
  refine lv_iload hx hb dL_law_1279 (lv_at hl 4 rfl) ?_
  refine lv_iconst (v := (5 : Int32)) hx hb dL_law_1281 (by decide) ?_
  refine lv_iadd hx hb dL_law_1282 ?_
  obtain ⟨g5, hf⟩ := fd_gds hf
  refine va_sld hx hb hX hbl hbA hS g5 dL_law_1283 ?_
  refine lv_aload_n hx hb dL_law_1284 rfl (lv_at hl 3 rfl) ?_
  obtain ⟨w8, τ9, hc6, hf⟩ := fd_bds hf
  refine va_calli (vx_runSW (As := [.ref (a 0), .int (xs (i + (1 : Int32)).toNatClampNeg), .int (xs (i + (2 : Int32)).toNatClampNeg), .int (xs (i + (3 : Int32)).toNatClampNeg), .int (xs (i + (4 : Int32)).toNatClampNeg), .int (xs (i + (5 : Int32)).toNatClampNeg), .ref (a 39)]) (rest := []) ⟨hx, hb, hml, hown, hts⟩ (m_L_shape_0_39 l hl9 D a k H.size hI N (xs (i + (1 : Int32)).toNatClampNeg) (xs (i + (2 : Int32)).toNatClampNeg) (xs (i + (3 : Int32)).toNatClampNeg) (xs (i + (4 : Int32)).toNatClampNeg) (xs (i + (5 : Int32)).toNatClampNeg) σ _ hc6) (vx_cwSW 7 hts gL_law_L_shape rfl rfl rfl (by decide +kernel) ⟨Nat.le_of_ble_eq_true rfl, Nat.le_of_ble_eq_true rfl⟩) ⟨fd_blH, fd_prL hP hK hZ hS hJ⟩ rfl rfl hl.1 rfl (lv_room (Nat.le_of_ble_eq_true rfl)) dL_law_1285 ⟨by show cl + 1 ≤ 94; omega, by show sl + 6 ≤ 10469; omega⟩) hS (fun q _ h => fd_AL hJ hS.1 h) (fun q h => fd_AL hJ hS.1 h) (fun v7 u t H1 locs ht hvm hw hB hz hk hS => ?_)
  obtain ⟨hP1, hK1⟩ := hB
  rw [ht] at hP1
  obtain ⟨e1, e2⟩ := Prod.mk.inj hw
  subst e1
  subst e2
  obtain ⟨σ10, rfl⟩ : ∃ z, z = u := ⟨_, rfl⟩
  have hQ := fd_kM hdis hJ hQ hz hk
  have hP := hP1
  generalize H1 = H at hP hQ hS ⊢
  refine W.cs (cells' := cl + 1) (slots' := sl + 6) rfl rfl ?_
  refine lv_istore (lv' := [(5, .int v7), (0, .ref b), (1, .ref (a 0)), (2, .ref (a2 0)), (3, .ref (a 39)), (4, .int i)]) hx hb dL_law_1288 hl (by decide) rfl (fun ls hl => ?_)
  refine lv_aload_n hx hb dL_law_1290 rfl (lv_at hl 3 rfl) ?_
  refine lv_aload_n hx hb dL_law_1291 rfl (lv_at hl 1 rfl) ?_
  refine lv_iload hx hb dL_law_1292 (lv_at hl 5 rfl) ?_
  refine lv_iconst (v := (1 : Int32)) hx hb dL_law_1294 (by decide) ?_
  refine lv_iadd hx hb dL_law_1295 ?_
  obtain ⟨g11, hf⟩ := fd_gds hf
  refine va_sld hx hb hX hbl hbA hS g11 dL_law_1296 ?_
  refine lv_aload_n hx hb dL_law_1297 rfl (lv_at hl 1 rfl) ?_
  refine lv_iload hx hb dL_law_1298 (lv_at hl 5 rfl) ?_
  refine lv_iconst (v := (2 : Int32)) hx hb dL_law_1300 (by decide) ?_
  refine lv_iadd hx hb dL_law_1301 ?_
  obtain ⟨g12, hf⟩ := fd_gds hf
  refine va_sld hx hb hX hbl hbA hS g12 dL_law_1302 ?_
  refine lv_aload_n hx hb dL_law_1303 rfl (lv_at hl 1 rfl) ?_
  refine lv_iload hx hb dL_law_1304 (lv_at hl 5 rfl) ?_
  refine lv_iconst (v := (3 : Int32)) hx hb dL_law_1306 (by decide) ?_
  refine lv_iadd hx hb dL_law_1307 ?_
  obtain ⟨g13, hf⟩ := fd_gds hf
  refine va_sld hx hb hX hbl hbA hS g13 dL_law_1308 ?_
  refine lv_aload_n hx hb dL_law_1309 rfl (lv_at hl 1 rfl) ?_
  refine lv_iload hx hb dL_law_1310 (lv_at hl 5 rfl) ?_
  refine lv_iconst (v := (4 : Int32)) hx hb dL_law_1312 (by decide) ?_
  refine lv_iadd hx hb dL_law_1313 ?_
  obtain ⟨g14, hf⟩ := fd_gds hf
  refine va_sld hx hb hX hbl hbA hS g14 dL_law_1314 ?_
  refine lv_aload_n hx hb dL_law_1315 rfl (lv_at hl 1 rfl) ?_
  refine lv_iload hx hb dL_law_1316 (lv_at hl 5 rfl) ?_
  refine lv_iconst (v := (5 : Int32)) hx hb dL_law_1318 (by decide) ?_
  refine lv_iadd hx hb dL_law_1319 ?_
  obtain ⟨g15, hf⟩ := fd_gds hf
  refine va_sld hx hb hX hbl hbA hS g15 dL_law_1320 ?_
  obtain ⟨w18, τ19, hc16, hf⟩ := fd_bds hf
  refine va_calli (va_runV (As := [.int (xs (i + (1 : Int32)).toNatClampNeg), .int (xs (i + (2 : Int32)).toNatClampNeg), .int (xs (i + (3 : Int32)).toNatClampNeg), .int (xs (i + (4 : Int32)).toNatClampNeg), .int (xs (i + (5 : Int32)).toNatClampNeg)]) (rest := []) ⟨hx, hb, hml, hown, hts⟩ (m_X11_shape_0 l D a2 k2 H.size hI2 N (xs (i + (1 : Int32)).toNatClampNeg) (xs (i + (2 : Int32)).toNatClampNeg) (xs (i + (3 : Int32)).toNatClampNeg) (xs (i + (4 : Int32)).toNatClampNeg) (xs (i + (5 : Int32)).toNatClampNeg) μ _ hc16) (cwV 5 hts gL_law_X11_shape rfl rfl rfl (by decide +kernel) ⟨Nat.le_of_ble_eq_true rfl, Nat.le_of_ble_eq_true rfl⟩) ⟨fd_blM, va_recv hK2 hQ (ci := 11) (q0 := 0) rfl fd_WM_0, fd_prM hQ hK2⟩ rfl rfl hl.1 rfl (lv_room (Nat.le_of_ble_eq_true rfl)) dL_law_1321 ⟨by show cl + 1 + 0 ≤ 94; omega, by show sl + 6 + 0 ≤ 10469; omega⟩) hS (fun q _ h => fd_AL hJ2 hS.1 h) (fun q h => fd_AL hJ2 hS.1 h) (fun v17 u t H1 locs ht hvm hw hB hz hk hS => ?_)
  obtain ⟨hP1, hK1⟩ := hB
  rw [ht] at hP1
  obtain ⟨e1, e2⟩ := Prod.mk.inj hw
  subst e1
  subst e2
  obtain ⟨σ20, rfl⟩ : ∃ z, z = u := ⟨_, rfl⟩
  have hP := fd_kH hdis hP hz hk
  have hQ := hP1
  generalize H1 = H at hP hQ hS ⊢
  refine W.cs (cells' := cl + 1) (slots' := sl + 6) rfl rfl ?_
  refine lv_istore (lv' := [(6, .int v17), (5, .int v7), (0, .ref b), (1, .ref (a 0)), (2, .ref (a2 0)), (3, .ref (a 39)), (4, .int i)]) hx hb dL_law_1324 hl (by decide) rfl (fun ls hl => ?_)
  refine lv_aload_n hx hb dL_law_1326 rfl (lv_at hl 4 rfl) ?_
  obtain ⟨w23, τ24, hc21, hf⟩ := fd_bds hf
  refine va_calli (va_runV (As := []) (rest := []) ⟨hx, hb, hml, hown, hts⟩ (m_X11_thrown_0 l D a2 k2 H.size hI2 N σ20 _ hc21) (cwV 0 hts gL_law_X11_thrown rfl rfl rfl (by decide +kernel) ⟨Nat.le_of_ble_eq_true rfl, Nat.le_of_ble_eq_true rfl⟩) ⟨fd_blM, va_recv hK2 hQ (ci := 11) (q0 := 0) rfl fd_WM_0, fd_prM hQ hK2⟩ rfl rfl hl.1 rfl (lv_room (Nat.le_of_ble_eq_true rfl)) dL_law_1327 ⟨by show cl + 1 + 0 ≤ 94; omega, by show sl + 6 + 0 ≤ 10469; omega⟩) hS (fun q _ h => fd_AL hJ2 hS.1 h) (fun q h => fd_AL hJ2 hS.1 h) (fun v22 u t H1 locs ht hvm hw hB hz hk hS => ?_)
  obtain ⟨hP1, hK1⟩ := hB
  rw [ht] at hP1
  obtain ⟨e1, e2⟩ := Prod.mk.inj hw
  subst e1
  subst e2
  obtain ⟨σ25, rfl⟩ : ∃ z, z = u := ⟨_, rfl⟩
  have hP := fd_kH hdis hP hz hk
  have hQ := hP1
  generalize H1 = H at hP hQ hS ⊢
  refine W.cs (cells' := cl + 1) (slots' := sl + 6) rfl rfl ?_
  refine lv_iload hx hb dL_law_1330 (lv_at hl 1 rfl) ?_
  refine lv_icmp_eq (tgt := 1337) hx hb dL_law_1332 (by decide) (fun c26 => ?_) (fun c26 => ?_)
  · have hf := fd_itp c26 hf
    refine lv_iload hx hb dL_law_1337 (lv_at hl 1 rfl) ?_
    refine lv_if_ne (tgt := 1354) hx hb dL_law_1339 (by decide) (fun c27 => ?_) (fun c27 => ?_)
    · have hf := fd_itn c27 hf
      refine lv_goto (tgt := 1572) hx hb dL_law_1354 (by decide) ?_
      obtain ⟨x28, ex28, hf⟩ := fd_lts hf
      refine lv_iinc (v := x28) (lv' := [(4, .int x28), (6, .int v17), (5, .int v7), (0, .ref b), (1, .ref (a 0)), (2, .ref (a2 0)), (3, .ref (a 39))]) hx hb dL_law_1572 hl (k := 6) rfl (by rw [ex28]; rfl) (by decide) rfl (fun ls hl => ?_)
      refine lv_goto (tgt := 23) hx hb dL_law_1575 (by decide) ?_
      exact hK9 _ _ _ _ _ _ _ _ (by omega) (by omega) hP hQ hS (lv_sub hl [3, 4, 5, 6, 0] rfl) hf
    · have hf := fd_itp c27 hf
      refine lv_aload_n hx hb dL_law_1342 rfl (lv_at hl 5 rfl) ?_
      refine lv_iconst (v := (0 : Int32)) hx hb dL_law_1343 (by decide) ?_
      obtain ⟨g29, hf⟩ := fd_gds hf
      refine va_lald hx hb hK hP 39 27 fd_WH_39 fd_tyH_39 g29 dL_law_1344 ?_
      refine lv_iload hx hb dL_law_1345 (lv_at hl 0 rfl) ?_
      refine lv_i2l hx hb dL_law_1347 rfl ?_
      refine W.lcmp hx hb dL_law_1348 ?_
      refine lv_if_eq (tgt := 1354) hx hb dL_law_1349 (by decide) (fun c30 => ?_) (fun c30 => ?_)
      · have hf := fd_itp c30 hf
        refine lv_goto (tgt := 1572) hx hb dL_law_1354 (by decide) ?_
        obtain ⟨x31, ex31, hf⟩ := fd_lts hf
        refine lv_iinc (v := x31) (lv' := [(4, .int x31), (6, .int v17), (5, .int v7), (0, .ref b), (1, .ref (a 0)), (2, .ref (a2 0)), (3, .ref (a 39))]) hx hb dL_law_1572 hl (k := 6) rfl (by rw [ex31]; rfl) (by decide) rfl (fun ls hl => ?_)
        refine lv_goto (tgt := 23) hx hb dL_law_1575 (by decide) ?_
        exact hK9 _ _ _ _ _ _ _ _ (by omega) (by omega) hP hQ hS (lv_sub hl [3, 4, 5, 6, 0] rfl) hf
      · have hf := fd_itn c30 hf
        refine lv_iconst (v := (0 : Int32)) hx hb dL_law_1352 (by decide) ?_
        exact absurd (Option.some.inj hf) (by decide)
  · have hf := fd_itn c26 hf
    refine lv_iconst (v := (0 : Int32)) hx hb dL_law_1335 (by decide) ?_
    exact absurd (Option.some.inj hf) (by decide)
