noncomputable def f_law_c18 (N L : Nat) (xs : Nat → Int32) (K : Int32 → fd_St → fd_St → Option Int32) (i : Int32) (σ μ : fd_St) : Option Int32 := fd_gd (vp_in (i + (1 : Int32)) L) (fd_gd (vp_in (i + (2 : Int32)) L) (fd_bd (f_L_area_0_39 N (xs (i + (1 : Int32)).toNatClampNeg) (xs (i + (2 : Int32)).toNatClampNeg) σ) (fun v4 σ7 => fd_gd (vp_in (i + (1 : Int32)) L) (fd_gd (vp_in (i + (2 : Int32)) L) (fd_bd (f_X11_area_0 N (xs (i + (1 : Int32)).toNatClampNeg) (xs (i + (2 : Int32)).toNatClampNeg) μ) (fun v11 σ14 => fd_lt (i + (6 : Int32)) (fun x15 => K x15 σ7 σ14)))))))
set_option maxHeartbeats 4000000 in
set_option maxRecDepth 100000 in
theorem law_c18 {p : Program} {l : Launch} {e : Env} {s : State} {m : MethodId} {below : List Frame} {meth : Method} {c : Code} {D : va_G} {a a2 : Nat → Nat} {k k2 : Nat → ClassId} {b L : Nat} {xs : Nat → Int32} (C0 : fd_Cx p l s m meth c D a a2 k k2 b L xs) (N : Nat) (K : Int32 → fd_St → fd_St → Option Int32) (n : Nat) (hK9 : ∀ (i : Int32) (σ μ : fd_St) (cl sl : Nat) (H : Heap) (locs : List Loc) (ls : Array Slot), cl + n ≤ 1116 → sl + 6 * n ≤ 18645 → va_P D vwCl (fd_WH a k σ) H → va_P D vwCl (fd_WM a2 k2 μ) H → va_S (fun q => s.heap.size ≤ q) s.heap H locs → lv_has ls 8 [(0, .ref b), (1, .ref (a 0)), (2, .ref (a2 0)), (3, .ref (a 39)), (4, .int i)] → K i σ μ = some 1 → W p l e room_1 s m #[Value.ref b] below meth c H locs cl sl (lw_Z below #[Value.ref b] s) (F0 m 23 ls [])) : ∀ (i : Int32) (σ μ : fd_St) (cl sl : Nat) (H : Heap) (locs : List Loc) (ls : Array Slot), cl + (n + 1) ≤ 1116 → sl + 6 * (n + 1) ≤ 18645 → va_P D vwCl (fd_WH a k σ) H → va_P D vwCl (fd_WM a2 k2 μ) H → va_S (fun q => s.heap.size ≤ q) s.heap H locs → lv_has ls 8 [(0, .ref b), (1, .ref (a 0)), (2, .ref (a2 0)), (3, .ref (a 39)), (4, .int i)] → f_law_c18 N L xs K i σ μ = some 1 → W p l e room_1 s m #[Value.ref b] below meth c H locs cl sl (lw_Z below #[Value.ref b] s) (F0 m 902 ls []) := by
  obtain ⟨⟨hx, hb, hr, hml, hown, hts0, hX, hbl, hlocks, hgv⟩, hl9, hI, hI2, hJ, hJ2, hdis, hK, hK2, hZ⟩ := C0
  have hown : s.vm.findClass RL = some m.cls := hown
  have hts : ∀ w ∈ fd_wl, w.before #[Value.ref b] s = true := fun w h => hts0 w (fd_wl_in w h)
  have hA : ∀ q : Nat, s.heap.size ≤ q → (fun q : Nat => s.heap.size ≤ q) q := fun _ h => h
  have hbA : ¬ (fun q : Nat => s.heap.size ≤ q) b := Nat.not_le.mpr hbl
  intro i σ μ cl sl H locs ls hcl hsl hP hQ hS hl hf
  unfold f_law_c18 at hf
  refine lv_aload_n hx hb dL_law_902 rfl (lv_at hl 1 rfl) ?_
  refine lv_aload_n hx hb dL_law_903 rfl (lv_at hl 0 rfl) ?_
  refine lv_iload hx hb dL_law_904 (lv_at hl 4 rfl) ?_
  refine lv_iconst (v := (1 : Int32)) hx hb dL_law_906 (by decide) ?_
  refine lv_iadd hx hb dL_law_907 ?_
  obtain ⟨g1, hf⟩ := fd_gds hf
  refine va_sld hx hb hX hbl hbA hS g1 dL_law_908 ?_
  refine lv_aload_n hx hb dL_law_909 rfl (lv_at hl 0 rfl) ?_
  refine lv_iload hx hb dL_law_910 (lv_at hl 4 rfl) ?_
  refine lv_iconst (v := (2 : Int32)) hx hb dL_law_912 (by decide) ?_
  refine lv_iadd hx hb dL_law_913 ?_
  obtain ⟨g2, hf⟩ := fd_gds hf
  refine va_sld hx hb hX hbl hbA hS g2 dL_law_914 ?_
  refine lv_aload_n hx hb dL_law_915 rfl (lv_at hl 3 rfl) ?_
  obtain ⟨w5, τ6, hc3, hf⟩ := fd_bds hf
  refine va_calli (vx_runSW (As := [.ref (a 0), .int (xs (i + (1 : Int32)).toNatClampNeg), .int (xs (i + (2 : Int32)).toNatClampNeg), .ref (a 39)]) (rest := []) ⟨hx, hb, hml, hown, hts⟩ (m_L_area_0_39 l hl9 D a k H.size hI N (xs (i + (1 : Int32)).toNatClampNeg) (xs (i + (2 : Int32)).toNatClampNeg) σ _ hc3) (vx_cwSW 4 hts gL_law_L_area rfl rfl rfl (by decide +kernel) ⟨Nat.le_of_ble_eq_true rfl, Nat.le_of_ble_eq_true rfl⟩) ⟨fd_blH, fd_prL hP hK hZ hS hJ⟩ rfl rfl hl.1 rfl (lv_room (Nat.le_of_ble_eq_true rfl)) dL_law_916 ⟨by show cl + 1 ≤ 1116; omega, by show sl + 6 ≤ 18645; omega⟩) hS (fun q _ h => fd_AL hJ hS.1 h) (fun q h => fd_AL hJ hS.1 h) (fun v4 u t H1 locs ht hvm hw hB hz hk hS => ?_)
  obtain ⟨hP1, hK1⟩ := hB
  rw [ht] at hP1
  obtain ⟨e1, e2⟩ := Prod.mk.inj hw
  subst e1
  subst e2
  obtain ⟨σ7, rfl⟩ : ∃ z, z = u := ⟨_, rfl⟩
  have hQ := fd_kM hdis hJ hQ hz hk
  have hP := hP1
  generalize H1 = H at hP hQ hS ⊢
  refine W.cs (cells' := cl + 1) (slots' := sl + 6) rfl rfl ?_
  refine lv_istore (lv' := [(5, .int v4), (0, .ref b), (1, .ref (a 0)), (2, .ref (a2 0)), (3, .ref (a 39)), (4, .int i)]) hx hb dL_law_919 hl (by decide) rfl (fun ls hl => ?_)
  refine lv_aload_n hx hb dL_law_921 rfl (lv_at hl 3 rfl) ?_
  refine lv_aload_n hx hb dL_law_922 rfl (lv_at hl 1 rfl) ?_
  refine lv_iload hx hb dL_law_923 (lv_at hl 5 rfl) ?_
  refine lv_iconst (v := (1 : Int32)) hx hb dL_law_925 (by decide) ?_
  refine lv_iadd hx hb dL_law_926 ?_
  obtain ⟨g8, hf⟩ := fd_gds hf
  refine va_sld hx hb hX hbl hbA hS g8 dL_law_927 ?_
  refine lv_aload_n hx hb dL_law_928 rfl (lv_at hl 1 rfl) ?_
  refine lv_iload hx hb dL_law_929 (lv_at hl 5 rfl) ?_
  refine lv_iconst (v := (2 : Int32)) hx hb dL_law_931 (by decide) ?_
  refine lv_iadd hx hb dL_law_932 ?_
  obtain ⟨g9, hf⟩ := fd_gds hf
  refine va_sld hx hb hX hbl hbA hS g9 dL_law_933 ?_
  obtain ⟨w12, τ13, hc10, hf⟩ := fd_bds hf
  refine va_calli (va_runV (As := [.int (xs (i + (1 : Int32)).toNatClampNeg), .int (xs (i + (2 : Int32)).toNatClampNeg)]) (rest := []) ⟨hx, hb, hml, hown, hts⟩ (m_X11_area_0 l D a2 k2 H.size hI2 N (xs (i + (1 : Int32)).toNatClampNeg) (xs (i + (2 : Int32)).toNatClampNeg) μ _ hc10) (cwV 2 hts gL_law_X11_area rfl rfl rfl (by decide +kernel) ⟨Nat.le_of_ble_eq_true rfl, Nat.le_of_ble_eq_true rfl⟩) ⟨fd_blM, va_recv hK2 hQ (ci := 11) (q0 := 0) rfl fd_WM_0, fd_prM hQ hK2⟩ rfl rfl hl.1 rfl (lv_room (Nat.le_of_ble_eq_true rfl)) dL_law_934 ⟨by show cl + 1 + 0 ≤ 1116; omega, by show sl + 6 + 0 ≤ 18645; omega⟩) hS (fun q _ h => fd_AL hJ2 hS.1 h) (fun q h => fd_AL hJ2 hS.1 h) (fun v11 u t H1 locs ht hvm hw hB hz hk hS => ?_)
  obtain ⟨hP1, hK1⟩ := hB
  rw [ht] at hP1
  obtain ⟨e1, e2⟩ := Prod.mk.inj hw
  subst e1
  subst e2
  obtain ⟨σ14, rfl⟩ : ∃ z, z = u := ⟨_, rfl⟩
  have hP := fd_kH hdis hP hz hk
  have hQ := hP1
  generalize H1 = H at hP hQ hS ⊢
  refine W.cs (cells' := cl + 1) (slots' := sl + 6) rfl rfl ?_
  refine lv_istore (lv' := [(6, .int v11), (5, .int v4), (0, .ref b), (1, .ref (a 0)), (2, .ref (a2 0)), (3, .ref (a 39)), (4, .int i)]) hx hb dL_law_937 hl (by decide) rfl (fun ls hl => ?_)
  refine lv_goto (tgt := 1061) hx hb dL_law_939 (by decide) ?_
  obtain ⟨x15, ex15, hf⟩ := fd_lts hf
  refine lv_iinc (v := x15) (lv' := [(4, .int x15), (6, .int v11), (5, .int v4), (0, .ref b), (1, .ref (a 0)), (2, .ref (a2 0)), (3, .ref (a 39))]) hx hb dL_law_1061 hl (k := 6) rfl (by rw [ex15]; rfl) (by decide) rfl (fun ls hl => ?_)
  refine lv_goto (tgt := 23) hx hb dL_law_1064 (by decide) ?_
  exact hK9 _ _ _ _ _ _ _ _ (by omega) (by omega) hP hQ hS (lv_sub hl [3, 4, 5, 6, 0] rfl) hf
noncomputable def f_law_c19 (N L : Nat) (xs : Nat → Int32) (K : Int32 → fd_St → fd_St → Option Int32) (i : Int32) (σ μ : fd_St) : Option Int32 := fd_gd (vp_in (i + (1 : Int32)) L) (fd_gd (vp_in (i + (2 : Int32)) L) (fd_gd (vp_in (i + (3 : Int32)) L) (fd_bd (f_L_common_0_39 N (xs (i + (1 : Int32)).toNatClampNeg) (xs (i + (2 : Int32)).toNatClampNeg) (xs (i + (3 : Int32)).toNatClampNeg) σ) (fun v5 σ8 => fd_gd (vp_in (i + (1 : Int32)) L) (fd_gd (vp_in (i + (2 : Int32)) L) (fd_gd (vp_in (i + (3 : Int32)) L) (fd_bd (f_X11_common_0 N (xs (i + (1 : Int32)).toNatClampNeg) (xs (i + (2 : Int32)).toNatClampNeg) (xs (i + (3 : Int32)).toNatClampNeg) μ) (fun v13 σ16 => fd_bd (f_X11_thrown_0 N σ16) (fun v18 σ21 => if v18 = v5 then (if v5 = 0 then (fd_gd (vp_in (0 : Int32) 1) (if (lg_cmp (σ8.2.2 39 (0 : Int32).toNatClampNeg) v13.toInt64) = 0 then (fd_lt (i + (6 : Int32)) (fun x27 => K x27 σ8 σ21)) else (some (0 : Int32)))) else (fd_lt (i + (6 : Int32)) (fun x24 => K x24 σ8 σ21))) else (some (0 : Int32)))))))))))
set_option maxHeartbeats 4000000 in
set_option maxRecDepth 100000 in
theorem law_c19 {p : Program} {l : Launch} {e : Env} {s : State} {m : MethodId} {below : List Frame} {meth : Method} {c : Code} {D : va_G} {a a2 : Nat → Nat} {k k2 : Nat → ClassId} {b L : Nat} {xs : Nat → Int32} (C0 : fd_Cx p l s m meth c D a a2 k k2 b L xs) (N : Nat) (K : Int32 → fd_St → fd_St → Option Int32) (n : Nat) (hK9 : ∀ (i : Int32) (σ μ : fd_St) (cl sl : Nat) (H : Heap) (locs : List Loc) (ls : Array Slot), cl + n ≤ 1116 → sl + 6 * n ≤ 18645 → va_P D vwCl (fd_WH a k σ) H → va_P D vwCl (fd_WM a2 k2 μ) H → va_S (fun q => s.heap.size ≤ q) s.heap H locs → lv_has ls 8 [(0, .ref b), (1, .ref (a 0)), (2, .ref (a2 0)), (3, .ref (a 39)), (4, .int i)] → K i σ μ = some 1 → W p l e room_1 s m #[Value.ref b] below meth c H locs cl sl (lw_Z below #[Value.ref b] s) (F0 m 23 ls [])) : ∀ (i : Int32) (σ μ : fd_St) (cl sl : Nat) (H : Heap) (locs : List Loc) (ls : Array Slot), cl + (n + 1) ≤ 1116 → sl + 6 * (n + 1) ≤ 18645 → va_P D vwCl (fd_WH a k σ) H → va_P D vwCl (fd_WM a2 k2 μ) H → va_S (fun q => s.heap.size ≤ q) s.heap H locs → lv_has ls 8 [(0, .ref b), (1, .ref (a 0)), (2, .ref (a2 0)), (3, .ref (a 39)), (4, .int i)] → f_law_c19 N L xs K i σ μ = some 1 → W p l e room_1 s m #[Value.ref b] below meth c H locs cl sl (lw_Z below #[Value.ref b] s) (F0 m 942 ls []) := by
  obtain ⟨⟨hx, hb, hr, hml, hown, hts0, hX, hbl, hlocks, hgv⟩, hl9, hI, hI2, hJ, hJ2, hdis, hK, hK2, hZ⟩ := C0
  have hown : s.vm.findClass RL = some m.cls := hown
  have hts : ∀ w ∈ fd_wl, w.before #[Value.ref b] s = true := fun w h => hts0 w (fd_wl_in w h)
  have hA : ∀ q : Nat, s.heap.size ≤ q → (fun q : Nat => s.heap.size ≤ q) q := fun _ h => h
  have hbA : ¬ (fun q : Nat => s.heap.size ≤ q) b := Nat.not_le.mpr hbl
  intro i σ μ cl sl H locs ls hcl hsl hP hQ hS hl hf
  unfold f_law_c19 at hf
  refine lv_aload_n hx hb dL_law_942 rfl (lv_at hl 1 rfl) ?_
  refine lv_aload_n hx hb dL_law_943 rfl (lv_at hl 0 rfl) ?_
  refine lv_iload hx hb dL_law_944 (lv_at hl 4 rfl) ?_
  refine lv_iconst (v := (1 : Int32)) hx hb dL_law_946 (by decide) ?_
  refine lv_iadd hx hb dL_law_947 ?_
  obtain ⟨g1, hf⟩ := fd_gds hf
  refine va_sld hx hb hX hbl hbA hS g1 dL_law_948 ?_
  refine lv_aload_n hx hb dL_law_949 rfl (lv_at hl 0 rfl) ?_
  refine lv_iload hx hb dL_law_950 (lv_at hl 4 rfl) ?_
  refine lv_iconst (v := (2 : Int32)) hx hb dL_law_952 (by decide) ?_
  refine lv_iadd hx hb dL_law_953 ?_
  obtain ⟨g2, hf⟩ := fd_gds hf
  refine va_sld hx hb hX hbl hbA hS g2 dL_law_954 ?_
  refine lv_aload_n hx hb dL_law_955 rfl (lv_at hl 0 rfl) ?_
  refine lv_iload hx hb dL_law_956 (lv_at hl 4 rfl) ?_
  refine lv_iconst (v := (3 : Int32)) hx hb dL_law_958 (by decide) ?_
  refine lv_iadd hx hb dL_law_959 ?_
  obtain ⟨g3, hf⟩ := fd_gds hf
  refine va_sld hx hb hX hbl hbA hS g3 dL_law_960 ?_
  refine lv_aload_n hx hb dL_law_961 rfl (lv_at hl 3 rfl) ?_
  obtain ⟨w6, τ7, hc4, hf⟩ := fd_bds hf
  refine va_calli (vx_runSW (As := [.ref (a 0), .int (xs (i + (1 : Int32)).toNatClampNeg), .int (xs (i + (2 : Int32)).toNatClampNeg), .int (xs (i + (3 : Int32)).toNatClampNeg), .ref (a 39)]) (rest := []) ⟨hx, hb, hml, hown, hts⟩ (m_L_common_0_39 l hl9 D a k H.size hI N (xs (i + (1 : Int32)).toNatClampNeg) (xs (i + (2 : Int32)).toNatClampNeg) (xs (i + (3 : Int32)).toNatClampNeg) σ _ hc4) (vx_cwSW 5 hts gL_law_L_common rfl rfl rfl (by decide +kernel) ⟨Nat.le_of_ble_eq_true rfl, Nat.le_of_ble_eq_true rfl⟩) ⟨fd_blH, fd_prL hP hK hZ hS hJ⟩ rfl rfl hl.1 rfl (lv_room (Nat.le_of_ble_eq_true rfl)) dL_law_962 ⟨by show cl + 1 ≤ 1116; omega, by show sl + 6 ≤ 18645; omega⟩) hS (fun q _ h => fd_AL hJ hS.1 h) (fun q h => fd_AL hJ hS.1 h) (fun v5 u t H1 locs ht hvm hw hB hz hk hS => ?_)
  obtain ⟨hP1, hK1⟩ := hB
  rw [ht] at hP1
  obtain ⟨e1, e2⟩ := Prod.mk.inj hw
  subst e1
  subst e2
  obtain ⟨σ8, rfl⟩ : ∃ z, z = u := ⟨_, rfl⟩
  have hQ := fd_kM hdis hJ hQ hz hk
  have hP := hP1
  generalize H1 = H at hP hQ hS ⊢
  refine W.cs (cells' := cl + 1) (slots' := sl + 6) rfl rfl ?_
  refine lv_istore (lv' := [(5, .int v5), (0, .ref b), (1, .ref (a 0)), (2, .ref (a2 0)), (3, .ref (a 39)), (4, .int i)]) hx hb dL_law_965 hl (by decide) rfl (fun ls hl => ?_)
  refine lv_aload_n hx hb dL_law_967 rfl (lv_at hl 3 rfl) ?_
  refine lv_aload_n hx hb dL_law_968 rfl (lv_at hl 1 rfl) ?_
  refine lv_iload hx hb dL_law_969 (lv_at hl 5 rfl) ?_
  refine lv_iconst (v := (1 : Int32)) hx hb dL_law_971 (by decide) ?_
  refine lv_iadd hx hb dL_law_972 ?_
  obtain ⟨g9, hf⟩ := fd_gds hf
  refine va_sld hx hb hX hbl hbA hS g9 dL_law_973 ?_
  refine lv_aload_n hx hb dL_law_974 rfl (lv_at hl 1 rfl) ?_
  refine lv_iload hx hb dL_law_975 (lv_at hl 5 rfl) ?_
  refine lv_iconst (v := (2 : Int32)) hx hb dL_law_977 (by decide) ?_
  refine lv_iadd hx hb dL_law_978 ?_
  obtain ⟨g10, hf⟩ := fd_gds hf
  refine va_sld hx hb hX hbl hbA hS g10 dL_law_979 ?_
  refine lv_aload_n hx hb dL_law_980 rfl (lv_at hl 1 rfl) ?_
  refine lv_iload hx hb dL_law_981 (lv_at hl 5 rfl) ?_
  refine lv_iconst (v := (3 : Int32)) hx hb dL_law_983 (by decide) ?_
  refine lv_iadd hx hb dL_law_984 ?_
  obtain ⟨g11, hf⟩ := fd_gds hf
  refine va_sld hx hb hX hbl hbA hS g11 dL_law_985 ?_
  obtain ⟨w14, τ15, hc12, hf⟩ := fd_bds hf
  refine va_calli (va_runV (As := [.int (xs (i + (1 : Int32)).toNatClampNeg), .int (xs (i + (2 : Int32)).toNatClampNeg), .int (xs (i + (3 : Int32)).toNatClampNeg)]) (rest := []) ⟨hx, hb, hml, hown, hts⟩ (m_X11_common_0 l D a2 k2 H.size hI2 N (xs (i + (1 : Int32)).toNatClampNeg) (xs (i + (2 : Int32)).toNatClampNeg) (xs (i + (3 : Int32)).toNatClampNeg) μ _ hc12) (cwV 3 hts gL_law_X11_common rfl rfl rfl (by decide +kernel) ⟨Nat.le_of_ble_eq_true rfl, Nat.le_of_ble_eq_true rfl⟩) ⟨fd_blM, va_recv hK2 hQ (ci := 11) (q0 := 0) rfl fd_WM_0, fd_prM hQ hK2⟩ rfl rfl hl.1 rfl (lv_room (Nat.le_of_ble_eq_true rfl)) dL_law_986 ⟨by show cl + 1 + 0 ≤ 1116; omega, by show sl + 6 + 0 ≤ 18645; omega⟩) hS (fun q _ h => fd_AL hJ2 hS.1 h) (fun q h => fd_AL hJ2 hS.1 h) (fun v13 u t H1 locs ht hvm hw hB hz hk hS => ?_)
  obtain ⟨hP1, hK1⟩ := hB
  rw [ht] at hP1
  obtain ⟨e1, e2⟩ := Prod.mk.inj hw
  subst e1
  subst e2
  obtain ⟨σ16, rfl⟩ : ∃ z, z = u := ⟨_, rfl⟩
  have hP := fd_kH hdis hP hz hk
  have hQ := hP1
  generalize H1 = H at hP hQ hS ⊢
  refine W.cs (cells' := cl + 1) (slots' := sl + 6) rfl rfl ?_
  refine lv_istore (lv' := [(6, .int v13), (5, .int v5), (0, .ref b), (1, .ref (a 0)), (2, .ref (a2 0)), (3, .ref (a 39)), (4, .int i)]) hx hb dL_law_989 hl (by decide) rfl (fun ls hl => ?_)
  refine lv_aload_n hx hb dL_law_991 rfl (lv_at hl 4 rfl) ?_
  obtain ⟨w19, τ20, hc17, hf⟩ := fd_bds hf
  refine va_calli (va_runV (As := []) (rest := []) ⟨hx, hb, hml, hown, hts⟩ (m_X11_thrown_0 l D a2 k2 H.size hI2 N σ16 _ hc17) (cwV 0 hts gL_law_X11_thrown rfl rfl rfl (by decide +kernel) ⟨Nat.le_of_ble_eq_true rfl, Nat.le_of_ble_eq_true rfl⟩) ⟨fd_blM, va_recv hK2 hQ (ci := 11) (q0 := 0) rfl fd_WM_0, fd_prM hQ hK2⟩ rfl rfl hl.1 rfl (lv_room (Nat.le_of_ble_eq_true rfl)) dL_law_992 ⟨by show cl + 1 + 0 ≤ 1116; omega, by show sl + 6 + 0 ≤ 18645; omega⟩) hS (fun q _ h => fd_AL hJ2 hS.1 h) (fun q h => fd_AL hJ2 hS.1 h) (fun v18 u t H1 locs ht hvm hw hB hz hk hS => ?_)
  obtain ⟨hP1, hK1⟩ := hB
  rw [ht] at hP1
  obtain ⟨e1, e2⟩ := Prod.mk.inj hw
  subst e1
  subst e2
  obtain ⟨σ21, rfl⟩ : ∃ z, z = u := ⟨_, rfl⟩
  have hP := fd_kH hdis hP hz hk
  have hQ := hP1
  generalize H1 = H at hP hQ hS ⊢
  refine W.cs (cells' := cl + 1) (slots' := sl + 6) rfl rfl ?_
  refine lv_iload hx hb dL_law_995 (lv_at hl 1 rfl) ?_
  refine lv_icmp_eq (tgt := 1002) hx hb dL_law_997 (by decide) (fun c22 => ?_) (fun c22 => ?_)
  · have hf := fd_itp c22 hf
    refine lv_iload hx hb dL_law_1002 (lv_at hl 1 rfl) ?_
    refine lv_if_ne (tgt := 1019) hx hb dL_law_1004 (by decide) (fun c23 => ?_) (fun c23 => ?_)
    · have hf := fd_itn c23 hf
      refine lv_goto (tgt := 1061) hx hb dL_law_1019 (by decide) ?_
      obtain ⟨x24, ex24, hf⟩ := fd_lts hf
      refine lv_iinc (v := x24) (lv' := [(4, .int x24), (6, .int v13), (5, .int v5), (0, .ref b), (1, .ref (a 0)), (2, .ref (a2 0)), (3, .ref (a 39))]) hx hb dL_law_1061 hl (k := 6) rfl (by rw [ex24]; rfl) (by decide) rfl (fun ls hl => ?_)
      refine lv_goto (tgt := 23) hx hb dL_law_1064 (by decide) ?_
      exact hK9 _ _ _ _ _ _ _ _ (by omega) (by omega) hP hQ hS (lv_sub hl [3, 4, 5, 6, 0] rfl) hf
    · have hf := fd_itp c23 hf
      refine lv_aload_n hx hb dL_law_1007 rfl (lv_at hl 5 rfl) ?_
      refine lv_iconst (v := (0 : Int32)) hx hb dL_law_1008 (by decide) ?_
      obtain ⟨g25, hf⟩ := fd_gds hf
      refine va_lald hx hb hK hP 39 27 fd_WH_39 fd_tyH_39 g25 dL_law_1009 ?_
      refine lv_iload hx hb dL_law_1010 (lv_at hl 0 rfl) ?_
      refine lv_i2l hx hb dL_law_1012 rfl ?_
      refine W.lcmp hx hb dL_law_1013 ?_
      refine lv_if_eq (tgt := 1019) hx hb dL_law_1014 (by decide) (fun c26 => ?_) (fun c26 => ?_)
      · have hf := fd_itp c26 hf
        refine lv_goto (tgt := 1061) hx hb dL_law_1019 (by decide) ?_
        obtain ⟨x27, ex27, hf⟩ := fd_lts hf
        refine lv_iinc (v := x27) (lv' := [(4, .int x27), (6, .int v13), (5, .int v5), (0, .ref b), (1, .ref (a 0)), (2, .ref (a2 0)), (3, .ref (a 39))]) hx hb dL_law_1061 hl (k := 6) rfl (by rw [ex27]; rfl) (by decide) rfl (fun ls hl => ?_)
        refine lv_goto (tgt := 23) hx hb dL_law_1064 (by decide) ?_
        exact hK9 _ _ _ _ _ _ _ _ (by omega) (by omega) hP hQ hS (lv_sub hl [3, 4, 5, 6, 0] rfl) hf
      · have hf := fd_itn c26 hf
        refine lv_iconst (v := (0 : Int32)) hx hb dL_law_1017 (by decide) ?_
        exact absurd (Option.some.inj hf) (by decide)
  · have hf := fd_itn c22 hf
    refine lv_iconst (v := (0 : Int32)) hx hb dL_law_1000 (by decide) ?_
    exact absurd (Option.some.inj hf) (by decide)
noncomputable def f_law_c20 (N L : Nat) (xs : Nat → Int32) (K : Int32 → fd_St → fd_St → Option Int32) (i : Int32) (σ μ : fd_St) : Option Int32 := fd_gd (vp_in (i + (1 : Int32)) L) (fd_bd (f_L_count_0_39 N (xs (i + (1 : Int32)).toNatClampNeg) σ) (fun v3 σ6 => fd_gd (vp_in (i + (1 : Int32)) L) (fd_bd (f_X11_count_0 N (xs (i + (1 : Int32)).toNatClampNeg) μ) (fun v9 σ12 => fd_lt (i + (6 : Int32)) (fun x13 => K x13 σ6 σ12)))))
set_option maxHeartbeats 4000000 in
set_option maxRecDepth 100000 in
theorem law_c20 {p : Program} {l : Launch} {e : Env} {s : State} {m : MethodId} {below : List Frame} {meth : Method} {c : Code} {D : va_G} {a a2 : Nat → Nat} {k k2 : Nat → ClassId} {b L : Nat} {xs : Nat → Int32} (C0 : fd_Cx p l s m meth c D a a2 k k2 b L xs) (N : Nat) (K : Int32 → fd_St → fd_St → Option Int32) (n : Nat) (hK9 : ∀ (i : Int32) (σ μ : fd_St) (cl sl : Nat) (H : Heap) (locs : List Loc) (ls : Array Slot), cl + n ≤ 1116 → sl + 6 * n ≤ 18645 → va_P D vwCl (fd_WH a k σ) H → va_P D vwCl (fd_WM a2 k2 μ) H → va_S (fun q => s.heap.size ≤ q) s.heap H locs → lv_has ls 8 [(0, .ref b), (1, .ref (a 0)), (2, .ref (a2 0)), (3, .ref (a 39)), (4, .int i)] → K i σ μ = some 1 → W p l e room_1 s m #[Value.ref b] below meth c H locs cl sl (lw_Z below #[Value.ref b] s) (F0 m 23 ls [])) : ∀ (i : Int32) (σ μ : fd_St) (cl sl : Nat) (H : Heap) (locs : List Loc) (ls : Array Slot), cl + (n + 1) ≤ 1116 → sl + 6 * (n + 1) ≤ 18645 → va_P D vwCl (fd_WH a k σ) H → va_P D vwCl (fd_WM a2 k2 μ) H → va_S (fun q => s.heap.size ≤ q) s.heap H locs → lv_has ls 8 [(0, .ref b), (1, .ref (a 0)), (2, .ref (a2 0)), (3, .ref (a 39)), (4, .int i)] → f_law_c20 N L xs K i σ μ = some 1 → W p l e room_1 s m #[Value.ref b] below meth c H locs cl sl (lw_Z below #[Value.ref b] s) (F0 m 1022 ls []) := by
  obtain ⟨⟨hx, hb, hr, hml, hown, hts0, hX, hbl, hlocks, hgv⟩, hl9, hI, hI2, hJ, hJ2, hdis, hK, hK2, hZ⟩ := C0
  have hown : s.vm.findClass RL = some m.cls := hown
  have hts : ∀ w ∈ fd_wl, w.before #[Value.ref b] s = true := fun w h => hts0 w (fd_wl_in w h)
  have hA : ∀ q : Nat, s.heap.size ≤ q → (fun q : Nat => s.heap.size ≤ q) q := fun _ h => h
  have hbA : ¬ (fun q : Nat => s.heap.size ≤ q) b := Nat.not_le.mpr hbl
  intro i σ μ cl sl H locs ls hcl hsl hP hQ hS hl hf
  unfold f_law_c20 at hf
  refine lv_aload_n hx hb dL_law_1022 rfl (lv_at hl 1 rfl) ?_
  refine lv_aload_n hx hb dL_law_1023 rfl (lv_at hl 0 rfl) ?_
  refine lv_iload hx hb dL_law_1024 (lv_at hl 4 rfl) ?_
  refine lv_iconst (v := (1 : Int32)) hx hb dL_law_1026 (by decide) ?_
  refine lv_iadd hx hb dL_law_1027 ?_
  obtain ⟨g1, hf⟩ := fd_gds hf
  refine va_sld hx hb hX hbl hbA hS g1 dL_law_1028 ?_
  refine lv_aload_n hx hb dL_law_1029 rfl (lv_at hl 3 rfl) ?_
  obtain ⟨w4, τ5, hc2, hf⟩ := fd_bds hf
  refine va_calli (vx_runSW (As := [.ref (a 0), .int (xs (i + (1 : Int32)).toNatClampNeg), .ref (a 39)]) (rest := []) ⟨hx, hb, hml, hown, hts⟩ (m_L_count_0_39 l hl9 D a k H.size hI N (xs (i + (1 : Int32)).toNatClampNeg) σ _ hc2) (vx_cwSW 3 hts gL_law_L_count rfl rfl rfl (by decide +kernel) ⟨Nat.le_of_ble_eq_true rfl, Nat.le_of_ble_eq_true rfl⟩) ⟨fd_blH, fd_prL hP hK hZ hS hJ⟩ rfl rfl hl.1 rfl (lv_room (Nat.le_of_ble_eq_true rfl)) dL_law_1030 ⟨by show cl + 1 ≤ 1116; omega, by show sl + 6 ≤ 18645; omega⟩) hS (fun q _ h => fd_AL hJ hS.1 h) (fun q h => fd_AL hJ hS.1 h) (fun v3 u t H1 locs ht hvm hw hB hz hk hS => ?_)
  obtain ⟨hP1, hK1⟩ := hB
  rw [ht] at hP1
  obtain ⟨e1, e2⟩ := Prod.mk.inj hw
  subst e1
  subst e2
  obtain ⟨σ6, rfl⟩ : ∃ z, z = u := ⟨_, rfl⟩
  have hQ := fd_kM hdis hJ hQ hz hk
  have hP := hP1
  generalize H1 = H at hP hQ hS ⊢
  refine W.cs (cells' := cl + 1) (slots' := sl + 6) rfl rfl ?_
  refine lv_istore (lv' := [(5, .int v3), (0, .ref b), (1, .ref (a 0)), (2, .ref (a2 0)), (3, .ref (a 39)), (4, .int i)]) hx hb dL_law_1033 hl (by decide) rfl (fun ls hl => ?_)
  refine lv_aload_n hx hb dL_law_1035 rfl (lv_at hl 3 rfl) ?_
  refine lv_aload_n hx hb dL_law_1036 rfl (lv_at hl 1 rfl) ?_
  refine lv_iload hx hb dL_law_1037 (lv_at hl 5 rfl) ?_
  refine lv_iconst (v := (1 : Int32)) hx hb dL_law_1039 (by decide) ?_
  refine lv_iadd hx hb dL_law_1040 ?_
  obtain ⟨g7, hf⟩ := fd_gds hf
  refine va_sld hx hb hX hbl hbA hS g7 dL_law_1041 ?_
  obtain ⟨w10, τ11, hc8, hf⟩ := fd_bds hf
  refine va_calli (va_runV (As := [.int (xs (i + (1 : Int32)).toNatClampNeg)]) (rest := []) ⟨hx, hb, hml, hown, hts⟩ (m_X11_count_0 l D a2 k2 H.size hI2 N (xs (i + (1 : Int32)).toNatClampNeg) μ _ hc8) (cwV 1 hts gL_law_X11_count rfl rfl rfl (by decide +kernel) ⟨Nat.le_of_ble_eq_true rfl, Nat.le_of_ble_eq_true rfl⟩) ⟨fd_blM, va_recv hK2 hQ (ci := 11) (q0 := 0) rfl fd_WM_0, fd_prM hQ hK2⟩ rfl rfl hl.1 rfl (lv_room (Nat.le_of_ble_eq_true rfl)) dL_law_1042 ⟨by show cl + 1 + 0 ≤ 1116; omega, by show sl + 6 + 0 ≤ 18645; omega⟩) hS (fun q _ h => fd_AL hJ2 hS.1 h) (fun q h => fd_AL hJ2 hS.1 h) (fun v9 u t H1 locs ht hvm hw hB hz hk hS => ?_)
  obtain ⟨hP1, hK1⟩ := hB
  rw [ht] at hP1
  obtain ⟨e1, e2⟩ := Prod.mk.inj hw
  subst e1
  subst e2
  obtain ⟨σ12, rfl⟩ : ∃ z, z = u := ⟨_, rfl⟩
  have hP := fd_kH hdis hP hz hk
  have hQ := hP1
  generalize H1 = H at hP hQ hS ⊢
  refine W.cs (cells' := cl + 1) (slots' := sl + 6) rfl rfl ?_
  refine lv_istore (lv' := [(6, .int v9), (5, .int v3), (0, .ref b), (1, .ref (a 0)), (2, .ref (a2 0)), (3, .ref (a 39)), (4, .int i)]) hx hb dL_law_1045 hl (by decide) rfl (fun ls hl => ?_)
  refine lv_goto (tgt := 1061) hx hb dL_law_1047 (by decide) ?_
  obtain ⟨x13, ex13, hf⟩ := fd_lts hf
  refine lv_iinc (v := x13) (lv' := [(4, .int x13), (6, .int v9), (5, .int v3), (0, .ref b), (1, .ref (a 0)), (2, .ref (a2 0)), (3, .ref (a 39))]) hx hb dL_law_1061 hl (k := 6) rfl (by rw [ex13]; rfl) (by decide) rfl (fun ls hl => ?_)
  refine lv_goto (tgt := 23) hx hb dL_law_1064 (by decide) ?_
  exact hK9 _ _ _ _ _ _ _ _ (by omega) (by omega) hP hQ hS (lv_sub hl [3, 4, 5, 6, 0] rfl) hf
noncomputable def f_law_c21 (N L : Nat) (xs : Nat → Int32) (K : Int32 → fd_St → fd_St → Option Int32) (i : Int32) (σ μ : fd_St) : Option Int32 := fd_bd (f_X10_clear_0 N σ) (fun _ σ5 => fd_lt (fd_mix σ5 σ) (fun σ6 => fd_bd (f_X11_clear_0 N μ) (fun _ σ11 => fd_lt (i + (6 : Int32)) (fun x12 => K x12 σ6 σ11))))
set_option maxHeartbeats 4000000 in
set_option maxRecDepth 100000 in
theorem law_c21 {p : Program} {l : Launch} {e : Env} {s : State} {m : MethodId} {below : List Frame} {meth : Method} {c : Code} {D : va_G} {a a2 : Nat → Nat} {k k2 : Nat → ClassId} {b L : Nat} {xs : Nat → Int32} (C0 : fd_Cx p l s m meth c D a a2 k k2 b L xs) (N : Nat) (K : Int32 → fd_St → fd_St → Option Int32) (n : Nat) (hK9 : ∀ (i : Int32) (σ μ : fd_St) (cl sl : Nat) (H : Heap) (locs : List Loc) (ls : Array Slot), cl + n ≤ 1116 → sl + 6 * n ≤ 18645 → va_P D vwCl (fd_WH a k σ) H → va_P D vwCl (fd_WM a2 k2 μ) H → va_S (fun q => s.heap.size ≤ q) s.heap H locs → lv_has ls 8 [(0, .ref b), (1, .ref (a 0)), (2, .ref (a2 0)), (3, .ref (a 39)), (4, .int i)] → K i σ μ = some 1 → W p l e room_1 s m #[Value.ref b] below meth c H locs cl sl (lw_Z below #[Value.ref b] s) (F0 m 23 ls [])) : ∀ (i : Int32) (σ μ : fd_St) (cl sl : Nat) (H : Heap) (locs : List Loc) (ls : Array Slot), cl + (n + 1) ≤ 1116 → sl + 6 * (n + 1) ≤ 18645 → va_P D vwCl (fd_WH a k σ) H → va_P D vwCl (fd_WM a2 k2 μ) H → va_S (fun q => s.heap.size ≤ q) s.heap H locs → lv_has ls 8 [(0, .ref b), (1, .ref (a 0)), (2, .ref (a2 0)), (3, .ref (a 39)), (4, .int i)] → f_law_c21 N L xs K i σ μ = some 1 → W p l e room_1 s m #[Value.ref b] below meth c H locs cl sl (lw_Z below #[Value.ref b] s) (F0 m 1050 ls []) := by
  obtain ⟨⟨hx, hb, hr, hml, hown, hts0, hX, hbl, hlocks, hgv⟩, hl9, hI, hI2, hJ, hJ2, hdis, hK, hK2, hZ⟩ := C0
  have hown : s.vm.findClass RL = some m.cls := hown
  have hts : ∀ w ∈ fd_wl, w.before #[Value.ref b] s = true := fun w h => hts0 w (fd_wl_in w h)
  have hA : ∀ q : Nat, s.heap.size ≤ q → (fun q : Nat => s.heap.size ≤ q) q := fun _ h => h
  have hbA : ¬ (fun q : Nat => s.heap.size ≤ q) b := Nat.not_le.mpr hbl
  intro i σ μ cl sl H locs ls hcl hsl hP hQ hS hl hf
  unfold f_law_c21 at hf
  refine lv_aload_n hx hb dL_law_1050 rfl (lv_at hl 1 rfl) ?_
  obtain ⟨w3, τ4, hc1, hf⟩ := fd_bds hf
  refine va_callv (va_runV (As := []) (rest := []) ⟨hx, hb, hml, hown, hts⟩ (m_X10_clear_0 l D a k H.size (fd_I40 hI) N σ _ hc1) (cwV 0 hts gL_law_X10_clear rfl rfl rfl (by decide +kernel) ⟨Nat.le_of_ble_eq_true rfl, Nat.le_of_ble_eq_true rfl⟩) ⟨fd_blC, va_recv (fd_HK hK) (fd_HC hP) (ci := 10) (q0 := 0) rfl fd_WC_0, fd_prC (fd_HC hP) (fd_HK hK)⟩ rfl rfl hl.1 rfl (lv_room (Nat.le_of_ble_eq_true rfl)) dL_law_1051 ⟨by show cl + 0 ≤ 1116; omega, by show sl + 0 ≤ 18645; omega⟩) hS (fun q _ h => fd_AL3 hJ hS.1 h) (fun q h => fd_AL3 hJ hS.1 h) (fun u t H1 locs ht hvm hw hB hz hk hS => ?_)
  obtain ⟨hP1, hK1⟩ := hB
  rw [ht] at hP1
  have e2 := (Prod.mk.inj hw).2
  subst e2
  obtain ⟨σ5, rfl⟩ : ∃ z, z = u := ⟨_, rfl⟩
  obtain ⟨σ6, eσ6, hf⟩ := fd_lts hf
  have hQ := fd_kM3 hdis hJ hQ hz hk
  have hP : va_P D vwCl (fd_WH a k σ6) H1 := by rw [eσ6]; exact fd_HJ hI hP hP1 hk
  generalize H1 = H at hP hQ hS ⊢
  refine W.cs (cells' := cl) (slots' := sl) rfl rfl ?_
  refine lv_aload_n hx hb dL_law_1054 rfl (lv_at hl 2 rfl) ?_
  obtain ⟨w9, τ10, hc7, hf⟩ := fd_bds hf
  refine va_callv (va_runV (As := []) (rest := []) ⟨hx, hb, hml, hown, hts⟩ (m_X11_clear_0 l D a2 k2 H.size hI2 N μ _ hc7) (cwV 0 hts gL_law_X11_clear rfl rfl rfl (by decide +kernel) ⟨Nat.le_of_ble_eq_true rfl, Nat.le_of_ble_eq_true rfl⟩) ⟨fd_blM, va_recv hK2 hQ (ci := 11) (q0 := 0) rfl fd_WM_0, fd_prM hQ hK2⟩ rfl rfl hl.1 rfl (lv_room (Nat.le_of_ble_eq_true rfl)) dL_law_1055 ⟨by show cl + 0 ≤ 1116; omega, by show sl + 0 ≤ 18645; omega⟩) hS (fun q _ h => fd_AL hJ2 hS.1 h) (fun q h => fd_AL hJ2 hS.1 h) (fun u t H1 locs ht hvm hw hB hz hk hS => ?_)
  obtain ⟨hP1, hK1⟩ := hB
  rw [ht] at hP1
  have e2 := (Prod.mk.inj hw).2
  subst e2
  obtain ⟨σ11, rfl⟩ : ∃ z, z = u := ⟨_, rfl⟩
  have hP := fd_kH hdis hP hz hk
  have hQ := hP1
  generalize H1 = H at hP hQ hS ⊢
  refine W.cs (cells' := cl) (slots' := sl) rfl rfl ?_
  refine lv_goto (tgt := 1061) hx hb dL_law_1058 (by decide) ?_
  obtain ⟨x12, ex12, hf⟩ := fd_lts hf
  refine lv_iinc (v := x12) (lv' := [(4, .int x12), (0, .ref b), (1, .ref (a 0)), (2, .ref (a2 0)), (3, .ref (a 39))]) hx hb dL_law_1061 hl (k := 4) rfl (by rw [ex12]; rfl) (by decide) rfl (fun ls hl => ?_)
  refine lv_goto (tgt := 23) hx hb dL_law_1064 (by decide) ?_
  exact hK9 _ _ _ _ _ _ _ _ (by omega) (by omega) hP hQ hS (lv_sub hl [1, 2, 3, 4, 0] rfl) hf
