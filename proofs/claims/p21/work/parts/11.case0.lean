noncomputable def f_law_c0 (N L : Nat) (xs : Nat → Int32) (K : Int32 → fd_St → fd_St → Option Int32) (i : Int32) (σ μ : fd_St) : Option Int32 := fd_bd (f_L_input_0_39 N σ) (fun v2 σ5 => fd_bd (f_X11_input_0 N μ) (fun v7 σ10 => fd_lt (i + (6 : Int32)) (fun x11 => K x11 σ5 σ10)))
set_option maxHeartbeats 4000000 in
set_option maxRecDepth 100000 in
theorem law_c0 {p : Program} {l : Launch} {e : Env} {s : State} {m : MethodId} {below : List Frame} {meth : Method} {c : Code} {D : va_G} {a a2 : Nat → Nat} {k k2 : Nat → ClassId} {b L : Nat} {xs : Nat → Int32} (C0 : fd_Cx p l s m meth c D a a2 k k2 b L xs) (N : Nat) (K : Int32 → fd_St → fd_St → Option Int32) (n : Nat) (hK9 : ∀ (i : Int32) (σ μ : fd_St) (cl sl : Nat) (H : Heap) (locs : List Loc) (ls : Array Slot), cl + n ≤ 1116 → sl + 6 * n ≤ 18645 → va_P D vwCl (fd_WH a k σ) H → va_P D vwCl (fd_WM a2 k2 μ) H → va_S (fun q => s.heap.size ≤ q) s.heap H locs → lv_has ls 8 [(0, .ref b), (1, .ref (a 0)), (2, .ref (a2 0)), (3, .ref (a 39)), (4, .int i)] → K i σ μ = some 1 → W p l e room_1 s m #[Value.ref b] below meth c H locs cl sl (lw_Z below #[Value.ref b] s) (F0 m 23 ls [])) : ∀ (i : Int32) (σ μ : fd_St) (cl sl : Nat) (H : Heap) (locs : List Loc) (ls : Array Slot), cl + (n + 1) ≤ 1116 → sl + 6 * (n + 1) ≤ 18645 → va_P D vwCl (fd_WH a k σ) H → va_P D vwCl (fd_WM a2 k2 μ) H → va_S (fun q => s.heap.size ≤ q) s.heap H locs → lv_has ls 8 [(0, .ref b), (1, .ref (a 0)), (2, .ref (a2 0)), (3, .ref (a 39)), (4, .int i)] → f_law_c0 N L xs K i σ μ = some 1 → W p l e room_1 s m #[Value.ref b] below meth c H locs cl sl (lw_Z below #[Value.ref b] s) (F0 m 144 ls []) := by
  obtain ⟨⟨hx, hb, hr, hml, hown, hts0, hX, hbl, hlocks, hgv⟩, hl9, hI, hI2, hJ, hJ2, hdis, hK, hK2, hZ⟩ := C0
  have hown : s.vm.findClass RL = some m.cls := hown
  have hts : ∀ w ∈ fd_wl, w.before #[Value.ref b] s = true := fun w h => hts0 w (fd_wl_in w h)
  have hA : ∀ q : Nat, s.heap.size ≤ q → (fun q : Nat => s.heap.size ≤ q) q := fun _ h => h
  have hbA : ¬ (fun q : Nat => s.heap.size ≤ q) b := Nat.not_le.mpr hbl
  intro i σ μ cl sl H locs ls hcl hsl hP hQ hS hl hf
  unfold f_law_c0 at hf
  refine lv_aload_n hx hb dL_law_144 rfl (lv_at hl 1 rfl) ?_
  refine lv_aload_n hx hb dL_law_145 rfl (lv_at hl 3 rfl) ?_
  obtain ⟨w3, τ4, hc1, hf⟩ := fd_bds hf
  refine va_calli (vx_runSW (As := [.ref (a 0), .ref (a 39)]) (rest := []) ⟨hx, hb, hml, hown, hts⟩ (m_L_input_0_39 l hl9 D a k H.size hI N σ _ hc1) (vx_cwSW 2 hts gL_law_L_input rfl rfl rfl (by decide +kernel) ⟨Nat.le_of_ble_eq_true rfl, Nat.le_of_ble_eq_true rfl⟩) ⟨fd_blH, fd_prL hP hK hZ hS hJ⟩ rfl rfl hl.1 rfl (lv_room (Nat.le_of_ble_eq_true rfl)) dL_law_146 ⟨by show cl + 1 ≤ 1116; omega, by show sl + 6 ≤ 18645; omega⟩) hS (fun q _ h => fd_AL hJ hS.1 h) (fun q h => fd_AL hJ hS.1 h) (fun v2 u t H1 locs ht hvm hw hB hz hk hS => ?_)
  obtain ⟨hP1, hK1⟩ := hB
  rw [ht] at hP1
  obtain ⟨e1, e2⟩ := Prod.mk.inj hw
  subst e1
  subst e2
  obtain ⟨σ5, rfl⟩ : ∃ z, z = u := ⟨_, rfl⟩
  have hQ := fd_kM hdis hJ hQ hz hk
  have hP := hP1
  generalize H1 = H at hP hQ hS ⊢
  refine W.cs (cells' := cl + 1) (slots' := sl + 6) rfl rfl ?_
  refine lv_istore (lv' := [(5, .int v2), (0, .ref b), (1, .ref (a 0)), (2, .ref (a2 0)), (3, .ref (a 39)), (4, .int i)]) hx hb dL_law_149 hl (by decide) rfl (fun ls hl => ?_)
  refine lv_aload_n hx hb dL_law_151 rfl (lv_at hl 3 rfl) ?_
  obtain ⟨w8, τ9, hc6, hf⟩ := fd_bds hf
  refine va_calli (va_runV (As := []) (rest := []) ⟨hx, hb, hml, hown, hts⟩ (m_X11_input_0 l D a2 k2 H.size hI2 N μ _ hc6) (cwV 0 hts gL_law_X11_input rfl rfl rfl (by decide +kernel) ⟨Nat.le_of_ble_eq_true rfl, Nat.le_of_ble_eq_true rfl⟩) ⟨fd_blM, va_recv hK2 hQ (ci := 11) (q0 := 0) rfl fd_WM_0, fd_prM hQ hK2⟩ rfl rfl hl.1 rfl (lv_room (Nat.le_of_ble_eq_true rfl)) dL_law_152 ⟨by show cl + 1 + 0 ≤ 1116; omega, by show sl + 6 + 0 ≤ 18645; omega⟩) hS (fun q _ h => fd_AL hJ2 hS.1 h) (fun q h => fd_AL hJ2 hS.1 h) (fun v7 u t H1 locs ht hvm hw hB hz hk hS => ?_)
  obtain ⟨hP1, hK1⟩ := hB
  rw [ht] at hP1
  obtain ⟨e1, e2⟩ := Prod.mk.inj hw
  subst e1
  subst e2
  obtain ⟨σ10, rfl⟩ : ∃ z, z = u := ⟨_, rfl⟩
  have hP := fd_kH hdis hP hz hk
  have hQ := hP1
  generalize H1 = H at hP hQ hS ⊢
  refine W.cs (cells' := cl + 1) (slots' := sl + 6) rfl rfl ?_
  refine lv_istore (lv' := [(6, .int v7), (5, .int v2), (0, .ref b), (1, .ref (a 0)), (2, .ref (a2 0)), (3, .ref (a 39)), (4, .int i)]) hx hb dL_law_155 hl (by decide) rfl (fun ls hl => ?_)
  refine lv_goto (tgt := 1061) hx hb dL_law_157 (by decide) ?_
  obtain ⟨x11, ex11, hf⟩ := fd_lts hf
  refine lv_iinc (v := x11) (lv' := [(4, .int x11), (6, .int v7), (5, .int v2), (0, .ref b), (1, .ref (a 0)), (2, .ref (a2 0)), (3, .ref (a 39))]) hx hb dL_law_1061 hl (k := 6) rfl (by rw [ex11]; rfl) (by decide) rfl (fun ls hl => ?_)
  refine lv_goto (tgt := 23) hx hb dL_law_1064 (by decide) ?_
  exact hK9 _ _ _ _ _ _ _ _ (by omega) (by omega) hP hQ hS (lv_sub hl [3, 4, 5, 6, 0] rfl) hf
noncomputable def f_law_c1 (N L : Nat) (xs : Nat → Int32) (K : Int32 → fd_St → fd_St → Option Int32) (i : Int32) (σ μ : fd_St) : Option Int32 := fd_gd (vp_in (i + (1 : Int32)) L) (fd_gd (vp_in (i + (2 : Int32)) L) (fd_gd (vp_in (i + (3 : Int32)) L) (fd_bd (f_L_gate_0_39 N (xs (i + (1 : Int32)).toNatClampNeg) (xs (i + (2 : Int32)).toNatClampNeg) (xs (i + (3 : Int32)).toNatClampNeg) σ) (fun v5 σ8 => fd_gd (vp_in (i + (1 : Int32)) L) (fd_gd (vp_in (i + (2 : Int32)) L) (fd_gd (vp_in (i + (3 : Int32)) L) (fd_bd (f_X11_gate_0 N (xs (i + (1 : Int32)).toNatClampNeg) (xs (i + (2 : Int32)).toNatClampNeg) (xs (i + (3 : Int32)).toNatClampNeg) μ) (fun v13 σ16 => fd_lt (i + (6 : Int32)) (fun x17 => K x17 σ8 σ16)))))))))
set_option maxHeartbeats 4000000 in
set_option maxRecDepth 100000 in
theorem law_c1 {p : Program} {l : Launch} {e : Env} {s : State} {m : MethodId} {below : List Frame} {meth : Method} {c : Code} {D : va_G} {a a2 : Nat → Nat} {k k2 : Nat → ClassId} {b L : Nat} {xs : Nat → Int32} (C0 : fd_Cx p l s m meth c D a a2 k k2 b L xs) (N : Nat) (K : Int32 → fd_St → fd_St → Option Int32) (n : Nat) (hK9 : ∀ (i : Int32) (σ μ : fd_St) (cl sl : Nat) (H : Heap) (locs : List Loc) (ls : Array Slot), cl + n ≤ 1116 → sl + 6 * n ≤ 18645 → va_P D vwCl (fd_WH a k σ) H → va_P D vwCl (fd_WM a2 k2 μ) H → va_S (fun q => s.heap.size ≤ q) s.heap H locs → lv_has ls 8 [(0, .ref b), (1, .ref (a 0)), (2, .ref (a2 0)), (3, .ref (a 39)), (4, .int i)] → K i σ μ = some 1 → W p l e room_1 s m #[Value.ref b] below meth c H locs cl sl (lw_Z below #[Value.ref b] s) (F0 m 23 ls [])) : ∀ (i : Int32) (σ μ : fd_St) (cl sl : Nat) (H : Heap) (locs : List Loc) (ls : Array Slot), cl + (n + 1) ≤ 1116 → sl + 6 * (n + 1) ≤ 18645 → va_P D vwCl (fd_WH a k σ) H → va_P D vwCl (fd_WM a2 k2 μ) H → va_S (fun q => s.heap.size ≤ q) s.heap H locs → lv_has ls 8 [(0, .ref b), (1, .ref (a 0)), (2, .ref (a2 0)), (3, .ref (a 39)), (4, .int i)] → f_law_c1 N L xs K i σ μ = some 1 → W p l e room_1 s m #[Value.ref b] below meth c H locs cl sl (lw_Z below #[Value.ref b] s) (F0 m 160 ls []) := by
  obtain ⟨⟨hx, hb, hr, hml, hown, hts0, hX, hbl, hlocks, hgv⟩, hl9, hI, hI2, hJ, hJ2, hdis, hK, hK2, hZ⟩ := C0
  have hown : s.vm.findClass RL = some m.cls := hown
  have hts : ∀ w ∈ fd_wl, w.before #[Value.ref b] s = true := fun w h => hts0 w (fd_wl_in w h)
  have hA : ∀ q : Nat, s.heap.size ≤ q → (fun q : Nat => s.heap.size ≤ q) q := fun _ h => h
  have hbA : ¬ (fun q : Nat => s.heap.size ≤ q) b := Nat.not_le.mpr hbl
  intro i σ μ cl sl H locs ls hcl hsl hP hQ hS hl hf
  unfold f_law_c1 at hf
  refine lv_aload_n hx hb dL_law_160 rfl (lv_at hl 1 rfl) ?_
  refine lv_aload_n hx hb dL_law_161 rfl (lv_at hl 0 rfl) ?_
  refine lv_iload hx hb dL_law_162 (lv_at hl 4 rfl) ?_
  refine lv_iconst (v := (1 : Int32)) hx hb dL_law_164 (by decide) ?_
  refine lv_iadd hx hb dL_law_165 ?_
  obtain ⟨g1, hf⟩ := fd_gds hf
  refine va_sld hx hb hX hbl hbA hS g1 dL_law_166 ?_
  refine lv_aload_n hx hb dL_law_167 rfl (lv_at hl 0 rfl) ?_
  refine lv_iload hx hb dL_law_168 (lv_at hl 4 rfl) ?_
  refine lv_iconst (v := (2 : Int32)) hx hb dL_law_170 (by decide) ?_
  refine lv_iadd hx hb dL_law_171 ?_
  obtain ⟨g2, hf⟩ := fd_gds hf
  refine va_sld hx hb hX hbl hbA hS g2 dL_law_172 ?_
  refine lv_aload_n hx hb dL_law_173 rfl (lv_at hl 0 rfl) ?_
  refine lv_iload hx hb dL_law_174 (lv_at hl 4 rfl) ?_
  refine lv_iconst (v := (3 : Int32)) hx hb dL_law_176 (by decide) ?_
  refine lv_iadd hx hb dL_law_177 ?_
  obtain ⟨g3, hf⟩ := fd_gds hf
  refine va_sld hx hb hX hbl hbA hS g3 dL_law_178 ?_
  refine lv_aload_n hx hb dL_law_179 rfl (lv_at hl 3 rfl) ?_
  obtain ⟨w6, τ7, hc4, hf⟩ := fd_bds hf
  refine va_calli (vx_runSW (As := [.ref (a 0), .int (xs (i + (1 : Int32)).toNatClampNeg), .int (xs (i + (2 : Int32)).toNatClampNeg), .int (xs (i + (3 : Int32)).toNatClampNeg), .ref (a 39)]) (rest := []) ⟨hx, hb, hml, hown, hts⟩ (m_L_gate_0_39 l hl9 D a k H.size hI N (xs (i + (1 : Int32)).toNatClampNeg) (xs (i + (2 : Int32)).toNatClampNeg) (xs (i + (3 : Int32)).toNatClampNeg) σ _ hc4) (vx_cwSW 5 hts gL_law_L_gate rfl rfl rfl (by decide +kernel) ⟨Nat.le_of_ble_eq_true rfl, Nat.le_of_ble_eq_true rfl⟩) ⟨fd_blH, fd_prL hP hK hZ hS hJ⟩ rfl rfl hl.1 rfl (lv_room (Nat.le_of_ble_eq_true rfl)) dL_law_180 ⟨by show cl + 1 ≤ 1116; omega, by show sl + 6 ≤ 18645; omega⟩) hS (fun q _ h => fd_AL hJ hS.1 h) (fun q h => fd_AL hJ hS.1 h) (fun v5 u t H1 locs ht hvm hw hB hz hk hS => ?_)
  obtain ⟨hP1, hK1⟩ := hB
  rw [ht] at hP1
  obtain ⟨e1, e2⟩ := Prod.mk.inj hw
  subst e1
  subst e2
  obtain ⟨σ8, rfl⟩ : ∃ z, z = u := ⟨_, rfl⟩
  have hQ := fd_kM hdis hJ hQ hz hk
  have hP := hP1
  generalize H1 = H at hP hQ hS ⊢
  refine W.cs (cells' := cl + 1) (slots' := sl + 6) rfl rfl ?_
  refine lv_istore (lv' := [(5, .int v5), (0, .ref b), (1, .ref (a 0)), (2, .ref (a2 0)), (3, .ref (a 39)), (4, .int i)]) hx hb dL_law_183 hl (by decide) rfl (fun ls hl => ?_)
  refine lv_aload_n hx hb dL_law_185 rfl (lv_at hl 3 rfl) ?_
  refine lv_aload_n hx hb dL_law_186 rfl (lv_at hl 1 rfl) ?_
  refine lv_iload hx hb dL_law_187 (lv_at hl 5 rfl) ?_
  refine lv_iconst (v := (1 : Int32)) hx hb dL_law_189 (by decide) ?_
  refine lv_iadd hx hb dL_law_190 ?_
  obtain ⟨g9, hf⟩ := fd_gds hf
  refine va_sld hx hb hX hbl hbA hS g9 dL_law_191 ?_
  refine lv_aload_n hx hb dL_law_192 rfl (lv_at hl 1 rfl) ?_
  refine lv_iload hx hb dL_law_193 (lv_at hl 5 rfl) ?_
  refine lv_iconst (v := (2 : Int32)) hx hb dL_law_195 (by decide) ?_
  refine lv_iadd hx hb dL_law_196 ?_
  obtain ⟨g10, hf⟩ := fd_gds hf
  refine va_sld hx hb hX hbl hbA hS g10 dL_law_197 ?_
  refine lv_aload_n hx hb dL_law_198 rfl (lv_at hl 1 rfl) ?_
  refine lv_iload hx hb dL_law_199 (lv_at hl 5 rfl) ?_
  refine lv_iconst (v := (3 : Int32)) hx hb dL_law_201 (by decide) ?_
  refine lv_iadd hx hb dL_law_202 ?_
  obtain ⟨g11, hf⟩ := fd_gds hf
  refine va_sld hx hb hX hbl hbA hS g11 dL_law_203 ?_
  obtain ⟨w14, τ15, hc12, hf⟩ := fd_bds hf
  refine va_calli (va_runV (As := [.int (xs (i + (1 : Int32)).toNatClampNeg), .int (xs (i + (2 : Int32)).toNatClampNeg), .int (xs (i + (3 : Int32)).toNatClampNeg)]) (rest := []) ⟨hx, hb, hml, hown, hts⟩ (m_X11_gate_0 l D a2 k2 H.size hI2 N (xs (i + (1 : Int32)).toNatClampNeg) (xs (i + (2 : Int32)).toNatClampNeg) (xs (i + (3 : Int32)).toNatClampNeg) μ _ hc12) (cwV 3 hts gL_law_X11_gate rfl rfl rfl (by decide +kernel) ⟨Nat.le_of_ble_eq_true rfl, Nat.le_of_ble_eq_true rfl⟩) ⟨fd_blM, va_recv hK2 hQ (ci := 11) (q0 := 0) rfl fd_WM_0, fd_prM hQ hK2⟩ rfl rfl hl.1 rfl (lv_room (Nat.le_of_ble_eq_true rfl)) dL_law_204 ⟨by show cl + 1 + 0 ≤ 1116; omega, by show sl + 6 + 0 ≤ 18645; omega⟩) hS (fun q _ h => fd_AL hJ2 hS.1 h) (fun q h => fd_AL hJ2 hS.1 h) (fun v13 u t H1 locs ht hvm hw hB hz hk hS => ?_)
  obtain ⟨hP1, hK1⟩ := hB
  rw [ht] at hP1
  obtain ⟨e1, e2⟩ := Prod.mk.inj hw
  subst e1
  subst e2
  obtain ⟨σ16, rfl⟩ : ∃ z, z = u := ⟨_, rfl⟩
  have hP := fd_kH hdis hP hz hk
  have hQ := hP1
  generalize H1 = H at hP hQ hS ⊢
  refine W.cs (cells' := cl + 1) (slots' := sl + 6) rfl rfl ?_
  refine lv_istore (lv' := [(6, .int v13), (5, .int v5), (0, .ref b), (1, .ref (a 0)), (2, .ref (a2 0)), (3, .ref (a 39)), (4, .int i)]) hx hb dL_law_207 hl (by decide) rfl (fun ls hl => ?_)
  refine lv_goto (tgt := 1061) hx hb dL_law_209 (by decide) ?_
  obtain ⟨x17, ex17, hf⟩ := fd_lts hf
  refine lv_iinc (v := x17) (lv' := [(4, .int x17), (6, .int v13), (5, .int v5), (0, .ref b), (1, .ref (a 0)), (2, .ref (a2 0)), (3, .ref (a 39))]) hx hb dL_law_1061 hl (k := 6) rfl (by rw [ex17]; rfl) (by decide) rfl (fun ls hl => ?_)
  refine lv_goto (tgt := 23) hx hb dL_law_1064 (by decide) ?_
  exact hK9 _ _ _ _ _ _ _ _ (by omega) (by omega) hP hQ hS (lv_sub hl [3, 4, 5, 6, 0] rfl) hf
noncomputable def f_law_c2 (N L : Nat) (xs : Nat → Int32) (K : Int32 → fd_St → fd_St → Option Int32) (i : Int32) (σ μ : fd_St) : Option Int32 := fd_gd (vp_in (i + (1 : Int32)) L) (fd_bd (f_L_output_0_39 N (xs (i + (1 : Int32)).toNatClampNeg) σ) (fun v3 σ6 => fd_gd (vp_in (i + (1 : Int32)) L) (fd_bd (f_X11_output_0 N (xs (i + (1 : Int32)).toNatClampNeg) μ) (fun v9 σ12 => fd_lt (i + (6 : Int32)) (fun x13 => K x13 σ6 σ12)))))
set_option maxHeartbeats 4000000 in
set_option maxRecDepth 100000 in
theorem law_c2 {p : Program} {l : Launch} {e : Env} {s : State} {m : MethodId} {below : List Frame} {meth : Method} {c : Code} {D : va_G} {a a2 : Nat → Nat} {k k2 : Nat → ClassId} {b L : Nat} {xs : Nat → Int32} (C0 : fd_Cx p l s m meth c D a a2 k k2 b L xs) (N : Nat) (K : Int32 → fd_St → fd_St → Option Int32) (n : Nat) (hK9 : ∀ (i : Int32) (σ μ : fd_St) (cl sl : Nat) (H : Heap) (locs : List Loc) (ls : Array Slot), cl + n ≤ 1116 → sl + 6 * n ≤ 18645 → va_P D vwCl (fd_WH a k σ) H → va_P D vwCl (fd_WM a2 k2 μ) H → va_S (fun q => s.heap.size ≤ q) s.heap H locs → lv_has ls 8 [(0, .ref b), (1, .ref (a 0)), (2, .ref (a2 0)), (3, .ref (a 39)), (4, .int i)] → K i σ μ = some 1 → W p l e room_1 s m #[Value.ref b] below meth c H locs cl sl (lw_Z below #[Value.ref b] s) (F0 m 23 ls [])) : ∀ (i : Int32) (σ μ : fd_St) (cl sl : Nat) (H : Heap) (locs : List Loc) (ls : Array Slot), cl + (n + 1) ≤ 1116 → sl + 6 * (n + 1) ≤ 18645 → va_P D vwCl (fd_WH a k σ) H → va_P D vwCl (fd_WM a2 k2 μ) H → va_S (fun q => s.heap.size ≤ q) s.heap H locs → lv_has ls 8 [(0, .ref b), (1, .ref (a 0)), (2, .ref (a2 0)), (3, .ref (a 39)), (4, .int i)] → f_law_c2 N L xs K i σ μ = some 1 → W p l e room_1 s m #[Value.ref b] below meth c H locs cl sl (lw_Z below #[Value.ref b] s) (F0 m 212 ls []) := by
  obtain ⟨⟨hx, hb, hr, hml, hown, hts0, hX, hbl, hlocks, hgv⟩, hl9, hI, hI2, hJ, hJ2, hdis, hK, hK2, hZ⟩ := C0
  have hown : s.vm.findClass RL = some m.cls := hown
  have hts : ∀ w ∈ fd_wl, w.before #[Value.ref b] s = true := fun w h => hts0 w (fd_wl_in w h)
  have hA : ∀ q : Nat, s.heap.size ≤ q → (fun q : Nat => s.heap.size ≤ q) q := fun _ h => h
  have hbA : ¬ (fun q : Nat => s.heap.size ≤ q) b := Nat.not_le.mpr hbl
  intro i σ μ cl sl H locs ls hcl hsl hP hQ hS hl hf
  unfold f_law_c2 at hf
  refine lv_aload_n hx hb dL_law_212 rfl (lv_at hl 1 rfl) ?_
  refine lv_aload_n hx hb dL_law_213 rfl (lv_at hl 0 rfl) ?_
  refine lv_iload hx hb dL_law_214 (lv_at hl 4 rfl) ?_
  refine lv_iconst (v := (1 : Int32)) hx hb dL_law_216 (by decide) ?_
  refine lv_iadd hx hb dL_law_217 ?_
  obtain ⟨g1, hf⟩ := fd_gds hf
  refine va_sld hx hb hX hbl hbA hS g1 dL_law_218 ?_
  refine lv_aload_n hx hb dL_law_219 rfl (lv_at hl 3 rfl) ?_
  obtain ⟨w4, τ5, hc2, hf⟩ := fd_bds hf
  refine va_calli (vx_runSW (As := [.ref (a 0), .int (xs (i + (1 : Int32)).toNatClampNeg), .ref (a 39)]) (rest := []) ⟨hx, hb, hml, hown, hts⟩ (m_L_output_0_39 l hl9 D a k H.size hI N (xs (i + (1 : Int32)).toNatClampNeg) σ _ hc2) (vx_cwSW 3 hts gL_law_L_output rfl rfl rfl (by decide +kernel) ⟨Nat.le_of_ble_eq_true rfl, Nat.le_of_ble_eq_true rfl⟩) ⟨fd_blH, fd_prL hP hK hZ hS hJ⟩ rfl rfl hl.1 rfl (lv_room (Nat.le_of_ble_eq_true rfl)) dL_law_220 ⟨by show cl + 1 ≤ 1116; omega, by show sl + 6 ≤ 18645; omega⟩) hS (fun q _ h => fd_AL hJ hS.1 h) (fun q h => fd_AL hJ hS.1 h) (fun v3 u t H1 locs ht hvm hw hB hz hk hS => ?_)
  obtain ⟨hP1, hK1⟩ := hB
  rw [ht] at hP1
  obtain ⟨e1, e2⟩ := Prod.mk.inj hw
  subst e1
  subst e2
  obtain ⟨σ6, rfl⟩ : ∃ z, z = u := ⟨_, rfl⟩
  have hQ := fd_kM hdis hJ hQ hz hk
  have hP := hP1
  generalize H1 = H at hP hQ hS ⊢
  refine W.cs (cells' := cl + 1) (slots' := sl + 6) rfl rfl ?_
  refine lv_istore (lv' := [(5, .int v3), (0, .ref b), (1, .ref (a 0)), (2, .ref (a2 0)), (3, .ref (a 39)), (4, .int i)]) hx hb dL_law_223 hl (by decide) rfl (fun ls hl => ?_)
  refine lv_aload_n hx hb dL_law_225 rfl (lv_at hl 3 rfl) ?_
  refine lv_aload_n hx hb dL_law_226 rfl (lv_at hl 1 rfl) ?_
  refine lv_iload hx hb dL_law_227 (lv_at hl 5 rfl) ?_
  refine lv_iconst (v := (1 : Int32)) hx hb dL_law_229 (by decide) ?_
  refine lv_iadd hx hb dL_law_230 ?_
  obtain ⟨g7, hf⟩ := fd_gds hf
  refine va_sld hx hb hX hbl hbA hS g7 dL_law_231 ?_
  obtain ⟨w10, τ11, hc8, hf⟩ := fd_bds hf
  refine va_calli (va_runV (As := [.int (xs (i + (1 : Int32)).toNatClampNeg)]) (rest := []) ⟨hx, hb, hml, hown, hts⟩ (m_X11_output_0 l D a2 k2 H.size hI2 N (xs (i + (1 : Int32)).toNatClampNeg) μ _ hc8) (cwV 1 hts gL_law_X11_output rfl rfl rfl (by decide +kernel) ⟨Nat.le_of_ble_eq_true rfl, Nat.le_of_ble_eq_true rfl⟩) ⟨fd_blM, va_recv hK2 hQ (ci := 11) (q0 := 0) rfl fd_WM_0, fd_prM hQ hK2⟩ rfl rfl hl.1 rfl (lv_room (Nat.le_of_ble_eq_true rfl)) dL_law_232 ⟨by show cl + 1 + 0 ≤ 1116; omega, by show sl + 6 + 0 ≤ 18645; omega⟩) hS (fun q _ h => fd_AL hJ2 hS.1 h) (fun q h => fd_AL hJ2 hS.1 h) (fun v9 u t H1 locs ht hvm hw hB hz hk hS => ?_)
  obtain ⟨hP1, hK1⟩ := hB
  rw [ht] at hP1
  obtain ⟨e1, e2⟩ := Prod.mk.inj hw
  subst e1
  subst e2
  obtain ⟨σ12, rfl⟩ : ∃ z, z = u := ⟨_, rfl⟩
  have hP := fd_kH hdis hP hz hk
  have hQ := hP1
  generalize H1 = H at hP hQ hS ⊢
  refine W.cs (cells' := cl + 1) (slots' := sl + 6) rfl rfl ?_
  refine lv_istore (lv' := [(6, .int v9), (5, .int v3), (0, .ref b), (1, .ref (a 0)), (2, .ref (a2 0)), (3, .ref (a 39)), (4, .int i)]) hx hb dL_law_235 hl (by decide) rfl (fun ls hl => ?_)
  refine lv_goto (tgt := 1061) hx hb dL_law_237 (by decide) ?_
  obtain ⟨x13, ex13, hf⟩ := fd_lts hf
  refine lv_iinc (v := x13) (lv' := [(4, .int x13), (6, .int v9), (5, .int v3), (0, .ref b), (1, .ref (a 0)), (2, .ref (a2 0)), (3, .ref (a 39))]) hx hb dL_law_1061 hl (k := 6) rfl (by rw [ex13]; rfl) (by decide) rfl (fun ls hl => ?_)
  refine lv_goto (tgt := 23) hx hb dL_law_1064 (by decide) ?_
  exact hK9 _ _ _ _ _ _ _ _ (by omega) (by omega) hP hQ hS (lv_sub hl [3, 4, 5, 6, 0] rfl) hf
noncomputable def f_law_c3 (N L : Nat) (xs : Nat → Int32) (K : Int32 → fd_St → fd_St → Option Int32) (i : Int32) (σ μ : fd_St) : Option Int32 := fd_gd (vp_in (i + (1 : Int32)) L) (fd_bd (f_L_patterns_0_39 N (xs (i + (1 : Int32)).toNatClampNeg) σ) (fun v3 σ6 => fd_gd (vp_in (i + (1 : Int32)) L) (fd_bd (f_X11_patterns_0 N (xs (i + (1 : Int32)).toNatClampNeg) μ) (fun v9 σ12 => fd_lt (i + (6 : Int32)) (fun x13 => K x13 σ6 σ12)))))
set_option maxHeartbeats 4000000 in
set_option maxRecDepth 100000 in
theorem law_c3 {p : Program} {l : Launch} {e : Env} {s : State} {m : MethodId} {below : List Frame} {meth : Method} {c : Code} {D : va_G} {a a2 : Nat → Nat} {k k2 : Nat → ClassId} {b L : Nat} {xs : Nat → Int32} (C0 : fd_Cx p l s m meth c D a a2 k k2 b L xs) (N : Nat) (K : Int32 → fd_St → fd_St → Option Int32) (n : Nat) (hK9 : ∀ (i : Int32) (σ μ : fd_St) (cl sl : Nat) (H : Heap) (locs : List Loc) (ls : Array Slot), cl + n ≤ 1116 → sl + 6 * n ≤ 18645 → va_P D vwCl (fd_WH a k σ) H → va_P D vwCl (fd_WM a2 k2 μ) H → va_S (fun q => s.heap.size ≤ q) s.heap H locs → lv_has ls 8 [(0, .ref b), (1, .ref (a 0)), (2, .ref (a2 0)), (3, .ref (a 39)), (4, .int i)] → K i σ μ = some 1 → W p l e room_1 s m #[Value.ref b] below meth c H locs cl sl (lw_Z below #[Value.ref b] s) (F0 m 23 ls [])) : ∀ (i : Int32) (σ μ : fd_St) (cl sl : Nat) (H : Heap) (locs : List Loc) (ls : Array Slot), cl + (n + 1) ≤ 1116 → sl + 6 * (n + 1) ≤ 18645 → va_P D vwCl (fd_WH a k σ) H → va_P D vwCl (fd_WM a2 k2 μ) H → va_S (fun q => s.heap.size ≤ q) s.heap H locs → lv_has ls 8 [(0, .ref b), (1, .ref (a 0)), (2, .ref (a2 0)), (3, .ref (a 39)), (4, .int i)] → f_law_c3 N L xs K i σ μ = some 1 → W p l e room_1 s m #[Value.ref b] below meth c H locs cl sl (lw_Z below #[Value.ref b] s) (F0 m 240 ls []) := by
  obtain ⟨⟨hx, hb, hr, hml, hown, hts0, hX, hbl, hlocks, hgv⟩, hl9, hI, hI2, hJ, hJ2, hdis, hK, hK2, hZ⟩ := C0
  have hown : s.vm.findClass RL = some m.cls := hown
  have hts : ∀ w ∈ fd_wl, w.before #[Value.ref b] s = true := fun w h => hts0 w (fd_wl_in w h)
  have hA : ∀ q : Nat, s.heap.size ≤ q → (fun q : Nat => s.heap.size ≤ q) q := fun _ h => h
  have hbA : ¬ (fun q : Nat => s.heap.size ≤ q) b := Nat.not_le.mpr hbl
  intro i σ μ cl sl H locs ls hcl hsl hP hQ hS hl hf
  unfold f_law_c3 at hf
  refine lv_aload_n hx hb dL_law_240 rfl (lv_at hl 1 rfl) ?_
  refine lv_aload_n hx hb dL_law_241 rfl (lv_at hl 0 rfl) ?_
  refine lv_iload hx hb dL_law_242 (lv_at hl 4 rfl) ?_
  refine lv_iconst (v := (1 : Int32)) hx hb dL_law_244 (by decide) ?_
  refine lv_iadd hx hb dL_law_245 ?_
  obtain ⟨g1, hf⟩ := fd_gds hf
  refine va_sld hx hb hX hbl hbA hS g1 dL_law_246 ?_
  refine lv_aload_n hx hb dL_law_247 rfl (lv_at hl 3 rfl) ?_
  obtain ⟨w4, τ5, hc2, hf⟩ := fd_bds hf
  refine va_calli (vx_runSW (As := [.ref (a 0), .int (xs (i + (1 : Int32)).toNatClampNeg), .ref (a 39)]) (rest := []) ⟨hx, hb, hml, hown, hts⟩ (m_L_patterns_0_39 l hl9 D a k H.size hI N (xs (i + (1 : Int32)).toNatClampNeg) σ _ hc2) (vx_cwSW 3 hts gL_law_L_patterns rfl rfl rfl (by decide +kernel) ⟨Nat.le_of_ble_eq_true rfl, Nat.le_of_ble_eq_true rfl⟩) ⟨fd_blH, fd_prL hP hK hZ hS hJ⟩ rfl rfl hl.1 rfl (lv_room (Nat.le_of_ble_eq_true rfl)) dL_law_248 ⟨by show cl + 1 ≤ 1116; omega, by show sl + 6 ≤ 18645; omega⟩) hS (fun q _ h => fd_AL hJ hS.1 h) (fun q h => fd_AL hJ hS.1 h) (fun v3 u t H1 locs ht hvm hw hB hz hk hS => ?_)
  obtain ⟨hP1, hK1⟩ := hB
  rw [ht] at hP1
  obtain ⟨e1, e2⟩ := Prod.mk.inj hw
  subst e1
  subst e2
  obtain ⟨σ6, rfl⟩ : ∃ z, z = u := ⟨_, rfl⟩
  have hQ := fd_kM hdis hJ hQ hz hk
  have hP := hP1
  generalize H1 = H at hP hQ hS ⊢
  refine W.cs (cells' := cl + 1) (slots' := sl + 6) rfl rfl ?_
  refine lv_istore (lv' := [(5, .int v3), (0, .ref b), (1, .ref (a 0)), (2, .ref (a2 0)), (3, .ref (a 39)), (4, .int i)]) hx hb dL_law_251 hl (by decide) rfl (fun ls hl => ?_)
  refine lv_aload_n hx hb dL_law_253 rfl (lv_at hl 3 rfl) ?_
  refine lv_aload_n hx hb dL_law_254 rfl (lv_at hl 1 rfl) ?_
  refine lv_iload hx hb dL_law_255 (lv_at hl 5 rfl) ?_
  refine lv_iconst (v := (1 : Int32)) hx hb dL_law_257 (by decide) ?_
  refine lv_iadd hx hb dL_law_258 ?_
  obtain ⟨g7, hf⟩ := fd_gds hf
  refine va_sld hx hb hX hbl hbA hS g7 dL_law_259 ?_
  obtain ⟨w10, τ11, hc8, hf⟩ := fd_bds hf
  refine va_calli (va_runV (As := [.int (xs (i + (1 : Int32)).toNatClampNeg)]) (rest := []) ⟨hx, hb, hml, hown, hts⟩ (m_X11_patterns_0 l D a2 k2 H.size hI2 N (xs (i + (1 : Int32)).toNatClampNeg) μ _ hc8) (cwV 1 hts gL_law_X11_patterns rfl rfl rfl (by decide +kernel) ⟨Nat.le_of_ble_eq_true rfl, Nat.le_of_ble_eq_true rfl⟩) ⟨fd_blM, va_recv hK2 hQ (ci := 11) (q0 := 0) rfl fd_WM_0, fd_prM hQ hK2⟩ rfl rfl hl.1 rfl (lv_room (Nat.le_of_ble_eq_true rfl)) dL_law_260 ⟨by show cl + 1 + 0 ≤ 1116; omega, by show sl + 6 + 0 ≤ 18645; omega⟩) hS (fun q _ h => fd_AL hJ2 hS.1 h) (fun q h => fd_AL hJ2 hS.1 h) (fun v9 u t H1 locs ht hvm hw hB hz hk hS => ?_)
  obtain ⟨hP1, hK1⟩ := hB
  rw [ht] at hP1
  obtain ⟨e1, e2⟩ := Prod.mk.inj hw
  subst e1
  subst e2
  obtain ⟨σ12, rfl⟩ : ∃ z, z = u := ⟨_, rfl⟩
  have hP := fd_kH hdis hP hz hk
  have hQ := hP1
  generalize H1 = H at hP hQ hS ⊢
  refine W.cs (cells' := cl + 1) (slots' := sl + 6) rfl rfl ?_
  refine lv_istore (lv' := [(6, .int v9), (5, .int v3), (0, .ref b), (1, .ref (a 0)), (2, .ref (a2 0)), (3, .ref (a 39)), (4, .int i)]) hx hb dL_law_263 hl (by decide) rfl (fun ls hl => ?_)
  refine lv_goto (tgt := 1061) hx hb dL_law_265 (by decide) ?_
  obtain ⟨x13, ex13, hf⟩ := fd_lts hf
  refine lv_iinc (v := x13) (lv' := [(4, .int x13), (6, .int v9), (5, .int v3), (0, .ref b), (1, .ref (a 0)), (2, .ref (a2 0)), (3, .ref (a 39))]) hx hb dL_law_1061 hl (k := 6) rfl (by rw [ex13]; rfl) (by decide) rfl (fun ls hl => ?_)
  refine lv_goto (tgt := 23) hx hb dL_law_1064 (by decide) ?_
  exact hK9 _ _ _ _ _ _ _ _ (by omega) (by omega) hP hQ hS (lv_sub hl [3, 4, 5, 6, 0] rfl) hf
noncomputable def f_law_c4 (N L : Nat) (xs : Nat → Int32) (K : Int32 → fd_St → fd_St → Option Int32) (i : Int32) (σ μ : fd_St) : Option Int32 := fd_gd (vp_in (i + (1 : Int32)) L) (fd_gd (vp_in (i + (2 : Int32)) L) (fd_gd (vp_in (i + (3 : Int32)) L) (fd_bd (f_L_pattern_0_39 N (xs (i + (1 : Int32)).toNatClampNeg) ((((xs (i + (2 : Int32)).toNatClampNeg).toInt64) <<< ((32 : Int32).toInt64 &&& 63)) ||| (((xs (i + (3 : Int32)).toNatClampNeg).toInt64) &&& (4294967295 : Int64))) σ) (fun v5 σ8 => fd_gd (vp_in (i + (1 : Int32)) L) (fd_gd (vp_in (i + (2 : Int32)) L) (fd_gd (vp_in (i + (3 : Int32)) L) (fd_bd (f_X11_pattern_0 N (xs (i + (1 : Int32)).toNatClampNeg) ((((xs (i + (2 : Int32)).toNatClampNeg).toInt64) <<< ((32 : Int32).toInt64 &&& 63)) ||| (((xs (i + (3 : Int32)).toNatClampNeg).toInt64) &&& (4294967295 : Int64))) μ) (fun v13 σ16 => fd_lt (i + (6 : Int32)) (fun x17 => K x17 σ8 σ16)))))))))
set_option maxHeartbeats 4000000 in
set_option maxRecDepth 100000 in
theorem law_c4 {p : Program} {l : Launch} {e : Env} {s : State} {m : MethodId} {below : List Frame} {meth : Method} {c : Code} {D : va_G} {a a2 : Nat → Nat} {k k2 : Nat → ClassId} {b L : Nat} {xs : Nat → Int32} (C0 : fd_Cx p l s m meth c D a a2 k k2 b L xs) (N : Nat) (K : Int32 → fd_St → fd_St → Option Int32) (n : Nat) (hK9 : ∀ (i : Int32) (σ μ : fd_St) (cl sl : Nat) (H : Heap) (locs : List Loc) (ls : Array Slot), cl + n ≤ 1116 → sl + 6 * n ≤ 18645 → va_P D vwCl (fd_WH a k σ) H → va_P D vwCl (fd_WM a2 k2 μ) H → va_S (fun q => s.heap.size ≤ q) s.heap H locs → lv_has ls 8 [(0, .ref b), (1, .ref (a 0)), (2, .ref (a2 0)), (3, .ref (a 39)), (4, .int i)] → K i σ μ = some 1 → W p l e room_1 s m #[Value.ref b] below meth c H locs cl sl (lw_Z below #[Value.ref b] s) (F0 m 23 ls [])) : ∀ (i : Int32) (σ μ : fd_St) (cl sl : Nat) (H : Heap) (locs : List Loc) (ls : Array Slot), cl + (n + 1) ≤ 1116 → sl + 6 * (n + 1) ≤ 18645 → va_P D vwCl (fd_WH a k σ) H → va_P D vwCl (fd_WM a2 k2 μ) H → va_S (fun q => s.heap.size ≤ q) s.heap H locs → lv_has ls 8 [(0, .ref b), (1, .ref (a 0)), (2, .ref (a2 0)), (3, .ref (a 39)), (4, .int i)] → f_law_c4 N L xs K i σ μ = some 1 → W p l e room_1 s m #[Value.ref b] below meth c H locs cl sl (lw_Z below #[Value.ref b] s) (F0 m 268 ls []) := by
  obtain ⟨⟨hx, hb, hr, hml, hown, hts0, hX, hbl, hlocks, hgv⟩, hl9, hI, hI2, hJ, hJ2, hdis, hK, hK2, hZ⟩ := C0
  have hown : s.vm.findClass RL = some m.cls := hown
  have hts : ∀ w ∈ fd_wl, w.before #[Value.ref b] s = true := fun w h => hts0 w (fd_wl_in w h)
  have hA : ∀ q : Nat, s.heap.size ≤ q → (fun q : Nat => s.heap.size ≤ q) q := fun _ h => h
  have hbA : ¬ (fun q : Nat => s.heap.size ≤ q) b := Nat.not_le.mpr hbl
  intro i σ μ cl sl H locs ls hcl hsl hP hQ hS hl hf
  unfold f_law_c4 at hf
  refine lv_aload_n hx hb dL_law_268 rfl (lv_at hl 1 rfl) ?_
  refine lv_aload_n hx hb dL_law_269 rfl (lv_at hl 0 rfl) ?_
  refine lv_iload hx hb dL_law_270 (lv_at hl 4 rfl) ?_
  refine lv_iconst (v := (1 : Int32)) hx hb dL_law_272 (by decide) ?_
  refine lv_iadd hx hb dL_law_273 ?_
  obtain ⟨g1, hf⟩ := fd_gds hf
  refine va_sld hx hb hX hbl hbA hS g1 dL_law_274 ?_
  refine lv_aload_n hx hb dL_law_275 rfl (lv_at hl 0 rfl) ?_
  refine lv_iload hx hb dL_law_276 (lv_at hl 4 rfl) ?_
  refine lv_iconst (v := (2 : Int32)) hx hb dL_law_278 (by decide) ?_
  refine lv_iadd hx hb dL_law_279 ?_
  obtain ⟨g2, hf⟩ := fd_gds hf
  refine va_sld hx hb hX hbl hbA hS g2 dL_law_280 ?_
  refine lv_i2l hx hb dL_law_281 rfl ?_
  refine lv_bipush (v := (32 : Int32)) hx hb dL_law_282 (by decide) ?_
  refine lv_lshl hx hb dL_law_284 rfl ?_
  refine lv_aload_n hx hb dL_law_285 rfl (lv_at hl 0 rfl) ?_
  refine lv_iload hx hb dL_law_286 (lv_at hl 4 rfl) ?_
  refine lv_iconst (v := (3 : Int32)) hx hb dL_law_288 (by decide) ?_
  refine lv_iadd hx hb dL_law_289 ?_
  obtain ⟨g3, hf⟩ := fd_gds hf
  refine va_sld hx hb hX hbl hbA hS g3 dL_law_290 ?_
  refine lv_i2l hx hb dL_law_291 rfl ?_
  refine lv_ldc2 hx hb hown (hts (.constantLong RL 106 (4294967295)) (by decide +kernel)) dL_law_292 ?_
  refine lv_land hx hb dL_law_295 ?_
  refine lv_lor hx hb dL_law_296 ?_
  refine lv_aload_n hx hb dL_law_297 rfl (lv_at hl 3 rfl) ?_
  obtain ⟨w6, τ7, hc4, hf⟩ := fd_bds hf
  refine va_calli (vx_runSW (As := [.ref (a 0), .int (xs (i + (1 : Int32)).toNatClampNeg), .long ((((xs (i + (2 : Int32)).toNatClampNeg).toInt64) <<< ((32 : Int32).toInt64 &&& 63)) ||| (((xs (i + (3 : Int32)).toNatClampNeg).toInt64) &&& (4294967295 : Int64))), .ref (a 39)]) (rest := []) ⟨hx, hb, hml, hown, hts⟩ (m_L_pattern_0_39 l hl9 D a k H.size hI N (xs (i + (1 : Int32)).toNatClampNeg) ((((xs (i + (2 : Int32)).toNatClampNeg).toInt64) <<< ((32 : Int32).toInt64 &&& 63)) ||| (((xs (i + (3 : Int32)).toNatClampNeg).toInt64) &&& (4294967295 : Int64))) σ _ hc4) (vx_cwSW 4 hts gL_law_L_pattern rfl rfl rfl (by decide +kernel) ⟨Nat.le_of_ble_eq_true rfl, Nat.le_of_ble_eq_true rfl⟩) ⟨fd_blH, fd_prL hP hK hZ hS hJ⟩ rfl rfl hl.1 rfl (lv_room (Nat.le_of_ble_eq_true rfl)) dL_law_298 ⟨by show cl + 1 ≤ 1116; omega, by show sl + 6 ≤ 18645; omega⟩) hS (fun q _ h => fd_AL hJ hS.1 h) (fun q h => fd_AL hJ hS.1 h) (fun v5 u t H1 locs ht hvm hw hB hz hk hS => ?_)
  obtain ⟨hP1, hK1⟩ := hB
  rw [ht] at hP1
  obtain ⟨e1, e2⟩ := Prod.mk.inj hw
  subst e1
  subst e2
  obtain ⟨σ8, rfl⟩ : ∃ z, z = u := ⟨_, rfl⟩
  have hQ := fd_kM hdis hJ hQ hz hk
  have hP := hP1
  generalize H1 = H at hP hQ hS ⊢
  refine W.cs (cells' := cl + 1) (slots' := sl + 6) rfl rfl ?_
  refine lv_istore (lv' := [(5, .int v5), (0, .ref b), (1, .ref (a 0)), (2, .ref (a2 0)), (3, .ref (a 39)), (4, .int i)]) hx hb dL_law_301 hl (by decide) rfl (fun ls hl => ?_)
  refine lv_aload_n hx hb dL_law_303 rfl (lv_at hl 3 rfl) ?_
  refine lv_aload_n hx hb dL_law_304 rfl (lv_at hl 1 rfl) ?_
  refine lv_iload hx hb dL_law_305 (lv_at hl 5 rfl) ?_
  refine lv_iconst (v := (1 : Int32)) hx hb dL_law_307 (by decide) ?_
  refine lv_iadd hx hb dL_law_308 ?_
  obtain ⟨g9, hf⟩ := fd_gds hf
  refine va_sld hx hb hX hbl hbA hS g9 dL_law_309 ?_
  refine lv_aload_n hx hb dL_law_310 rfl (lv_at hl 1 rfl) ?_
  refine lv_iload hx hb dL_law_311 (lv_at hl 5 rfl) ?_
  refine lv_iconst (v := (2 : Int32)) hx hb dL_law_313 (by decide) ?_
  refine lv_iadd hx hb dL_law_314 ?_
  obtain ⟨g10, hf⟩ := fd_gds hf
  refine va_sld hx hb hX hbl hbA hS g10 dL_law_315 ?_
  refine lv_i2l hx hb dL_law_316 rfl ?_
  refine lv_bipush (v := (32 : Int32)) hx hb dL_law_317 (by decide) ?_
  refine lv_lshl hx hb dL_law_319 rfl ?_
  refine lv_aload_n hx hb dL_law_320 rfl (lv_at hl 1 rfl) ?_
  refine lv_iload hx hb dL_law_321 (lv_at hl 5 rfl) ?_
  refine lv_iconst (v := (3 : Int32)) hx hb dL_law_323 (by decide) ?_
  refine lv_iadd hx hb dL_law_324 ?_
  obtain ⟨g11, hf⟩ := fd_gds hf
  refine va_sld hx hb hX hbl hbA hS g11 dL_law_325 ?_
  refine lv_i2l hx hb dL_law_326 rfl ?_
  refine lv_ldc2 hx hb hown (hts (.constantLong RL 106 (4294967295)) (by decide +kernel)) dL_law_327 ?_
  refine lv_land hx hb dL_law_330 ?_
  refine lv_lor hx hb dL_law_331 ?_
  obtain ⟨w14, τ15, hc12, hf⟩ := fd_bds hf
  refine va_calll (va_runV (As := [.int (xs (i + (1 : Int32)).toNatClampNeg), .long ((((xs (i + (2 : Int32)).toNatClampNeg).toInt64) <<< ((32 : Int32).toInt64 &&& 63)) ||| (((xs (i + (3 : Int32)).toNatClampNeg).toInt64) &&& (4294967295 : Int64)))]) (rest := []) ⟨hx, hb, hml, hown, hts⟩ (m_X11_pattern_0 l D a2 k2 H.size hI2 N (xs (i + (1 : Int32)).toNatClampNeg) ((((xs (i + (2 : Int32)).toNatClampNeg).toInt64) <<< ((32 : Int32).toInt64 &&& 63)) ||| (((xs (i + (3 : Int32)).toNatClampNeg).toInt64) &&& (4294967295 : Int64))) μ _ hc12) (cwV 2 hts gL_law_X11_pattern rfl rfl rfl (by decide +kernel) ⟨Nat.le_of_ble_eq_true rfl, Nat.le_of_ble_eq_true rfl⟩) ⟨fd_blM, va_recv hK2 hQ (ci := 11) (q0 := 0) rfl fd_WM_0, fd_prM hQ hK2⟩ rfl rfl hl.1 rfl (lv_room (Nat.le_of_ble_eq_true rfl)) dL_law_332 ⟨by show cl + 1 + 0 ≤ 1116; omega, by show sl + 6 + 0 ≤ 18645; omega⟩) hS (fun q _ h => fd_AL hJ2 hS.1 h) (fun q h => fd_AL hJ2 hS.1 h) (fun v13 u t H1 locs ht hvm hw hB hz hk hS => ?_)
  obtain ⟨hP1, hK1⟩ := hB
  rw [ht] at hP1
  obtain ⟨e1, e2⟩ := Prod.mk.inj hw
  subst e1
  subst e2
  obtain ⟨σ16, rfl⟩ : ∃ z, z = u := ⟨_, rfl⟩
  have hP := fd_kH hdis hP hz hk
  have hQ := hP1
  generalize H1 = H at hP hQ hS ⊢
  refine W.cs (cells' := cl + 1) (slots' := sl + 6) rfl rfl ?_
  refine lv_lstore (lv' := [(6, .long v13), (5, .int v5), (0, .ref b), (1, .ref (a 0)), (2, .ref (a2 0)), (3, .ref (a 39)), (4, .int i)]) hx hb dL_law_335 hl (by decide) rfl (fun ls hl => ?_)
  refine lv_goto (tgt := 1061) hx hb dL_law_337 (by decide) ?_
  obtain ⟨x17, ex17, hf⟩ := fd_lts hf
  refine lv_iinc (v := x17) (lv' := [(4, .int x17), (6, .long v13), (5, .int v5), (0, .ref b), (1, .ref (a 0)), (2, .ref (a2 0)), (3, .ref (a 39))]) hx hb dL_law_1061 hl (k := 6) rfl (by rw [ex17]; rfl) (by decide) rfl (fun ls hl => ?_)
  refine lv_goto (tgt := 23) hx hb dL_law_1064 (by decide) ?_
  exact hK9 _ _ _ _ _ _ _ _ (by omega) (by omega) hP hQ hS (lv_sub hl [3, 4, 5, 6, 0] rfl) hf
noncomputable def f_law_c5 (N L : Nat) (xs : Nat → Int32) (K : Int32 → fd_St → fd_St → Option Int32) (i : Int32) (σ μ : fd_St) : Option Int32 := fd_gd (vp_in (i + (1 : Int32)) L) (fd_bd (f_L_row_0_39 N (xs (i + (1 : Int32)).toNatClampNeg) σ) (fun v3 σ6 => fd_gd (vp_in (i + (1 : Int32)) L) (fd_bd (f_X11_row_0 N (xs (i + (1 : Int32)).toNatClampNeg) μ) (fun v9 σ12 => fd_lt (i + (6 : Int32)) (fun x13 => K x13 σ6 σ12)))))
set_option maxHeartbeats 4000000 in
set_option maxRecDepth 100000 in
theorem law_c5 {p : Program} {l : Launch} {e : Env} {s : State} {m : MethodId} {below : List Frame} {meth : Method} {c : Code} {D : va_G} {a a2 : Nat → Nat} {k k2 : Nat → ClassId} {b L : Nat} {xs : Nat → Int32} (C0 : fd_Cx p l s m meth c D a a2 k k2 b L xs) (N : Nat) (K : Int32 → fd_St → fd_St → Option Int32) (n : Nat) (hK9 : ∀ (i : Int32) (σ μ : fd_St) (cl sl : Nat) (H : Heap) (locs : List Loc) (ls : Array Slot), cl + n ≤ 1116 → sl + 6 * n ≤ 18645 → va_P D vwCl (fd_WH a k σ) H → va_P D vwCl (fd_WM a2 k2 μ) H → va_S (fun q => s.heap.size ≤ q) s.heap H locs → lv_has ls 8 [(0, .ref b), (1, .ref (a 0)), (2, .ref (a2 0)), (3, .ref (a 39)), (4, .int i)] → K i σ μ = some 1 → W p l e room_1 s m #[Value.ref b] below meth c H locs cl sl (lw_Z below #[Value.ref b] s) (F0 m 23 ls [])) : ∀ (i : Int32) (σ μ : fd_St) (cl sl : Nat) (H : Heap) (locs : List Loc) (ls : Array Slot), cl + (n + 1) ≤ 1116 → sl + 6 * (n + 1) ≤ 18645 → va_P D vwCl (fd_WH a k σ) H → va_P D vwCl (fd_WM a2 k2 μ) H → va_S (fun q => s.heap.size ≤ q) s.heap H locs → lv_has ls 8 [(0, .ref b), (1, .ref (a 0)), (2, .ref (a2 0)), (3, .ref (a 39)), (4, .int i)] → f_law_c5 N L xs K i σ μ = some 1 → W p l e room_1 s m #[Value.ref b] below meth c H locs cl sl (lw_Z below #[Value.ref b] s) (F0 m 340 ls []) := by
  obtain ⟨⟨hx, hb, hr, hml, hown, hts0, hX, hbl, hlocks, hgv⟩, hl9, hI, hI2, hJ, hJ2, hdis, hK, hK2, hZ⟩ := C0
  have hown : s.vm.findClass RL = some m.cls := hown
  have hts : ∀ w ∈ fd_wl, w.before #[Value.ref b] s = true := fun w h => hts0 w (fd_wl_in w h)
  have hA : ∀ q : Nat, s.heap.size ≤ q → (fun q : Nat => s.heap.size ≤ q) q := fun _ h => h
  have hbA : ¬ (fun q : Nat => s.heap.size ≤ q) b := Nat.not_le.mpr hbl
  intro i σ μ cl sl H locs ls hcl hsl hP hQ hS hl hf
  unfold f_law_c5 at hf
  refine lv_aload_n hx hb dL_law_340 rfl (lv_at hl 1 rfl) ?_
  refine lv_aload_n hx hb dL_law_341 rfl (lv_at hl 0 rfl) ?_
  refine lv_iload hx hb dL_law_342 (lv_at hl 4 rfl) ?_
  refine lv_iconst (v := (1 : Int32)) hx hb dL_law_344 (by decide) ?_
  refine lv_iadd hx hb dL_law_345 ?_
  obtain ⟨g1, hf⟩ := fd_gds hf
  refine va_sld hx hb hX hbl hbA hS g1 dL_law_346 ?_
  refine lv_aload_n hx hb dL_law_347 rfl (lv_at hl 3 rfl) ?_
  obtain ⟨w4, τ5, hc2, hf⟩ := fd_bds hf
  refine va_calli (vx_runSW (As := [.ref (a 0), .int (xs (i + (1 : Int32)).toNatClampNeg), .ref (a 39)]) (rest := []) ⟨hx, hb, hml, hown, hts⟩ (m_L_row_0_39 l hl9 D a k H.size hI N (xs (i + (1 : Int32)).toNatClampNeg) σ _ hc2) (vx_cwSW 3 hts gL_law_L_row rfl rfl rfl (by decide +kernel) ⟨Nat.le_of_ble_eq_true rfl, Nat.le_of_ble_eq_true rfl⟩) ⟨fd_blH, fd_prL hP hK hZ hS hJ⟩ rfl rfl hl.1 rfl (lv_room (Nat.le_of_ble_eq_true rfl)) dL_law_348 ⟨by show cl + 1 ≤ 1116; omega, by show sl + 6 ≤ 18645; omega⟩) hS (fun q _ h => fd_AL hJ hS.1 h) (fun q h => fd_AL hJ hS.1 h) (fun v3 u t H1 locs ht hvm hw hB hz hk hS => ?_)
  obtain ⟨hP1, hK1⟩ := hB
  rw [ht] at hP1
  obtain ⟨e1, e2⟩ := Prod.mk.inj hw
  subst e1
  subst e2
  obtain ⟨σ6, rfl⟩ : ∃ z, z = u := ⟨_, rfl⟩
  have hQ := fd_kM hdis hJ hQ hz hk
  have hP := hP1
  generalize H1 = H at hP hQ hS ⊢
  refine W.cs (cells' := cl + 1) (slots' := sl + 6) rfl rfl ?_
  refine lv_istore (lv' := [(5, .int v3), (0, .ref b), (1, .ref (a 0)), (2, .ref (a2 0)), (3, .ref (a 39)), (4, .int i)]) hx hb dL_law_351 hl (by decide) rfl (fun ls hl => ?_)
  refine lv_aload_n hx hb dL_law_353 rfl (lv_at hl 3 rfl) ?_
  refine lv_aload_n hx hb dL_law_354 rfl (lv_at hl 1 rfl) ?_
  refine lv_iload hx hb dL_law_355 (lv_at hl 5 rfl) ?_
  refine lv_iconst (v := (1 : Int32)) hx hb dL_law_357 (by decide) ?_
  refine lv_iadd hx hb dL_law_358 ?_
  obtain ⟨g7, hf⟩ := fd_gds hf
  refine va_sld hx hb hX hbl hbA hS g7 dL_law_359 ?_
  obtain ⟨w10, τ11, hc8, hf⟩ := fd_bds hf
  refine va_calll (va_runV (As := [.int (xs (i + (1 : Int32)).toNatClampNeg)]) (rest := []) ⟨hx, hb, hml, hown, hts⟩ (m_X11_row_0 l D a2 k2 H.size hI2 N (xs (i + (1 : Int32)).toNatClampNeg) μ _ hc8) (cwV 1 hts gL_law_X11_row rfl rfl rfl (by decide +kernel) ⟨Nat.le_of_ble_eq_true rfl, Nat.le_of_ble_eq_true rfl⟩) ⟨fd_blM, va_recv hK2 hQ (ci := 11) (q0 := 0) rfl fd_WM_0, fd_prM hQ hK2⟩ rfl rfl hl.1 rfl (lv_room (Nat.le_of_ble_eq_true rfl)) dL_law_360 ⟨by show cl + 1 + 0 ≤ 1116; omega, by show sl + 6 + 0 ≤ 18645; omega⟩) hS (fun q _ h => fd_AL hJ2 hS.1 h) (fun q h => fd_AL hJ2 hS.1 h) (fun v9 u t H1 locs ht hvm hw hB hz hk hS => ?_)
  obtain ⟨hP1, hK1⟩ := hB
  rw [ht] at hP1
  obtain ⟨e1, e2⟩ := Prod.mk.inj hw
  subst e1
  subst e2
  obtain ⟨σ12, rfl⟩ : ∃ z, z = u := ⟨_, rfl⟩
  have hP := fd_kH hdis hP hz hk
  have hQ := hP1
  generalize H1 = H at hP hQ hS ⊢
  refine W.cs (cells' := cl + 1) (slots' := sl + 6) rfl rfl ?_
  refine lv_lstore (lv' := [(6, .long v9), (5, .int v3), (0, .ref b), (1, .ref (a 0)), (2, .ref (a2 0)), (3, .ref (a 39)), (4, .int i)]) hx hb dL_law_363 hl (by decide) rfl (fun ls hl => ?_)
  refine lv_goto (tgt := 1061) hx hb dL_law_365 (by decide) ?_
  obtain ⟨x13, ex13, hf⟩ := fd_lts hf
  refine lv_iinc (v := x13) (lv' := [(4, .int x13), (6, .long v9), (5, .int v3), (0, .ref b), (1, .ref (a 0)), (2, .ref (a2 0)), (3, .ref (a 39))]) hx hb dL_law_1061 hl (k := 6) rfl (by rw [ex13]; rfl) (by decide) rfl (fun ls hl => ?_)
  refine lv_goto (tgt := 23) hx hb dL_law_1064 (by decide) ?_
  exact hK9 _ _ _ _ _ _ _ _ (by omega) (by omega) hP hQ hS (lv_sub hl [3, 4, 5, 6, 0] rfl) hf
