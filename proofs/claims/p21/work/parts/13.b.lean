set_option maxHeartbeats 8000000 in
set_option maxRecDepth 100000 in
theorem whole_walk {p : Program} {e : Env} {s : State} {m : MethodId} {below : List Frame} {meth : Method} {c : Code} (l : Launch) (hl9 : l.stackTraces = false) {b L : Nat} {xs : Nat → Int32} (C0 : lw_At p s m meth c b L xs) (N n : Nat) (μ : fd_St) (hc : f_X11_clear_0 N fd_s0M = some ((), μ)) (hn : 69 + n ≤ 1116) (hn2 : 10315 + 6 * n ≤ 18645) (hf : f_law N L xs n 0 fd_s0C μ = some 1) : W p l e room_1 s m #[Value.ref b] below meth c s.heap [] 0 0 (lw_Z below #[Value.ref b] s) (entryFrame m ([Value.ref b] : List Value).toArray 8) := by
  obtain ⟨hx, hb, hr, hml, hown, hts0, hX, hbl, hlocks, hgv⟩ := id C0
  have hown : s.vm.findClass RL = some m.cls := hown
  have hts : ∀ w ∈ fd_wl, w.before #[Value.ref b] s = true := fun w h => hts0 w (fd_wl_in w h)
  have hA : ∀ q : Nat, s.heap.size ≤ q → (fun q : Nat => s.heap.size ≤ q) q := fun _ h => h
  have hZ := fd_Z0 hts0 hgv
  have hN := fd_N00 hts0
  obtain ⟨e0, iS0, hKn0⟩ := u_known (C := RX0) (T := TX0) (N := 3) (n := 3) hts0 in_wsX00 (hts0 (.instantiable RX0 3) (by decide +kernel))
  obtain ⟨e1, iS1, hKn1⟩ := u_known (C := RX1) (T := TX1) (N := 4) (n := 4) hts0 in_wsX10 (hts0 (.instantiable RX1 4) (by decide +kernel))
  obtain ⟨e2, iS2, hKn2⟩ := u_known (C := RX2) (T := TX2) (N := 9) (n := 9) hts0 in_wsX20 (hts0 (.instantiable RX2 9) (by decide +kernel))
  obtain ⟨e3, iS3, hKn3⟩ := u_known (C := RX3) (T := TX3) (N := 7) (n := 7) hts0 in_wsX30 (hts0 (.instantiable RX3 7) (by decide +kernel))
  obtain ⟨e4, iS4, hKn4⟩ := u_known (C := RX4) (T := TX4) (N := 3) (n := 3) hts0 in_wsX40 (hts0 (.instantiable RX4 3) (by decide +kernel))
  obtain ⟨e5, iS5, hKn5⟩ := u_known (C := RX5) (T := TX5) (N := 3) (n := 3) hts0 in_wsX50 (hts0 (.instantiable RX5 3) (by decide +kernel))
  obtain ⟨e6, iS6, hKn6⟩ := u_known (C := RX6) (T := TX6) (N := 9) (n := 9) hts0 in_wsX60 (hts0 (.instantiable RX6 9) (by decide +kernel))
  obtain ⟨e7, iS7, hKn7⟩ := u_known (C := RX7) (T := TX7) (N := 2) (n := 2) hts0 in_wsX70 (hts0 (.instantiable RX7 2) (by decide +kernel))
  obtain ⟨e8, iS8, hKn8⟩ := u_known (C := RX8) (T := TX8) (N := 7) (n := 7) hts0 in_wsX80 (hts0 (.instantiable RX8 7) (by decide +kernel))
  obtain ⟨e9, iS9, hKn9⟩ := u_known (C := RX9) (T := TX9) (N := 3) (n := 3) hts0 in_wsX90 (hts0 (.instantiable RX9 3) (by decide +kernel))
  obtain ⟨e10, iS10, hKn10⟩ := u_known (C := RX10) (T := TX10) (N := 8) (n := 8) hts0 in_wsX100 (hts0 (.instantiable RX10 8) (by decide +kernel))
  obtain ⟨e11, iS11, hKn11⟩ := u_known (C := RX11) (T := TX11) (N := 43) (n := 43) hts0 in_wsX110 (hts0 (.instantiable RX11 43) (by decide +kernel))
  obtain ⟨D, hKc⟩ : ∃ D : va_G, ∀ (k : Nat) (q : vw_C), vwCl[k]? = some q → u_Kn s q.1 q.2.1 q.2.2 (D.1 k) (D.2 k) := by
    refine ⟨(fd_nth [e0, e1, e2, e3, e4, e5, e6, e7, e8, e9, e10, e11], fd_iS [iS0, iS1, iS2, iS3, iS4, iS5, iS6, iS7, iS8, iS9, iS10, iS11]), ?_⟩
    intro k q hq
    match k, hq with
    | 0, hq => cases hq; exact hKn0
    | 1, hq => cases hq; exact hKn1
    | 2, hq => cases hq; exact hKn2
    | 3, hq => cases hq; exact hKn3
    | 4, hq => cases hq; exact hKn4
    | 5, hq => cases hq; exact hKn5
    | 6, hq => cases hq; exact hKn6
    | 7, hq => cases hq; exact hKn7
    | 8, hq => cases hq; exact hKn8
    | 9, hq => cases hq; exact hKn9
    | 10, hq => cases hq; exact hKn10
    | 11, hq => cases hq; exact hKn11
    | k + 12, hq => simp [vwCl] at hq
  have hS : va_S (fun q : Nat => s.heap.size ≤ q) s.heap s.heap [] := va_S.rf
  have hK : va_K D vwCl [] s := ⟨hKc, fun k q h => by simp at h⟩
  have hP : va_P D vwCl [] s.heap := fun k q h => by simp at h
  have hD : va_D (fun q : Nat => s.heap.size ≤ q) [] := ⟨fun i j p q h => by simp at h, fun k q h => by simp at h⟩
  have hl := lv_entry ([.ref b]) (n := 8) (Nat.le_of_ble_eq_true rfl)
  rw [lg_entry_eq]
  generalize (lg_sl ([.ref b]) ++ List.replicate (8 - (lg_sl ([.ref b])).length) Slot.unset).toArray = ls at hl ⊢
  have hl : lv_has ls 8 [(0, .ref b)] := hl
  refine va_new (ci := 10) (fs := [.null, .null, .null, .null, .null, .null, .null, .int 0]) (C := RX10) (T := TX10) (N := 8) hx hb hts0 in_wsX100 tyX10 tyX10_ok hown (hts (.classLink RL 8 RX10) (by decide +kernel)) (hts0 (.instantiable RX10 8) (by decide +kernel)) (hts0 (.initialized RX10) (by decide +kernel)) hK hP hD hS hA rfl (fun j hj => by rcases (show j = 0 ∨ j = 1 ∨ j = 2 ∨ j = 3 ∨ j = 4 ∨ j = 5 ∨ j = 6 ∨ j = 7 by omega) with rfl | rfl | rfl | rfl | rfl | rfl | rfl | rfl <;> rfl) (Nat.le_of_ble_eq_true rfl) (Nat.le_of_ble_eq_true rfl) dL_law_0 (fun q0 H hP hD hS => ?_)
  have hP : va_P D vwCl [(q0, .inr (10, [.null, .null, .null, .null, .null, .null, .null, .int 0]))] H := hP
  have hD : va_D (fun q : Nat => s.heap.size ≤ q) [(q0, .inr (10, [.null, .null, .null, .null, .null, .null, .null, .int 0]))] := hD
  refine lv_dup hx hb dL_law_3 rfl ?_
  have hFc : ∀ q, va_A [(q0, .inr (10, [.null, .null, .null, .null, .null, .null, .null, .int 0]))] H.size q → s.heap.size ≤ q := by rintro q (⟨j, e, hj⟩ | h); exact hD.2 j _ hj; exact Nat.le_trans hS.1 h
  refine va_callv (va_runI (As := []) (rest := [.ref q0]) ⟨hx, hb, hml, hown, hts⟩ (n_X10 l D q0 H.size) (cwI 0 hts gL_law_X10_init rfl rfl rfl (hts0 (.initialized RX10) (by decide +kernel)) (hts (.methodLink RL 85 yX10_init) (by decide +kernel)) (hts (.instanceMethod yX10_init) (by decide +kernel)) rfl (by decide +kernel) ⟨Nat.le_of_ble_eq_true rfl, Nat.le_of_ble_eq_true rfl⟩) ⟨fd_blN, fd_prN hP ⟨hK.1, fun k q h => by simp at h⟩ hD hN⟩ rfl rfl hl.1 rfl (lv_room (Nat.le_of_ble_eq_true rfl)) dL_law_4 ⟨Nat.le_of_ble_eq_true rfl, Nat.le_of_ble_eq_true rfl⟩) hS (fun q _ h => hFc q h) hFc (fun u t H1 locs ht hvm hw hB hz1 hk1 hS => ?_)
  obtain ⟨a, k⟩ := u
  obtain ⟨hP1, hK1, hD1⟩ := hB
  rw [ht] at hP1
  have hK1 := va_K.moved hvm.symm hK1
  have hw : a 0 = q0 := hw
  subst hw
  obtain ⟨hP, hD⟩ := fd_jn (A := []) hP hD hk1 hFc hP1 hD1
  have hK : va_K D vwCl (fd_tyC k) s := hK1
  generalize H1 = H at hP hS ⊢
  have hP : va_P D vwCl (fd_WC a k fd_s0C) H := hP
  have hD : va_D (fun q : Nat => s.heap.size ≤ q) (fd_WC a k fd_s0C) := hD
  refine lv_astore_n (lv' := [(1, .ref (a 0)), (0, .ref b)]) hx hb dL_law_7 rfl hl (by decide) rfl (fun ls hl => ?_)
  refine va_new (ci := 11) (fs := [.int 0, .int 0, .null, .null, .null, .null, .int 0, .int 0, .null, .null, .int 0, .int 0, .null, .null, .null, .null, .null, .int 0, .int 0, .null, .null, .null, .null, .null, .null, .null, .int 0, .int 0, .int 0, .int 0, .null, .int 0, .int 0, .null, .null, .int 0, .null, .null, .null, .null, .null, .null, .null]) (C := RX11) (T := TX11) (N := 43) hx hb hts0 in_wsX110 tyX11 tyX11_ok hown (hts (.classLink RL 86 RX11) (by decide +kernel)) (hts0 (.instantiable RX11 43) (by decide +kernel)) (hts0 (.initialized RX11) (by decide +kernel)) hK hP hD hS hA rfl (fun j hj => by rcases (show j = 0 ∨ j = 1 ∨ j = 2 ∨ j = 3 ∨ j = 4 ∨ j = 5 ∨ j = 6 ∨ j = 7 ∨ j = 8 ∨ j = 9 ∨ j = 10 ∨ j = 11 ∨ j = 12 ∨ j = 13 ∨ j = 14 ∨ j = 15 ∨ j = 16 ∨ j = 17 ∨ j = 18 ∨ j = 19 ∨ j = 20 ∨ j = 21 ∨ j = 22 ∨ j = 23 ∨ j = 24 ∨ j = 25 ∨ j = 26 ∨ j = 27 ∨ j = 28 ∨ j = 29 ∨ j = 30 ∨ j = 31 ∨ j = 32 ∨ j = 33 ∨ j = 34 ∨ j = 35 ∨ j = 36 ∨ j = 37 ∨ j = 38 ∨ j = 39 ∨ j = 40 ∨ j = 41 ∨ j = 42 by omega) with rfl | rfl | rfl | rfl | rfl | rfl | rfl | rfl | rfl | rfl | rfl | rfl | rfl | rfl | rfl | rfl | rfl | rfl | rfl | rfl | rfl | rfl | rfl | rfl | rfl | rfl | rfl | rfl | rfl | rfl | rfl | rfl | rfl | rfl | rfl | rfl | rfl | rfl | rfl | rfl | rfl | rfl | rfl <;> rfl) (Nat.le_of_ble_eq_true rfl) (Nat.le_of_ble_eq_true rfl) dL_law_8 (fun q2 H hP hD hS => ?_)
  have hP : va_P D vwCl (fd_WC a k fd_s0C ++ [(q2, .inr (11, [.int 0, .int 0, .null, .null, .null, .null, .int 0, .int 0, .null, .null, .int 0, .int 0, .null, .null, .null, .null, .null, .int 0, .int 0, .null, .null, .null, .null, .null, .null, .null, .int 0, .int 0, .int 0, .int 0, .null, .int 0, .int 0, .null, .null, .int 0, .null, .null, .null, .null, .null, .null, .null]))]) H := hP
  have hD : va_D (fun q : Nat => s.heap.size ≤ q) (fd_WC a k fd_s0C ++ [(q2, .inr (11, [.int 0, .int 0, .null, .null, .null, .null, .int 0, .int 0, .null, .null, .int 0, .int 0, .null, .null, .null, .null, .null, .int 0, .int 0, .null, .null, .null, .null, .null, .null, .null, .int 0, .int 0, .int 0, .int 0, .null, .int 0, .int 0, .null, .null, .int 0, .null, .null, .null, .null, .null, .null, .null]))]) := hD
  refine lv_dup hx hb dL_law_11 rfl ?_
  have hPc := fd_appR hP
  have hDc := fd_DR hD
  have hFc : ∀ q, va_A [(q2, .inr (11, [.int 0, .int 0, .null, .null, .null, .null, .int 0, .int 0, .null, .null, .int 0, .int 0, .null, .null, .null, .null, .null, .int 0, .int 0, .null, .null, .null, .null, .null, .null, .null, .int 0, .int 0, .int 0, .int 0, .null, .int 0, .int 0, .null, .null, .int 0, .null, .null, .null, .null, .null, .null, .null]))] H.size q → s.heap.size ≤ q := by rintro q (⟨j, e, hj⟩ | h); exact hDc.2 j _ hj; exact Nat.le_trans hS.1 h
  refine va_callv (va_runI (As := []) (rest := [.ref q2]) ⟨hx, hb, hml, hown, hts⟩ (n_X11 l D q2 H.size N μ hc) (cwI 0 hts gL_law_X11_init rfl rfl rfl (hts0 (.initialized RX11) (by decide +kernel)) (hts (.methodLink RL 88 yX11_init) (by decide +kernel)) (hts (.instanceMethod yX11_init) (by decide +kernel)) rfl (by decide +kernel) ⟨Nat.le_of_ble_eq_true rfl, Nat.le_of_ble_eq_true rfl⟩) ⟨fd_blN, fd_prN hPc ⟨hK.1, fun k q h => by simp at h⟩ hDc hN⟩ rfl rfl hl.1 rfl (lv_room (Nat.le_of_ble_eq_true rfl)) dL_law_12 ⟨Nat.le_of_ble_eq_true rfl, Nat.le_of_ble_eq_true rfl⟩) hS (fun q _ h => hFc q h) hFc (fun u t H1 locs ht hvm hw hB hz1 hk1 hS => ?_)
  obtain ⟨a2, k2⟩ := u
  obtain ⟨hP1, hK1, hD1⟩ := hB
  rw [ht] at hP1
  have hK1 := va_K.moved hvm.symm hK1
  have hw : a2 0 = q2 := hw
  subst hw
  obtain ⟨hP, hD⟩ := fd_jn hP hD hk1 hFc hP1 hD1
  have hK2 : va_K D vwCl (fd_tyM k2) s := hK1
  generalize H1 = H at hP hS ⊢
  refine lv_astore_n (lv' := [(2, .ref (a2 0)), (1, .ref (a 0)), (0, .ref b)]) hx hb dL_law_15 rfl hl (by decide) rfl (fun ls hl => ?_)
  refine lv_iconst (v := (1 : Int32)) hx hb dL_law_16 (by decide) ?_
  refine va_newa (atype := .long) (N' := 1) (n := (1 : Int32)) (ty := .long) (a0 := (1, .inr (.inl (fun _ => 0)))) hx hb (hts (.arrayClass .long) (by decide +kernel)) rfl hK hP hD hS hA (fun _ => rfl) (by decide) (by decide) (by decide) (Nat.le_of_ble_eq_true rfl) (Nat.le_of_ble_eq_true rfl) dL_law_17 (fun q5 c5 H hK hP hD hS => ?_)
  refine lv_astore_n (lv' := [(3, .ref q5), (2, .ref (a2 0)), (1, .ref (a 0)), (0, .ref b)]) hx hb dL_law_19 rfl hl (by decide) rfl (fun ls hl => ?_)
  refine lv_iconst (v := (0 : Int32)) hx hb dL_law_20 (by decide) ?_
  refine lv_istore (lv' := [(4, .int 0), (3, .ref q5), (2, .ref (a2 0)), (1, .ref (a 0)), (0, .ref b)]) hx hb dL_law_21 hl (by decide) rfl (fun ls hl => ?_)
  have hP9 : va_P D vwCl ((fd_WC a k fd_s0C ++ fd_WM a2 k2 μ) ++ [(q5, .inl (c5, 1, .inr (.inl (fun _ => 0))))]) H := hP
  have hD9 : va_D (fun q : Nat => s.heap.size ≤ q) ((fd_WC a k fd_s0C ++ fd_WM a2 k2 μ) ++ [(q5, .inl (c5, 1, .inr (.inl (fun _ => 0))))]) := hD
  have hPM : va_P D vwCl (fd_WM a2 k2 μ) H := fd_appR (fd_appL hP9)
  have hPC : va_P D vwCl (fd_WC (fd_up a 39 q5) (fd_up k 39 c5) fd_s0C) H := fd_sP fd_WC_up.symm (fd_appL (fd_appL hP9))
  have hPH : va_P D vwCl (fd_WH (fd_up a 39 q5) (fd_up k 39 c5) fd_s0C) H := va_P.app hPC (fd_appR hP9)
  have hDCM := fd_DL hD9
  have hDC := fd_DL hDCM
  have hDM := fd_DR hDCM
  have hIC := fd_I_of hDC fd_WC_map
  have hIM := fd_I_of hDM fd_WM_map
  have hqC : ∀ i, i < 39 → a i ≠ q5 := fun i hi => by obtain ⟨z, z1, z2⟩ := fd_D_at (fd_WC_map (a := a) (k := k) (σ := fd_s0C)) i hi; rw [← z2]; exact fd_apart hD9 (fd_liftL z1) (j := 0) rfl
  have hqM : ∀ i, i < 29 → a2 i ≠ q5 := fun i hi => by obtain ⟨z, z1, z2⟩ := fd_D_at (fd_WM_map (a := a2) (k := k2) (σ := μ)) i hi; rw [← z2]; exact fd_apart hD9 (fd_liftR z1) (j := 0) rfl
  have hdis0 := fd_dis0 hDCM fd_WC_map fd_WM_map
  have hq5 : s.heap.size ≤ q5 := (fd_DR hD9).2 0 _ rfl
  have hKH : va_K D vwCl (fd_tyH (fd_up k 39 c5)) s := hK
  refine W.widen (k := 69) (n := 10315) (Nat.le_of_ble_eq_true rfl) (Nat.le_of_ble_eq_true rfl) ?_
  exact law_loop (a := fd_up a 39 q5) (k := fd_up k 39 c5) ⟨C0, hl9, fd_I_up hIC hqC, hIM, fd_all_up (p := fun z => s.heap.size ≤ z) (fun i hi => fd_D_in hDC fd_WC_map i hi) hq5, fun i hi => fd_D_in hDM fd_WM_map i hi, fun i j hi hj => fd_all_up (p := fun z => z ≠ a2 j) (fun i hi => hdis0 i j hi hj) (fun e => hqM j hj e.symm) i hi, hKH, hK2, hZ⟩ N n 0 fd_s0C μ 69 10315 H _ ls hn hn2 hPH hPM hS (lv_sub hl [4, 3, 2, 1, 0] rfl) hf
