noncomputable def f_law (N L : Nat) (xs : Nat → Int32) : Nat → Int32 → fd_St → fd_St → Option Int32
  | 0 => fun _ _ _ => none
  | n + 1 => fun i σ μ => if (Int32.ofNat L - (6 : Int32)) < i then some 1 else fd_gd (vp_in i L) (fd_lt ((xs i.toNatClampNeg) &&& (31 : Int32)) (fun x => if x = (0 : Int32) then (f_law_c0 N L xs (f_law N L xs n) i σ μ) else (if x = (1 : Int32) then (f_law_c1 N L xs (f_law N L xs n) i σ μ) else (if x = (2 : Int32) then (f_law_c2 N L xs (f_law N L xs n) i σ μ) else (if x = (3 : Int32) then (f_law_c3 N L xs (f_law N L xs n) i σ μ) else (if x = (4 : Int32) then (f_law_c4 N L xs (f_law N L xs n) i σ μ) else (if x = (5 : Int32) then (f_law_c5 N L xs (f_law N L xs n) i σ μ) else (if x = (6 : Int32) then (f_law_c6 N L xs (f_law N L xs n) i σ μ) else (if x = (7 : Int32) then (f_law_c7 N L xs (f_law N L xs n) i σ μ) else (if x = (8 : Int32) then (f_law_c8 N L xs (f_law N L xs n) i σ μ) else (if x = (9 : Int32) then (f_law_c9 N L xs (f_law N L xs n) i σ μ) else (if x = (10 : Int32) then (f_law_c10 N L xs (f_law N L xs n) i σ μ) else (if x = (11 : Int32) then (f_law_c11 N L xs (f_law N L xs n) i σ μ) else (if x = (12 : Int32) then (f_law_c12 N L xs (f_law N L xs n) i σ μ) else (if x = (13 : Int32) then (f_law_c13 N L xs (f_law N L xs n) i σ μ) else (if x = (14 : Int32) then (f_law_c14 N L xs (f_law N L xs n) i σ μ) else (if x = (15 : Int32) then (f_law_c15 N L xs (f_law N L xs n) i σ μ) else (if x = (16 : Int32) then (f_law_c16 N L xs (f_law N L xs n) i σ μ) else (if x = (17 : Int32) then (f_law_c17 N L xs (f_law N L xs n) i σ μ) else (if x = (18 : Int32) then (f_law_c18 N L xs (f_law N L xs n) i σ μ) else (if x = (19 : Int32) then (f_law_c19 N L xs (f_law N L xs n) i σ μ) else (if x = (20 : Int32) then (f_law_c20 N L xs (f_law N L xs n) i σ μ) else (if x = (21 : Int32) then (f_law_c21 N L xs (f_law N L xs n) i σ μ) else (fd_lt (i + (6 : Int32)) (fun i2 => f_law N L xs n i2 σ μ)))))))))))))))))))))))))
set_option maxHeartbeats 4000000 in
set_option maxRecDepth 100000 in
theorem law_loop {p : Program} {l : Launch} {e : Env} {s : State} {m : MethodId} {below : List Frame} {meth : Method} {c : Code} {D : va_G} {a a2 : Nat → Nat} {k k2 : Nat → ClassId} {b L : Nat} {xs : Nat → Int32} (C0 : fd_Cx p l s m meth c D a a2 k k2 b L xs) (N : Nat) : ∀ (n : Nat), ∀ (i : Int32) (σ μ : fd_St) (cl sl : Nat) (H : Heap) (locs : List Loc) (ls : Array Slot), cl + n ≤ 1116 → sl + 6 * n ≤ 18645 → va_P D vwCl (fd_WH a k σ) H → va_P D vwCl (fd_WM a2 k2 μ) H → va_S (fun q => s.heap.size ≤ q) s.heap H locs → lv_has ls 8 [(0, .ref b), (1, .ref (a 0)), (2, .ref (a2 0)), (3, .ref (a 39)), (4, .int i)] → f_law N L xs n i σ μ = some 1 → W p l e room_1 s m #[Value.ref b] below meth c H locs cl sl (lw_Z below #[Value.ref b] s) (F0 m 23 ls []) := by
  have C1 := C0
  obtain ⟨⟨hx, hb, hr, hml, hown, hts0, hX, hbl, hlocks, hgv⟩, hl9, hI, hI2, hJ, hJ2, hdis, hK, hK2, hZ⟩ := C0
  have hown : s.vm.findClass RL = some m.cls := hown
  have hts : ∀ w ∈ fd_wl, w.before #[Value.ref b] s = true := fun w h => hts0 w (fd_wl_in w h)
  have hA : ∀ q : Nat, s.heap.size ≤ q → (fun q : Nat => s.heap.size ≤ q) q := fun _ h => h
  have hbA : ¬ (fun q : Nat => s.heap.size ≤ q) b := Nat.not_le.mpr hbl
  intro n
  induction n with
  | zero =>
    intro _ _ _ _ _ _ _ _ _ _ _ _ _ _ hf
    cases hf
  | succ n ih =>
    intro i σ μ cl sl H locs ls hcl hsl hP hQ hS hl hf
    unfold f_law at hf
    refine lv_iload hx hb dL_law_23 (lv_at hl 4 rfl) ?_
    refine lv_aload_n hx hb dL_law_25 rfl (lv_at hl 0 rfl) ?_
    refine va_slen hx hb hX hbl hbA hS dL_law_26 ?_
    refine lv_bipush (v := (6 : Int32)) hx hb dL_law_27 (by decide) ?_
    refine lv_isub hx hb dL_law_29 ?_
    refine lv_icmp_gt (tgt := 1067) hx hb dL_law_30 (by decide) (fun c1 => ?_) (fun c1 => ?_)
    · refine lv_iconst (v := (1 : Int32)) hx hb dL_law_1067 (by decide) ?_
      refine va_forget (fun q hq => hS.2.2 q hq) ?_
      refine W.widen (k := 1116) (n := 18645) (by omega) (by omega) ?_
      exact lw_ret hx hb hr hlocks dL_law_1068
    · have hf := fd_itn c1 hf
      obtain ⟨g1, hf⟩ := fd_gds hf
      obtain ⟨x, ex, hf⟩ := fd_lts hf
      refine lv_aload_n hx hb dL_law_33 rfl (lv_at hl 0 rfl) ?_
      refine lv_iload hx hb dL_law_34 (lv_at hl 4 rfl) ?_
      refine va_sld hx hb hX hbl hbA hS g1 dL_law_36 ?_
      refine lv_bipush (v := (31 : Int32)) hx hb dL_law_37 (by decide) ?_
      refine lv_iand hx hb dL_law_39 ?_
      refine fd_ni ex ?_
      by_cases d0 : x = (0 : Int32)
      · have hf := fd_itp d0 hf
        refine lv_tableIn (off := 104) (tgt := 144) hx hb dL_law_40 (by rw [d0]; decide) (by rw [d0]; decide) (by rw [d0]; decide) (by decide) ?_
        exact law_c0 C1 N (f_law N L xs n) n ih i σ μ cl sl H locs ls hcl hsl hP hQ hS hl hf
      have hf := fd_itn d0 hf
      by_cases d1 : x = (1 : Int32)
      · have hf := fd_itp d1 hf
        refine lv_tableIn (off := 120) (tgt := 160) hx hb dL_law_40 (by rw [d1]; decide) (by rw [d1]; decide) (by rw [d1]; decide) (by decide) ?_
        exact law_c1 C1 N (f_law N L xs n) n ih i σ μ cl sl H locs ls hcl hsl hP hQ hS hl hf
      have hf := fd_itn d1 hf
      by_cases d2 : x = (2 : Int32)
      · have hf := fd_itp d2 hf
        refine lv_tableIn (off := 172) (tgt := 212) hx hb dL_law_40 (by rw [d2]; decide) (by rw [d2]; decide) (by rw [d2]; decide) (by decide) ?_
        exact law_c2 C1 N (f_law N L xs n) n ih i σ μ cl sl H locs ls hcl hsl hP hQ hS hl hf
      have hf := fd_itn d2 hf
      by_cases d3 : x = (3 : Int32)
      · have hf := fd_itp d3 hf
        refine lv_tableIn (off := 200) (tgt := 240) hx hb dL_law_40 (by rw [d3]; decide) (by rw [d3]; decide) (by rw [d3]; decide) (by decide) ?_
        exact law_c3 C1 N (f_law N L xs n) n ih i σ μ cl sl H locs ls hcl hsl hP hQ hS hl hf
      have hf := fd_itn d3 hf
      by_cases d4 : x = (4 : Int32)
      · have hf := fd_itp d4 hf
        refine lv_tableIn (off := 228) (tgt := 268) hx hb dL_law_40 (by rw [d4]; decide) (by rw [d4]; decide) (by rw [d4]; decide) (by decide) ?_
        exact law_c4 C1 N (f_law N L xs n) n ih i σ μ cl sl H locs ls hcl hsl hP hQ hS hl hf
      have hf := fd_itn d4 hf
      by_cases d5 : x = (5 : Int32)
      · have hf := fd_itp d5 hf
        refine lv_tableIn (off := 300) (tgt := 340) hx hb dL_law_40 (by rw [d5]; decide) (by rw [d5]; decide) (by rw [d5]; decide) (by decide) ?_
        exact law_c5 C1 N (f_law N L xs n) n ih i σ μ cl sl H locs ls hcl hsl hP hQ hS hl hf
      have hf := fd_itn d5 hf
      by_cases d6 : x = (6 : Int32)
      · have hf := fd_itp d6 hf
        refine lv_tableIn (off := 328) (tgt := 368) hx hb dL_law_40 (by rw [d6]; decide) (by rw [d6]; decide) (by rw [d6]; decide) (by decide) ?_
        exact law_c6 C1 N (f_law N L xs n) n ih i σ μ cl sl H locs ls hcl hsl hP hQ hS hl hf
      have hf := fd_itn d6 hf
      by_cases d7 : x = (7 : Int32)
      · have hf := fd_itp d7 hf
        refine lv_tableIn (off := 400) (tgt := 440) hx hb dL_law_40 (by rw [d7]; decide) (by rw [d7]; decide) (by rw [d7]; decide) (by decide) ?_
        exact law_c7 C1 N (f_law N L xs n) n ih i σ μ cl sl H locs ls hcl hsl hP hQ hS hl hf
      have hf := fd_itn d7 hf
      by_cases d8 : x = (8 : Int32)
      · have hf := fd_itp d8 hf
        refine lv_tableIn (off := 440) (tgt := 480) hx hb dL_law_40 (by rw [d8]; decide) (by rw [d8]; decide) (by rw [d8]; decide) (by decide) ?_
        exact law_c8 C1 N (f_law N L xs n) n ih i σ μ cl sl H locs ls hcl hsl hP hQ hS hl hf
      have hf := fd_itn d8 hf
      by_cases d9 : x = (9 : Int32)
      · have hf := fd_itp d9 hf
        refine lv_tableIn (off := 492) (tgt := 532) hx hb dL_law_40 (by rw [d9]; decide) (by rw [d9]; decide) (by rw [d9]; decide) (by decide) ?_
        exact law_c9 C1 N (f_law N L xs n) n ih i σ μ cl sl H locs ls hcl hsl hP hQ hS hl hf
      have hf := fd_itn d9 hf
      by_cases d10 : x = (10 : Int32)
      · have hf := fd_itp d10 hf
        refine lv_tableIn (off := 505) (tgt := 545) hx hb dL_law_40 (by rw [d10]; decide) (by rw [d10]; decide) (by rw [d10]; decide) (by decide) ?_
        exact law_c10 C1 N (f_law N L xs n) n ih i σ μ cl sl H locs ls hcl hsl hP hQ hS hl hf
      have hf := fd_itn d10 hf
      by_cases d11 : x = (11 : Int32)
      · have hf := fd_itp d11 hf
        refine lv_tableIn (off := 545) (tgt := 585) hx hb dL_law_40 (by rw [d11]; decide) (by rw [d11]; decide) (by rw [d11]; decide) (by decide) ?_
        exact law_c11 C1 N (f_law N L xs n) n ih i σ μ cl sl H locs ls hcl hsl hP hQ hS hl hf
      have hf := fd_itn d11 hf
      by_cases d12 : x = (12 : Int32)
      · have hf := fd_itp d12 hf
        refine lv_tableIn (off := 573) (tgt := 613) hx hb dL_law_40 (by rw [d12]; decide) (by rw [d12]; decide) (by rw [d12]; decide) (by decide) ?_
        exact law_c12 C1 N (f_law N L xs n) n ih i σ μ cl sl H locs ls hcl hsl hP hQ hS hl hf
      have hf := fd_itn d12 hf
      by_cases d13 : x = (13 : Int32)
      · have hf := fd_itp d13 hf
        refine lv_tableIn (off := 589) (tgt := 629) hx hb dL_law_40 (by rw [d13]; decide) (by rw [d13]; decide) (by rw [d13]; decide) (by decide) ?_
        exact law_c13 C1 N (f_law N L xs n) n ih i σ μ cl sl H locs ls hcl hsl hP hQ hS hl hf
      have hf := fd_itn d13 hf
      by_cases d14 : x = (14 : Int32)
      · have hf := fd_itp d14 hf
        refine lv_tableIn (off := 617) (tgt := 657) hx hb dL_law_40 (by rw [d14]; decide) (by rw [d14]; decide) (by rw [d14]; decide) (by decide) ?_
        exact law_c14 C1 N (f_law N L xs n) n ih i σ μ cl sl H locs ls hcl hsl hP hQ hS hl hf
      have hf := fd_itn d14 hf
      by_cases d15 : x = (15 : Int32)
      · have hf := fd_itp d15 hf
        refine lv_tableIn (off := 642) (tgt := 682) hx hb dL_law_40 (by rw [d15]; decide) (by rw [d15]; decide) (by rw [d15]; decide) (by decide) ?_
        exact law_c15 C1 N (f_law N L xs n) n ih i σ μ cl sl H locs ls hcl hsl hP hQ hS hl hf
      have hf := fd_itn d15 hf
      by_cases d16 : x = (16 : Int32)
      · have hf := fd_itp d16 hf
        refine lv_tableIn (off := 746) (tgt := 786) hx hb dL_law_40 (by rw [d16]; decide) (by rw [d16]; decide) (by rw [d16]; decide) (by decide) ?_
        exact law_c16 C1 N (f_law N L xs n) n ih i σ μ cl sl H locs ls hcl hsl hP hQ hS hl hf
      have hf := fd_itn d16 hf
      by_cases d17 : x = (17 : Int32)
      · have hf := fd_itp d17 hf
        refine lv_tableIn (off := 786) (tgt := 826) hx hb dL_law_40 (by rw [d17]; decide) (by rw [d17]; decide) (by rw [d17]; decide) (by decide) ?_
        exact law_c17 C1 N (f_law N L xs n) n ih i σ μ cl sl H locs ls hcl hsl hP hQ hS hl hf
      have hf := fd_itn d17 hf
      by_cases d18 : x = (18 : Int32)
      · have hf := fd_itp d18 hf
        refine lv_tableIn (off := 862) (tgt := 902) hx hb dL_law_40 (by rw [d18]; decide) (by rw [d18]; decide) (by rw [d18]; decide) (by decide) ?_
        exact law_c18 C1 N (f_law N L xs n) n ih i σ μ cl sl H locs ls hcl hsl hP hQ hS hl hf
      have hf := fd_itn d18 hf
      by_cases d19 : x = (19 : Int32)
      · have hf := fd_itp d19 hf
        refine lv_tableIn (off := 902) (tgt := 942) hx hb dL_law_40 (by rw [d19]; decide) (by rw [d19]; decide) (by rw [d19]; decide) (by decide) ?_
        exact law_c19 C1 N (f_law N L xs n) n ih i σ μ cl sl H locs ls hcl hsl hP hQ hS hl hf
      have hf := fd_itn d19 hf
      by_cases d20 : x = (20 : Int32)
      · have hf := fd_itp d20 hf
        refine lv_tableIn (off := 982) (tgt := 1022) hx hb dL_law_40 (by rw [d20]; decide) (by rw [d20]; decide) (by rw [d20]; decide) (by decide) ?_
        exact law_c20 C1 N (f_law N L xs n) n ih i σ μ cl sl H locs ls hcl hsl hP hQ hS hl hf
      have hf := fd_itn d20 hf
      by_cases d21 : x = (21 : Int32)
      · have hf := fd_itp d21 hf
        refine lv_tableIn (off := 1010) (tgt := 1050) hx hb dL_law_40 (by rw [d21]; decide) (by rw [d21]; decide) (by rw [d21]; decide) (by decide) ?_
        exact law_c21 C1 N (f_law N L xs n) n ih i σ μ cl sl H locs ls hcl hsl hP hQ hS hl hf
      have hf := fd_itn d21 hf
      have n0 := lv_neT d0 (a := 0) (by decide)
      have n1 := lv_neT d1 (a := 1) (by decide)
      have n2 := lv_neT d2 (a := 2) (by decide)
      have n3 := lv_neT d3 (a := 3) (by decide)
      have n4 := lv_neT d4 (a := 4) (by decide)
      have n5 := lv_neT d5 (a := 5) (by decide)
      have n6 := lv_neT d6 (a := 6) (by decide)
      have n7 := lv_neT d7 (a := 7) (by decide)
      have n8 := lv_neT d8 (a := 8) (by decide)
      have n9 := lv_neT d9 (a := 9) (by decide)
      have n10 := lv_neT d10 (a := 10) (by decide)
      have n11 := lv_neT d11 (a := 11) (by decide)
      have n12 := lv_neT d12 (a := 12) (by decide)
      have n13 := lv_neT d13 (a := 13) (by decide)
      have n14 := lv_neT d14 (a := 14) (by decide)
      have n15 := lv_neT d15 (a := 15) (by decide)
      have n16 := lv_neT d16 (a := 16) (by decide)
      have n17 := lv_neT d17 (a := 17) (by decide)
      have n18 := lv_neT d18 (a := 18) (by decide)
      have n19 := lv_neT d19 (a := 19) (by decide)
      have n20 := lv_neT d20 (a := 20) (by decide)
      have n21 := lv_neT d21 (a := 21) (by decide)
      refine lv_tableOut (tgt := 1061) hx hb dL_law_40 (by omega) (by decide) ?_
      obtain ⟨i2, ei2, hf⟩ := fd_lts hf
      refine lv_iinc (v := i2) (lv' := [(4, .int i2), (0, .ref b), (1, .ref (a 0)), (2, .ref (a2 0)), (3, .ref (a 39))]) hx hb dL_law_1061 hl (k := 4) rfl (by rw [ei2]; rfl) (by decide) rfl (fun ls hl => ?_)
      refine lv_goto (tgt := 23) hx hb dL_law_1064 (by decide) ?_
      exact ih _ _ _ _ _ _ _ _ (by omega) (by omega) hP hQ hS (lv_sub hl [1, 2, 3, 4, 0] rfl) hf
