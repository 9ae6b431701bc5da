def fd_n (x : Int64) : Nat := x.toBitVec.toNat
theorem fd_n_lt (x : Int64) : fd_n x < 18446744073709551616 := x.toBitVec.isLt
theorem fd_n_inj {x y : Int64} (h : fd_n x = fd_n y) : x = y := Int64.toBitVec_inj.mp (BitVec.eq_of_toNat_eq h)
theorem fd_n_and (x y : Int64) : fd_n (x &&& y) = fd_n x &&& fd_n y := by unfold fd_n; rw [Int64.toBitVec_and, BitVec.toNat_and]
theorem fd_n_add (x y : Int64) : fd_n (x + y) = (fd_n x + fd_n y) % 18446744073709551616 := by unfold fd_n; rw [Int64.toBitVec_add, BitVec.toNat_add]
theorem fd_n_shr {x : Int64} {s : UInt64} {j : Nat} (hj : j < 64) (hs : s.toNat = j) : fd_n (x.toUInt64 >>> s).toInt64 = fd_n x / 2 ^ j := by
  have e : (x.toUInt64 >>> s).toInt64.toBitVec = x.toBitVec >>> j := by
    apply BitVec.eq_of_toNat_eq
    show (x.toUInt64 >>> s).toNat = _
    rw [UInt64.toNat_shiftRight, hs, Nat.mod_eq_of_lt hj, BitVec.toNat_ushiftRight]
    rfl
  unfold fd_n
  rw [e, BitVec.toNat_ushiftRight, Nat.shiftRight_eq_div_pow]
/-- sixteens' digits are at most b -/
def fd_dg (b : Nat) : Nat → Nat → Prop
  | 0 => fun x => x = 0
  | k + 1 => fun x => x % 16 ≤ b ∧ fd_dg b k (x / 16)
def fd_m3 : Nat → Nat
  | 0 => 0
  | k + 1 => 16 * fd_m3 k + 3
theorem fd_a16 (a b : Nat) : (a &&& b) % 16 = (a % 16) &&& (b % 16) := Nat.and_mod_two_pow (n := 4)
theorem fd_d16 (a b : Nat) : (a &&& b) / 16 = (a / 16) &&& (b / 16) := Nat.and_div_two_pow (n := 4)
theorem fd_dg3 : ∀ (k n : Nat), fd_dg 3 k (n &&& fd_m3 k) := by
  intro k
  induction k with
  | zero => intro n; exact Nat.and_zero n
  | succ k ih =>
    intro n
    unfold fd_m3
    have e1 : (16 * fd_m3 k + 3) % 16 = 3 := by omega
    have e2 : (16 * fd_m3 k + 3) / 16 = fd_m3 k := by omega
    refine ⟨?_, ?_⟩
    · rw [fd_a16, e1]; exact Nat.and_le_right
    · rw [fd_d16, e2]; exact ih _
theorem fd_dg_add : ∀ (k s t : Nat), fd_dg 3 k s → fd_dg 3 k t → fd_dg 6 k (s + t) := by
  intro k
  induction k with
  | zero => intro s t h1 h2; have h1 : s = 0 := h1; have h2 : t = 0 := h2; show s + t = 0; omega
  | succ k ih =>
    rintro s t ⟨a1, a2⟩ ⟨b1, b2⟩
    refine ⟨by omega, ?_⟩
    have e : (s + t) / 16 = s / 16 + t / 16 := by omega
    rw [e]; exact ih _ _ a2 b2
theorem fd_dgz : ∀ (k x : Nat), fd_dg 6 (2 * k) x → (∀ i, i < k → (x + x / 16) / 256 ^ i % 16 = 0) → x = 0 := by
  intro k
  induction k with
  | zero => intro x h _; exact h
  | succ k ih =>
    intro x h hi
    have e : 2 * (k + 1) = (2 * k + 1) + 1 := by omega
    rw [e] at h
    obtain ⟨a1, a2, a3⟩ := h
    have h0 := hi 0 (by omega)
    rw [Nat.pow_zero, Nat.div_one] at h0
    obtain ⟨r, er⟩ : ∃ r, r = x % 16 := ⟨_, rfl⟩
    obtain ⟨q, eq⟩ : ∃ q, q = x / 16 := ⟨_, rfl⟩
    obtain ⟨t, et⟩ : ∃ t, t = q % 16 := ⟨_, rfl⟩
    obtain ⟨u, eu⟩ : ∃ u, u = q / 16 := ⟨_, rfl⟩
    have x1 : x = 16 * q + r := by omega
    have x2 : q = 16 * u + t := by omega
    have w0 : (r + t) % 16 = 0 := by
      rw [← eq, x1, x2] at h0
      omega
    have w1 : r ≤ 6 := by omega
    have w2 : t ≤ 6 := by rw [et, eq]; exact a2
    have z1 : x % 16 = 0 := by omega
    have z2 : x / 16 % 16 = 0 := by rw [← eq, ← et]; omega
    have z3 : x / 16 / 16 = 0 := by
      refine ih _ a3 (fun i q => ?_)
      have h1 := hi (i + 1) (by omega)
      have e1 : (x + x / 16) / 256 ^ (i + 1) = (x + x / 16) / 256 / 256 ^ i := by
        rw [Nat.pow_succ, Nat.mul_comm, Nat.div_div_eq_div_mul]
      have e2 : (x + x / 16) / 256 = x / 16 / 16 + x / 16 / 16 / 16 := by omega
      rw [e1, e2] at h1
      exact h1
    omega
theorem fd_m15 {y : Nat} (h : y &&& 1085102592571150095 = 0) : ∀ i, i < 8 → y / 256 ^ i % 16 = 0 := by
  have one : ∀ i : Nat, 1085102592571150095 / 256 ^ i % 16 = 15 → y / 256 ^ i % 16 = 0 := by
    intro i hm
    have e : (y &&& 1085102592571150095) / 2 ^ (8 * i) = y / 2 ^ (8 * i) &&& 1085102592571150095 / 2 ^ (8 * i) := Nat.and_div_two_pow
    have p : (2 : Nat) ^ (8 * i) = 256 ^ i := by rw [Nat.pow_mul]
    rw [p, h, Nat.zero_div] at e
    have e2 := fd_a16 (y / 256 ^ i) (1085102592571150095 / 256 ^ i)
    rw [← e, hm] at e2
    have e3 : (y / 256 ^ i % 16) &&& 15 = (y / 256 ^ i % 16) % 16 := Nat.and_two_pow_sub_one_eq_mod (y / 256 ^ i % 16) 4
    omega
  intro i hi
  apply one
  rcases (show i = 0 ∨ i = 1 ∨ i = 2 ∨ i = 3 ∨ i = 4 ∨ i = 5 ∨ i = 6 ∨ i = 7 by omega) with rfl | rfl | rfl | rfl | rfl | rfl | rfl | rfl <;> decide
/-- bytes are at most 15 -/
def fd_by : Nat → Nat → Prop
  | 0 => fun x => x = 0
  | k + 1 => fun x => x % 256 ≤ 15 ∧ fd_by k (x / 256)
def fd_mf : Nat → Nat
  | 0 => 0
  | k + 1 => 256 * fd_mf k + 15
theorem fd_by_and : ∀ (k n : Nat), fd_by k (n &&& fd_mf k) := by
  intro k
  induction k with
  | zero => intro n; exact Nat.and_zero n
  | succ k ih =>
    intro n
    unfold fd_mf
    have e1 : (256 * fd_mf k + 15) % 256 = 15 := by omega
    have e2 : (256 * fd_mf k + 15) / 256 = fd_mf k := by omega
    have a1 : (n &&& (256 * fd_mf k + 15)) % 256 = (n % 256) &&& ((256 * fd_mf k + 15) % 256) := Nat.and_mod_two_pow (n := 8)
    have a2 : (n &&& (256 * fd_mf k + 15)) / 256 = (n / 256) &&& ((256 * fd_mf k + 15) / 256) := Nat.and_div_two_pow (n := 8)
    refine ⟨?_, ?_⟩
    · rw [a1, e1]; exact Nat.and_le_right
    · rw [a2, e2]; exact ih _
theorem fd_by_s {k x : Nat} (h : fd_by (k + 1) x) : ∃ c q, x = c + 256 * q ∧ c ≤ 15 ∧ fd_by k q := ⟨x % 256, x / 256, by omega, h.1, h.2⟩
theorem fd_by_0 {x : Nat} (h : fd_by 0 x) : x = 0 := h
/-- the last sums: zero where all bytes are -/
theorem fd_sum7 {n : Nat} (hd : fd_by 8 n) (h : ((n + n / 256) + (n + n / 256) / 65536 + ((n + n / 256) + (n + n / 256) / 65536) / 4294967296) % 128 = 0) : n = 0 := by
  obtain ⟨c0, q1, e0, d0, hd⟩ := fd_by_s (k := 7) hd
  obtain ⟨c1, q2, e1, d1, hd⟩ := fd_by_s (k := 6) hd
  obtain ⟨c2, q3, e2, d2, hd⟩ := fd_by_s (k := 5) hd
  obtain ⟨c3, q4, e3, d3, hd⟩ := fd_by_s (k := 4) hd
  obtain ⟨c4, q5, e4, d4, hd⟩ := fd_by_s (k := 3) hd
  obtain ⟨c5, q6, e5, d5, hd⟩ := fd_by_s (k := 2) hd
  obtain ⟨c6, q7, e6, d6, hd⟩ := fd_by_s (k := 1) hd
  obtain ⟨c7, q8, e7, d7, hd⟩ := fd_by_s (k := 0) hd
  have e8 := fd_by_0 hd
  subst e8
  have f0 : n / 256 = q1 := by omega
  rw [f0] at h
  -- the first sum
  obtain ⟨x4, g4⟩ : ∃ x, x = n + q1 := ⟨_, rfl⟩
  rw [← g4] at h
  have f4 : x4 / 65536 = (c2 + c3) + 256 * (c3 + c4) + 65536 * (c4 + c5) + 16777216 * (c5 + c6) + 4294967296 * (c6 + c7) + 1099511627776 * c7 := by omega
  rw [f4] at h
  obtain ⟨x5, g5⟩ : ∃ x, x = x4 + ((c2 + c3) + 256 * (c3 + c4) + 65536 * (c4 + c5) + 16777216 * (c5 + c6) + 4294967296 * (c6 + c7) + 1099511627776 * c7) := ⟨_, rfl⟩
  rw [← g5] at h
  have f5 : x5 / 4294967296 = (c4 + c5 + c6 + c7) + 256 * (c5 + c6 + c7) + 65536 * (c6 + c7) + 16777216 * c7 := by omega
  rw [f5] at h
  have w : (c0 + c1 + c2 + c3 + c4 + c5 + c6 + c7) % 128 = 0 := by omega
  clear h f0 f4 f5 g4 g5
  have w2 : c0 + c1 + c2 + c3 + c4 + c5 + c6 + c7 = 0 := by
    clear e0 e1 e2 e3 e4 e5 e6 e7
    omega
  omega
theorem fd_and127 (x : Int64) : (x.toInt32 &&& (127 : Int32)).toInt = ((fd_n x % 128 : Nat) : Int) := by
  have e : (x.toInt32 &&& (127 : Int32)).toBitVec.toNat = fd_n x % 128 := by
    rw [Int32.toBitVec_and, BitVec.toNat_and]
    show (BitVec.signExtend 32 x.toBitVec).toNat &&& 127 = _
    have e1 : (BitVec.signExtend 32 x.toBitVec).toNat = fd_n x % 4294967296 := by
      rw [BitVec.signExtend_eq_setWidth_of_le _ (by decide), BitVec.toNat_setWidth]; rfl
    have e2 : (fd_n x % 4294967296) &&& 127 = (fd_n x % 4294967296) % 128 := Nat.and_two_pow_sub_one_eq_mod _ 7
    rw [e1, e2]; omega
  show (x.toInt32 &&& (127 : Int32)).toBitVec.toInt = _
  rw [BitVec.toInt_eq_toNat_of_lt (by rw [e]; omega), e]
theorem fd_z1 {p q : Int64} (h : p - q = 0) : p = q := by
  have := congrArg (fun z => z + q) h
  simpa using this
/-- Long.bitCount: none where there are none -/
theorem q_bitCount {N : Nat} {p0 : Int64} {σ : fd_St} {v : Int32} {s : fd_St} (h : f_J13_bitCount_95d88_C N p0 σ = some (v, s)) : s = σ ∧ (0 ≤ v.toInt ∧ v.toInt ≤ 127) ∧ (v.toInt = 0 ↔ p0 = 0) := by
  unfold f_J13_bitCount_95d88_C at h
  obtain ⟨x1, e1, h⟩ := fd_lts h
  obtain ⟨x2, e2, h⟩ := fd_lts h
  obtain ⟨x3, e3, h⟩ := fd_lts h
  obtain ⟨x4, e4, h⟩ := fd_lts h
  obtain ⟨x5, e5, h⟩ := fd_lts h
  obtain ⟨x6, e6, h⟩ := fd_lts h
  obtain ⟨ev, es⟩ := Prod.mk.inj (Option.some.inj h)
  have a1 : ((1 : Int32).toInt64.toUInt64 &&& Int64.toUInt64 63).toNat = 1 := by decide
  have a2 : ((2 : Int32).toInt64.toUInt64 &&& Int64.toUInt64 63).toNat = 2 := by decide
  have a4 : ((4 : Int32).toInt64.toUInt64 &&& Int64.toUInt64 63).toNat = 4 := by decide
  have a8 : ((8 : Int32).toInt64.toUInt64 &&& Int64.toUInt64 63).toNat = 8 := by decide
  have a16 : ((16 : Int32).toInt64.toUInt64 &&& Int64.toUInt64 63).toNat = 16 := by decide
  have a32 : ((32 : Int32).toInt64.toUInt64 &&& Int64.toUInt64 63).toNat = 32 := by decide
  have m3 : fd_n (3689348814741910323 : Int64) = fd_m3 16 := by decide
  have m15 : fd_n (1085102592571150095 : Int64) = 1085102592571150095 := by decide
  have hm3 : fd_m3 16 = 3689348814741910323 := by decide
  have n2 : fd_n x2 = (fd_n x1 &&& fd_m3 16) + (fd_n x1 / 4 &&& fd_m3 16) := by
    rw [e2, fd_n_add, fd_n_and, fd_n_and, fd_n_shr (by decide) a2, m3]
    have b1 : (fd_n x1 &&& fd_m3 16) ≤ fd_m3 16 := Nat.and_le_right
    have b2 : (fd_n x1 / 2 ^ 2 &&& fd_m3 16) ≤ fd_m3 16 := Nat.and_le_right
    have b3 : (2 : Nat) ^ 2 = 4 := by decide
    rw [b3] at b2 ⊢
    omega
  have d2 : fd_dg 6 16 (fd_n x2) := by rw [n2]; exact fd_dg_add 16 _ _ (fd_dg3 16 _) (fd_dg3 16 _)
  have n3 : fd_n x3 = (fd_n x2 + fd_n x2 / 16) % 18446744073709551616 &&& 1085102592571150095 := by
    rw [e3, fd_n_and, fd_n_add, fd_n_shr (by decide) a4, m15]
  have l2 : fd_n x2 ≤ 7378697629483820646 := by
    rw [n2]
    have b1 : (fd_n x1 &&& fd_m3 16) ≤ fd_m3 16 := Nat.and_le_right
    have b2 : (fd_n x1 / 4 &&& fd_m3 16) ≤ fd_m3 16 := Nat.and_le_right
    omega
  have n3' : fd_n x3 = (fd_n x2 + fd_n x2 / 16) &&& 1085102592571150095 := by
    rw [n3, Nat.mod_eq_of_lt (by omega)]
  have mf : fd_mf 8 = 1085102592571150095 := by decide
  have b3 : fd_by 8 (fd_n x3) := by rw [n3', ← mf]; exact fd_by_and 8 _
  have l3 : fd_n x3 ≤ 1085102592571150095 := by rw [n3']; exact Nat.and_le_right
  have n4 : fd_n x4 = fd_n x3 + fd_n x3 / 256 := by
    rw [e4, fd_n_add, fd_n_shr (by decide) a8]
    have b : (2 : Nat) ^ 8 = 256 := by decide
    rw [b]; omega
  have n5 : fd_n x5 = fd_n x4 + fd_n x4 / 65536 := by
    rw [e5, fd_n_add, fd_n_shr (by decide) a16]
    have b : (2 : Nat) ^ 16 = 65536 := by decide
    rw [b]; omega
  have n6 : fd_n x6 = fd_n x5 + fd_n x5 / 4294967296 := by
    rw [e6, fd_n_add, fd_n_shr (by decide) a32]
    have b : (2 : Nat) ^ 32 = 4294967296 := by decide
    rw [b]; omega
  have vv : v.toInt = ((fd_n x6 % 128 : Nat) : Int) := by rw [← ev]; exact fd_and127 x6
  refine ⟨es.symm, by omega, ⟨fun hz => ?_, fun hz => ?_⟩⟩
  · have h6 : fd_n x6 % 128 = 0 := by omega
    rw [n6, n5, n4] at h6
    have z3 := fd_sum7 b3 h6
    rw [n3'] at z3
    have z2 : fd_n x2 = 0 := fd_dgz 8 _ d2 (fd_m15 z3)
    rw [n2] at z2
    have y1 : (fd_n x1 &&& fd_m3 16) = 0 := by omega
    have y2 : (fd_n x1 / 4 &&& fd_m3 16) = 0 := by omega
    have w1 : x1 &&& (3689348814741910323 : Int64) = 0 := fd_n_inj (by rw [fd_n_and, m3, y1]; decide)
    have w2 : (x1.toUInt64 >>> ((2 : Int32).toInt64.toUInt64 &&& Int64.toUInt64 63)).toInt64 &&& (3689348814741910323 : Int64) = 0 := fd_n_inj (by
      rw [fd_n_and, fd_n_shr (by decide) a2, m3]
      have b : (2 : Nat) ^ 2 = 4 := by decide
      rw [b, y2]; decide)
    have mb3 : ∀ i : Fin 64, (3689348814741910323 : Int64).toBitVec.getLsbD i.val = decide (i.val % 4 < 2) := by decide +kernel
    have mb5 : ∀ i : Fin 64, (6148914691236517205 : Int64).toBitVec.getLsbD i.val = decide (i.val % 2 = 0) := by decide +kernel
    have z1 : x1 = 0 := by
      refine fd_bits (fun i hi => ?_)
      rw [fd_bt0]
      by_cases c : i % 4 < 2
      · have q := congrArg (fun z : Int64 => z.toBitVec.getLsbD i) w1
        simp only [Int64.toBitVec_and, BitVec.getLsbD_and, fd_bt0] at q
        rw [mb3 ⟨i, hi⟩, decide_eq_true c, Bool.and_true] at q
        exact q
      · have q := congrArg (fun z : Int64 => z.toBitVec.getLsbD (i - 2)) w2
        simp only [Int64.toBitVec_and, BitVec.getLsbD_and, fd_bt0] at q
        have c2 : (i - 2) % 4 < 2 := by omega
        have e9 : 2 + (i - 2) = i := by omega
        rw [fd_sb (by decide) a2, e9, mb3 ⟨i - 2, by omega⟩, decide_eq_true c2, Bool.and_true] at q
        exact q
    rw [z1] at e1
    have pq := fd_z1 e1.symm
    refine fd_bits (fun i hi => ?_)
    rw [fd_bt0]
    have bit : ∀ j, j < 64 → p0.toBitVec.getLsbD j = (p0.toBitVec.getLsbD (1 + j) && decide (j % 2 = 0)) := by
      intro j hj
      have q := congrArg (fun z : Int64 => z.toBitVec.getLsbD j) pq
      simp only [Int64.toBitVec_and, BitVec.getLsbD_and] at q
      rw [fd_sb (by decide) a1, mb5 ⟨j, hj⟩] at q
      exact q
    by_cases c : i % 2 = 0
    · rw [bit i hi]
      have : p0.toBitVec.getLsbD (1 + i) = false := by
        rw [bit (1 + i) (by omega), decide_eq_false (by omega : ¬ (1 + i) % 2 = 0), Bool.and_false]
      rw [this, Bool.false_and]
    · rw [bit i hi, decide_eq_false c, Bool.and_false]
  · subst hz
    have k1 : x1 = 0 := by rw [e1]; decide
    have k2 : x2 = 0 := by rw [e2, k1]; decide
    have k3 : x3 = 0 := by rw [e3, k2]; decide
    have k4 : x4 = 0 := by rw [e4, k3]; decide
    have k5 : x5 = 0 := by rw [e5, k4]; decide
    have k6 : x6 = 0 := by rw [e6, k5]; decide
    rw [vv, k6]; decide
