/-! bitCount tells how many bits are set -/
def NI (x : Int32) : Nat := x.toBitVec.toNat
def NL (x : Int64) : Nat := x.toBitVec.toNat
theorem NI_lt (x : Int32) : NI x < 2 ^ 32 := x.toBitVec.isLt
theorem NL_lt (x : Int64) : NL x < 2 ^ 64 := x.toBitVec.isLt
theorem NI_inj {x y : Int32} (h : NI x = NI y) : x = y := Int32.toBitVec_inj.mp (BitVec.eq_of_toNat_eq h)
theorem NL_inj {x y : Int64} (h : NL x = NL y) : x = y := Int64.toBitVec_inj.mp (BitVec.eq_of_toNat_eq h)
theorem NI_and (x y : Int32) : NI (x &&& y) = NI x &&& NI y := by unfold NI; rw [Int32.toBitVec_and, BitVec.toNat_and]
theorem NL_and (x y : Int64) : NL (x &&& y) = NL x &&& NL y := by unfold NL; rw [Int64.toBitVec_and, BitVec.toNat_and]
theorem NI_add {x y : Int32} (h : NI x + NI y < 2 ^ 32) : NI (x + y) = NI x + NI y := by
  unfold NI at h ⊢
  rw [Int32.toBitVec_add, BitVec.toNat_add, Nat.mod_eq_of_lt h]
theorem NL_add {x y : Int64} (h : NL x + NL y < 2 ^ 64) : NL (x + y) = NL x + NL y := by
  unfold NL at h ⊢
  rw [Int64.toBitVec_add, BitVec.toNat_add, Nat.mod_eq_of_lt h]
theorem NI_sub {x y : Int32} (h : NI y ≤ NI x) : NI (x - y) = NI x - NI y := by
  have h1 := NI_lt x
  have h2 := NI_lt y
  unfold NI at h h1 h2 ⊢
  rw [Int32.toBitVec_sub, BitVec.toNat_sub, show 2 ^ 32 - y.toBitVec.toNat + x.toBitVec.toNat = (x.toBitVec.toNat - y.toBitVec.toNat) + 2 ^ 32 by omega, Nat.add_mod_right, Nat.mod_eq_of_lt (by omega)]
theorem NL_sub {x y : Int64} (h : NL y ≤ NL x) : NL (x - y) = NL x - NL y := by
  have h1 := NL_lt x
  have h2 := NL_lt y
  unfold NL at h h1 h2 ⊢
  rw [Int64.toBitVec_sub, BitVec.toNat_sub, show 2 ^ 64 - y.toBitVec.toNat + x.toBitVec.toNat = (x.toBitVec.toNat - y.toBitVec.toNat) + 2 ^ 64 by omega, Nat.add_mod_right, Nat.mod_eq_of_lt (by omega)]
theorem NI_shr (x : Int32) {k : Nat} (hk : k < 32) : NI (iushr x (nI k)) = NI x / 2 ^ k := by
  unfold NI iushr
  have h : ((x.toUInt32 >>> ((nI k).toUInt32 &&& Int32.toUInt32 31)).toInt32).toBitVec = x.toBitVec >>> k := by
    show (x.toUInt32 >>> ((nI k).toUInt32 &&& Int32.toUInt32 31)).toBitVec = _
    rw [UInt32.toBitVec_shiftRight, BitVec.ushiftRight_eq', sh_u k hk]
    rfl
  rw [h, BitVec.toNat_ushiftRight, Nat.shiftRight_eq_div_pow]
theorem NL_shr (x : Int64) {k : Nat} (hk : k < 64) : NL (lushr x (nI k)) = NL x / 2 ^ k := by
  unfold NL lushr
  have h : ((x.toUInt64 >>> ((nI k).toInt64.toUInt64 &&& Int64.toUInt64 63)).toInt64).toBitVec = x.toBitVec >>> k := by
    show (x.toUInt64 >>> ((nI k).toInt64.toUInt64 &&& Int64.toUInt64 63)).toBitVec = _
    rw [UInt64.toBitVec_shiftRight, BitVec.ushiftRight_eq', sh_ul k hk]
    rfl
  rw [h, BitVec.toNat_ushiftRight, Nat.shiftRight_eq_div_pow]
theorem NI_nI {k : Nat} (h : k < 2 ^ 31) : NI (nI k) = k := by
  show (BitVec.ofNat 32 k).toNat = k
  rw [BitVec.toNat_ofNat, Nat.mod_eq_of_lt (by omega)]
theorem dg_div {B : Nat} : ∀ (k n : Nat) (e : Nat → Nat), (∀ i, e i < B) → dg B e (n + k) / B ^ k = dg B (fun i => e (i + k)) n := by
  intro k
  induction k with
  | zero => intro n e _; rw [Nat.pow_zero, Nat.div_one]; rfl
  | succ k ih =>
    intro n e h
    have hB : 0 < B := Nat.lt_of_le_of_lt (Nat.zero_le _) (h 0)
    have e1 : dg B e (n + (k + 1)) / B = dg B (fun i => e (i + 1)) (n + k) := by
      show dg B e (n + k + 1) / B = _
      rw [dg_s, Nat.add_mul_div_left _ _ hB, Nat.div_eq_of_lt (h 0), Nat.zero_add]
    rw [Nat.pow_succ, Nat.mul_comm, ← Nat.div_div_eq_div_mul, e1, ih n (fun i => e (i + 1)) (fun i => h (i + 1))]
    congr 1
theorem dg_pad (B : Nat) : ∀ (n k : Nat) (f : Nat → Nat), dg B f n = dg B (fun i => if i < n then f i else 0) (n + k) := by
  intro n
  induction n with
  | zero =>
    intro k f
    have e : ∀ k, dg B (fun _ => 0) k = 0 := by
      intro k
      induction k with
      | zero => rfl
      | succ k ih => rw [dg_s, ih]; rfl
    have e2 : (fun i => if i < 0 then f i else 0) = fun _ => 0 := by funext i; exact if_neg (Nat.not_lt_zero i)
    rw [e2, e]; rfl
  | succ n ih =>
    intro k f
    have e : n + 1 + k = (n + k) + 1 := by omega
    rw [e, dg_s, dg_s, ih k (fun i => f (i + 1)), if_pos (Nat.succ_pos n)]
    congr 3
    funext i
    by_cases h : i < n
    · rw [if_pos h, if_pos (by omega)]
    · rw [if_neg h, if_neg (by omega)]
theorem shadd {B : Nat} (k n : Nat) (e : Nat → Nat) (h : ∀ i, e i < B) : dg B e (n + k) + dg B e (n + k) / B ^ k = dg B (fun i => e i + if i < n then e (i + k) else 0) (n + k) := by
  rw [dg_div k n e h, dg_pad B n k (fun i => e (i + k)), ← dg_add]
theorem add_b {e : Nat → Nat} {c k n : Nat} (h : ∀ i, e i ≤ c) (i : Nat) : (fun i => e i + if i < n then e (i + k) else 0) i ≤ c + c := by
  have h1 := h i
  have h2 := h (i + k)
  show e i + (if i < n then e (i + k) else 0) ≤ c + c
  by_cases d : i < n
  · rw [if_pos d]; omega
  · rw [if_neg d]; omega
theorem cnt32 (x : Int32) : f_J6_bitCount_0f7a4 x = nI (cn (bt x) 32) := by
  have hb : ∀ i, cb (bt x i) ≤ 1 := fun i => cb_le _
  generalize he : (fun i => cb (bt x i)) = e
  have hb2 : ∀ i, e i ≤ 1 := fun i => by rw [← he]; exact hb i
  have d0 : NI x = dg 2 e 32 := by rw [← he]; exact dg_bits 32 (NI x) (NI_lt x)
  generalize hQ : (fun j => e (2 * j) + e (2 * j + 1)) = Q
  have hQb : ∀ j, Q j ≤ 2 := fun j => by rw [← hQ]; have := hb2 (2 * j); have := hb2 (2 * j + 1); show e (2 * j) + e (2 * j + 1) ≤ 2; omega
  have y1 : NI (iushr x (nI 1) &&& 1431655765) = dg 4 (fun j => e (2 * j + 1)) 16 := by
    rw [NI_and, NI_shr x (by omega), show NI 1431655765 = em 1 16 by decide +kernel, d0]
    exact (dg_ev 1 16 e (fun i => by have := hb2 i; omega)).2
  have d1 : NI x = dg 4 Q 16 + dg 4 (fun j => e (2 * j + 1)) 16 := by
    rw [d0, ← dg_add]
    refine (dg_pair 2 16 e).trans ?_
    have : (fun j => e (2 * j) + 2 * e (2 * j + 1)) = fun i => Q i + e (2 * i + 1) := by
      funext j; rw [← hQ]; show _ = e (2 * j) + e (2 * j + 1) + e (2 * j + 1); omega
    rw [this]
  have x1 : NI (x - ((iushr x (nI 1)) &&& 1431655765)) = dg 4 Q 16 := by
    rw [NI_sub (by rw [y1, d1]; omega), y1, d1]; omega
  generalize hz1 : x - ((iushr x (nI 1)) &&& 1431655765) = z1 at x1
  generalize hR : (fun j => Q (2 * j) + Q (2 * j + 1)) = R
  have hRb : ∀ j, R j ≤ 4 := fun j => by rw [← hR]; have := hQb (2 * j); have := hQb (2 * j + 1); show Q (2 * j) + Q (2 * j + 1) ≤ 4; omega
  have v2 := dg_ev 2 8 Q (fun i => by have := hQb i; omega)
  have a2 : NI (z1 &&& 858993459) = dg 16 (fun j => Q (2 * j)) 8 := by
    rw [NI_and, show NI 858993459 = em 2 8 by decide +kernel, x1]; exact v2.1
  have b2 : NI ((iushr z1 (nI 2)) &&& 858993459) = dg 16 (fun j => Q (2 * j + 1)) 8 := by
    rw [NI_and, NI_shr z1 (by omega), show NI 858993459 = em 2 8 by decide +kernel, x1]; exact v2.2
  have s2 : dg 16 (fun j => Q (2 * j)) 8 + dg 16 (fun j => Q (2 * j + 1)) 8 = dg 16 R 8 := by rw [← dg_add, hR]
  have l2 := dg_lt 16 8 R (fun i => by have := hRb i; omega)
  have x2 : NI ((z1 &&& 858993459) + ((iushr z1 (nI 2)) &&& 858993459)) = dg 16 R 8 := by
    rw [NI_add (by rw [a2, b2, s2]; omega), a2, b2, s2]
  generalize hz2 : (z1 &&& 858993459) + ((iushr z1 (nI 2)) &&& 858993459) = z2 at x2
  have t3 := shadd (B := 16) 1 7 R (fun i => by have := hRb i; omega)
  have hUb := add_b (k := 1) (n := 7) hRb
  generalize hU : (fun i => R i + if i < 7 then R (i + 1) else 0) = U at t3 hUb
  have t3 : dg 16 R 8 + dg 16 R 8 / 16 = dg 16 U 8 := t3
  have l3 := dg_lt 16 8 U (fun i => by have := hUb i; omega)
  have x3 : NI ((z2 + (iushr z2 (nI 4))) &&& 252645135) = dg 256 (fun j => U (2 * j)) 4 := by
    have a3 : NI (iushr z2 (nI 4)) = dg 16 R 8 / 16 := by rw [NI_shr z2 (by omega), x2]
    rw [NI_and, NI_add (by rw [a3, x2, t3]; omega), a3, x2, t3, show NI 252645135 = em 4 4 by decide +kernel]
    exact (dg_ev 4 4 U (fun i => by have := hUb i; omega)).1
  generalize hz3 : (z2 + (iushr z2 (nI 4))) &&& 252645135 = z3 at x3
  have t4 := shadd (B := 256) 1 3 (fun j => U (2 * j)) (fun i => by have := hUb (2 * i); show U (2 * i) < 256; omega)
  have hVb := add_b (e := fun j => U (2 * j)) (c := 8) (k := 1) (n := 3) (fun i => hUb (2 * i))
  generalize hV : (fun i => (fun j => U (2 * j)) i + if i < 3 then (fun j => U (2 * j)) (i + 1) else 0) = V at t4 hVb
  have t4 : dg 256 (fun j => U (2 * j)) 4 + dg 256 (fun j => U (2 * j)) 4 / 256 = dg 256 V 4 := t4
  have l4 := dg_lt 256 4 V (fun i => by have := hVb i; omega)
  have x4 : NI (z3 + (iushr z3 (nI 8))) = dg 256 V 4 := by
    have a4 : NI (iushr z3 (nI 8)) = dg 256 (fun j => U (2 * j)) 4 / 256 := by rw [NI_shr z3 (by omega), x3]
    rw [NI_add (by rw [a4, x3, t4]; omega), a4, x3, t4]
  generalize hz4 : z3 + (iushr z3 (nI 8)) = z4 at x4
  have t5 := shadd (B := 256) 2 2 V (fun i => by have := hVb i; omega)
  have hTb := add_b (k := 2) (n := 2) hVb
  generalize hT : (fun i => V i + if i < 2 then V (i + 2) else 0) = T at t5 hTb
  have t5 : dg 256 V 4 + dg 256 V 4 / 65536 = dg 256 T 4 := t5
  have l5 := dg_lt 256 4 T (fun i => by have := hTb i; omega)
  have x5 : NI (z4 + (iushr z4 (nI 16))) = dg 256 T 4 := by
    have a5 : NI (iushr z4 (nI 16)) = dg 256 V 4 / 65536 := by rw [NI_shr z4 (by omega), x4]
    rw [NI_add (by rw [a5, x4, t5]; omega), a5, x4, t5]
  generalize hz5 : z4 + (iushr z4 (nI 16)) = z5 at x5
  have x6 : NI (z5 &&& 63) = T 0 := by
    have h0 := hTb 0
    rw [NI_and, show NI 63 = 2 ^ 6 - 1 by decide +kernel, Nat.and_two_pow_sub_one_eq_mod, x5, dg_s]
    omega
  have cl := cn_le (bt x) 32
  have hf : f_J6_bitCount_0f7a4 x = z5 &&& 63 := by
    rw [← hz5, ← hz4, ← hz3, ← hz2, ← hz1]
    rfl
  rw [hf]
  apply NI_inj
  rw [NI_nI (by omega)]
  refine x6.trans ?_
  clear hz1 hz2 hz3 hz4 hz5 x1 x2 x3 x4 x5 x6 hf y1 d1 d0 t3 t4 t5 v2 a2 b2 s2 l2 l3 l4 l5
  subst hT hV hU hR hQ he
  simp [cn]
  omega
theorem cnt64 (x : Int64) : f_J13_bitCount_95d88 x = nI (cn (bl x) 64) := by
  have hb : ∀ i, cb (bl x i) ≤ 1 := fun i => cb_le _
  generalize he : (fun i => cb (bl x i)) = e
  have hb2 : ∀ i, e i ≤ 1 := fun i => by rw [← he]; exact hb i
  have d0 : NL x = dg 2 e 64 := by rw [← he]; exact dg_bits 64 (NL x) (NL_lt x)
  generalize hQ : (fun j => e (2 * j) + e (2 * j + 1)) = Q
  have hQb : ∀ j, Q j ≤ 2 := fun j => by rw [← hQ]; have := hb2 (2 * j); have := hb2 (2 * j + 1); show e (2 * j) + e (2 * j + 1) ≤ 2; omega
  have y1 : NL (lushr x (nI 1) &&& 6148914691236517205) = dg 4 (fun j => e (2 * j + 1)) 32 := by
    rw [NL_and, NL_shr x (by omega), show NL 6148914691236517205 = em 1 32 by decide +kernel, d0]
    exact (dg_ev 1 32 e (fun i => by have := hb2 i; omega)).2
  have d1 : NL x = dg 4 Q 32 + dg 4 (fun j => e (2 * j + 1)) 32 := by
    rw [d0, ← dg_add]
    refine (dg_pair 2 32 e).trans ?_
    have : (fun j => e (2 * j) + 2 * e (2 * j + 1)) = fun i => Q i + e (2 * i + 1) := by
      funext j; rw [← hQ]; show _ = e (2 * j) + e (2 * j + 1) + e (2 * j + 1); omega
    rw [this]
  have x1 : NL (x - ((lushr x (nI 1)) &&& 6148914691236517205)) = dg 4 Q 32 := by
    rw [NL_sub (by rw [y1, d1]; omega), y1, d1]; omega
  generalize hz1 : x - ((lushr x (nI 1)) &&& 6148914691236517205) = z1 at x1
  generalize hR : (fun j => Q (2 * j) + Q (2 * j + 1)) = R
  have hRb : ∀ j, R j ≤ 4 := fun j => by rw [← hR]; have := hQb (2 * j); have := hQb (2 * j + 1); show Q (2 * j) + Q (2 * j + 1) ≤ 4; omega
  have v2 := dg_ev 2 16 Q (fun i => by have := hQb i; omega)
  have a2 : NL (z1 &&& 3689348814741910323) = dg 16 (fun j => Q (2 * j)) 16 := by
    rw [NL_and, show NL 3689348814741910323 = em 2 16 by decide +kernel, x1]; exact v2.1
  have b2 : NL ((lushr z1 (nI 2)) &&& 3689348814741910323) = dg 16 (fun j => Q (2 * j + 1)) 16 := by
    rw [NL_and, NL_shr z1 (by omega), show NL 3689348814741910323 = em 2 16 by decide +kernel, x1]; exact v2.2
  have s2 : dg 16 (fun j => Q (2 * j)) 16 + dg 16 (fun j => Q (2 * j + 1)) 16 = dg 16 R 16 := by rw [← dg_add, hR]
  have l2 := dg_lt 16 16 R (fun i => by have := hRb i; omega)
  have x2 : NL ((z1 &&& 3689348814741910323) + ((lushr z1 (nI 2)) &&& 3689348814741910323)) = dg 16 R 16 := by
    rw [NL_add (by rw [a2, b2, s2]; omega), a2, b2, s2]
  generalize hz2 : (z1 &&& 3689348814741910323) + ((lushr z1 (nI 2)) &&& 3689348814741910323) = z2 at x2
  have t3 := shadd (B := 16) 1 15 R (fun i => by have := hRb i; omega)
  have hUb := add_b (k := 1) (n := 15) hRb
  generalize hU : (fun i => R i + if i < 15 then R (i + 1) else 0) = U at t3 hUb
  have t3 : dg 16 R 16 + dg 16 R 16 / 16 = dg 16 U 16 := t3
  have l3 := dg_lt 16 16 U (fun i => by have := hUb i; omega)
  have x3 : NL ((z2 + (lushr z2 (nI 4))) &&& 1085102592571150095) = dg 256 (fun j => U (2 * j)) 8 := by
    have a3 : NL (lushr z2 (nI 4)) = dg 16 R 16 / 16 := by rw [NL_shr z2 (by omega), x2]
    rw [NL_and, NL_add (by rw [a3, x2, t3]; omega), a3, x2, t3, show NL 1085102592571150095 = em 4 8 by decide +kernel]
    exact (dg_ev 4 8 U (fun i => by have := hUb i; omega)).1
  generalize hz3 : (z2 + (lushr z2 (nI 4))) &&& 1085102592571150095 = z3 at x3
  have t4 := shadd (B := 256) 1 7 (fun j => U (2 * j)) (fun i => by have := hUb (2 * i); show U (2 * i) < 256; omega)
  have hVb := add_b (e := fun j => U (2 * j)) (c := 8) (k := 1) (n := 7) (fun i => hUb (2 * i))
  generalize hV : (fun i => (fun j => U (2 * j)) i + if i < 7 then (fun j => U (2 * j)) (i + 1) else 0) = V at t4 hVb
  have t4 : dg 256 (fun j => U (2 * j)) 8 + dg 256 (fun j => U (2 * j)) 8 / 256 = dg 256 V 8 := t4
  have l4 := dg_lt 256 8 V (fun i => by have := hVb i; omega)
  have x4 : NL (z3 + (lushr z3 (nI 8))) = dg 256 V 8 := by
    have a4 : NL (lushr z3 (nI 8)) = dg 256 (fun j => U (2 * j)) 8 / 256 := by rw [NL_shr z3 (by omega), x3]
    rw [NL_add (by rw [a4, x3, t4]; omega), a4, x3, t4]
  generalize hz4 : z3 + (lushr z3 (nI 8)) = z4 at x4
  have t5 := shadd (B := 256) 2 6 V (fun i => by have := hVb i; omega)
  have hTb := add_b (k := 2) (n := 6) hVb
  generalize hT : (fun i => V i + if i < 6 then V (i + 2) else 0) = T at t5 hTb
  have t5 : dg 256 V 8 + dg 256 V 8 / 65536 = dg 256 T 8 := t5
  have l5 := dg_lt 256 8 T (fun i => by have := hTb i; omega)
  have x5 : NL (z4 + (lushr z4 (nI 16))) = dg 256 T 8 := by
    have a5 : NL (lushr z4 (nI 16)) = dg 256 V 8 / 65536 := by rw [NL_shr z4 (by omega), x4]
    rw [NL_add (by rw [a5, x4, t5]; omega), a5, x4, t5]
  generalize hz5 : z4 + (lushr z4 (nI 16)) = z5 at x5
  have t6 := shadd (B := 256) 4 4 T (fun i => by have := hTb i; omega)
  have hYb := add_b (k := 4) (n := 4) hTb
  generalize hY : (fun i => T i + if i < 4 then T (i + 4) else 0) = Y at t6 hYb
  have t6 : dg 256 T 8 + dg 256 T 8 / 4294967296 = dg 256 Y 8 := t6
  have l6 := dg_lt 256 8 Y (fun i => by have := hYb i; omega)
  have x6 : NL (z5 + (lushr z5 (nI 32))) = dg 256 Y 8 := by
    have a6 : NL (lushr z5 (nI 32)) = dg 256 T 8 / 4294967296 := by rw [NL_shr z5 (by omega), x5]
    rw [NL_add (by rw [a6, x5, t6]; omega), a6, x5, t6]
  generalize hz6 : z5 + (lushr z5 (nI 32)) = z6 at x6
  have x7 : NI (Int64.toInt32 z6 &&& 127) = Y 0 := by
    have a7 : NI (Int64.toInt32 z6) = NL z6 % 2 ^ 32 := by
      apply Nat.eq_of_testBit_eq
      intro i
      rw [Nat.testBit_mod_two_pow]
      exact bt_toInt32 z6 i
    have h0 := hYb 0
    rw [NI_and, show NI 127 = 2 ^ 7 - 1 by decide +kernel, Nat.and_two_pow_sub_one_eq_mod, a7, x6, dg_s]
    omega
  have cl := cn_le (bl x) 64
  have hf : f_J13_bitCount_95d88 x = Int64.toInt32 z6 &&& 127 := by
    rw [← hz6, ← hz5, ← hz4, ← hz3, ← hz2, ← hz1]
    rfl
  rw [hf]
  apply NI_inj
  rw [NI_nI (by omega)]
  refine x7.trans ?_
  clear hz1 hz2 hz3 hz4 hz5 hz6 x1 x2 x3 x4 x5 x6 x7 hf y1 d1 d0 t3 t4 t5 t6 v2 a2 b2 s2 l2 l3 l4 l5 l6
  subst hY hT hV hU hR hQ he
  simp [cn]
  omega
