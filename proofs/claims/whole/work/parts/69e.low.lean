/-! The lowest bit; first slots; numbers of bits -/
theorem nat_low {n k : Nat} (h1 : n.testBit k = true) (h0 : ∀ i, i < k → n.testBit i = false) : n = 2 ^ (k + 1) * (n / 2 ^ (k + 1)) + 2 ^ k := by
  have e : n % 2 ^ (k + 1) = 2 ^ k := by
    apply Nat.eq_of_testBit_eq
    intro i
    rw [Nat.testBit_mod_two_pow, Nat.testBit_two_pow]
    by_cases hi : i < k
    · rw [h0 i hi]
      have : ¬ k = i := by omega
      simp [this]
    · by_cases e : k = i
      · subst e
        rw [h1]; simp
      · have : ¬ i < k + 1 := by omega
        simp [this, e]
  have h := Nat.div_add_mod n (2 ^ (k + 1))
  rw [e] at h
  exact h.symm
theorem nat_sub1 {n k : Nat} (h1 : n.testBit k = true) (h0 : ∀ i, i < k → n.testBit i = false) (i : Nat) : (n - 1).testBit i = if i < k then true else if i = k then false else n.testBit i := by
  have e := nat_low h1 h0
  have p : 2 ^ (k + 1) = 2 ^ k + 2 ^ k := by rw [Nat.pow_succ]; omega
  have p0 : 0 < 2 ^ k := Nat.two_pow_pos k
  have e1 : n - 1 = 2 ^ (k + 1) * (n / 2 ^ (k + 1)) + (2 ^ k - 1) := by omega
  rw [e1, Nat.testBit_two_pow_mul_add _ (by omega)]
  by_cases hi : i < k
  · rw [if_pos (by omega), if_pos hi, Nat.testBit_two_pow_sub_one]; simp [hi]
  · rw [if_neg hi]
    by_cases e2 : i = k
    · rw [if_pos e2, if_pos (by omega), Nat.testBit_two_pow_sub_one]; simp [hi]
    · rw [if_neg e2, if_neg (by omega)]
      rw (occs := .pos [2]) [e]
      rw [Nat.testBit_two_pow_mul_add _ (by omega), if_neg (by omega)]
theorem bv_sub1 {w : Nat} (x : BitVec w) {k : Nat} (hk : k < w) (h1 : x.getLsbD k = true) (h0 : ∀ i, i < k → x.getLsbD i = false) : (x - 1#w).toNat = x.toNat - 1 ∧ 0 < x.toNat := by
  have e := nat_low (n := x.toNat) h1 h0
  have p0 : 0 < 2 ^ k := Nat.two_pow_pos k
  have hl := x.isLt
  have h2 : 1 < 2 ^ w := Nat.one_lt_two_pow (by omega)
  have e1 : (1#w).toNat = 1 := by rw [BitVec.toNat_ofNat]; exact Nat.mod_eq_of_lt h2
  constructor
  · rw [BitVec.toNat_sub, e1, show 2 ^ w - 1 + x.toNat = (x.toNat - 1) + 2 ^ w by omega, Nat.add_mod_right]
    exact Nat.mod_eq_of_lt (by omega)
  · omega
theorem bl_sub1 {x : Int64} {k : Nat} (hk : k < 64) (h1 : bl x k = true) (h0 : ∀ i, i < k → bl x i = false) (i : Nat) : bl (x - 1) i = if i < k then true else if i = k then false else bl x i := by
  have h := (bv_sub1 x.toBitVec hk h1 h0).1
  show (x - 1).toBitVec.getLsbD i = _
  rw [Int64.toBitVec_sub]
  show (x.toBitVec - 1#64).toNat.testBit i = _
  rw [h]
  exact nat_sub1 h1 h0 i
theorem bt_sub1 {x : Int32} {k : Nat} (hk : k < 32) (h1 : bt x k = true) (h0 : ∀ i, i < k → bt x i = false) (i : Nat) : bt (x - 1) i = if i < k then true else if i = k then false else bt x i := by
  have h := (bv_sub1 x.toBitVec hk h1 h0).1
  show (x - 1).toBitVec.getLsbD i = _
  rw [Int32.toBitVec_sub]
  show (x.toBitVec - 1#32).toNat.testBit i = _
  rw [h]
  exact nat_sub1 h1 h0 i
theorem bv_neg {w : Nat} (x : BitVec w) (hw : 0 < w) (h0 : 0 < x.toNat) (h1 : (x - 1#w).toNat = x.toNat - 1) : -x = ~~~(x - 1#w) := by
  apply BitVec.eq_of_toNat_eq
  have hl := x.isLt
  rw [BitVec.toNat_neg, BitVec.toNat_not, h1, Nat.mod_eq_of_lt (by omega)]
  omega
theorem bl_neg {x : Int64} {k : Nat} (hk : k < 64) (h1 : bl x k = true) (h0 : ∀ i, i < k → bl x i = false) {i : Nat} (hi : i < 64) : bl (-x) i = if i < k then false else if i = k then true else !bl x i := by
  have h := bv_sub1 x.toBitVec hk h1 h0
  have e : (-x).toBitVec = ~~~(x.toBitVec - 1#64) := by rw [Int64.toBitVec_neg]; exact bv_neg _ (by omega) h.2 h.1
  have e2 := bl_sub1 hk h1 h0 i
  show (-x).toBitVec.getLsbD i = _
  rw [e, BitVec.getLsbD_not, decide_eq_true hi, Bool.true_and]
  have e3 : (x.toBitVec - 1#64).getLsbD i = bl (x - 1) i := by unfold bl; rw [Int64.toBitVec_sub]; rfl
  rw [e3, e2]
  by_cases h2 : i < k
  · rw [if_pos h2, if_pos h2]; rfl
  · rw [if_neg h2, if_neg h2]
    by_cases h3 : i = k
    · rw [if_pos h3, if_pos h3]; rfl
    · rw [if_neg h3, if_neg h3]
theorem bt_neg {x : Int32} {k : Nat} (hk : k < 32) (h1 : bt x k = true) (h0 : ∀ i, i < k → bt x i = false) {i : Nat} (hi : i < 32) : bt (-x) i = if i < k then false else if i = k then true else !bt x i := by
  have h := bv_sub1 x.toBitVec hk h1 h0
  have e : (-x).toBitVec = ~~~(x.toBitVec - 1#32) := by rw [Int32.toBitVec_neg]; exact bv_neg _ (by omega) h.2 h.1
  have e2 := bt_sub1 hk h1 h0 i
  show (-x).toBitVec.getLsbD i = _
  rw [e, BitVec.getLsbD_not, decide_eq_true hi, Bool.true_and]
  have e3 : (x.toBitVec - 1#32).getLsbD i = bt (x - 1) i := by unfold bt; rw [Int32.toBitVec_sub]; rfl
  rw [e3, e2]
  by_cases h2 : i < k
  · rw [if_pos h2, if_pos h2]; rfl
  · rw [if_neg h2, if_neg h2]
    by_cases h3 : i = k
    · rw [if_pos h3, if_pos h3]; rfl
    · rw [if_neg h3, if_neg h3]
/-- the lowest bit alone -/
theorem bl_lowest {x : Int64} {k : Nat} (hk : k < 64) (h1 : bl x k = true) (h0 : ∀ i, i < k → bl x i = false) : x &&& -x = lshl 1 (nI k) := by
  apply bl_ext
  intro i hi
  rw [bl_and, bl_neg hk h1 h0 hi, bl_lshl1 hk]
  by_cases h2 : i < k
  · have : ¬ i = k := by omega
    rw [if_pos h2, h0 i h2, decide_eq_false this]; rfl
  · rw [if_neg h2]
    by_cases h3 : i = k
    · subst h3
      rw [if_pos rfl, h1, decide_eq_true rfl]; rfl
    · rw [if_neg h3, decide_eq_false h3]
      cases bl x i <;> rfl
theorem bt_lowest {x : Int32} {k : Nat} (hk : k < 32) (h1 : bt x k = true) (h0 : ∀ i, i < k → bt x i = false) : x &&& -x = ishl 1 (nI k) := by
  apply bt_ext
  intro i hi
  rw [bt_and, bt_neg hk h1 h0 hi, bt_ishl1 hk]
  by_cases h2 : i < k
  · have : ¬ i = k := by omega
    rw [if_pos h2, h0 i h2, decide_eq_false this]; rfl
  · rw [if_neg h2]
    by_cases h3 : i = k
    · subst h3
      rw [if_pos rfl, h1, decide_eq_true rfl]; rfl
    · rw [if_neg h3, decide_eq_false h3]
      cases bt x i <;> rfl
theorem low_cnt0 : ∀ k, k < 64 → f_J13_bitCount_95d88 (lshl 1 (nI k) - 1) = nI k := by decide +kernel
theorem bl_ex {x : Int64} (h : ¬ x = 0) : ff (bl x) 64 < 64 := by
  rcases Nat.lt_or_ge (ff (bl x) 64) 64 with h1 | h1
  · exact h1
  · exact absurd (bl_eq0.mpr (fun i hi => ff_no 64 i (by omega))) h
theorem bt_ex {x : Int32} (h : ¬ x = 0) : ff (bt x) 32 < 32 := by
  rcases Nat.lt_or_ge (ff (bt x) 32) 32 with h1 | h1
  · exact h1
  · exact absurd (bt_eq0.mpr (fun i hi => ff_no 32 i (by omega))) h
theorem firstSlot_ok {x : Int64} (h : ¬ x = 0) : f_X3_firstSlot x = nI (ff (bl x) 64) := by
  have hk := bl_ex h
  unfold f_X3_firstSlot
  rw [if_neg (fun hh => h ((lg_cmp_eq x 0).mp hh)), bl_lowest hk (ff_yes 64 hk) (ff_no 64), low_cnt0 _ hk]
theorem firstSlot_0 : f_X3_firstSlot 0 = -1 := by decide +kernel
theorem firstSlot_at {x : Int64} {k : Nat} (hk : k < 64) (h1 : bl x k = true) (h0 : ∀ i, i < k → bl x i = false) : f_X3_firstSlot x = nI k := by
  have h : ¬ x = 0 := fun hh => by rw [hh, bl_0] at h1; cases h1
  rw [firstSlot_ok h, ff_eq hk h1 h0]
/-- the lowest bit taken away -/
theorem bl_drop {x : Int64} {k : Nat} (hk : k < 64) (h1 : bl x k = true) (h0 : ∀ i, i < k → bl x i = false) (i : Nat) : bl (x &&& (x - 1)) i = (bl x i && !decide (i = k)) := by
  rw [bl_and, bl_sub1 hk h1 h0]
  by_cases h2 : i < k
  · rw [h0 i h2]; rfl
  · rw [if_neg h2]
    by_cases h3 : i = k
    · rw [if_pos h3, decide_eq_true h3]; rfl
    · rw [if_neg h3, decide_eq_false h3]; cases bl x i <;> rfl
-- trailing zeros
theorem ntz0 : ∀ k, k < 32 → (fun x1 : Int32 => if 0 < x1 then if x1 ≤ 65536 then f_J6_numberOfTrailingZeros_0f7a4_b34 x1 1 else lt (1 + 16) (fun x14 => lt (iushr x1 16) (fun x15 => f_J6_numberOfTrailingZeros_0f7a4_b34 x15 x14)) else (x1 &&& 32)) (ishl 1 (nI k) - 1) = nI k := by decide +kernel
theorem ntz_at {x : Int32} {k : Nat} (hk : k < 32) (h1 : bt x k = true) (h0 : ∀ i, i < k → bt x i = false) : f_J6_numberOfTrailingZeros_0f7a4 x = nI k := by
  have e : (x ^^^ (-1)) &&& (x - 1) = ishl 1 (nI k) - 1 := by
    apply bt_ext
    intro i hi
    have m : ∀ k, k < 32 → ∀ i, i < 32 → bt (ishl 1 (nI k) - 1) i = decide (i < k) := by decide +kernel
    rw [bt_and, bt_not hi, bt_sub1 hk h1 h0, m k hk i hi]
    by_cases h2 : i < k
    · rw [if_pos h2, h0 i h2, decide_eq_true h2]; rfl
    · rw [if_neg h2, decide_eq_false h2]
      by_cases h3 : i = k
      · rw [if_pos h3, Bool.and_false]
      · rw [if_neg h3]; cases bt x i <;> rfl
  unfold f_J6_numberOfTrailingZeros_0f7a4
  rw [lt_e, e]
  exact ntz0 k hk
-- digits
def dg (B : Nat) (e : Nat → Nat) : Nat → Nat
  | 0 => 0
  | n + 1 => e 0 + B * dg B (fun i => e (i + 1)) n
theorem dg_s (B : Nat) (e : Nat → Nat) (n : Nat) : dg B e (n + 1) = e 0 + B * dg B (fun i => e (i + 1)) n := rfl
theorem dg_bits : ∀ (w n : Nat), n < 2 ^ w → n = dg 2 (fun i => cb (n.testBit i)) w := by
  intro w
  induction w with
  | zero => intro n h; exact (by omega : n = 0)
  | succ w ih =>
    intro n h
    rw [dg_s]
    have h1 := ih (n / 2) (by rw [Nat.pow_succ] at h; omega)
    have e : (fun i => cb (n.testBit (i + 1))) = fun i => cb ((n / 2).testBit i) := by
      funext i; rw [Nat.testBit_succ]
    rw [e, ← h1, Nat.testBit_zero]
    rcases Nat.mod_two_eq_zero_or_one n with h2 | h2
    · rw [h2]; show n = cb false + 2 * (n / 2); show n = 0 + 2 * (n / 2); omega
    · rw [h2]; show n = 1 + 2 * (n / 2); omega
theorem dg_add (B : Nat) : ∀ (n : Nat) (e f : Nat → Nat), dg B (fun i => e i + f i) n = dg B e n + dg B f n := by
  intro n
  induction n with
  | zero => intro e f; rfl
  | succ n ih =>
    intro e f
    rw [dg_s, dg_s, dg_s, ih (fun i => e (i + 1)) (fun i => f (i + 1)), Nat.mul_add]
    omega
theorem dg_pair (B : Nat) : ∀ (n : Nat) (e : Nat → Nat), dg B e (2 * n) = dg (B * B) (fun j => e (2 * j) + B * e (2 * j + 1)) n := by
  intro n
  induction n with
  | zero => intro e; rfl
  | succ n ih =>
    intro e
    show dg B e (2 * n + 1 + 1) = _
    rw [dg_s, dg_s, dg_s, ih, Nat.mul_add, Nat.mul_assoc, Nat.add_assoc]
    rfl
theorem dg_lt (B : Nat) : ∀ (n : Nat) (e : Nat → Nat), (∀ i, e i < B) → dg B e n < B ^ n := by
  intro n
  induction n with
  | zero => intro e _; exact Nat.one_pos
  | succ n ih =>
    intro e h
    have h1 := ih (fun i => e (i + 1)) (fun i => h (i + 1))
    have h0 := h 0
    rw [dg_s, Nat.pow_succ]
    have h2 : B * (dg B (fun i => e (i + 1)) n + 1) ≤ B * B ^ n := Nat.mul_le_mul_left B h1
    rw [Nat.mul_add, Nat.mul_comm B (B ^ n)] at h2
    omega
def em (s : Nat) : Nat → Nat
  | 0 => 0
  | n + 1 => 2 ^ (2 * s) * em s n + (2 ^ s - 1)
theorem em_s (s n : Nat) : em s (n + 1) = 2 ^ (2 * s) * em s n + (2 ^ s - 1) := rfl
theorem and_split {k a b q m : Nat} (ha : a < 2 ^ k) (hb : b < 2 ^ k) : (2 ^ k * q + a) &&& (2 ^ k * m + b) = 2 ^ k * (q &&& m) + (a &&& b) := by
  apply Nat.eq_of_testBit_eq
  intro i
  rw [Nat.testBit_and, Nat.testBit_two_pow_mul_add _ ha, Nat.testBit_two_pow_mul_add _ hb, Nat.testBit_two_pow_mul_add _ (Nat.and_lt_two_pow a hb)]
  by_cases h : i < k
  · rw [if_pos h, if_pos h, if_pos h, Nat.testBit_and]
  · rw [if_neg h, if_neg h, if_neg h, Nat.testBit_and]
theorem dg_ev (s : Nat) : ∀ (n : Nat) (e : Nat → Nat), (∀ i, e i < 2 ^ s) → dg (2 ^ s) e (2 * n) &&& em s n = dg (2 ^ s * 2 ^ s) (fun j => e (2 * j)) n ∧ dg (2 ^ s) e (2 * n) / 2 ^ s &&& em s n = dg (2 ^ s * 2 ^ s) (fun j => e (2 * j + 1)) n := by
  have p : 2 ^ (2 * s) = 2 ^ s * 2 ^ s := by rw [← Nat.pow_add]; congr 1; omega
  have p0 : 0 < 2 ^ s := Nat.two_pow_pos s
  have low : ∀ {a d : Nat}, a < 2 ^ s → (2 ^ s * d + a) &&& (2 ^ s - 1) = a := by
    intro a d ha
    rw [Nat.and_two_pow_sub_one_eq_mod, Nat.mul_add_mod, Nat.mod_eq_of_lt ha]
  have bnd : ∀ {a d : Nat}, a < 2 ^ s → d < 2 ^ s → 2 ^ s * d + a < 2 ^ (2 * s) := by
    intro a d ha hd
    rw [p]
    have : 2 ^ s * (d + 1) ≤ 2 ^ s * 2 ^ s := Nat.mul_le_mul_left _ hd
    rw [Nat.mul_add] at this
    omega
  have pm : 2 ^ s - 1 < 2 ^ (2 * s) := by
    have := bnd (a := 2 ^ s - 1) (d := 0) (by omega) p0
    omega
  intro n
  induction n with
  | zero => intro e _; exact ⟨by show 0 &&& 0 = 0; rfl, by show 0 / 2 ^ s &&& 0 = 0; rw [Nat.and_zero]⟩
  | succ n ih =>
    intro e h
    obtain ⟨i1, i2⟩ := ih (fun i => e (i + 2)) (fun i => h (i + 2))
    have e0 : dg (2 ^ s) e (2 * (n + 1)) = e 0 + 2 ^ s * (e 1 + 2 ^ s * dg (2 ^ s) (fun i => e (i + 2)) (2 * n)) := by
      show dg (2 ^ s) e (2 * n + 1 + 1) = _
      rw [dg_s, dg_s]
    rw [em_s, dg_s, dg_s, e0]
    constructor
    · have e1 : e 0 + 2 ^ s * (e 1 + 2 ^ s * dg (2 ^ s) (fun i => e (i + 2)) (2 * n)) = 2 ^ (2 * s) * dg (2 ^ s) (fun i => e (i + 2)) (2 * n) + (2 ^ s * e 1 + e 0) := by
        rw [Nat.mul_add, ← Nat.mul_assoc, p]; omega
      rw [e1, and_split (bnd (h 0) (h 1)) pm, low (h 0), i1, p]
      show _ = e (2 * 0) + _
      rw [Nat.add_comm]
      rfl
    · have e2 : (e 0 + 2 ^ s * (e 1 + 2 ^ s * dg (2 ^ s) (fun i => e (i + 2)) (2 * n))) / 2 ^ s = e 1 + 2 ^ s * dg (2 ^ s) (fun i => e (i + 2)) (2 * n) := by
        rw [Nat.add_mul_div_left _ _ p0, Nat.div_eq_of_lt (h 0), Nat.zero_add]
      have e3 := Nat.div_add_mod (dg (2 ^ s) (fun i => e (i + 2)) (2 * n)) (2 ^ s)
      have e4 : e 1 + 2 ^ s * dg (2 ^ s) (fun i => e (i + 2)) (2 * n) = 2 ^ (2 * s) * (dg (2 ^ s) (fun i => e (i + 2)) (2 * n) / 2 ^ s) + (2 ^ s * (dg (2 ^ s) (fun i => e (i + 2)) (2 * n) % 2 ^ s) + e 1) := by
        rw (occs := .pos [1]) [← e3]
        rw [Nat.mul_add, ← Nat.mul_assoc, p]; omega
      rw [e2, e4, and_split (bnd (h 1) (Nat.mod_lt _ p0)) pm, low (h 1), i2, p]
      show _ = e (2 * 0 + 1) + _
      rw [Nat.add_comm]
      rfl
