/-! Bits of ints and longs -/
def bt (x : Int32) (i : Nat) : Bool := x.toBitVec.getLsbD i
def bl (x : Int64) (i : Nat) : Bool := x.toBitVec.getLsbD i
theorem bt_ext {x y : Int32} (h : ∀ i, i < 32 → bt x i = bt y i) : x = y := by
  apply Int32.toBitVec_inj.mp
  apply BitVec.eq_of_getLsbD_eq
  intro i hi
  exact h i hi
theorem bl_ext {x y : Int64} (h : ∀ i, i < 64 → bl x i = bl y i) : x = y := by
  apply Int64.toBitVec_inj.mp
  apply BitVec.eq_of_getLsbD_eq
  intro i hi
  exact h i hi
theorem bt_ge {x : Int32} {i : Nat} (h : 32 ≤ i) : bt x i = false := BitVec.getLsbD_of_ge _ _ h
theorem bl_ge {x : Int64} {i : Nat} (h : 64 ≤ i) : bl x i = false := BitVec.getLsbD_of_ge _ _ h
theorem bt_and (x y : Int32) (i : Nat) : bt (x &&& y) i = (bt x i && bt y i) := by simp [bt]
theorem bt_or (x y : Int32) (i : Nat) : bt (x ||| y) i = (bt x i || bt y i) := by simp [bt]
theorem bt_xor (x y : Int32) (i : Nat) : bt (x ^^^ y) i = (bt x i ^^ bt y i) := by simp [bt]
theorem bl_and (x y : Int64) (i : Nat) : bl (x &&& y) i = (bl x i && bl y i) := by simp [bl]
theorem bl_or (x y : Int64) (i : Nat) : bl (x ||| y) i = (bl x i || bl y i) := by simp [bl]
theorem bl_xor (x y : Int64) (i : Nat) : bl (x ^^^ y) i = (bl x i ^^ bl y i) := by simp [bl]
theorem bt_0 (i : Nat) : bt 0 i = false := by simp [bt]
theorem bl_0 (i : Nat) : bl 0 i = false := by simp [bl]
theorem bt_m1 {i : Nat} (h : i < 32) : bt (-1) i = true := (by decide +kernel : ∀ i, i < 32 → bt (-1) i = true) i h
theorem bl_m1 {i : Nat} (h : i < 64) : bl (-1) i = true := (by decide +kernel : ∀ i, i < 64 → bl (-1) i = true) i h
theorem bt_not {x : Int32} {i : Nat} (h : i < 32) : bt (x ^^^ (-1)) i = !bt x i := by rw [bt_xor, bt_m1 h]; simp
theorem bl_not {x : Int64} {i : Nat} (h : i < 64) : bl (x ^^^ (-1)) i = !bl x i := by rw [bl_xor, bl_m1 h]; simp
theorem bt_1 {i : Nat} : bt 1 i = decide (i = 0) := by
  by_cases h : i < 32
  · exact (by decide +kernel : ∀ i, i < 32 → bt 1 i = decide (i = 0)) i h
  · rw [bt_ge (by omega)]; simp; omega
theorem bl_1 {i : Nat} : bl 1 i = decide (i = 0) := by
  by_cases h : i < 64
  · exact (by decide +kernel : ∀ i, i < 64 → bl 1 i = decide (i = 0)) i h
  · rw [bl_ge (by omega)]; simp; omega
theorem sh_i : ∀ k, k < 32 → ((nI k &&& 31).toBitVec.smod 32).toNat = k := by decide +kernel
theorem sh_l : ∀ k, k < 64 → (((nI k).toInt64 &&& 63).toBitVec.smod 64).toNat = k := by decide +kernel
theorem sh_u : ∀ k, k < 32 → ((((nI k).toUInt32 &&& Int32.toUInt32 31)).toBitVec % 32).toNat = k := by decide +kernel
theorem sh_ul : ∀ k, k < 64 → ((((nI k).toInt64.toUInt64 &&& Int64.toUInt64 63)).toBitVec % 64).toNat = k := by decide +kernel
theorem bt_ishl (x : Int32) {k : Nat} (hk : k < 32) (i : Nat) : bt (ishl x (nI k)) i = (decide (i < 32) && decide (k ≤ i) && bt x (i - k)) := by
  unfold bt ishl
  rw [Int32.toBitVec_shiftLeft, BitVec.shiftLeft_eq', sh_i k hk, BitVec.getLsbD_shiftLeft]
  by_cases h1 : i < k
  · have h2 : ¬ k ≤ i := by omega
    simp [h1, h2]
  · have h2 : k ≤ i := by omega
    simp [h1, h2]
theorem bl_lshl (x : Int64) {k : Nat} (hk : k < 64) (i : Nat) : bl (lshl x (nI k)) i = (decide (i < 64) && decide (k ≤ i) && bl x (i - k)) := by
  unfold bl lshl
  rw [Int64.toBitVec_shiftLeft, BitVec.shiftLeft_eq', sh_l k hk, BitVec.getLsbD_shiftLeft]
  by_cases h1 : i < k
  · have h2 : ¬ k ≤ i := by omega
    simp [h1, h2]
  · have h2 : k ≤ i := by omega
    simp [h1, h2]
theorem bt_iushr (x : Int32) {k : Nat} (hk : k < 32) (i : Nat) : bt (iushr x (nI k)) i = bt x (i + k) := by
  unfold bt iushr
  have h : ((x.toUInt32 >>> ((nI k).toUInt32 &&& Int32.toUInt32 31)).toInt32).toBitVec = x.toBitVec >>> k := by
    show (x.toUInt32 >>> ((nI k).toUInt32 &&& Int32.toUInt32 31)).toBitVec = _
    rw [UInt32.toBitVec_shiftRight, BitVec.ushiftRight_eq', sh_u k hk]
    rfl
  rw [h, BitVec.getLsbD_ushiftRight, Nat.add_comm]
theorem bl_lushr (x : Int64) {k : Nat} (hk : k < 64) (i : Nat) : bl (lushr x (nI k)) i = bl x (i + k) := by
  unfold bl lushr
  have h : ((x.toUInt64 >>> ((nI k).toInt64.toUInt64 &&& Int64.toUInt64 63)).toInt64).toBitVec = x.toBitVec >>> k := by
    show (x.toUInt64 >>> ((nI k).toInt64.toUInt64 &&& Int64.toUInt64 63)).toBitVec = _
    rw [UInt64.toBitVec_shiftRight, BitVec.ushiftRight_eq', sh_ul k hk]
    rfl
  rw [h, BitVec.getLsbD_ushiftRight, Nat.add_comm]
theorem bt_ishr (x : Int32) {k : Nat} (hk : k < 32) {i : Nat} (hi : i + k < 32) : bt (ishr x (nI k)) i = bt x (i + k) := by
  unfold bt ishr
  rw [Int32.toBitVec_shiftRight, BitVec.sshiftRight_eq', sh_i k hk, BitVec.getLsbD_sshiftRight]
  have h1 : ¬ 32 ≤ i := by omega
  have h2 : k + i < 32 := by omega
  simp [h1, h2, Nat.add_comm]
theorem bt_toInt32 (x : Int64) (i : Nat) : bt (Int64.toInt32 x) i = (decide (i < 32) && bl x i) := by
  unfold bt bl
  rw [Int64.toBitVec_toInt32, BitVec.getLsbD_signExtend]
  by_cases h : i < 32
  · have h2 : i < 64 := by omega
    simp [h, h2]
  · simp [h]
theorem bl_toInt64 (x : Int32) (i : Nat) : bl (Int32.toInt64 x) i = (decide (i < 64) && if i < 32 then bt x i else bt x 31) := by
  unfold bt bl
  rw [Int32.toBitVec_toInt64, BitVec.getLsbD_signExtend]
  by_cases h : i < 32
  · simp [h]
  · simp [h, BitVec.msb_eq_getLsbD_last]
theorem bt_ishl1 {k : Nat} (hk : k < 32) (i : Nat) : bt (ishl 1 (nI k)) i = decide (i = k) := by
  rw [bt_ishl 1 hk, bt_1]
  by_cases h : i = k
  · subst h; simp [hk]
  · by_cases h2 : k ≤ i
    · have h3 : ¬ i - k = 0 := by omega
      simp [h, h3]
    · simp [h, h2]
theorem bl_lshl1 {k : Nat} (hk : k < 64) (i : Nat) : bl (lshl 1 (nI k)) i = decide (i = k) := by
  rw [bl_lshl 1 hk, bl_1]
  by_cases h : i = k
  · subst h; simp [hk]
  · by_cases h2 : k ≤ i
    · have h3 : ¬ i - k = 0 := by omega
      simp [h, h3]
    · simp [h, h2]
theorem bt_eq0 {x : Int32} : x = 0 ↔ ∀ i, i < 32 → bt x i = false :=
  ⟨fun h i _ => by rw [h]; exact bt_0 i, fun h => bt_ext (fun i hi => by rw [h i hi, bt_0])⟩
theorem bl_eq0 {x : Int64} : x = 0 ↔ ∀ i, i < 64 → bl x i = false :=
  ⟨fun h i _ => by rw [h]; exact bl_0 i, fun h => bl_ext (fun i hi => by rw [h i hi, bl_0])⟩
/-- the mask of a set of places -/
def msk (P : Nat → Bool) : Nat → Int32
  | 0 => 0
  | n + 1 => if P n = true then msk P n ||| ishl 1 (nI n) else msk P n
theorem bt_msk (P : Nat → Bool) : ∀ n, n ≤ 32 → ∀ i, bt (msk P n) i = (decide (i < n) && P i)
  | 0, _, i => by simp [msk, bt_0]
  | n + 1, hn, i => by
    have ih := bt_msk P n (by omega) i
    unfold msk
    by_cases hp : P n = true
    · rw [if_pos hp, bt_or, ih, bt_ishl1 (by omega)]
      by_cases h : i = n
      · subst h; simp [hp]
      · have h2 : decide (i < n + 1) = decide (i < n) := by simp; omega
        simp [h, h2]
    · rw [if_neg hp, ih]
      by_cases h : i = n
      · subst h
        simp at hp
        simp [hp]
      · have h2 : decide (i < n + 1) = decide (i < n) := by simp; omega
        simp [h2]
theorem msk_of {P : Nat → Bool} {n : Nat} (hn : n ≤ 32) {x : Int32} (h : ∀ i, i < 32 → bt x i = (decide (i < n) && P i)) : x = msk P n :=
  bt_ext (fun i hi => by rw [h i hi, bt_msk P n hn])
