/-! Counting, first places, loops that count, gather, look for -/
def cn (P : Nat → Bool) : Nat → Nat
  | 0 => 0
  | n + 1 => cn P n + cb (P n)
theorem cn_s (P : Nat → Bool) (n : Nat) : cn P (n + 1) = cn P n + cb (P n) := rfl
theorem cb_t {c : Bool} (h : c = true) : cb c = 1 := by rw [h]; rfl
theorem cb_f {c : Bool} (h : c = false) : cb c = 0 := by rw [h]; rfl
theorem cn_le (P : Nat → Bool) : ∀ n, cn P n ≤ n := by
  intro n
  induction n with
  | zero => exact Nat.le_refl 0
  | succ n ih => rw [cn_s]; have := cb_le (P n); omega
theorem cn_cong {P Q : Nat → Bool} : ∀ n, (∀ i, i < n → P i = Q i) → cn P n = cn Q n := by
  intro n
  induction n with
  | zero => intro _; rfl
  | succ n ih => intro h; rw [cn_s, cn_s, ih (fun i hi => h i (by omega)), h n (by omega)]
theorem cn_ext {P : Nat → Bool} {n : Nat} : ∀ m, n ≤ m → (∀ i, n ≤ i → i < m → P i = false) → cn P m = cn P n := by
  intro m
  induction m with
  | zero => intro h _; rw [show n = 0 by omega]
  | succ m ih =>
    intro h hz
    by_cases e : n = m + 1
    · rw [e]
    · rw [cn_s, ih (by omega) (fun i h1 h2 => hz i h1 (by omega)), cb_f (hz m (by omega) (by omega))]; rfl
theorem cn_zero {P : Nat → Bool} {n : Nat} (h : ∀ i, i < n → P i = false) : cn P n = 0 := cn_ext n (Nat.zero_le n) (fun i _ hi => h i hi)
theorem cn_mono {P : Nat → Bool} {n : Nat} : ∀ m, n ≤ m → cn P n ≤ cn P m := by
  intro m
  induction m with
  | zero => intro h; rw [show n = 0 by omega]; exact Nat.le_refl _
  | succ m ih =>
    intro h
    by_cases e : n = m + 1
    · rw [e]; exact Nat.le_refl _
    · have := ih (by omega); rw [cn_s]; omega
theorem cn_lt {P : Nat → Bool} {i n : Nat} (hi : i < n) (h : P i = true) : cn P i < cn P n := by
  have h1 := cn_mono (P := P) n (show i + 1 ≤ n from hi)
  rw [cn_s, cb_t h] at h1
  omega
theorem cn_inj {P : Nat → Bool} {i j : Nat} (hi : P i = true) (hj : P j = true) (h : cn P i = cn P j) : i = j := by
  rcases Nat.lt_trichotomy i j with h1 | h1 | h1
  · have := cn_lt h1 hi; omega
  · exact h1
  · have := cn_lt h1 hj; omega
theorem cn_mono2 {P Q : Nat → Bool} : ∀ n, (∀ i, i < n → P i = true → Q i = true) → cn P n ≤ cn Q n := by
  intro n
  induction n with
  | zero => intro _; exact Nat.le_refl _
  | succ n ih =>
    intro h
    have h1 := ih (fun i hi => h i (by omega))
    have h2 := h n (by omega)
    rw [cn_s, cn_s]
    cases hp : P n with
    | false => rw [cb_f rfl]; omega
    | true => rw [cb_t rfl, cb_t (h2 hp)]; omega
theorem cn_less {P Q : Nat → Bool} {k : Nat} : ∀ n, k < n → P k = false → Q k = true → (∀ i, i < n → P i = true → Q i = true) → cn P n < cn Q n := by
  intro n
  induction n with
  | zero => intro h; omega
  | succ n ih =>
    intro hk h1 h2 h
    rw [cn_s, cn_s]
    by_cases e : k = n
    · have h3 := cn_mono2 (P := P) (Q := Q) n (fun i hi => h i (by omega))
      rw [← e, cb_f h1, cb_t h2, e]; omega
    · have h3 := ih (by omega) h1 h2 (fun i hi => h i (by omega))
      have h4 := h n (by omega)
      cases hp : P n with
      | false => rw [cb_f rfl]; omega
      | true => rw [cb_t rfl, cb_t (h4 hp)]; omega
theorem cn_ex {P : Nat → Bool} : ∀ n, 0 < cn P n → ∃ i, i < n ∧ P i = true := by
  intro n
  induction n with
  | zero => intro h; exact absurd h (Nat.lt_irrefl 0)
  | succ n ih =>
    intro h
    cases hp : P n with
    | false =>
      rw [cn_s, hp] at h
      obtain ⟨i, hi, h1⟩ := ih (by simpa [cb] using h)
      exact ⟨i, by omega, h1⟩
    | true => exact ⟨n, by omega, hp⟩
theorem cn_all {P : Nat → Bool} {n : Nat} (h : cn P n = n) : ∀ i, i < n → P i = true := by
  intro i hi
  cases hp : P i with
  | true => rfl
  | false =>
    exfalso
    have h1 := cn_less (P := P) (Q := fun _ => true) n hi hp rfl (fun _ _ _ => rfl)
    have h2 := cn_le (fun _ => true) n
    omega
theorem cn_or {P Q : Nat → Bool} : ∀ n, (∀ i, i < n → ¬ (P i = true ∧ Q i = true)) → cn (fun i => P i || Q i) n = cn P n + cn Q n := by
  intro n
  induction n with
  | zero => intro _; rfl
  | succ n ih =>
    intro h
    have h1 := h n (by omega)
    rw [cn_s, cn_s, cn_s, ih (fun i hi => h i (by omega))]
    cases hp : P n <;> cases hq : Q n <;> simp [hp, hq, cb] at h1 ⊢ <;> omega
/-- the first place below n where P holds; n: none -/
def ff (P : Nat → Bool) : Nat → Nat
  | 0 => 0
  | n + 1 => if ff P n < n then ff P n else if P n = true then n else n + 1
theorem ff_s (P : Nat → Bool) (n : Nat) : ff P (n + 1) = if ff P n < n then ff P n else if P n = true then n else n + 1 := rfl
theorem ff_le (P : Nat → Bool) : ∀ n, ff P n ≤ n := by
  intro n
  induction n with
  | zero => exact Nat.le_refl 0
  | succ n ih =>
    rw [ff_s]
    by_cases h1 : ff P n < n
    · rw [if_pos h1]; omega
    · rw [if_neg h1]
      by_cases h2 : P n = true
      · rw [if_pos h2]; omega
      · rw [if_neg h2]; exact Nat.le_refl _
theorem ff_no {P : Nat → Bool} : ∀ n i, i < ff P n → P i = false := by
  intro n
  induction n with
  | zero => intro i h; exact absurd h (Nat.not_lt_zero i)
  | succ n ih =>
    intro i h
    rw [ff_s] at h
    have hl := ff_le P n
    by_cases h1 : ff P n < n
    · rw [if_pos h1] at h; exact ih i h
    · rw [if_neg h1] at h
      have e : ff P n = n := by omega
      by_cases h2 : P n = true
      · rw [if_pos h2] at h; exact ih i (by omega)
      · rw [if_neg h2] at h
        by_cases h3 : i = n
        · rw [h3]; simpa using h2
        · exact ih i (by omega)
theorem ff_yes {P : Nat → Bool} : ∀ n, ff P n < n → P (ff P n) = true := by
  intro n
  induction n with
  | zero => intro h; exact absurd h (Nat.not_lt_zero _)
  | succ n ih =>
    intro h
    rw [ff_s] at h ⊢
    by_cases h1 : ff P n < n
    · rw [if_pos h1] at h ⊢; exact ih h1
    · rw [if_neg h1] at h ⊢
      by_cases h2 : P n = true
      · rw [if_pos h2]; exact h2
      · rw [if_neg h2] at h; omega
theorem ff_at {P : Nat → Bool} {i n : Nat} (hi : i < n) (h : P i = true) : ff P n ≤ i := by
  rcases Nat.lt_or_ge i (ff P n) with h1 | h1
  · have := ff_no n i h1; rw [h] at this; cases this
  · exact h1
theorem ff_eq {P : Nat → Bool} {k n : Nat} (hk : k < n) (h : P k = true) (h0 : ∀ i, i < k → P i = false) : ff P n = k := by
  have h1 := ff_at hk h
  by_cases e : ff P n = k
  · exact e
  · have h2 := h0 (ff P n) (by omega)
    have h3 := ff_yes (P := P) n (by omega)
    rw [h2] at h3; cases h3
theorem ff_none {P : Nat → Bool} {n : Nat} (h : ∀ i, i < n → P i = false) : ff P n = n := by
  by_cases e : ff P n < n
  · have h3 := ff_yes n e
    rw [h _ e] at h3; cases h3
  · have := ff_le P n; omega
theorem ff_cong {P Q : Nat → Bool} {n : Nat} (h : ∀ i, i < n → P i = Q i) : ff P n = ff Q n := by
  by_cases e : ff Q n < n
  · exact ff_eq e ((h _ e).trans (ff_yes n e)) (fun i hi => (h i (by omega)).trans (ff_no n i hi))
  · have e2 : ff Q n = n := by have := ff_le Q n; omega
    rw [e2]
    exact ff_none (fun i hi => (h i hi).trans (ff_no n i (by omega)))
-- loops
theorem lp_cnt {β : Type} (z : Int32 → Int32 → β) (body : (Int32 → Int32 → β) → Int32 → Int32 → β) (P : Nat → Bool) (n a : Nat) (out : β) (hn : n < 600) (hs : ∀ i rec x, i < n → body rec (nI x) (nI i) = if P i = true then rec (nI (x + 1)) (nI (i + 1)) else rec (nI x) (nI (i + 1))) (he : ∀ rec, body rec (nI (a + cn P n)) (nI n) = out) : lp z body FU (nI a) (nI 0) = out := by
  refine lp_FU z body (fun f (p : Int32 × Int32) => f p.1 p.2) (fun i => (nI (a + cn P i), nI i)) n out (fun i rec hi => ?_) (fun rec => he rec) hn
  show body rec (nI (a + cn P i)) (nI i) = rec (nI (a + cn P (i + 1))) (nI (i + 1))
  rw [hs i rec _ hi, cn_s]
  by_cases h : P i = true
  · rw [if_pos h, cb_t h]; rfl
  · rw [if_neg h, cb_f (by simpa using h)]; rfl
theorem lp_msk {β : Type} (z : Int32 → Int32 → β) (body : (Int32 → Int32 → β) → Int32 → Int32 → β) (P : Nat → Bool) (n : Nat) (out : β) (hn : n < 600) (hs : ∀ i rec x, i < n → body rec x (nI i) = if P i = true then rec (x ||| ishl 1 (nI i)) (nI (i + 1)) else rec x (nI (i + 1))) (he : ∀ rec, body rec (msk P n) (nI n) = out) : lp z body FU 0 (nI 0) = out := by
  refine lp_FU z body (fun f (p : Int32 × Int32) => f p.1 p.2) (fun i => (msk P i, nI i)) n out (fun i rec hi => ?_) (fun rec => he rec) hn
  show body rec (msk P i) (nI i) = rec (msk P (i + 1)) (nI (i + 1))
  have e : msk P (i + 1) = if P i = true then msk P i ||| ishl 1 (nI i) else msk P i := rfl
  rw [hs i rec _ hi, e]
  by_cases h : P i = true
  · rw [if_pos h, if_pos h]
  · rw [if_neg h, if_neg h]
theorem lp_find {β : Type} (z : Int32 → β) (body : (Int32 → β) → Int32 → β) (P : Nat → Bool) (n : Nat) (out : β) (hn : n < 600) (hs : ∀ i rec, i < ff P n → body rec (nI i) = rec (nI (i + 1))) (he : ∀ rec, body rec (nI (ff P n)) = out) : lp z body FU (nI 0) = out :=
  lp_FU z body (fun f (p : Int32) => f p) (fun i => nI i) (ff P n) out (fun i rec hi => hs i rec hi) (fun rec => he rec) (Nat.lt_of_le_of_lt (ff_le P n) hn)
