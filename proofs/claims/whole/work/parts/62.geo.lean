/-! Loops, numbers -/
/-- a loop that runs through states s 0, s 1 .. s e and ends there -/
theorem lp_run {α S β : Type} (z : α) (step : α → α) (ap : α → S → β) (s : Nat → S) (e : Nat) (out : β) (hs : ∀ (i : Nat) (rec : α), i < e → ap (step rec) (s i) = ap rec (s (i + 1))) (he : ∀ rec : α, ap (step rec) (s e) = out) : ∀ (j i n : Nat), i + j = e → j < n → ap (lp z step n) (s i) = out := by
  intro j
  induction j with
  | zero =>
    intro i n hi hn
    obtain ⟨m, rfl⟩ : ∃ m, n = m + 1 := ⟨n - 1, by omega⟩
    obtain rfl : i = e := by omega
    exact he _
  | succ j ih =>
    intro i n hi hn
    obtain ⟨m, rfl⟩ : ∃ m, n = m + 1 := ⟨n - 1, by omega⟩
    rw [lp_s, hs i _ (by omega)]
    exact ih (i + 1) m (by omega) (by omega)
theorem lp_FU {α S β : Type} (z : α) (step : α → α) (ap : α → S → β) (s : Nat → S) (e : Nat) (out : β) (hs : ∀ (i : Nat) (rec : α), i < e → ap (step rec) (s i) = ap rec (s (i + 1))) (he : ∀ rec : α, ap (step rec) (s e) = out) (hf : e < 600) : ap (lp z step FU) (s 0) = out := lp_run z step ap s e out hs he e 0 600 (by omega) hf
/-- p holds below n -/
def alw (p : Nat → Bool) : Nat → Bool
  | 0 => true
  | n + 1 => p n && alw p n
theorem alw_all {p : Nat → Bool} : ∀ {n : Nat}, alw p n = true → ∀ i, i < n → p i = true := by
  intro n
  induction n with
  | zero => intro _ i hi; omega
  | succ n ih =>
    intro h i hi
    simp only [alw, Bool.and_eq_true] at h
    by_cases e : i = n
    · exact e ▸ h.1
    · exact ih h.2 i (by omega)
/-- boards of all sizes -/
def alB (p : Nat → Nat → Bool) : Bool := alw (fun w => alw (fun h => p (w + 1) (h + 1)) 4) 4
theorem alB_all {p : Nat → Nat → Bool} (h : alB p = true) {W H : Nat} (hW : 1 ≤ W ∧ W ≤ 4) (hH : 1 ≤ H ∧ H ≤ 4) : p W H = true := by
  have h1 := alw_all (alw_all h (W - 1) (by omega)) (H - 1) (by omega)
  have eW : W - 1 + 1 = W := by omega
  have eH : H - 1 + 1 = H := by omega
  simpa only [eW, eH] using h1
-- ints
theorem i_nat {a : Int32} {n : Nat} (h0 : ¬ a < 0) (h : a < nI n) (hn : n < 2 ^ 31) : ∃ k, k < n ∧ a = nI k := by
  have h1 : ¬ a.toInt < 0 := fun hh => h0 (by rw [Int32.lt_iff_toInt_lt, Int32.toInt_zero]; exact hh)
  have h2 : a.toInt < (n : Int) := by rw [Int32.lt_iff_toInt_lt, nI_toInt hn] at h; exact h
  refine ⟨a.toInt.toNat, by omega, ?_⟩
  apply Int32.toInt_inj.mp
  rw [nI_toInt (by omega)]
  omega
theorem i_nat' {a : Int32} {n : Nat} (h0 : ¬ a < 0) (h : a ≤ nI n) (hn : n < 2 ^ 31) : ∃ k, k ≤ n ∧ a = nI k := by
  have h1 : ¬ a.toInt < 0 := fun hh => h0 (by rw [Int32.lt_iff_toInt_lt, Int32.toInt_zero]; exact hh)
  have h2 : a.toInt ≤ (n : Int) := by rw [Int32.le_iff_toInt_le, nI_toInt hn] at h; exact h
  refine ⟨a.toInt.toNat, by omega, ?_⟩
  apply Int32.toInt_inj.mp
  rw [nI_toInt (by omega)]
  omega
theorem nI_inb {k n : Nat} (h : k < n) (hn : n < 2 ^ 31) : inb (nI k) n = true := decide_eq_true (nI_in h hn)
theorem nI_inb' {k n : Nat} (h : n ≤ k) (hk : k < 2 ^ 31) : inb (nI k) n = false := decide_eq_false (fun hh => hh (Or.inr (by rw [nI_clamp hk]; exact h)))
theorem nI_inj {a b : Nat} (ha : a < 2 ^ 31) (hb : b < 2 ^ 31) (h : nI a = nI b) : a = b := by
  have h1 := congrArg Int32.toInt h
  rw [nI_toInt ha, nI_toInt hb] at h1
  omega
theorem nn_add (a b : Nat) : nI a + nI b = nI (a + b) := by
  unfold nI; exact (Int32.ofNat_add a b).symm
theorem nn_mul (a b : Nat) : nI a * nI b = nI (a * b) := by
  unfold nI; exact (Int32.ofNat_mul a b).symm
theorem nn_sub {a b : Nat} (h : b ≤ a) : nI a - nI b = nI (a - b) := by
  have e : nI (a - b) + nI b = nI a := by rw [nn_add]; congr 1; omega
  rw [← e]; simp
theorem lt_iff {a b : Nat} (ha : a < 2 ^ 31) (hb : b < 2 ^ 31) : nI a < nI b ↔ a < b := by
  rw [Int32.lt_iff_toInt_lt, nI_toInt ha, nI_toInt hb]; omega
theorem le_iff {a b : Nat} (ha : a < 2 ^ 31) (hb : b < 2 ^ 31) : nI a ≤ nI b ↔ a ≤ b := by
  rw [Int32.le_iff_toInt_le, nI_toInt ha, nI_toInt hb]; omega
theorem eq_iff {a b : Nat} (ha : a < 2 ^ 31) (hb : b < 2 ^ 31) : nI a = nI b ↔ a = b := ⟨nI_inj ha hb, fun h => h ▸ rfl⟩
theorem gd_t {β : Type} {b : Bool} {x : Option β} (h : b = true) : gd b x = x := by subst h; rfl
theorem lt_e {α β : Type} (e : α) (f : α → β) : lt e f = f e := by unfold lt; exact rfl
theorem ob_s {α β : Type} (x : α) (f : α → Option β) : ob (some x) f = f x := by unfold ob; exact rfl
theorem ob2_s {α γ β : Type} (x : α) (s : γ) (f : α → γ → Option β) : ob2 (some (x, s)) f = f x s := by unfold ob2; exact rfl
theorem om_n {β : Type} (a : β) (f : Nat → β) : om none a f = a := by unfold om; exact rfl
theorem om_s {β : Type} (k : Nat) (a : β) (f : Nat → β) : om (some k) a f = f k := by unfold om; exact rfl
