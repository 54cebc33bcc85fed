/-! What a board is worth; whole numbers and ints -/
def iN (v : Int) : Int32 := Int32.ofInt v
theorem iN_to {v : Int} (h1 : -1000 ≤ v) (h2 : v ≤ 1000) : (iN v).toInt = v := Int32.toInt_ofInt_of_le (by omega) (by omega)
theorem iN_neg (v : Int) : -(iN v) = iN (-v) := (Int32.ofInt_neg v).symm
theorem iN_le {a c : Int} (ha : -1000 ≤ a ∧ a ≤ 1000) (hc : -1000 ≤ c ∧ c ≤ 1000) : iN a ≤ iN c ↔ a ≤ c := by
  rw [Int32.le_iff_toInt_le, iN_to ha.1 ha.2, iN_to hc.1 hc.2]
theorem iN_lt {a c : Int} (ha : -1000 ≤ a ∧ a ≤ 1000) (hc : -1000 ≤ c ∧ c ≤ 1000) : iN a < iN c ↔ a < c := by
  rw [Int32.lt_iff_toInt_lt, iN_to ha.1 ha.2, iN_to hc.1 hc.2]
theorem iN_max {a c : Int} (ha : -1000 ≤ a ∧ a ≤ 1000) (hc : -1000 ≤ c ∧ c ≤ 1000) : imax (iN a) (iN c) = iN (max a c) := by
  unfold imax
  by_cases h : a < c
  · rw [if_pos ((iN_lt ha hc).mpr h), Int.max_def, if_pos (by omega)]
  · rw [if_neg (fun hh => h ((iN_lt ha hc).mp hh)), Int.max_def]
    by_cases e : a ≤ c
    · rw [if_pos e, show a = c by omega]
    · rw [if_neg e]
def ldi (b : BD) (p : Nat) : Int := (sco b p : Int) - (sco b (1 - p) : Int)
theorem led_ldi (b : BD) (p : Nat) : led b p = iN (ldi b p) := by
  unfold led ldi iN
  rw [Int32.ofInt_sub, Int32.ofInt_eq_ofNat, Int32.ofInt_eq_ofNat]
  rfl
theorem sco_le {b : BD} (hb : BOK b) (p : Nat) : sco b p ≤ 48 := by
  have hn : bn b ≤ 16 := (szs (W := bW b) (H := bH b) ⟨hb.1, hb.2.1⟩).2.1
  unfold sco ln
  have h1 := cn_le (tin b p) (bn b)
  have h2 := cn_le (ln1 b (1 - p)) (bn b)
  have h3 := cn_le (ln2 b (1 - p)) (bn b)
  omega
theorem ldi_b {b : BD} (hb : BOK b) (p : Nat) : -48 ≤ ldi b p ∧ ldi b p ≤ 48 := by
  have h1 := sco_le hb p
  have h2 := sco_le hb (1 - p)
  unfold ldi
  omega
def mx (P : Nat → Bool) (F : Nat → Int) : Nat → Int
  | 0 => -100
  | n + 1 => if P n = true then max (mx P F n) (F n) else mx P F n
theorem mx_s (P : Nat → Bool) (F : Nat → Int) (n : Nat) : mx P F (n + 1) = if P n = true then max (mx P F n) (F n) else mx P F n := rfl
theorem mx_le {P : Nat → Bool} {F : Nat → Int} {c : Int} (hc : -100 ≤ c) : ∀ n, (∀ s, s < n → P s = true → F s ≤ c) → mx P F n ≤ c := by
  intro n
  induction n with
  | zero => intro _; exact hc
  | succ n ih =>
    intro h
    have h1 := ih (fun s hs => h s (by omega))
    rw [mx_s]
    by_cases p : P n = true
    · have := h n (by omega) p
      rw [if_pos p]; omega
    · rw [if_neg p]; exact h1
theorem mx_lo {P : Nat → Bool} {F : Nat → Int} : ∀ n, -100 ≤ mx P F n := by
  intro n
  induction n with
  | zero => exact Int.le_refl _
  | succ n ih =>
    rw [mx_s]
    by_cases p : P n = true
    · rw [if_pos p]; omega
    · rw [if_neg p]; exact ih
theorem mx_ge {P : Nat → Bool} {F : Nat → Int} {s : Nat} (hp : P s = true) : ∀ n, s < n → F s ≤ mx P F n := by
  intro n
  induction n with
  | zero => intro h; omega
  | succ n ih =>
    intro h
    rw [mx_s]
    by_cases e : s = n
    · subst e
      rw [if_pos hp]; omega
    · have := ih (by omega)
      by_cases p : P n = true
      · rw [if_pos p]; omega
      · rw [if_neg p]; exact this
theorem mx_cong {P Q : Nat → Bool} {F G : Nat → Int} : ∀ n, (∀ s, s < n → P s = Q s ∧ (P s = true → F s = G s)) → mx P F n = mx Q G n := by
  intro n
  induction n with
  | zero => intro _; rfl
  | succ n ih =>
    intro h
    obtain ⟨h1, h2⟩ := h n (by omega)
    rw [mx_s, mx_s, ih (fun s hs => h s (by omega)), ← h1]
    by_cases p : P n = true
    · rw [if_pos p, if_pos p, h2 p]
    · rw [if_neg p, if_neg p]
theorem mx_drop {P : Nat → Bool} {F : Nat → Int} {l : Nat} (hl : P l = true) : ∀ n, l < n → mx P F n = max (F l) (mx (fun s => P s && !decide (s = l)) F n) := by
  intro n
  induction n with
  | zero => intro h; omega
  | succ n ih =>
    intro h
    rw [mx_s, mx_s]
    by_cases e : n = l
    · subst e
      have he : mx (fun s => P s && !decide (s = n)) F n = mx P F n := mx_cong n (fun s hs => by
        have : (P s && !decide (s = n)) = P s := by rw [decide_eq_false (show ¬ s = n by omega)]; simp
        exact ⟨this, fun _ => rfl⟩)
      rw [if_pos hl, if_neg (by rw [decide_eq_true rfl]; simp), he, Int.max_comm]
    · have h1 := ih (by omega)
      by_cases p : P n = true
      · rw [if_pos p, if_pos (by rw [p, decide_eq_false e]; rfl), h1]; omega
      · rw [if_neg p, if_neg (by simpa using fun h => absurd h p), h1]
def val : Nat → BD → Nat → Int
  | 0, b, t => ldi b t
  | d + 1, b, t => if cn (os b) 64 = 0 then ldi b t else mx (os b) (fun s => -(val d (mk b t s) (1 - t))) 56
theorem val_s (d : Nat) (b : BD) (t : Nat) : val (d + 1) b t = if cn (os b) 64 = 0 then ldi b t else mx (os b) (fun s => -(val d (mk b t s) (1 - t))) 56 := rfl
theorem os_ex {b : BD} (hz : SZ (bW b) (bH b)) (h : ¬ cn (os b) 64 = 0) : ∃ s, s < 56 ∧ os b s = true := by
  obtain ⟨s, hs, h1⟩ := cn_ex (P := os b) 64 (by omega)
  exact ⟨s, (os_lt hz h1).1, h1⟩
theorem val_b : ∀ (d : Nat) (b : BD) (t : Nat), BOK b → t < 2 → -48 ≤ val d b t ∧ val d b t ≤ 48 := by
  intro d
  induction d with
  | zero => intro b t hb _; exact ldi_b hb t
  | succ d ih =>
    intro b t hb ht
    rw [val_s]
    by_cases c : cn (os b) 64 = 0
    · rw [if_pos c]; exact ldi_b hb t
    · rw [if_neg c]
      obtain ⟨s, hs, ho⟩ := os_ex ⟨hb.1, hb.2.1⟩ c
      have h1 := mx_ge (F := fun s => -(val d (mk b t s) (1 - t))) ho 56 hs
      have h2 := ih (mk b t s) (1 - t) (BOK_mk hb ht ho) (by omega)
      have h3 : -(val d (mk b t s) (1 - t)) ≤ mx (os b) (fun s => -(val d (mk b t s) (1 - t))) 56 := h1
      refine ⟨by omega, mx_le (by omega) 56 (fun q hq hoq => ?_)⟩
      have := ih (mk b t q) (1 - t) (BOK_mk hb ht hoq) (by omega)
      show -(val d (mk b t q) (1 - t)) ≤ 48
      omega
theorem val_st : ∀ (d : Nat) (b : BD) (t : Nat), BOK b → t < 2 → cn (os b) 64 ≤ d → val (d + 1) b t = val d b t := by
  intro d
  induction d with
  | zero => intro b t _ _ hc; rw [val_s, if_pos (by omega)]; rfl
  | succ d ih =>
    intro b t hb ht hc
    rw [val_s (d + 1), val_s d]
    by_cases c : cn (os b) 64 = 0
    · rw [if_pos c, if_pos c]
    · rw [if_neg c, if_neg c]
      refine mx_cong 56 (fun s hs => ⟨rfl, fun ho => ?_⟩)
      have := os_less (t := t) hb ho
      rw [ih (mk b t s) (1 - t) (BOK_mk hb ht ho) (by omega) (by omega)]
/-- the worth of a board for whose turn it is -/
def Vv (b : BD) (t : Nat) : Int := val 60 b t
theorem Vv_eq {b : BD} (hb : BOK b) {t : Nat} (ht : t < 2) : Vv b t = if cn (os b) 64 = 0 then ldi b t else mx (os b) (fun s => -(Vv (mk b t s) (1 - t))) 56 := by
  have hz : SZ (bW b) (bH b) := ⟨hb.1, hb.2.1⟩
  have h : cn (os b) 64 ≤ 60 := by rw [cn_os hz]; have := cn_le (os b) 56; omega
  unfold Vv
  rw [← val_st 60 b t hb ht h, val_s]
theorem Vv_b {b : BD} (hb : BOK b) {t : Nat} (ht : t < 2) : -48 ≤ Vv b t ∧ Vv b t ≤ 48 := val_b 60 b t hb ht
/-- the first best, going up -/
def bf (P : Nat → Bool) (F : Nat → Int) : Nat → Option Nat × Int
  | 0 => (none, -100)
  | n + 1 => if P n = true then (if (bf P F n).2 < F n then (some n, F n) else bf P F n) else bf P F n
theorem bf_s (P : Nat → Bool) (F : Nat → Int) (n : Nat) : bf P F (n + 1) = if P n = true then (if (bf P F n).2 < F n then (some n, F n) else bf P F n) else bf P F n := rfl
theorem bf_mx (P : Nat → Bool) (F : Nat → Int) : ∀ n, (bf P F n).2 = mx P F n := by
  intro n
  induction n with
  | zero => rfl
  | succ n ih =>
    rw [bf_s, mx_s]
    by_cases p : P n = true
    · rw [if_pos p, if_pos p]
      by_cases c : (bf P F n).2 < F n
      · rw [if_pos c, ← ih]; show F n = _; omega
      · rw [if_neg c, ← ih]; omega
    · rw [if_neg p, if_neg p]; exact ih
theorem bf_in {P : Nat → Bool} {F : Nat → Int} : ∀ n s, (bf P F n).1 = some s → s < n ∧ P s = true := by
  intro n
  induction n with
  | zero => intro s h; cases h
  | succ n ih =>
    intro s h
    rw [bf_s] at h
    by_cases p : P n = true
    · rw [if_pos p] at h
      by_cases c : (bf P F n).2 < F n
      · rw [if_pos c] at h
        have : n = s := Option.some.inj h
        subst this
        exact ⟨by omega, p⟩
      · rw [if_neg c] at h
        have := ih s h
        exact ⟨by omega, this.2⟩
    · rw [if_neg p] at h
      have := ih s h
      exact ⟨by omega, this.2⟩
theorem bf_none {P : Nat → Bool} {F : Nat → Int} (hF : ∀ s, P s = true → -100 < F s) : ∀ n, (bf P F n).1 = none ↔ ∀ s, s < n → P s = false := by
  intro n
  induction n with
  | zero => exact ⟨fun _ s hs => absurd hs (Nat.not_lt_zero s), fun _ => rfl⟩
  | succ n ih =>
    rw [bf_s]
    by_cases p : P n = true
    · rw [if_pos p]
      constructor
      · intro h
        exfalso
        by_cases c : (bf P F n).2 < F n
        · rw [if_pos c] at h; cases h
        · rw [if_neg c] at h
          have h1 := ih.mp h
          have h2 : mx P F n = -100 := by
            have a := mx_lo (P := P) (F := F) n
            have b := mx_le (P := P) (F := F) (c := -100) (Int.le_refl _) n (fun s hs hp => by rw [h1 s hs] at hp; cases hp)
            omega
          rw [bf_mx, h2] at c
          have := hF n p
          omega
      · intro h
        rw [h n (by omega)] at p; cases p
    · rw [if_neg p, ih]
      constructor
      · intro h s hs
        by_cases e : s = n
        · rw [e]; simpa using p
        · exact h s (by omega)
      · intro h s hs; exact h s (by omega)
