/-! The tape's tokens -/
/-- letters 1, digits 2, else 0 -/
def ccl (k : Nat) : Nat := if 97 ≤ k ∧ k ≤ 122 then 1 else if 48 ≤ k ∧ k ≤ 57 then 2 else 0
def srt (k : Nat) : Int32 := if ccl k = 1 then 1 else if ccl k = 2 then 2 else -1
def sk (c : Nat → Nat) (n p : Nat) : Nat := p + ff (fun j => !decide (c (p + j) = 32)) (n - p)
def en (c : Nat → Nat) (n f : Nat) : Nat := if f = n then n else if ccl (c f) = 0 then f + 1 else f + 1 + ff (fun j => !decide (ccl (c (f + 1 + j)) = ccl (c f))) (n - (f + 1))
theorem sk_b {c : Nat → Nat} {n p : Nat} (hp : p ≤ n) : p ≤ sk c n p ∧ sk c n p ≤ n := by
  have := ff_le (fun j => !decide (c (p + j) = 32)) (n - p)
  unfold sk
  omega
theorem en_b {c : Nat → Nat} {n f : Nat} (hf : f ≤ n) : f ≤ en c n f ∧ en c n f ≤ n ∧ (f < n → f < en c n f) := by
  have := ff_le (fun j => !decide (ccl (c (f + 1 + j)) = ccl (c f))) (n - (f + 1))
  unfold en
  by_cases h : f = n
  · rw [if_pos h]; omega
  · rw [if_neg h]
    by_cases k : ccl (c f) = 0
    · rw [if_pos k]; omega
    · rw [if_neg k]; omega
/-- a tape -/
def TP (n : Nat) (c : Nat → Nat) : Prop := n ≤ 250 ∧ ∀ i, i < n → c i < 256
def TX (τ : TT) (n : Nat) (c : Nat → Nat) : Prop := t_length τ = nI n ∧ ∀ i, i < n → t_bytes τ i = nI (c i)
def TM (σ : MM) (n : Nat) (c : Nat → Nat) : Prop := m_taped σ = nI n ∧ ∀ i, i < n → m_tape σ i = nI (c i)
theorem byteAt_in {τ : TT} {n : Nat} {c : Nat → Nat} (hp : TP n c) (h : TX τ n c) {i : Nat} (hi : i < n) : f_X2_byteAt τ (nI i) = some (nI (c i)) := by
  have := hp.1
  unfold f_X2_byteAt
  rw [h.1, if_neg (nI_pos (by omega)), if_neg (nI_ge hi (by omega)), if_neg (show ¬ (250 : Int32) ≤ nI i from nI_ge (b := 250) (by omega) (by omega)), gd_t (nI_inb (by omega) (by omega)), nI_clamp (by omega), h.2 i hi]
theorem byteAt_out {τ : TT} {n : Nat} {c : Nat → Nat} (hp : TP n c) (h : TX τ n c) {i : Nat} (hi : n ≤ i) (hi2 : i < 2 ^ 31) : f_X2_byteAt τ (nI i) = some (-1) := by
  unfold f_X2_byteAt
  rw [h.1, if_neg (nI_pos hi2), if_pos (nI_le hi hi2)]
theorem sort0 : ∀ k, k < 256 → (fun x1 : Int32 => if x1 < 97 then if x1 < 48 then (-1 : Int32) else if 57 < x1 then -1 else 2 else if 122 < x1 then if x1 < 48 then -1 else if 57 < x1 then -1 else 2 else 1) (nI k) = srt k := by decide +kernel
theorem sortAt_e (τ : TT) (a : Int32) : f_X2_sortAt τ a = ob (f_X2_byteAt τ a) (fun x1 => some ((fun x1 : Int32 => if x1 < 97 then if x1 < 48 then (-1 : Int32) else if 57 < x1 then -1 else 2 else if 122 < x1 then if x1 < 48 then -1 else if 57 < x1 then -1 else 2 else 1) x1)) := by
  unfold f_X2_sortAt
  cases f_X2_byteAt τ a with
  | none => rfl
  | some v =>
    rw [ob_s, ob_s]
    show _ = some (if v < 97 then if v < 48 then (-1 : Int32) else if 57 < v then -1 else 2 else if 122 < v then if v < 48 then -1 else if 57 < v then -1 else 2 else 1)
    repeat' split
    all_goals rfl
theorem sortAt_in {τ : TT} {n : Nat} {c : Nat → Nat} (hp : TP n c) (h : TX τ n c) {i : Nat} (hi : i < n) : f_X2_sortAt τ (nI i) = some (srt (c i)) := by
  rw [sortAt_e, byteAt_in hp h hi, ob_s, sort0 _ (hp.2 i hi)]
theorem sortAt_out {τ : TT} {n : Nat} {c : Nat → Nat} (hp : TP n c) (h : TX τ n c) {i : Nat} (hi : n ≤ i) (hi2 : i < 2 ^ 31) : f_X2_sortAt τ (nI i) = some (-1) := by
  rw [sortAt_e, byteAt_out hp h hi hi2, ob_s]
  decide +kernel
theorem srt_eq : ∀ a, a < 256 → ∀ b, b < 256 → (srt a = srt b ↔ ccl a = ccl b) := by
  have h : ∀ a, a < 256 → ∀ x : Nat, x < 3 → ((srt a = if x = 1 then 1 else if x = 2 then 2 else -1) ↔ ccl a = x) := by decide +kernel
  have hc : ∀ b, b < 256 → ccl b < 3 := by decide +kernel
  intro a ha b hb
  exact h a ha (ccl b) (hc b hb)
theorem srt_m1 : ∀ a, a < 256 → (srt a = -1 ↔ ccl a = 0) := by decide +kernel
theorem c32 : ∀ a, a < 256 → (nI a = 32 ↔ a = 32) := by decide +kernel
-- the class
theorem q2_t_from (τ : TT) (a b : Int32) : t_from' (t_from' τ a) b = t_from' τ b := by unfold t_from'; exact rfl
theorem q2_t_upto (τ : TT) (a b : Int32) : t_upto' (t_upto' τ a) b = t_upto' τ b := by unfold t_upto'; exact rfl
theorem TX_from {τ : TT} {n : Nat} {c : Nat → Nat} (h : TX τ n c) (v : Int32) : TX (t_from' τ v) n c := by
  unfold TX
  simp only [q_t_bytes_from, q_t_length_from, q_t_from_from, q_t_upto_from]
  exact h
theorem TX_upto {τ : TT} {n : Nat} {c : Nat → Nat} (h : TX τ n c) (v : Int32) : TX (t_upto' τ v) n c := by
  unfold TX
  simp only [q_t_bytes_upto, q_t_length_upto, q_t_from_upto, q_t_upto_upto]
  exact h
theorem step8 {τ : TT} {n : Nat} {c : Nat → Nat} (hp : TP n c) (h : TX τ n c) {p : Nat} (hpn : p ≤ n) (k : TT → Option TT) : f_X2_step_L8 k (t_from' τ (nI p)) = k (t_from' τ (nI (sk c n p))) := by
  have hn := hp.1
  have hle := ff_le (fun j => !decide (c (p + j) = 32)) (n - p)
  have h := lp_FU (fun _ => none) (f_X2_step_L8_b k) (fun f (q : TT) => f q) (fun j => t_from' τ (nI (p + j))) (ff (fun j => !decide (c (p + j) = 32)) (n - p)) (k (t_from' τ (nI (sk c n p)))) (fun j rec hj => by
      show f_X2_step_L8_b k rec (t_from' τ (nI (p + j))) = rec (t_from' τ (nI (p + (j + 1))))
      have hno := ff_no (P := fun j => !decide (c (p + j) = 32)) (n - p) j hj
      have hc : c (p + j) = 32 := by simpa using hno
      rw [f_X2_step_L8_b, q_t_length_from, h.1, q_t_from_from, if_neg (nI_ge (by omega) (by omega)), byteAt_in hp (TX_from h _) (by omega), ob_s, hc, if_pos (show nI 32 = 32 from rfl), lt_e, ← nI_succ, q2_t_from]
      rfl) (fun rec => by
      show f_X2_step_L8_b k rec (t_from' τ (nI (p + ff (fun j => !decide (c (p + j) = 32)) (n - p)))) = _
      rw [f_X2_step_L8_b, q_t_length_from, h.1, q_t_from_from]
      by_cases d : ff (fun j => !decide (c (p + j) = 32)) (n - p) < n - p
      · have hy := ff_yes (P := fun j => !decide (c (p + j) = 32)) (n - p) d
        have hc : ¬ c (p + ff (fun j => !decide (c (p + j) = 32)) (n - p)) = 32 := by simpa using hy
        rw [if_neg (nI_ge (by omega) (by omega)), byteAt_in hp (TX_from h _) (by omega), ob_s, if_neg (fun hh => hc ((c32 _ (hp.2 _ (by omega))).mp hh))]
        rfl
      · rw [if_pos (nI_le (by omega) (by omega))]
        rfl) (by omega)
  unfold f_X2_step_L8
  exact h
theorem step71 {τ : TT} {n : Nat} {c : Nat → Nat} (hp : TP n c) (h : TX τ n c) {f : Nat} (hf : f < n) (hc : ¬ ccl (c f) = 0) : f_X2_step_L71 (srt (c f)) (t_upto' τ (nI (f + 1))) = some (t_upto' τ (nI (en c n f))) := by
  have hn := hp.1
  have hle := ff_le (fun j => !decide (ccl (c (f + 1 + j)) = ccl (c f))) (n - (f + 1))
  have hm1 : ¬ srt (c f) = -1 := fun hh => hc ((srt_m1 _ (hp.2 f hf)).mp hh)
  have een : en c n f = f + 1 + ff (fun j => !decide (ccl (c (f + 1 + j)) = ccl (c f))) (n - (f + 1)) := by unfold en; rw [if_neg (by omega), if_neg hc]
  have h := lp_FU (fun _ => none) (f_X2_step_L71_b (srt (c f))) (fun g (q : TT) => g q) (fun j => t_upto' τ (nI (f + 1 + j))) (ff (fun j => !decide (ccl (c (f + 1 + j)) = ccl (c f))) (n - (f + 1))) (some (t_upto' τ (nI (en c n f)))) (fun j rec hj => by
      show f_X2_step_L71_b (srt (c f)) rec (t_upto' τ (nI (f + 1 + j))) = rec (t_upto' τ (nI (f + 1 + (j + 1))))
      have hno := ff_no (P := fun j => !decide (ccl (c (f + 1 + j)) = ccl (c f))) (n - (f + 1)) j hj
      have hcc : ccl (c (f + 1 + j)) = ccl (c f) := by simpa using hno
      rw [f_X2_step_L71_b, q_t_length_upto, h.1, q_t_upto_upto, if_neg (nI_ge (by omega) (by omega)), if_neg hm1, sortAt_in hp (TX_upto h _) (by omega), ob_s, if_pos ((srt_eq _ (hp.2 _ (by omega)) _ (hp.2 f hf)).mpr hcc), lt_e, ← nI_succ, q2_t_upto]
      rfl) (fun rec => by
      show f_X2_step_L71_b (srt (c f)) rec (t_upto' τ (nI (f + 1 + ff (fun j => !decide (ccl (c (f + 1 + j)) = ccl (c f))) (n - (f + 1))))) = _
      rw [f_X2_step_L71_b, q_t_length_upto, h.1, q_t_upto_upto, een]
      by_cases d : ff (fun j => !decide (ccl (c (f + 1 + j)) = ccl (c f))) (n - (f + 1)) < n - (f + 1)
      · have hy := ff_yes (P := fun j => !decide (ccl (c (f + 1 + j)) = ccl (c f))) (n - (f + 1)) d
        have hcc : ¬ ccl (c (f + 1 + ff (fun j => !decide (ccl (c (f + 1 + j)) = ccl (c f))) (n - (f + 1)))) = ccl (c f) := by simpa using hy
        rw [if_neg (nI_ge (by omega) (by omega)), if_neg hm1, sortAt_in hp (TX_upto h _) (by omega), ob_s, if_neg (fun hh => hcc ((srt_eq _ (hp.2 _ (by omega)) _ (hp.2 f hf)).mp hh))]
      · rw [if_pos (nI_le (by omega) (by omega))]) (by omega)
  unfold f_X2_step_L71
  exact h
theorem imin_ok {a b : Nat} (ha : a < 2 ^ 31) (hb : b < 2 ^ 31) : imin (nI a) (nI b) = nI (min a b) := by
  unfold imin
  by_cases h : b < a
  · rw [if_pos (nI_lt h ha), Nat.min_def, if_neg (by omega)]
  · rw [if_neg (nI_nlt (by omega) hb), Nat.min_def, if_pos (by omega)]
theorem step_ok {τ : TT} {n : Nat} {c : Nat → Nat} (hp : TP n c) (h : TX τ n c) {p : Nat} (hpn : p ≤ n) (hu : t_upto τ = nI p) : f_X2_step τ = some (t_upto' (t_from' τ (nI (sk c n p))) (nI (en c n (sk c n p)))) := by
  have hn := hp.1
  obtain ⟨h1, h2⟩ := sk_b (c := c) hpn
  have hT := TX_from h (nI (sk c n p))
  unfold f_X2_step
  rw [lt_e, hu, step8 hp h hpn]
  generalize sk c n p = f at h1 h2 hT
  unfold f_X2_step_b45
  rw [q_t_from_from]
  by_cases hf : f < n
  · have emin : imin (nI f + 1) (nI n) = nI (f + 1) := by
      rw [← nI_succ, imin_ok (by omega) (by omega), Nat.min_def, if_pos (by omega)]
    rw [sortAt_in hp hT hf, ob_s, lt_e, q_t_length_from, h.1, emin]
    by_cases hc : ccl (c f) = 0
    · have een : en c n f = f + 1 := by unfold en; rw [if_neg (by omega), if_pos hc]
      rw [een, (srt_m1 _ (hp.2 f hf)).mpr hc]
      unfold f_X2_step_L71
      refine lp_FU (fun _ => none) (f_X2_step_L71_b (-1)) (fun g (q : TT) => g q) (fun _ => t_upto' (t_from' τ (nI f)) (nI (f + 1))) 0 _ (fun j rec hj => absurd hj (Nat.not_lt_zero j)) (fun rec => ?_) (by omega)
      show f_X2_step_L71_b (-1) rec (t_upto' (t_from' τ (nI f)) (nI (f + 1))) = _
      rw [f_X2_step_L71_b, if_pos (show (-1 : Int32) = -1 from rfl), ite_self]
    · exact step71 hp hT hf hc
  · have hfn : f = n := by omega
    subst hfn
    have emin : imin (nI f + 1) (nI f) = nI f := by
      rw [← nI_succ, imin_ok (by omega) (by omega), Nat.min_def, if_neg (by omega)]
    have een : en c f f = f := by unfold en; rw [if_pos rfl]
    rw [sortAt_out hp hT (Nat.le_refl f) (by omega), ob_s, lt_e, q_t_length_from, h.1, emin, een]
    unfold f_X2_step_L71
    refine lp_FU (fun _ => none) (f_X2_step_L71_b (-1)) (fun g (q : TT) => g q) (fun _ => t_upto' (t_from' τ (nI f)) (nI f)) 0 _ (fun j rec hj => absurd hj (Nat.not_lt_zero j)) (fun rec => ?_) (by omega)
    show f_X2_step_L71_b (-1) rec (t_upto' (t_from' τ (nI f)) (nI f)) = _
    rw [f_X2_step_L71_b, if_pos (show (-1 : Int32) = -1 from rfl), ite_self]
-- the reference
theorem q2_m_from (σ : MM) (a b : Int32) : m_from' (m_from' σ a) b = m_from' σ b := by unfold m_from'; exact rfl
theorem q2_m_to (σ : MM) (a b : Int32) : m_to' (m_to' σ a) b = m_to' σ b := by unfold m_to'; exact rfl
theorem q2_m_value (σ : MM) (a b : Int32) : m_value' (m_value' σ a) b = m_value' σ b := by unfold m_value'; exact rfl
theorem q3_m_tv (σ : MM) (a b : Int32) : m_value' (m_to' σ a) b = m_to' (m_value' σ b) a := by unfold m_value' m_to'; exact rfl
theorem isLet : ∀ k, k < 256 → f_X4_isLetter (nI k) = decide (ccl k = 1) := by decide +kernel
theorem isDig : ∀ k, k < 256 → f_X4_isDigit (nI k) = decide (ccl k = 2) := by decide +kernel
theorem next8 {σ : MM} {n : Nat} {c : Nat → Nat} (hp : TP n c) (h : TM σ n c) {p : Nat} (hpn : p ≤ n) (k : MM → Option MM) : f_X4_next_L8 k (m_from' σ (nI p)) = k (m_from' σ (nI (sk c n p))) := by
  have hn := hp.1
  have hle := ff_le (fun j => !decide (c (p + j) = 32)) (n - p)
  have h := lp_FU (fun _ => none) (f_X4_next_L8_b k) (fun f (q : MM) => f q) (fun j => m_from' σ (nI (p + j))) (ff (fun j => !decide (c (p + j) = 32)) (n - p)) (k (m_from' σ (nI (sk c n p)))) (fun j rec hj => by
      show f_X4_next_L8_b k rec (m_from' σ (nI (p + j))) = rec (m_from' σ (nI (p + (j + 1))))
      have hno := ff_no (P := fun j => !decide (c (p + j) = 32)) (n - p) j hj
      have hc : c (p + j) = 32 := by simpa using hno
      rw [f_X4_next_L8_b, q_m_taped_from, h.1, q_m_from_from, if_neg (nI_ge (by omega) (by omega)), gd_t (nI_inb (show p + j < 250 by omega) (by omega)), nI_clamp (by omega), q_m_tape_from, h.2 _ (by omega), hc, if_pos (show nI 32 = 32 from rfl), lt_e, ← nI_succ, q2_m_from]
      rfl) (fun rec => by
      show f_X4_next_L8_b k rec (m_from' σ (nI (p + ff (fun j => !decide (c (p + j) = 32)) (n - p)))) = _
      rw [f_X4_next_L8_b, q_m_taped_from, h.1, q_m_from_from]
      by_cases d : ff (fun j => !decide (c (p + j) = 32)) (n - p) < n - p
      · have hy := ff_yes (P := fun j => !decide (c (p + j) = 32)) (n - p) d
        have hc : ¬ c (p + ff (fun j => !decide (c (p + j) = 32)) (n - p)) = 32 := by simpa using hy
        rw [if_neg (nI_ge (by omega) (by omega)), gd_t (nI_inb (show p + ff (fun j => !decide (c (p + j) = 32)) (n - p) < 250 by omega) (by omega)), nI_clamp (by omega), q_m_tape_from, h.2 _ (by omega), if_neg (fun hh => hc ((c32 _ (hp.2 _ (by omega))).mp hh))]
        rfl
      · rw [if_pos (nI_le (by omega) (by omega))]
        rfl) (by omega)
  unfold f_X4_next_L8
  exact h
theorem TM_from {σ : MM} {n : Nat} {c : Nat → Nat} (h : TM σ n c) (v : Int32) : TM (m_from' σ v) n c := by
  unfold TM
  rw [q_m_taped_from, q_m_tape_from]
  exact h
theorem TM_value {σ : MM} {n : Nat} {c : Nat → Nat} (h : TM σ n c) (v : Int32) : TM (m_value' σ v) n c := by
  unfold TM
  rw [q_m_taped_value, q_m_tape_value]
  exact h
theorem next96 {σ : MM} {n : Nat} {c : Nat → Nat} (hp : TP n c) (h : TM σ n c) {f : Nat} (hf : f < n) (hc : ccl (c f) = 1) (k : MM → Option MM) : f_X4_next_L96 k (m_to' σ (nI (f + 1))) = k (m_to' σ (nI (en c n f))) := by
  have hn := hp.1
  have hle := ff_le (fun j => !decide (ccl (c (f + 1 + j)) = ccl (c f))) (n - (f + 1))
  have een : en c n f = f + 1 + ff (fun j => !decide (ccl (c (f + 1 + j)) = ccl (c f))) (n - (f + 1)) := by unfold en; rw [if_neg (by omega), if_neg (by omega)]
  have h := lp_FU (fun _ => none) (f_X4_next_L96_b k) (fun g (q : MM) => g q) (fun j => m_to' σ (nI (f + 1 + j))) (ff (fun j => !decide (ccl (c (f + 1 + j)) = ccl (c f))) (n - (f + 1))) (k (m_to' σ (nI (en c n f)))) (fun j rec hj => by
      show f_X4_next_L96_b k rec (m_to' σ (nI (f + 1 + j))) = rec (m_to' σ (nI (f + 1 + (j + 1))))
      have hno := ff_no (P := fun j => !decide (ccl (c (f + 1 + j)) = ccl (c f))) (n - (f + 1)) j hj
      have hcc : ccl (c (f + 1 + j)) = ccl (c f) := by simpa using hno
      rw [f_X4_next_L96_b, q_m_taped_to, h.1, q_m_to_to, if_neg (nI_ge (by omega) (by omega)), gd_t (nI_inb (show f + 1 + j < 250 by omega) (by omega)), nI_clamp (by omega), q_m_tape_to, h.2 _ (by omega), isLet _ (hp.2 _ (by omega)), if_pos (decide_eq_true (by omega)), lt_e, ← nI_succ, q2_m_to]
      rfl) (fun rec => by
      show f_X4_next_L96_b k rec (m_to' σ (nI (f + 1 + ff (fun j => !decide (ccl (c (f + 1 + j)) = ccl (c f))) (n - (f + 1))))) = _
      rw [f_X4_next_L96_b, q_m_taped_to, h.1, q_m_to_to, een]
      by_cases d : ff (fun j => !decide (ccl (c (f + 1 + j)) = ccl (c f))) (n - (f + 1)) < n - (f + 1)
      · have hy := ff_yes (P := fun j => !decide (ccl (c (f + 1 + j)) = ccl (c f))) (n - (f + 1)) d
        have hcc : ¬ ccl (c (f + 1 + ff (fun j => !decide (ccl (c (f + 1 + j)) = ccl (c f))) (n - (f + 1)))) = ccl (c f) := by simpa using hy
        rw [if_neg (nI_ge (by omega) (by omega)), gd_t (nI_inb (show f + 1 + ff (fun j => !decide (ccl (c (f + 1 + j)) = ccl (c f))) (n - (f + 1)) < 250 by omega) (by omega)), nI_clamp (by omega), q_m_tape_to, h.2 _ (by omega), isLet _ (hp.2 _ (by omega)), if_neg (by rw [decide_eq_false (by omega)]; exact Bool.false_ne_true)]
      · rw [if_pos (nI_le (by omega) (by omega))]) (by omega)
  unfold f_X4_next_L96
  exact h
/-- the number behind j more digits -/
def vvl (c : Nat → Nat) (f j : Nat) : Nat := if j = 0 then c f - 48 else 10 * (c f - 48) + (c (f + 1) - 48)
theorem dig_b : ∀ k, k < 256 → ccl k = 2 → 48 ≤ k ∧ k ≤ 57 := by decide +kernel
theorem next159 {σ : MM} {n : Nat} {c : Nat → Nat} (hp : TP n c) (h : TM σ n c) {f : Nat} (hf : f < n) (hc : ccl (c f) = 2) (hfr : m_from σ = nI f) (k : MM → Option MM) : f_X4_next_L159 k (m_to' (m_value' σ (nI (c f - 48))) (nI (f + 1))) = k (m_to' (m_value' σ (nI (vvl c f (en c n f - (f + 1))))) (nI (en c n f))) := by
  have hn := hp.1
  have hle := ff_le (fun j => !decide (ccl (c (f + 1 + j)) = ccl (c f))) (n - (f + 1))
  have een : en c n f = f + 1 + ff (fun j => !decide (ccl (c (f + 1 + j)) = ccl (c f))) (n - (f + 1)) := by unfold en; rw [if_neg (by omega), if_neg (by omega)]
  have h := lp_FU (fun _ => none) (f_X4_next_L159_b k) (fun g (q : MM) => g q) (fun j => m_to' (m_value' σ (nI (vvl c f j))) (nI (f + 1 + j))) (ff (fun j => !decide (ccl (c (f + 1 + j)) = ccl (c f))) (n - (f + 1))) (k (m_to' (m_value' σ (nI (vvl c f (en c n f - (f + 1))))) (nI (en c n f)))) (fun j rec hj => by
      show f_X4_next_L159_b k rec (m_to' (m_value' σ (nI (vvl c f j))) (nI (f + 1 + j))) = rec (m_to' (m_value' σ (nI (vvl c f (j + 1)))) (nI (f + 1 + (j + 1))))
      have hno := ff_no (P := fun j => !decide (ccl (c (f + 1 + j)) = ccl (c f))) (n - (f + 1)) j hj
      have hcc : ccl (c (f + 1 + j)) = ccl (c f) := by simpa using hno
      have e1 : nI (f + 1 + j) - nI f = nI (1 + j) := by rw [nn_sub (by omega)]; congr 1; omega
      have d1 := dig_b _ (hp.2 f hf) hc
      have d2 := dig_b _ (hp.2 (f + 1 + j) (by omega)) (by omega)
      rw [f_X4_next_L159_b, q_m_taped_to, q_m_taped_value, h.1, q_m_to_to, if_neg (nI_ge (by omega) (by omega)), gd_t (nI_inb (show f + 1 + j < 250 by omega) (by omega)), gd_t (nI_inb (show f + 1 + j < 250 by omega) (by omega)), nI_clamp (by omega), q_m_tape_to, q_m_tape_value, h.2 _ (by omega), isDig _ (hp.2 _ (by omega)), if_pos (decide_eq_true (by omega)), q_m_from_to, q_m_from_value, hfr, e1]
      simp only [lt_e, ← nI_succ]
      by_cases j0 : j = 0
      · subst j0
        have ev : (10 : Int32) * m_value (m_to' (m_value' σ (nI (vvl c f 0))) (nI (f + 1 + 0))) + nI (c (f + 1 + 0)) - 48 = nI (vvl c f (0 + 1)) := by
          rw [q_m_value_to, q_m_value_value, show (10 : Int32) = nI 10 from rfl, nn_mul, nn_add, show (48 : Int32) = nI 48 from rfl, nn_sub (by omega)]
          congr 1
          unfold vvl
          rw [if_pos rfl, if_neg (by omega), Nat.add_zero]
          have d2 : 48 ≤ c (f + 1) := d2.1
          omega
        rw [if_neg (show ¬ (2 : Int32) ≤ nI (1 + 0) by decide +kernel), ev, q3_m_tv, q2_m_value, q_m_to_to, q2_m_to, ← nI_succ]
      · rw [if_pos (show (2 : Int32) ≤ nI (1 + j) from nI_le (a := 2) (by omega) (by omega)), q2_m_to]
        have : vvl c f (j + 1) = vvl c f j := by unfold vvl; rw [if_neg (by omega), if_neg j0]
        rw [this]
        rfl) (fun rec => by
      show f_X4_next_L159_b k rec (m_to' (m_value' σ (nI (vvl c f (ff (fun j => !decide (ccl (c (f + 1 + j)) = ccl (c f))) (n - (f + 1)))))) (nI (f + 1 + ff (fun j => !decide (ccl (c (f + 1 + j)) = ccl (c f))) (n - (f + 1))))) = _
      have ee : en c n f - (f + 1) = ff (fun j => !decide (ccl (c (f + 1 + j)) = ccl (c f))) (n - (f + 1)) := by omega
      rw [f_X4_next_L159_b, q_m_taped_to, q_m_taped_value, h.1, q_m_to_to, ee, een]
      by_cases d : ff (fun j => !decide (ccl (c (f + 1 + j)) = ccl (c f))) (n - (f + 1)) < n - (f + 1)
      · have hy := ff_yes (P := fun j => !decide (ccl (c (f + 1 + j)) = ccl (c f))) (n - (f + 1)) d
        have hcc : ¬ ccl (c (f + 1 + ff (fun j => !decide (ccl (c (f + 1 + j)) = ccl (c f))) (n - (f + 1)))) = ccl (c f) := by simpa using hy
        rw [if_neg (nI_ge (by omega) (by omega)), gd_t (nI_inb (show f + 1 + ff (fun j => !decide (ccl (c (f + 1 + j)) = ccl (c f))) (n - (f + 1)) < 250 by omega) (by omega)), nI_clamp (by omega), q_m_tape_to, q_m_tape_value, h.2 _ (by omega), isDig _ (hp.2 _ (by omega)), if_neg (by rw [decide_eq_false (by omega)]; exact Bool.false_ne_true)]
      · rw [if_pos (nI_le (by omega) (by omega))]) (by omega)
  unfold f_X4_next_L159
  exact h
/-- the token's kind -/
def tkn (c : Nat → Nat) (n f : Nat) : Nat := if f = n then 101 else if ccl (c f) = 1 then 119 else if ccl (c f) = 2 then (if en c n f - f ≤ 2 then 48 else 120) else if c f = 59 then 59 else 120
theorem c59 : ∀ a, a < 256 → (nI a = 59 ↔ a = 59) := by decide +kernel
theorem next_ok {σ : MM} {n : Nat} {c : Nat → Nat} (hp : TP n c) (h : TM σ n c) {p : Nat} (hpn : p ≤ n) (hu : m_to σ = nI p) : ∃ v, f_X4_next σ = some (m_token' (m_to' (m_value' (m_from' σ (nI (sk c n p))) v) (nI (en c n (sk c n p)))) (nI (tkn c n (sk c n p)))) ∧ (sk c n p < n → ccl (c (sk c n p)) = 2 → v = nI (vvl c (sk c n p) (en c n (sk c n p) - (sk c n p + 1)))) := by
  have hn := hp.1
  obtain ⟨h1, h2⟩ := sk_b (c := c) hpn
  unfold f_X4_next
  rw [lt_e, hu, next8 hp h hpn]
  have hT := TM_from h (nI (sk c n p))
  generalize sk c n p = f at h1 h2 hT
  have hto : m_to' (m_from' σ (nI f)) (m_from (m_from' σ (nI f))) = m_to' (m_from' σ (nI f)) (nI f) := by rw [q_m_from_from]
  have vself : ∀ (τ : MM) (a : Int32), m_to' (m_value' τ (m_value τ)) a = m_to' τ a := fun τ a => by
    have : m_value' τ (m_value τ) = τ := by unfold m_value' m_value; exact rfl
    rw [this]
  unfold f_X4_next_b46
  rw [lt_e, hto, q_m_from_to, q_m_from_from, q_m_taped_to, q_m_taped_from, h.1]
  by_cases hf : f = n
  · have een : en c n f = n := by unfold en; rw [if_pos hf]
    have etk : tkn c n f = 101 := by unfold tkn; rw [if_pos hf]
    refine ⟨m_value (m_from' σ (nI f)), ?_, fun hh => by omega⟩
    rw [if_pos (by rw [hf]), lt_e, vself, een, etk, ← hf]
    rfl
  · have hfn : f < n := by omega
    rw [if_neg (fun hh => hf (nI_inj (by omega) (by omega) hh)), lt_e, lt_e, q_m_to_to, gd_t (nI_inb (show f < 250 by omega) (by omega)), nI_clamp (by omega), lt_e, q2_m_to, q_m_tape_to, ← nI_succ, hT.2 f hfn, isLet _ (hp.2 f hfn), isDig _ (hp.2 f hfn)]
    by_cases c1 : ccl (c f) = 1
    · rw [if_pos (decide_eq_true c1), next96 hp hT hfn c1, lt_e]
      have etk : tkn c n f = 119 := by unfold tkn; rw [if_neg hf, if_pos c1]
      refine ⟨m_value (m_from' σ (nI f)), ?_, fun _ hh => by omega⟩
      rw [vself, etk]
      rfl
    · rw [if_neg (by rw [decide_eq_false c1]; exact Bool.false_ne_true)]
      by_cases c2 : ccl (c f) = 2
      · have d1 := dig_b _ (hp.2 f hfn) c2
        have e48 : nI (c f) - 48 = nI (c f - 48) := nn_sub (a := c f) (b := 48) d1.1
        have hen := en_b (c := c) h2
        have esub : nI (en c n f) - nI f = nI (en c n f - f) := nn_sub hen.1
        rw [if_pos (decide_eq_true c2), lt_e, q3_m_tv, e48, next159 hp hT hfn c2 (by rw [q_m_from_from])]
        unfold f_X4_next_b235
        rw [q_m_to_to, q_m_from_to, q_m_from_value, q_m_from_from, esub]
        refine ⟨nI (vvl c f (en c n f - (f + 1))), ?_, fun _ _ => rfl⟩
        by_cases c3 : en c n f - f ≤ 2
        · have etk : tkn c n f = 48 := by unfold tkn; rw [if_neg hf, if_neg c1, if_pos c2, if_pos c3]
          rw [if_pos (show nI (en c n f - f) ≤ 2 from nI_le (b := 2) c3 (by omega)), lt_e, etk]
          rfl
        · have etk : tkn c n f = 120 := by unfold tkn; rw [if_neg hf, if_neg c1, if_pos c2, if_neg c3]
          rw [if_neg (show ¬ nI (en c n f - f) ≤ 2 from nI_ge (a := 2) (by omega) (by omega)), lt_e, etk]
          rfl
      · have c0 : ccl (c f) = 0 := by
          have : ccl (c f) < 3 := by unfold ccl; repeat' split
                                     all_goals omega
          omega
        have een : en c n f = f + 1 := by unfold en; rw [if_neg hf, if_pos c0]
        rw [if_neg (by rw [decide_eq_false c2]; exact Bool.false_ne_true)]
        refine ⟨m_value (m_from' σ (nI f)), ?_, fun _ hh => by omega⟩
        rw [vself, een]
        by_cases c3 : c f = 59
        · have etk : tkn c n f = 59 := by unfold tkn; rw [if_neg hf, if_neg c1, if_neg c2, if_pos c3]
          rw [if_pos ((c59 _ (hp.2 f hfn)).mpr c3), lt_e, etk]
          rfl
        · have etk : tkn c n f = 120 := by unfold tkn; rw [if_neg hf, if_neg c1, if_neg c2, if_neg c3]
          rw [if_neg (fun hh => c3 ((c59 _ (hp.2 f hfn)).mp hh)), lt_e, etk]
          rfl
