/-! Words of the tape -/
theorem alw_head (p : Nat → Bool) (i k : Nat) : alw (fun j => p (i + j)) (k + 1) = (p i && alw (fun j => p (i + 1 + j)) k) := by
  apply b_iff
  rw [Bool.and_eq_true, alw_iff, alw_iff]
  constructor
  · intro h
    exact ⟨h 0 (by omega), fun j hj => by have := h (j + 1) (by omega); rw [show i + 1 + j = i + (j + 1) by omega]; exact this⟩
  · rintro ⟨h0, h⟩ j hj
    rcases Nat.eq_zero_or_pos j with e | e
    · rw [e]; exact h0
    · have := h (j - 1) (by omega)
      rw [show i + 1 + (j - 1) = i + j by omega] at this
      exact this
theorem wloop (body : (Bool → Int32 → Option Bool) → Bool → Int32 → Option Bool) (p : Nat → Bool) (L : Nat) (hs : ∀ i rec, i < L → body rec true (nI i) = rec (p i) (nI (i + 1))) (hf : ∀ i rec, i ≤ L → body rec false (nI i) = some false) (he : ∀ rec, body rec true (nI L) = some true) : ∀ k N i, i + k = L → k + 1 < N → lp (fun _ _ => none) body N true (nI i) = some (alw (fun j => p (i + j)) k) := by
  intro k
  induction k with
  | zero =>
    intro N i hi hN
    obtain ⟨M, rfl⟩ : ∃ q, N = q + 1 := ⟨N - 1, by omega⟩
    obtain rfl : i = L := by omega
    rw [lp_s, he]; rfl
  | succ k ih =>
    intro N i hi hN
    obtain ⟨M, rfl⟩ : ∃ q, N = q + 1 := ⟨N - 1, by omega⟩
    rw [lp_s, hs i _ (by omega), alw_head]
    cases hp : p i with
    | true => rw [ih M (i + 1) (by omega) (by omega), Bool.true_and]
    | false =>
      obtain ⟨M2, rfl⟩ : ∃ q, M = q + 1 := ⟨M - 1, by omega⟩
      rw [lp_s, hf (i + 1) _ (by omega)]; rfl
theorem ff_false {z : Bool → Int32 → Option Bool} (body : (Bool → Int32 → Option Bool) → Bool → Int32 → Option Bool) (hf : ∀ rec, body rec false (nI 0) = some false) : lp z body FU false 0 = some false :=
  lp_FU z body (fun f (p : Bool × Int32) => f p.1 p.2) (fun _ => (false, nI 0)) 0 (some false) (fun i rec hi => absurd hi (Nat.not_lt_zero i)) (fun rec => hf rec) (by omega)
def wd (W : List Nat) (c : Nat → Nat) (f u : Nat) : Bool := decide (u - f = W.length) && alw (fun i => decide (c (f + i) = W.getD i 0)) W.length
theorem wd_tok {W : List Nat} {c : Nat → Nat} {n f u : Nat} (hl : 0 < W.length) (h0 : ccl (W.getD 0 0) = 1) (hfu : f = n → u - f = 0) (h : ¬ tkn c n f = 119) : wd W c f u = false := by
  unfold wd
  by_cases hf : f = n
  · rw [decide_eq_false (by rw [hfu hf]; omega), Bool.false_and]
  · have hc : ¬ ccl (c f) = 1 := fun hh => h (by unfold tkn; rw [if_neg hf, if_pos hh])
    have : alw (fun i => decide (c (f + i) = W.getD i 0)) W.length = false := by
      cases ha : alw (fun i => decide (c (f + i) = W.getD i 0)) W.length with
      | false => rfl
      | true =>
        have := of_decide_eq_true (alw_all ha 0 hl)
        rw [Nat.add_zero] at this
        rw [this] at hc
        exact absurd h0 hc
    rw [this, Bool.and_false]
theorem wd_len {W : List Nat} {c : Nat → Nat} {f u : Nat} (h : wd W c f u = true) : u - f = W.length := by
  unfold wd at h
  rw [Bool.and_eq_true, decide_eq_true_eq] at h
  exact h.1
def W0_w : List Nat := [115, 105, 122, 101]
theorem sch0_ok : ∀ i, i < 4 → sch 0 (nI i) = nI (W0_w.getD i 0) := by decide +kernel
theorem wX0_ok {τ : TT} {n : Nat} {c : Nat → Nat} (hp : TP n c) (h : TX τ n c) {f u : Nat} (hf : t_from τ = nI f) (hu : t_upto τ = nI u) (hfu : f ≤ u) (hun : u ≤ n) : f_X2_isWord_w0 τ = some (wd W0_w c f u) := by
  have hn := hp.1
  have hlen : W0_w.length = 4 := rfl
  have hw : ∀ i, i < 4 → W0_w.getD i 0 < 256 := by decide +kernel
  unfold f_X2_isWord_w0 f_X2_isWord_w0_b21 f_X2_isWord_w0_L24 wd
  rw [hf, hu, nn_sub hfu, hlen]
  by_cases d : u - f = 4
  · rw [d, if_pos (show nI 4 = 4 from rfl), decide_eq_true rfl, Bool.true_and]
    have := wloop (f_X2_isWord_w0_L24_b τ) (fun i => decide (c (f + i) = W0_w.getD i 0)) 4 (fun i rec hi => ?_) (fun i rec hi => ?_) (fun rec => ?_) 4 FU 0 (by omega) (by unfold FU; omega)
    · rw [show (fun j => (fun i => decide (c (f + i) = W0_w.getD i 0)) (0 + j)) = fun i => decide (c (f + i) = W0_w.getD i 0) from by funext j; rw [Nat.zero_add]] at this
      exact this
    · rw [f_X2_isWord_w0_L24_b, if_neg (show ¬ (4 : Int32) ≤ nI i from nI_ge (b := 4) hi (by omega)), if_pos rfl, hf, nn_add, byteAt_in hp h (by omega), ob_s, gd_t (nI_inb hi (by omega)), sch0_ok i hi, lt_e, lt_e, ← nI_succ]
      by_cases e : c (f + i) = W0_w.getD i 0
      · rw [if_pos (by rw [e]), decide_eq_true e]
      · rw [if_neg (fun hh => e (nI_inj (by have := hp.2 (f + i) (by omega); omega) (by have := hw i hi; omega) hh)), decide_eq_false e]
    · rw [f_X2_isWord_w0_L24_b, if_neg Bool.false_ne_true, ite_self]
    · rw [f_X2_isWord_w0_L24_b, if_pos (show (4 : Int32) ≤ nI 4 by decide +kernel)]
  · rw [if_neg (show ¬ nI (u - f) = 4 from fun hh => d (nI_inj (b := 4) (by omega) (by omega) hh)), decide_eq_false d, Bool.false_and]
    exact ff_false _ (fun rec => by rw [f_X2_isWord_w0_L24_b, if_neg Bool.false_ne_true, ite_self])
theorem wM0_ok {σ : MM} {n : Nat} {c : Nat → Nat} (hp : TP n c) (h : TM σ n c) {f u : Nat} (hf : m_from σ = nI f) (hu : m_to σ = nI u) (hfu : f ≤ u) (hun : u ≤ n) (ht : m_token σ = nI (tkn c n f)) (hz : f = n → u - f = 0) : f_X4_isWord_w0 σ = some (wd W0_w c f u) := by
  have hn := hp.1
  have hlen : W0_w.length = 4 := rfl
  have hw : ∀ i, i < 4 → W0_w.getD i 0 < 256 := by decide +kernel
  have htk : tkn c n f < 256 := by unfold tkn; repeat' split
                                   all_goals omega
  unfold f_X4_isWord_w0 f_X4_isWord_w0_L29
  rw [ht, hf, hu, nn_sub hfu]
  by_cases e : tkn c n f = 119
  · rw [e, if_pos (show nI 119 = 119 from rfl)]
    unfold wd
    rw [hlen]
    by_cases d : u - f = 4
    · rw [d, if_pos (show nI 4 = 4 from rfl), decide_eq_true rfl, Bool.true_and]
      refine (lp_all _ (f_X4_isWord_w0_L29_b σ) (fun i => decide (c (f + i) = W0_w.getD i 0)) 4 (some true) (some false) (by omega) (fun i rec hi => ?_) (fun rec => ?_)).trans ?_
      · rw [f_X4_isWord_w0_L29_b, if_neg (show ¬ (4 : Int32) ≤ nI i from nI_ge (b := 4) hi (by omega)), hf, nn_add, gd_t (nI_inb (show f + i < 250 by omega) (by omega)), gd_t (nI_inb hi (by omega)), nI_clamp (by omega), h.2 _ (by omega), sch0_ok i hi, lt_e, ← nI_succ]
        by_cases q : c (f + i) = W0_w.getD i 0
        · rw [if_pos (by rw [q]), if_pos (decide_eq_true q)]
        · rw [if_neg (fun hh => q (nI_inj (by have := hp.2 (f + i) (by omega); omega) (by have := hw i hi; omega) hh)), if_neg (by rw [decide_eq_false q]; exact Bool.false_ne_true)]
      · rw [f_X4_isWord_w0_L29_b, if_pos (show (4 : Int32) ≤ nI 4 by decide +kernel)]
      · cases alw (fun i => decide (c (f + i) = W0_w.getD i 0)) 4 <;> rfl
    · rw [if_neg (show ¬ nI (u - f) = 4 from fun hh => d (nI_inj (b := 4) (by omega) (by omega) hh)), decide_eq_false d, Bool.false_and]
  · rw [if_neg (show ¬ nI (tkn c n f) = 119 from fun hh => e (nI_inj (b := 119) (by omega) (by omega) hh)), wd_tok (by rw [hlen]; omega) (by decide +kernel) hz e]
def W1_w : List Nat := [104, 101, 100, 103, 101]
theorem sch1_ok : ∀ i, i < 5 → sch 1 (nI i) = nI (W1_w.getD i 0) := by decide +kernel
theorem wX1_ok {τ : TT} {n : Nat} {c : Nat → Nat} (hp : TP n c) (h : TX τ n c) {f u : Nat} (hf : t_from τ = nI f) (hu : t_upto τ = nI u) (hfu : f ≤ u) (hun : u ≤ n) : f_X2_isWord_w1 τ = some (wd W1_w c f u) := by
  have hn := hp.1
  have hlen : W1_w.length = 5 := rfl
  have hw : ∀ i, i < 5 → W1_w.getD i 0 < 256 := by decide +kernel
  unfold f_X2_isWord_w1 f_X2_isWord_w1_b21 f_X2_isWord_w1_L24 wd
  rw [hf, hu, nn_sub hfu, hlen]
  by_cases d : u - f = 5
  · rw [d, if_pos (show nI 5 = 5 from rfl), decide_eq_true rfl, Bool.true_and]
    have := wloop (f_X2_isWord_w1_L24_b τ) (fun i => decide (c (f + i) = W1_w.getD i 0)) 5 (fun i rec hi => ?_) (fun i rec hi => ?_) (fun rec => ?_) 5 FU 0 (by omega) (by unfold FU; omega)
    · rw [show (fun j => (fun i => decide (c (f + i) = W1_w.getD i 0)) (0 + j)) = fun i => decide (c (f + i) = W1_w.getD i 0) from by funext j; rw [Nat.zero_add]] at this
      exact this
    · rw [f_X2_isWord_w1_L24_b, if_neg (show ¬ (5 : Int32) ≤ nI i from nI_ge (b := 5) hi (by omega)), if_pos rfl, hf, nn_add, byteAt_in hp h (by omega), ob_s, gd_t (nI_inb hi (by omega)), sch1_ok i hi, lt_e, lt_e, ← nI_succ]
      by_cases e : c (f + i) = W1_w.getD i 0
      · rw [if_pos (by rw [e]), decide_eq_true e]
      · rw [if_neg (fun hh => e (nI_inj (by have := hp.2 (f + i) (by omega); omega) (by have := hw i hi; omega) hh)), decide_eq_false e]
    · rw [f_X2_isWord_w1_L24_b, if_neg Bool.false_ne_true, ite_self]
    · rw [f_X2_isWord_w1_L24_b, if_pos (show (5 : Int32) ≤ nI 5 by decide +kernel)]
  · rw [if_neg (show ¬ nI (u - f) = 5 from fun hh => d (nI_inj (b := 5) (by omega) (by omega) hh)), decide_eq_false d, Bool.false_and]
    exact ff_false _ (fun rec => by rw [f_X2_isWord_w1_L24_b, if_neg Bool.false_ne_true, ite_self])
theorem wM1_ok {σ : MM} {n : Nat} {c : Nat → Nat} (hp : TP n c) (h : TM σ n c) {f u : Nat} (hf : m_from σ = nI f) (hu : m_to σ = nI u) (hfu : f ≤ u) (hun : u ≤ n) (ht : m_token σ = nI (tkn c n f)) (hz : f = n → u - f = 0) : f_X4_isWord_w1 σ = some (wd W1_w c f u) := by
  have hn := hp.1
  have hlen : W1_w.length = 5 := rfl
  have hw : ∀ i, i < 5 → W1_w.getD i 0 < 256 := by decide +kernel
  have htk : tkn c n f < 256 := by unfold tkn; repeat' split
                                   all_goals omega
  unfold f_X4_isWord_w1 f_X4_isWord_w1_L29
  rw [ht, hf, hu, nn_sub hfu]
  by_cases e : tkn c n f = 119
  · rw [e, if_pos (show nI 119 = 119 from rfl)]
    unfold wd
    rw [hlen]
    by_cases d : u - f = 5
    · rw [d, if_pos (show nI 5 = 5 from rfl), decide_eq_true rfl, Bool.true_and]
      refine (lp_all _ (f_X4_isWord_w1_L29_b σ) (fun i => decide (c (f + i) = W1_w.getD i 0)) 5 (some true) (some false) (by omega) (fun i rec hi => ?_) (fun rec => ?_)).trans ?_
      · rw [f_X4_isWord_w1_L29_b, if_neg (show ¬ (5 : Int32) ≤ nI i from nI_ge (b := 5) hi (by omega)), hf, nn_add, gd_t (nI_inb (show f + i < 250 by omega) (by omega)), gd_t (nI_inb hi (by omega)), nI_clamp (by omega), h.2 _ (by omega), sch1_ok i hi, lt_e, ← nI_succ]
        by_cases q : c (f + i) = W1_w.getD i 0
        · rw [if_pos (by rw [q]), if_pos (decide_eq_true q)]
        · rw [if_neg (fun hh => q (nI_inj (by have := hp.2 (f + i) (by omega); omega) (by have := hw i hi; omega) hh)), if_neg (by rw [decide_eq_false q]; exact Bool.false_ne_true)]
      · rw [f_X4_isWord_w1_L29_b, if_pos (show (5 : Int32) ≤ nI 5 by decide +kernel)]
      · cases alw (fun i => decide (c (f + i) = W1_w.getD i 0)) 5 <;> rfl
    · rw [if_neg (show ¬ nI (u - f) = 5 from fun hh => d (nI_inj (b := 5) (by omega) (by omega) hh)), decide_eq_false d, Bool.false_and]
  · rw [if_neg (show ¬ nI (tkn c n f) = 119 from fun hh => e (nI_inj (b := 119) (by omega) (by omega) hh)), wd_tok (by rw [hlen]; omega) (by decide +kernel) hz e]
def W2_w : List Nat := [100, 105, 103]
theorem sch2_ok : ∀ i, i < 3 → sch 2 (nI i) = nI (W2_w.getD i 0) := by decide +kernel
theorem wX2_ok {τ : TT} {n : Nat} {c : Nat → Nat} (hp : TP n c) (h : TX τ n c) {f u : Nat} (hf : t_from τ = nI f) (hu : t_upto τ = nI u) (hfu : f ≤ u) (hun : u ≤ n) : f_X2_isWord_w2 τ = some (wd W2_w c f u) := by
  have hn := hp.1
  have hlen : W2_w.length = 3 := rfl
  have hw : ∀ i, i < 3 → W2_w.getD i 0 < 256 := by decide +kernel
  unfold f_X2_isWord_w2 f_X2_isWord_w2_b21 f_X2_isWord_w2_L24 wd
  rw [hf, hu, nn_sub hfu, hlen]
  by_cases d : u - f = 3
  · rw [d, if_pos (show nI 3 = 3 from rfl), decide_eq_true rfl, Bool.true_and]
    have := wloop (f_X2_isWord_w2_L24_b τ) (fun i => decide (c (f + i) = W2_w.getD i 0)) 3 (fun i rec hi => ?_) (fun i rec hi => ?_) (fun rec => ?_) 3 FU 0 (by omega) (by unfold FU; omega)
    · rw [show (fun j => (fun i => decide (c (f + i) = W2_w.getD i 0)) (0 + j)) = fun i => decide (c (f + i) = W2_w.getD i 0) from by funext j; rw [Nat.zero_add]] at this
      exact this
    · rw [f_X2_isWord_w2_L24_b, if_neg (show ¬ (3 : Int32) ≤ nI i from nI_ge (b := 3) hi (by omega)), if_pos rfl, hf, nn_add, byteAt_in hp h (by omega), ob_s, gd_t (nI_inb hi (by omega)), sch2_ok i hi, lt_e, lt_e, ← nI_succ]
      by_cases e : c (f + i) = W2_w.getD i 0
      · rw [if_pos (by rw [e]), decide_eq_true e]
      · rw [if_neg (fun hh => e (nI_inj (by have := hp.2 (f + i) (by omega); omega) (by have := hw i hi; omega) hh)), decide_eq_false e]
    · rw [f_X2_isWord_w2_L24_b, if_neg Bool.false_ne_true, ite_self]
    · rw [f_X2_isWord_w2_L24_b, if_pos (show (3 : Int32) ≤ nI 3 by decide +kernel)]
  · rw [if_neg (show ¬ nI (u - f) = 3 from fun hh => d (nI_inj (b := 3) (by omega) (by omega) hh)), decide_eq_false d, Bool.false_and]
    exact ff_false _ (fun rec => by rw [f_X2_isWord_w2_L24_b, if_neg Bool.false_ne_true, ite_self])
theorem wM2_ok {σ : MM} {n : Nat} {c : Nat → Nat} (hp : TP n c) (h : TM σ n c) {f u : Nat} (hf : m_from σ = nI f) (hu : m_to σ = nI u) (hfu : f ≤ u) (hun : u ≤ n) (ht : m_token σ = nI (tkn c n f)) (hz : f = n → u - f = 0) : f_X4_isWord_w2 σ = some (wd W2_w c f u) := by
  have hn := hp.1
  have hlen : W2_w.length = 3 := rfl
  have hw : ∀ i, i < 3 → W2_w.getD i 0 < 256 := by decide +kernel
  have htk : tkn c n f < 256 := by unfold tkn; repeat' split
                                   all_goals omega
  unfold f_X4_isWord_w2 f_X4_isWord_w2_L29
  rw [ht, hf, hu, nn_sub hfu]
  by_cases e : tkn c n f = 119
  · rw [e, if_pos (show nI 119 = 119 from rfl)]
    unfold wd
    rw [hlen]
    by_cases d : u - f = 3
    · rw [d, if_pos (show nI 3 = 3 from rfl), decide_eq_true rfl, Bool.true_and]
      refine (lp_all _ (f_X4_isWord_w2_L29_b σ) (fun i => decide (c (f + i) = W2_w.getD i 0)) 3 (some true) (some false) (by omega) (fun i rec hi => ?_) (fun rec => ?_)).trans ?_
      · rw [f_X4_isWord_w2_L29_b, if_neg (show ¬ (3 : Int32) ≤ nI i from nI_ge (b := 3) hi (by omega)), hf, nn_add, gd_t (nI_inb (show f + i < 250 by omega) (by omega)), gd_t (nI_inb hi (by omega)), nI_clamp (by omega), h.2 _ (by omega), sch2_ok i hi, lt_e, ← nI_succ]
        by_cases q : c (f + i) = W2_w.getD i 0
        · rw [if_pos (by rw [q]), if_pos (decide_eq_true q)]
        · rw [if_neg (fun hh => q (nI_inj (by have := hp.2 (f + i) (by omega); omega) (by have := hw i hi; omega) hh)), if_neg (by rw [decide_eq_false q]; exact Bool.false_ne_true)]
      · rw [f_X4_isWord_w2_L29_b, if_pos (show (3 : Int32) ≤ nI 3 by decide +kernel)]
      · cases alw (fun i => decide (c (f + i) = W2_w.getD i 0)) 3 <;> rfl
    · rw [if_neg (show ¬ nI (u - f) = 3 from fun hh => d (nI_inj (b := 3) (by omega) (by omega) hh)), decide_eq_false d, Bool.false_and]
  · rw [if_neg (show ¬ nI (tkn c n f) = 119 from fun hh => e (nI_inj (b := 119) (by omega) (by omega) hh)), wd_tok (by rw [hlen]; omega) (by decide +kernel) hz e]
def W3_w : List Nat := [116, 117, 114, 110]
theorem sch3_ok : ∀ i, i < 4 → sch 3 (nI i) = nI (W3_w.getD i 0) := by decide +kernel
theorem wX3_ok {τ : TT} {n : Nat} {c : Nat → Nat} (hp : TP n c) (h : TX τ n c) {f u : Nat} (hf : t_from τ = nI f) (hu : t_upto τ = nI u) (hfu : f ≤ u) (hun : u ≤ n) : f_X2_isWord_w3 τ = some (wd W3_w c f u) := by
  have hn := hp.1
  have hlen : W3_w.length = 4 := rfl
  have hw : ∀ i, i < 4 → W3_w.getD i 0 < 256 := by decide +kernel
  unfold f_X2_isWord_w3 f_X2_isWord_w3_b21 f_X2_isWord_w3_L24 wd
  rw [hf, hu, nn_sub hfu, hlen]
  by_cases d : u - f = 4
  · rw [d, if_pos (show nI 4 = 4 from rfl), decide_eq_true rfl, Bool.true_and]
    have := wloop (f_X2_isWord_w3_L24_b τ) (fun i => decide (c (f + i) = W3_w.getD i 0)) 4 (fun i rec hi => ?_) (fun i rec hi => ?_) (fun rec => ?_) 4 FU 0 (by omega) (by unfold FU; omega)
    · rw [show (fun j => (fun i => decide (c (f + i) = W3_w.getD i 0)) (0 + j)) = fun i => decide (c (f + i) = W3_w.getD i 0) from by funext j; rw [Nat.zero_add]] at this
      exact this
    · rw [f_X2_isWord_w3_L24_b, if_neg (show ¬ (4 : Int32) ≤ nI i from nI_ge (b := 4) hi (by omega)), if_pos rfl, hf, nn_add, byteAt_in hp h (by omega), ob_s, gd_t (nI_inb hi (by omega)), sch3_ok i hi, lt_e, lt_e, ← nI_succ]
      by_cases e : c (f + i) = W3_w.getD i 0
      · rw [if_pos (by rw [e]), decide_eq_true e]
      · rw [if_neg (fun hh => e (nI_inj (by have := hp.2 (f + i) (by omega); omega) (by have := hw i hi; omega) hh)), decide_eq_false e]
    · rw [f_X2_isWord_w3_L24_b, if_neg Bool.false_ne_true, ite_self]
    · rw [f_X2_isWord_w3_L24_b, if_pos (show (4 : Int32) ≤ nI 4 by decide +kernel)]
  · rw [if_neg (show ¬ nI (u - f) = 4 from fun hh => d (nI_inj (b := 4) (by omega) (by omega) hh)), decide_eq_false d, Bool.false_and]
    exact ff_false _ (fun rec => by rw [f_X2_isWord_w3_L24_b, if_neg Bool.false_ne_true, ite_self])
theorem wM3_ok {σ : MM} {n : Nat} {c : Nat → Nat} (hp : TP n c) (h : TM σ n c) {f u : Nat} (hf : m_from σ = nI f) (hu : m_to σ = nI u) (hfu : f ≤ u) (hun : u ≤ n) (ht : m_token σ = nI (tkn c n f)) (hz : f = n → u - f = 0) : f_X4_isWord_w3 σ = some (wd W3_w c f u) := by
  have hn := hp.1
  have hlen : W3_w.length = 4 := rfl
  have hw : ∀ i, i < 4 → W3_w.getD i 0 < 256 := by decide +kernel
  have htk : tkn c n f < 256 := by unfold tkn; repeat' split
                                   all_goals omega
  unfold f_X4_isWord_w3 f_X4_isWord_w3_L29
  rw [ht, hf, hu, nn_sub hfu]
  by_cases e : tkn c n f = 119
  · rw [e, if_pos (show nI 119 = 119 from rfl)]
    unfold wd
    rw [hlen]
    by_cases d : u - f = 4
    · rw [d, if_pos (show nI 4 = 4 from rfl), decide_eq_true rfl, Bool.true_and]
      refine (lp_all _ (f_X4_isWord_w3_L29_b σ) (fun i => decide (c (f + i) = W3_w.getD i 0)) 4 (some true) (some false) (by omega) (fun i rec hi => ?_) (fun rec => ?_)).trans ?_
      · rw [f_X4_isWord_w3_L29_b, if_neg (show ¬ (4 : Int32) ≤ nI i from nI_ge (b := 4) hi (by omega)), hf, nn_add, gd_t (nI_inb (show f + i < 250 by omega) (by omega)), gd_t (nI_inb hi (by omega)), nI_clamp (by omega), h.2 _ (by omega), sch3_ok i hi, lt_e, ← nI_succ]
        by_cases q : c (f + i) = W3_w.getD i 0
        · rw [if_pos (by rw [q]), if_pos (decide_eq_true q)]
        · rw [if_neg (fun hh => q (nI_inj (by have := hp.2 (f + i) (by omega); omega) (by have := hw i hi; omega) hh)), if_neg (by rw [decide_eq_false q]; exact Bool.false_ne_true)]
      · rw [f_X4_isWord_w3_L29_b, if_pos (show (4 : Int32) ≤ nI 4 by decide +kernel)]
      · cases alw (fun i => decide (c (f + i) = W3_w.getD i 0)) 4 <;> rfl
    · rw [if_neg (show ¬ nI (u - f) = 4 from fun hh => d (nI_inj (b := 4) (by omega) (by omega) hh)), decide_eq_false d, Bool.false_and]
  · rw [if_neg (show ¬ nI (tkn c n f) = 119 from fun hh => e (nI_inj (b := 119) (by omega) (by omega) hh)), wd_tok (by rw [hlen]; omega) (by decide +kernel) hz e]
def W4_w : List Nat := [112, 108, 97, 121, 101, 114]
theorem sch4_ok : ∀ i, i < 6 → sch 4 (nI i) = nI (W4_w.getD i 0) := by decide +kernel
theorem wX4_ok {τ : TT} {n : Nat} {c : Nat → Nat} (hp : TP n c) (h : TX τ n c) {f u : Nat} (hf : t_from τ = nI f) (hu : t_upto τ = nI u) (hfu : f ≤ u) (hun : u ≤ n) : f_X2_isWord_w4 τ = some (wd W4_w c f u) := by
  have hn := hp.1
  have hlen : W4_w.length = 6 := rfl
  have hw : ∀ i, i < 6 → W4_w.getD i 0 < 256 := by decide +kernel
  unfold f_X2_isWord_w4 f_X2_isWord_w4_b21 f_X2_isWord_w4_L24 wd
  rw [hf, hu, nn_sub hfu, hlen]
  by_cases d : u - f = 6
  · rw [d, if_pos (show nI 6 = 6 from rfl), decide_eq_true rfl, Bool.true_and]
    have := wloop (f_X2_isWord_w4_L24_b τ) (fun i => decide (c (f + i) = W4_w.getD i 0)) 6 (fun i rec hi => ?_) (fun i rec hi => ?_) (fun rec => ?_) 6 FU 0 (by omega) (by unfold FU; omega)
    · rw [show (fun j => (fun i => decide (c (f + i) = W4_w.getD i 0)) (0 + j)) = fun i => decide (c (f + i) = W4_w.getD i 0) from by funext j; rw [Nat.zero_add]] at this
      exact this
    · rw [f_X2_isWord_w4_L24_b, if_neg (show ¬ (6 : Int32) ≤ nI i from nI_ge (b := 6) hi (by omega)), if_pos rfl, hf, nn_add, byteAt_in hp h (by omega), ob_s, gd_t (nI_inb hi (by omega)), sch4_ok i hi, lt_e, lt_e, ← nI_succ]
      by_cases e : c (f + i) = W4_w.getD i 0
      · rw [if_pos (by rw [e]), decide_eq_true e]
      · rw [if_neg (fun hh => e (nI_inj (by have := hp.2 (f + i) (by omega); omega) (by have := hw i hi; omega) hh)), decide_eq_false e]
    · rw [f_X2_isWord_w4_L24_b, if_neg Bool.false_ne_true, ite_self]
    · rw [f_X2_isWord_w4_L24_b, if_pos (show (6 : Int32) ≤ nI 6 by decide +kernel)]
  · rw [if_neg (show ¬ nI (u - f) = 6 from fun hh => d (nI_inj (b := 6) (by omega) (by omega) hh)), decide_eq_false d, Bool.false_and]
    exact ff_false _ (fun rec => by rw [f_X2_isWord_w4_L24_b, if_neg Bool.false_ne_true, ite_self])
theorem wM4_ok {σ : MM} {n : Nat} {c : Nat → Nat} (hp : TP n c) (h : TM σ n c) {f u : Nat} (hf : m_from σ = nI f) (hu : m_to σ = nI u) (hfu : f ≤ u) (hun : u ≤ n) (ht : m_token σ = nI (tkn c n f)) (hz : f = n → u - f = 0) : f_X4_isWord_w4 σ = some (wd W4_w c f u) := by
  have hn := hp.1
  have hlen : W4_w.length = 6 := rfl
  have hw : ∀ i, i < 6 → W4_w.getD i 0 < 256 := by decide +kernel
  have htk : tkn c n f < 256 := by unfold tkn; repeat' split
                                   all_goals omega
  unfold f_X4_isWord_w4 f_X4_isWord_w4_L29
  rw [ht, hf, hu, nn_sub hfu]
  by_cases e : tkn c n f = 119
  · rw [e, if_pos (show nI 119 = 119 from rfl)]
    unfold wd
    rw [hlen]
    by_cases d : u - f = 6
    · rw [d, if_pos (show nI 6 = 6 from rfl), decide_eq_true rfl, Bool.true_and]
      refine (lp_all _ (f_X4_isWord_w4_L29_b σ) (fun i => decide (c (f + i) = W4_w.getD i 0)) 6 (some true) (some false) (by omega) (fun i rec hi => ?_) (fun rec => ?_)).trans ?_
      · rw [f_X4_isWord_w4_L29_b, if_neg (show ¬ (6 : Int32) ≤ nI i from nI_ge (b := 6) hi (by omega)), hf, nn_add, gd_t (nI_inb (show f + i < 250 by omega) (by omega)), gd_t (nI_inb hi (by omega)), nI_clamp (by omega), h.2 _ (by omega), sch4_ok i hi, lt_e, ← nI_succ]
        by_cases q : c (f + i) = W4_w.getD i 0
        · rw [if_pos (by rw [q]), if_pos (decide_eq_true q)]
        · rw [if_neg (fun hh => q (nI_inj (by have := hp.2 (f + i) (by omega); omega) (by have := hw i hi; omega) hh)), if_neg (by rw [decide_eq_false q]; exact Bool.false_ne_true)]
      · rw [f_X4_isWord_w4_L29_b, if_pos (show (6 : Int32) ≤ nI 6 by decide +kernel)]
      · cases alw (fun i => decide (c (f + i) = W4_w.getD i 0)) 6 <;> rfl
    · rw [if_neg (show ¬ nI (u - f) = 6 from fun hh => d (nI_inj (b := 6) (by omega) (by omega) hh)), decide_eq_false d, Bool.false_and]
  · rw [if_neg (show ¬ nI (tkn c n f) = 119 from fun hh => e (nI_inj (b := 119) (by omega) (by omega) hh)), wd_tok (by rw [hlen]; omega) (by decide +kernel) hz e]
