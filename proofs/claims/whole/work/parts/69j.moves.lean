/-! Moves that may be: slots and numbers; the i-th; how many -/
def mv (s : Nat) : Nat := if s < 40 then s else s + 60
/-- open slots -/
def os (b : BD) (s : Nat) : Bool := (decide (s < be b) && !bh b s) || (decide (40 ≤ s) && (decide (s - 40 < bn b) && sf b (s - 40)))
/-- moves that may be -/
def pm (b : BD) (m : Nat) : Bool := (decide (m < be b) && !bh b m) || (decide (100 ≤ m) && (decide (m - 100 < bn b) && sf b (m - 100)))
theorem open_bits {g : GG} {b : BD} (hb : BOK b) (hg : GB g b) {i : Nat} (hi : i < 64) : bl (f_X0_openSlots g) i = os b i := by
  have hz : SZ (bW b) (bH b) := ⟨hb.1, hb.2.1⟩
  rw [open_bit hz hg hi]
  unfold os
  rw [Bool.and_comm (!bh b i)]
  by_cases h : 40 ≤ i
  · rw [soft_bits hb hg (by omega)]
  · rw [decide_eq_false h]; rfl
theorem os_lt {b : BD} (hz : SZ (bW b) (bH b)) {s : Nat} (h : os b s = true) : s < 56 ∧ (s < 40 → s < be b ∧ bh b s = false) ∧ (40 ≤ s → s - 40 < bn b ∧ sf b (s - 40) = true) := by
  have sz := szs hz
  have h1 : be b ≤ 40 := sz.1
  have h2 : bn b ≤ 16 := sz.2.1
  unfold os at h
  rw [Bool.or_eq_true, Bool.and_eq_true, Bool.and_eq_true, Bool.and_eq_true, decide_eq_true_eq, decide_eq_true_eq, decide_eq_true_eq, Bool.not_eq_true'] at h
  rcases h with ⟨a, c⟩ | ⟨a, c, d⟩
  · exact ⟨by omega, fun _ => ⟨a, c⟩, fun _ => by omega⟩
  · exact ⟨by omega, fun _ => by omega, fun _ => ⟨c, d⟩⟩
theorem pm_lo {b : BD} {m : Nat} (h : m < 40) : pm b m = os b m := by
  unfold pm os
  rw [decide_eq_false (show ¬ 100 ≤ m by omega), decide_eq_false (show ¬ 40 ≤ m by omega)]
  rfl
theorem pm_mid {b : BD} (hz : SZ (bW b) (bH b)) {m : Nat} (h : 40 ≤ m) (h2 : m < 100) : pm b m = false := by
  have h1 : be b ≤ 40 := (szs hz).1
  unfold pm
  rw [decide_eq_false (show ¬ 100 ≤ m by omega), decide_eq_false (show ¬ m < be b by omega)]; rfl
theorem pm_hi {b : BD} (hz : SZ (bW b) (bH b)) {s : Nat} (h : 40 ≤ s) : pm b (s + 60) = os b s := by
  have h1 : be b ≤ 40 := (szs hz).1
  unfold pm os
  rw [decide_eq_false (show ¬ s + 60 < be b by omega), decide_eq_false (show ¬ s < be b by omega), decide_eq_true (show 100 ≤ s + 60 by omega), decide_eq_true h, show s + 60 - 100 = s - 40 by omega]
  rfl
theorem pm_mv {b : BD} (hz : SZ (bW b) (bH b)) (s : Nat) : pm b (mv s) = os b s := by
  unfold mv
  by_cases h : s < 40
  · rw [if_pos h, pm_lo h]
  · rw [if_neg h, pm_hi hz (by omega)]
theorem cn_lo (b : BD) : ∀ s, s ≤ 40 → cn (pm b) s = cn (os b) s := fun s hs => cn_cong s (fun i hi => pm_lo (by omega))
theorem cn_hi {b : BD} (hz : SZ (bW b) (bH b)) : ∀ j, cn (pm b) (40 + j + 60) = cn (os b) (40 + j) := by
  intro j
  induction j with
  | zero => rw [cn_ext (n := 40) (40 + 0 + 60) (by omega) (fun i h1 h2 => pm_mid hz h1 (by omega)), cn_lo b 40 (by omega)]
  | succ j ih =>
    have e : 40 + (j + 1) + 60 = (40 + j + 60) + 1 := by omega
    rw [e, cn_s, ih, pm_hi hz (by omega)]
    rfl
theorem cn_mv {b : BD} (hz : SZ (bW b) (bH b)) (s : Nat) : cn (pm b) (mv s) = cn (os b) s := by
  unfold mv
  by_cases h : s < 40
  · rw [if_pos h, cn_lo b s (by omega)]
  · have := cn_hi hz (s - 40)
    rw [show 40 + (s - 40) = s by omega] at this
    rw [if_neg h, this]
theorem cn_os {b : BD} (hz : SZ (bW b) (bH b)) : cn (os b) 64 = cn (os b) 56 := cn_ext 64 (by omega) (fun i h1 h2 => by
  cases h : os b i with
  | false => rfl
  | true => have := (os_lt hz h).1; omega)
theorem cn_pm {b : BD} (hz : SZ (bW b) (bH b)) : cn (pm b) 116 = cn (os b) 64 := by
  rw [cn_os hz]
  exact cn_hi hz 16
theorem cn_bl {g : GG} {b : BD} (hb : BOK b) (hg : GB g b) : cn (bl (f_X0_openSlots g)) 64 = cn (os b) 64 := cn_cong 64 (fun i hi => open_bits hb hg hi)
theorem cn_nth {P : Nat → Bool} {k : Nat} : ∀ n, k < cn P n → ∃ m, m < n ∧ P m = true ∧ cn P m = k := by
  intro n
  induction n with
  | zero => intro h; exact absurd h (Nat.not_lt_zero k)
  | succ n ih =>
    intro h
    by_cases h1 : k < cn P n
    · obtain ⟨m, a, c, d⟩ := ih h1
      exact ⟨m, by omega, c, d⟩
    · rw [cn_s] at h
      have := cb_le (P n)
      refine ⟨n, by omega, ?_, by omega⟩
      cases hp : P n with
      | true => rfl
      | false => rw [hp] at h; have e : cb false = 0 := rfl; omega
theorem wi_ok {n m : Nat} (hn : n < 1000) (hm : m < 1000) : f_X4_within (nI m) 0 (nI n - 1) = decide (m < n) := by
  rcases rng_iff hn (nI m) with ⟨h1, h2⟩ | ⟨i, hi, e, h1, h2⟩
  · rw [if_neg (nI_pos (by omega))] at h1
    by_cases c : m < n
    · rw [if_neg (nI_ge c (by omega))] at h1; cases h1
    · rw [h2, decide_eq_false c]
  · have := nI_inj (a := m) (b := i) (by omega) (by omega) e
    rw [h2, decide_eq_true (by omega)]
theorem wi_neg {n m : Nat} (hn : n < 1000) (hm : m < 100) : f_X4_within (nI m - 100) 0 (nI n - 1) = false := by
  apply within_f
  left
  have g : ∀ m, m < 100 → nI m - 100 < 0 := by decide +kernel
  exact g m hm
theorem mvs_ok {σ : MM} {b : BD} (hz : SZ (bW b) (bH b)) (hm : MB σ b) {m : Nat} (h : m < 1000) : (f_X4_isMove σ (nI m) = false ∧ pm b m = false) ∨ (f_X4_isMove σ (nI m) = true ∧ f_X4_mayBe σ (nI m) = some (pm b m)) := by
  have sz := szs hz
  have h1 : be b ≤ 40 := sz.1
  have h2 : bn b ≤ 16 := sz.2.1
  have wf : m_w σ * m_h σ = nI (bn b) := wh_ok hm
  unfold f_X4_isMove f_X4_isField
  rw [ed_ok hm, wf, wi_ok (show be b < 1000 by omega) h]
  by_cases c : m < be b
  · right
    rw [if_pos (decide_eq_true c), mayE hz hm c, pm_lo (by omega)]
    unfold os
    rw [decide_eq_true c, decide_eq_false (show ¬ 40 ≤ m by omega)]
    exact ⟨rfl, by rw [Bool.true_and, Bool.false_and, Bool.or_false]⟩
  · rw [if_neg (show ¬ decide (m < be b) = true by rw [decide_eq_false c]; exact Bool.false_ne_true)]
    by_cases d : m < 100
    · left
      rw [wi_neg (by omega) d, if_neg Bool.false_ne_true]
      refine ⟨rfl, ?_⟩
      unfold pm
      rw [decide_eq_false c, decide_eq_false (show ¬ 100 ≤ m by omega)]; rfl
    · have e1 : nI m - 100 = nI (m - 100) := nn_sub (a := m) (b := 100) (by omega)
      rw [e1, wi_ok (by omega) (by omega)]
      by_cases f : m - 100 < bn b
      · right
        have e2 : nI m = nI (m - 100 + 100) := by rw [show m - 100 + 100 = m by omega]
        rw [if_pos (decide_eq_true f), e2, mayF hz hm f]
        refine ⟨rfl, ?_⟩
        unfold pm sf
        rw [decide_eq_false c, decide_eq_true f, decide_eq_true (show 100 ≤ m by omega)]
        rfl
      · left
        rw [decide_eq_false f, if_neg Bool.false_ne_true]
        refine ⟨rfl, ?_⟩
        unfold pm
        rw [decide_eq_false c, decide_eq_false f, Bool.false_and, Bool.false_and, Bool.and_false]; rfl
theorem howMany_ok {σ : MM} {b : BD} (hz : SZ (bW b) (bH b)) (hm : MB σ b) : f_X4_howMany σ = some (nI (cn (os b) 64)) := by
  rw [← cn_pm hz]
  unfold f_X4_howMany f_X4_howMany_L4
  refine lp_cnt _ (f_X4_howMany_L4_b σ) (pm b) 116 0 _ (by omega) (fun i rec y hi => ?_) (fun rec => ?_)
  · unfold f_X4_howMany_L4_b
    rw [if_neg (show ¬ (116 : Int32) ≤ nI i from nI_ge (b := 116) hi (by omega))]
    rcases mvs_ok hz hm (show i < 1000 by omega) with ⟨e1, e2⟩ | ⟨e1, e2⟩
    · rw [e1, e2, if_neg Bool.false_ne_true, if_neg Bool.false_ne_true, lt_e, ← nI_succ]
    · rw [e1, e2, if_pos rfl, ob_s, lt_e, lt_e, lt_e, ← nI_succ, ← nI_succ]
  · unfold f_X4_howMany_L4_b
    rw [if_pos (show (116 : Int32) ≤ nI 116 by decide +kernel), Nat.zero_add]
theorem nI_m1 (n : Nat) : nI (n + 1) + (-1) = nI n := by
  rw [nI_succ, Int32.add_assoc, show (1 : Int32) + (-1) = 0 by decide +kernel, Int32.add_zero]
theorem ith_ok {σ : MM} {b : BD} (hz : SZ (bW b) (bH b)) (hm : MB σ b) {k m : Nat} (hmm : m < 116) (h1 : pm b m = true) (h2 : cn (pm b) m = k) : f_X4_ith σ (nI k) = some (nI m) := by
  have hk := cn_le (pm b) m
  have h := lp_FU (fun _ _ => none) (f_X4_ith_L4_b σ) (fun f (p : Int32 × Int32) => f p.1 p.2) (fun i => (nI (k - cn (pm b) i), nI i)) m (some (nI m)) (fun i rec hi => by
      show f_X4_ith_L4_b σ rec (nI (k - cn (pm b) i)) (nI i) = rec (nI (k - cn (pm b) (i + 1))) (nI (i + 1))
      unfold f_X4_ith_L4_b
      rw [if_neg (show ¬ (116 : Int32) ≤ nI i from nI_ge (b := 116) (by omega) (by omega)), cn_s]
      rcases mvs_ok hz hm (show i < 1000 by omega) with ⟨e1, e2⟩ | ⟨e1, e2⟩
      · rw [e1, e2, if_neg Bool.false_ne_true, lt_e, ← nI_succ, cb_f rfl]; rfl
      · rw [e1, e2, if_pos rfl, ob_s, lt_e, lt_e, lt_e, ← nI_succ]
        cases hp : pm b i with
        | false => rw [if_neg Bool.false_ne_true, cb_f rfl]; rfl
        | true =>
          have hl := cn_lt hi hp
          obtain ⟨j, hj⟩ : ∃ j, k - cn (pm b) i = j + 1 := ⟨k - cn (pm b) i - 1, by omega⟩
          rw [if_pos rfl, if_neg (nI_ne0 (by omega) (by omega)), hj, nI_m1, cb_t rfl, show k - (cn (pm b) i + 1) = j by omega]) (fun rec => by
      show f_X4_ith_L4_b σ rec (nI (k - cn (pm b) m)) (nI m) = _
      unfold f_X4_ith_L4_b
      rw [if_neg (show ¬ (116 : Int32) ≤ nI m from nI_ge (b := 116) hmm (by omega))]
      rcases mvs_ok hz hm (show m < 1000 by omega) with ⟨e1, e2⟩ | ⟨e1, e2⟩
      · rw [h1] at e2; cases e2
      · rw [e1, if_pos rfl, e2, ob_s, if_pos h1, show k - cn (pm b) m = 0 by omega, if_pos (show nI 0 = 0 from rfl)]) (by omega)
  unfold f_X4_ith f_X4_ith_L4
  exact h
theorem ith_none {σ : MM} {b : BD} (hz : SZ (bW b) (bH b)) (hm : MB σ b) {k : Nat} (hk : k < 2 ^ 31) (h : cn (pm b) 116 ≤ k) : f_X4_ith σ (nI k) = some (-1) := by
  have h := lp_FU (fun _ _ => none) (f_X4_ith_L4_b σ) (fun f (p : Int32 × Int32) => f p.1 p.2) (fun i => (nI (k - cn (pm b) i), nI i)) 116 (some (-1)) (fun i rec hi => by
      show f_X4_ith_L4_b σ rec (nI (k - cn (pm b) i)) (nI i) = rec (nI (k - cn (pm b) (i + 1))) (nI (i + 1))
      unfold f_X4_ith_L4_b
      rw [if_neg (show ¬ (116 : Int32) ≤ nI i from nI_ge (b := 116) (by omega) (by omega)), cn_s]
      rcases mvs_ok hz hm (show i < 1000 by omega) with ⟨e1, e2⟩ | ⟨e1, e2⟩
      · rw [e1, e2, if_neg Bool.false_ne_true, lt_e, ← nI_succ, cb_f rfl]; rfl
      · rw [e1, e2, if_pos rfl, ob_s, lt_e, lt_e, lt_e, ← nI_succ]
        cases hp : pm b i with
        | false => rw [if_neg Bool.false_ne_true, cb_f rfl]; rfl
        | true =>
          have hl := cn_lt hi hp
          obtain ⟨j, hj⟩ : ∃ j, k - cn (pm b) i = j + 1 := ⟨k - cn (pm b) i - 1, by omega⟩
          rw [if_pos rfl, if_neg (nI_ne0 (by omega) (by omega)), hj, nI_m1, cb_t rfl, show k - (cn (pm b) i + 1) = j by omega]) (fun rec => by
      show f_X4_ith_L4_b σ rec _ (nI 116) = _
      unfold f_X4_ith_L4_b
      rw [if_pos (show (116 : Int32) ≤ nI 116 by decide +kernel)]) (by omega)
  unfold f_X4_ith f_X4_ith_L4
  exact h
def drp (x : Int64) : Nat → Int64
  | 0 => x
  | j + 1 => drp x j &&& (drp x j - 1)
theorem drp_s (x : Int64) (j : Nat) : drp x (j + 1) = drp x j &&& (drp x j - 1) := rfl
theorem bl_drp (x : Int64) : ∀ j, j ≤ cn (bl x) 64 → ∀ i, bl (drp x j) i = (bl x i && decide (j ≤ cn (bl x) i)) := by
  intro j
  induction j with
  | zero => intro _ i; rw [decide_eq_true (Nat.zero_le _), Bool.and_true]; rfl
  | succ j ih =>
    intro hj i
    have ih := ih (by omega)
    obtain ⟨s, s1, s2, s3⟩ := cn_nth (P := bl x) (k := j) 64 hj
    have hs1 : bl (drp x j) s = true := by rw [ih, s2, decide_eq_true (by omega)]; rfl
    have hs0 : ∀ i, i < s → bl (drp x j) i = false := fun i hi => by
      rw [ih]
      cases hx : bl x i with
      | false => rfl
      | true => have := cn_lt hi hx; rw [decide_eq_false (by omega)]; rfl
    rw [drp_s, bl_drop s1 hs1 hs0, ih]
    cases hx : bl x i with
    | false => rfl
    | true =>
      by_cases e : i = s
      · subst e
        rw [decide_eq_true rfl, decide_eq_false (show ¬ j + 1 ≤ cn (bl x) i by omega)]; simp
      · have : cn (bl x) i ≠ j := fun hh => e (cn_inj hx s2 (hh.trans s3.symm))
        rw [decide_eq_false e]
        by_cases c : j ≤ cn (bl x) i
        · rw [decide_eq_true c, decide_eq_true (show j + 1 ≤ cn (bl x) i by omega)]; rfl
        · rw [decide_eq_false c, decide_eq_false (show ¬ j + 1 ≤ cn (bl x) i by omega)]; rfl
theorem slotAt_ok {x : Int64} {k s : Nat} (hk : k ≤ 56) (h1 : s < 64) (h2 : bl x s = true) (h3 : cn (bl x) s = k) : f_X3_slotAt x (nI k) = some (nI s) := by
  have hc : k ≤ cn (bl x) 64 := by have := cn_lt h1 h2; omega
  have h := lp_FU (fun _ _ => none) (f_X3_slotAt_L5_b (nI k) (fun y6 => some (f_X3_firstSlot y6))) (fun f (p : Int64 × Int32) => f p.1 p.2) (fun i => (drp x i, nI i)) k (some (nI s)) (fun i rec hi => by
      show f_X3_slotAt_L5_b (nI k) (fun y6 => some (f_X3_firstSlot y6)) rec (drp x i) (nI i) = rec (drp x (i + 1)) (nI (i + 1))
      unfold f_X3_slotAt_L5_b
      rw [if_neg (nI_ge hi (by omega)), if_neg (show ¬ (56 : Int32) ≤ nI i from nI_ge (b := 56) (by omega) (by omega)), lt_e, lt_e, ← nI_succ, drp_s]) (fun rec => by
      show f_X3_slotAt_L5_b (nI k) (fun y6 => some (f_X3_firstSlot y6)) rec (drp x k) (nI k) = _
      unfold f_X3_slotAt_L5_b
      rw [if_pos (nI_le (Nat.le_refl k) (by omega))]
      show some (f_X3_firstSlot (drp x k)) = _
      rw [firstSlot_at h1 (by rw [bl_drp x k hc, h2, h3, decide_eq_true (Nat.le_refl k)]; rfl) (fun i hi => by
        rw [bl_drp x k hc]
        cases hx : bl x i with
        | false => rfl
        | true => have := cn_lt hi hx; rw [decide_eq_false (by omega)]; rfl)]) (by omega)
  unfold f_X3_slotAt f_X3_slotAt_L5
  exact h
theorem moveOf_ok : ∀ s, s < 64 → f_X3_moveOf (nI s) = nI (mv s) := by decide +kernel
theorem moveOf_m1 : f_X3_moveOf (-1) = -1 := by decide +kernel
theorem B_moves {x : XX} {σ : MM} (hR : Rel x σ) (a1 : Int32) : ∃ (r : Int32) (x' : XX) (σ' : MM), f_X3_moves x a1 = some (r, x') ∧ f_X4_moves σ a1 = some (r, σ') ∧ Rel x' σ' := by
  have hno := R_no' hR (-2) (Or.inl rfl)
  have hno5 := R_no' hR (-5) (by decide +kernel)
  obtain ⟨b, t, mv0, sd, hb, hg, hm, hgs, hms⟩ := hR.1
  have hz : SZ (bW b) (bH b) := ⟨hb.1, hb.2.1⟩
  have hcl := cn_le (os b) 64
  unfold f_X3_moves f_X4_moves
  rw [lt_e, cnt64, cn_bl hb hg]
  by_cases h1 : (-1) ≤ a1
  · rw [if_pos h1, if_pos h1]
    by_cases h2 : a1 = (-1)
    · rw [if_pos h2, if_pos h2, howMany_ok hz hm, ob_s]
      exact ⟨_, _, _, rfl, rfl, hR⟩
    · rw [if_neg h2, if_neg h2]
      have h0 : ¬ a1 < 0 := by
        intro hh
        have e1 : (-1 : Int32).toInt = -1 := by decide +kernel
        rw [Int32.le_iff_toInt_le, e1] at h1
        rw [Int32.lt_iff_toInt_lt, Int32.toInt_zero] at hh
        exact h2 (Int32.toInt_inj.mp (by rw [e1]; omega))
      obtain ⟨k, hk, rfl⟩ := nI_of h0
      by_cases h3 : k < cn (os b) 64
      · obtain ⟨s, s1, s2, s3⟩ := cn_nth 64 h3
        have sl := os_lt hz s2
        rw [if_pos (nI_lt h3 (by omega)), slotAt_ok (s := s) (by have := cn_os hz; have := cn_le (os b) 56; omega) s1 (by rw [open_bits hb hg s1]; exact s2) (by rw [cn_cong s (fun i hi => open_bits hb hg (show i < 64 by omega))]; exact s3), ob_s, moveOf_ok s s1, ith_ok hz hm (m := mv s) (by unfold mv; split <;> omega) (by rw [pm_mv hz]; exact s2) (by rw [cn_mv hz]; exact s3), ob_s, if_neg (show ¬ nI (mv s) = -1 from (by decide +kernel : ∀ m, m < 200 → ¬ nI m = -1) _ (by unfold mv; split <;> omega))]
        exact ⟨_, _, _, rfl, rfl, hR⟩
      · rw [if_neg (nI_nlt (by omega) hk), ith_none hz hm hk (by rw [cn_pm hz]; omega), ob_s, if_pos rfl]
        exact hno5
  · rw [if_neg h1, if_neg h1]
    exact hno
