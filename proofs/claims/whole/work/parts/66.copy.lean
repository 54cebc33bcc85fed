/-! Copying between rows -/
theorem cmp_gt {a n : Int32} (ha : ¬ a < 0) (hn : ¬ n < 0) {L : Nat} (hL : L ≤ 40) : (0 < lg_cmp (Int32.toInt64 a + Int32.toInt64 n) (Int32.toInt64 (nI L))) ↔ (L : Int) < a.toInt + n.toInt := by
  have e0 : (0 : Int32).toInt = 0 := rfl
  rw [Int32.lt_iff_toInt_lt] at ha hn
  have la := Int32.toInt_lt a
  have ln := Int32.toInt_lt n
  rw [lg_cmp_gt, Int64.lt_iff_toInt_lt, Int64.toInt_add, Int32.toInt_toInt64, Int32.toInt_toInt64, Int32.toInt_toInt64, nI_toInt (by omega), Int.bmod_eq_of_le (by omega) (by omega)]
theorem cmp_le {a n : Int32} (ha : ¬ a < 0) (hn : ¬ n < 0) {L : Nat} (hL : L ≤ 40) : (lg_cmp (Int32.toInt64 a + Int32.toInt64 n) (Int32.toInt64 (nI L)) ≤ 0) ↔ a.toInt + n.toInt ≤ L := by
  have h := cmp_gt ha hn hL
  rw [lg_cmp_gt] at h
  rw [lg_cmp_le, ← Int64.not_lt, h]
  omega
theorem span_iff {s : SS} {L : Nat} (hL : L ≤ 40) (hl : s_length s = nI L) (a n : Int32) : (f_X1_reachesSpan s a n = true ∧ ∃ i m, a = nI i ∧ n = nI m ∧ i + m ≤ L) ∨ (f_X1_reachesSpan s a n = false ∧ (a < 0 ∨ n < 0 ∨ (¬ a < 0 ∧ ¬ n < 0 ∧ (L : Int) < a.toInt + n.toInt))) := by
  unfold f_X1_reachesSpan
  have e0 : (0 : Int32).toInt = 0 := rfl
  by_cases ha : a < 0
  · right; exact ⟨by rw [if_pos ha], Or.inl ha⟩
  by_cases hn : n < 0
  · right; exact ⟨by rw [if_neg ha, if_pos hn], Or.inr (Or.inl hn)⟩
  rw [if_neg ha, if_neg hn, hl]
  have ha' := ha
  have hn' := hn
  rw [Int32.lt_iff_toInt_lt] at ha' hn'
  by_cases h1 : nI L < n
  · right
    refine ⟨by rw [if_pos h1], Or.inr (Or.inr ⟨ha, hn, ?_⟩)⟩
    rw [Int32.lt_iff_toInt_lt, nI_toInt (by omega)] at h1
    omega
  obtain ⟨m, hm, rfl⟩ := i_nat' hn (Int32.not_lt.mp h1) (by omega)
  rw [if_neg h1, nn_sub hm]
  by_cases h2 : nI (L - m) < a
  · right
    refine ⟨by rw [if_pos h2], Or.inr (Or.inr ⟨ha, hn, ?_⟩)⟩
    rw [Int32.lt_iff_toInt_lt, nI_toInt (by omega)] at h2
    rw [nI_toInt (by omega)]
    omega
  obtain ⟨i, hi, rfl⟩ := i_nat' ha (Int32.not_lt.mp h2) (by omega)
  left
  exact ⟨by rw [if_neg h2, if_neg (show ¬ (40 : Int32) < nI L from nI_nlt (a := 40) (b := L) hL (by omega))], i, m, rfl, rfl, by omega⟩
/-- the loop that goes up -/
theorem cp_up (σ : MM) {k1 k2 a d n : Nat} (h1 : 40 * k1 + a + n ≤ 320) (h2 : 40 * k2 + d + n ≤ 320) (hn : n ≤ 40) (ho : 40 * k2 + d ≤ 40 * k1 + a ∨ 40 * k1 + a + n ≤ 40 * k2 + d) : f_X4_copy_L225 (nI k1) (nI k2) (nI a) (nI d) (nI n) 0 σ = some (nI n, m_rowOf' σ (va_cpy (m_rowOf σ) (m_rowOf σ) (40 * k1 + a) (40 * k2 + d) n)) := by
  have h := lp_FU (fun _ _ => none) (f_X4_copy_L225_b (nI k1) (nI k2) (nI a) (nI d) (nI n)) (fun f (p : Int32 × MM) => f p.1 p.2) (fun i => (nI i, m_rowOf' σ (va_cpy (m_rowOf σ) (m_rowOf σ) (40 * k1 + a) (40 * k2 + d) i))) n (some (nI n, m_rowOf' σ (va_cpy (m_rowOf σ) (m_rowOf σ) (40 * k1 + a) (40 * k2 + d) n))) (fun i rec hi => by
      show f_X4_copy_L225_b (nI k1) (nI k2) (nI a) (nI d) (nI n) rec (nI i) _ = rec (nI (i + 1)) _
      unfold f_X4_copy_L225_b
      rw [if_neg (nI_ge hi (by omega)), mi40, mi40, nn_add, nn_add, gd_t (nI_inb (by omega) (by omega)), gd_t (nI_inb (by omega) (by omega)), nI_clamp (by omega), nI_clamp (by omega), lt_e, lt_e, nI_succ]
      have ef : vp_updL (va_cpy (m_rowOf σ) (m_rowOf σ) (40 * k1 + a) (40 * k2 + d) i) (40 * k2 + d + i) (va_cpy (m_rowOf σ) (m_rowOf σ) (40 * k1 + a) (40 * k2 + d) i (40 * k1 + a + i)) = va_cpy (m_rowOf σ) (m_rowOf σ) (40 * k1 + a) (40 * k2 + d) (i + 1) := by
        have er : va_cpy (m_rowOf σ) (m_rowOf σ) (40 * k1 + a) (40 * k2 + d) i (40 * k1 + a + i) = m_rowOf σ (40 * k1 + a + i) := pk_cpy_out (by omega)
        rw [er]
        funext j
        unfold vp_updL va_cpy
        by_cases e1 : j = 40 * k2 + d + i
        · rw [if_pos e1, if_pos (by omega)]
          congr 1; omega
        · rw [if_neg e1]
          by_cases e2 : 40 * k2 + d ≤ j ∧ j < 40 * k2 + d + i
          · rw [if_pos e2, if_pos (by omega)]
          · rw [if_neg e2, if_neg (by omega)]
      rw [← ef]
      simp only [q_m_rowOf_rowOf]
      rfl) (fun rec => by
      show f_X4_copy_L225_b (nI k1) (nI k2) (nI a) (nI d) (nI n) rec (nI n) _ = _
      unfold f_X4_copy_L225_b
      rw [if_pos (nI_le (Nat.le_refl n) (by omega))]) (by omega)
  have ef : va_cpy (m_rowOf σ) (m_rowOf σ) (40 * k1 + a) (40 * k2 + d) 0 = m_rowOf σ := by
    funext j
    exact pk_cpy_out (by omega)
  have eg : m_rowOf' σ (m_rowOf σ) = σ := rfl
  simp only [ef, eg, nI_0] at h
  unfold f_X4_copy_L225
  exact h
/-- the loop that goes down -/
theorem cp_down (σ : MM) {k1 k2 a d n : Nat} (h1 : 40 * k1 + a + n ≤ 320) (h2 : 40 * k2 + d + n ≤ 320) (hn : n ≤ 40) (ho : 40 * k1 + a ≤ 40 * k2 + d) : f_X4_copy_L179 (nI k1) (nI k2) (nI a) (nI d) (nI n) (nI n - 1) σ = some (nI n, m_rowOf' σ (va_cpy (m_rowOf σ) (m_rowOf σ) (40 * k1 + a) (40 * k2 + d) n)) := by
  have h := lp_FU (fun _ _ => none) (f_X4_copy_L179_b (nI k1) (nI k2) (nI a) (nI d) (nI n)) (fun f (p : Int32 × MM) => f p.1 p.2) (fun i => (nI (n - i) - 1, m_rowOf' σ (va_cpy (m_rowOf σ) (m_rowOf σ) (40 * k1 + a + (n - i)) (40 * k2 + d + (n - i)) i))) n (some (nI n, m_rowOf' σ (va_cpy (m_rowOf σ) (m_rowOf σ) (40 * k1 + a) (40 * k2 + d) n))) (fun i rec hi => by
      show f_X4_copy_L179_b (nI k1) (nI k2) (nI a) (nI d) (nI n) rec (nI (n - i) - 1) _ = rec (nI (n - (i + 1)) - 1) _
      obtain ⟨m, hm⟩ : ∃ m, n - i = m + 1 := ⟨n - i - 1, by omega⟩
      have hm2 : n - (i + 1) = m := by omega
      rw [hm, hm2, nI_pred]
      unfold f_X4_copy_L179_b
      rw [if_neg (nI_pos (by omega)), mi40, mi40, nn_add, nn_add, gd_t (nI_inb (by omega) (by omega)), gd_t (nI_inb (by omega) (by omega)), nI_clamp (by omega), nI_clamp (by omega), lt_e, lt_e, ← Int32.sub_eq_add_neg]
      have ef : vp_updL (va_cpy (m_rowOf σ) (m_rowOf σ) (40 * k1 + a + (m + 1)) (40 * k2 + d + (m + 1)) i) (40 * k2 + d + m) (va_cpy (m_rowOf σ) (m_rowOf σ) (40 * k1 + a + (m + 1)) (40 * k2 + d + (m + 1)) i (40 * k1 + a + m)) = va_cpy (m_rowOf σ) (m_rowOf σ) (40 * k1 + a + m) (40 * k2 + d + m) (i + 1) := by
        have er : va_cpy (m_rowOf σ) (m_rowOf σ) (40 * k1 + a + (m + 1)) (40 * k2 + d + (m + 1)) i (40 * k1 + a + m) = m_rowOf σ (40 * k1 + a + m) := pk_cpy_out (by omega)
        rw [er]
        funext j
        unfold vp_updL va_cpy
        by_cases e1 : j = 40 * k2 + d + m
        · rw [if_pos e1, if_pos (by omega)]
          congr 1; omega
        · rw [if_neg e1]
          by_cases e2 : 40 * k2 + d + (m + 1) ≤ j ∧ j < 40 * k2 + d + (m + 1) + i
          · rw [if_pos e2, if_pos (by omega)]
            congr 1; omega
          · rw [if_neg e2, if_neg (by omega)]
      rw [← ef]
      simp only [q_m_rowOf_rowOf]
      rfl) (fun rec => by
      show f_X4_copy_L179_b (nI k1) (nI k2) (nI a) (nI d) (nI n) rec (nI (n - n) - 1) _ = _
      unfold f_X4_copy_L179_b
      rw [Nat.sub_self, if_pos (show nI 0 - 1 < 0 by decide +kernel)]
      rfl) (by omega)
  have ef : va_cpy (m_rowOf σ) (m_rowOf σ) (40 * k1 + a + n) (40 * k2 + d + n) 0 = m_rowOf σ := by
    funext j
    exact pk_cpy_out (by omega)
  have eg : m_rowOf' σ (m_rowOf σ) = σ := rfl
  simp only [ef, eg, Nat.sub_zero] at h
  unfold f_X4_copy_L179
  exact h
/-- both shelves bear no player; the class's step and the reference's -/
theorem B_copy90 {x : XX} {σ : MM} (hR : Rel x σ) {k1 k2 : Nat} (hk1 : k1 < 8) (hk2 : k2 < 8) (np1 : f_X1_bearsPlayer (x_shelf x k1) = false) (np2 : f_X1_bearsPlayer (x_shelf x k2) = false) (a3 a4 a5 : Int32) : ∃ (r : Int32) (x' : XX) (σ' : MM), f_X3_copy_b90 a3 a4 a5 k1 k2 x = some (r, x') ∧ f_X4_copy_b81 (nI k1) (nI k2) a3 a4 a5 σ = some (r, σ') ∧ Rel x' σ' := by
  have hno := R_no' hR (-2) (Or.inl rfl)
  have hno4 := R_no' hR (-4) (by decide +kernel)
  unfold f_X3_copy_b90 f_X4_copy_b81
  rw [gd_t (nI_inb hk1 (by omega)), nI_clamp (show k1 < 2 ^ 31 by omega)]
  rcases noRow_iff hR hk1 with ⟨_, _, b1, _, c1, L1, hc1, hL1, q1, q2, q3, q4, q5⟩ | ⟨_, b1, _, _, h5⟩
  case inr =>
    rcases h5 with ⟨h6, _⟩ | ⟨p, _, _, _, _, h7⟩
    · rw [b1, h6, if_pos (show (-1 : Int32) < 0 by decide +kernel)]; exact hno4
    · rw [np1] at h7; cases h7
  rw [b1, if_pos rfl, q1, if_neg (nI_pos (by omega)), gd_t (nI_inb hk2 (by omega)), nI_clamp (show k2 < 2 ^ 31 by omega)]
  rcases noRow_iff hR hk2 with ⟨_, _, b2, _, c2, L2, hc2, hL2, s1, s2, s3, s4, s5⟩ | ⟨_, b2, _, _, h5⟩
  case inr =>
    rcases h5 with ⟨h6, _⟩ | ⟨p, _, _, _, _, h7⟩
    · rw [b2, h6, if_neg (show ¬ (0 : Int32) ≤ -1 by decide +kernel)]; exact hno4
    · rw [np2] at h7; cases h7
  rw [b2, if_pos rfl, s1, if_pos (nI_pos' (by omega)), gd_t (nI_inb hk1 (by omega)), gd_t (nI_inb hk2 (by omega)), q4, s4]
  rcases span_iff hL1 q3 a3 a5 with ⟨e1, a, n, rfl, rfl, han⟩ | ⟨e1, h1⟩
  case inr =>
    rw [e1, if_neg Bool.false_ne_true]
    by_cases g1 : a5 < 0
    · rw [if_pos g1]; exact hno
    rw [if_neg g1]
    by_cases g2 : a3 < 0
    · rw [if_pos g2]; exact hno
    rw [if_neg g2]
    by_cases g3 : a4 < 0
    · rw [if_pos g3]; exact hno
    rw [if_neg g3]
    rcases h1 with h1 | h1 | ⟨h1, h2, h3⟩
    · exact absurd h1 g2
    · exact absurd h1 g1
    · rw [if_pos ((cmp_gt h1 h2 hL1).mpr h3)]; exact hno
  have ngt : ¬ 0 < lg_cmp (Int32.toInt64 (nI a) + Int32.toInt64 (nI n)) (Int32.toInt64 (nI L1)) := fun h => by
    have := (cmp_gt (nI_pos (by omega)) (nI_pos (by omega)) hL1).mp h
    rw [nI_toInt (by omega), nI_toInt (by omega)] at this
    omega
  rw [e1, if_pos rfl, if_neg (show ¬ nI n < 0 from nI_pos (by omega)), if_neg (show ¬ nI a < 0 from nI_pos (by omega))]
  rcases span_iff hL2 s3 a4 (nI n) with ⟨e2, d, m, rfl, hm, hdn⟩ | ⟨e2, h1⟩
  case inr =>
    rw [e2, if_neg Bool.false_ne_true]
    rcases h1 with h1 | h1 | ⟨h1, h2, h3⟩
    · rw [if_pos h1]; exact hno
    · exact absurd h1 (nI_pos (by omega))
    · have nle : ¬ lg_cmp (Int32.toInt64 a4 + Int32.toInt64 (nI n)) (Int32.toInt64 (nI L2)) ≤ 0 := fun h => by
        have := (cmp_le h1 h2 hL2).mp h
        omega
      rw [if_neg h1, if_neg ngt, if_neg nle]
      exact hno
  obtain rfl : n = m := by
    by_cases hmm : m ≤ 40
    · exact nI_inj (by omega) (by omega) hm
    · omega
  have hle : lg_cmp (Int32.toInt64 (nI d) + Int32.toInt64 (nI n)) (Int32.toInt64 (nI L2)) ≤ 0 := (cmp_le (nI_pos (by omega)) (nI_pos (by omega)) hL2).mpr (by rw [nI_toInt (by omega), nI_toInt (by omega)]; omega)
  rw [e2, if_pos rfl, if_neg (show ¬ nI d < 0 from nI_pos (by omega)), if_neg ngt, if_pos hle, nI_clamp (show a < 2 ^ 31 by omega), nI_clamp (show d < 2 ^ 31 by omega), nI_clamp (show n < 2 ^ 31 by omega)]
  have hacp : acp (nI a) (nI d) (nI n) = true := by
    unfold acp
    rw [nI_clamp (by omega), nI_clamp (by omega), nI_clamp (by omega)]
    exact decide_eq_true ⟨nI_pos (by omega), nI_pos (by omega), nI_pos (by omega), by omega, by omega⟩
  rw [gd_t hacp, lt_e]
  have hm : (if nI k1 = nI k2 then if nI d ≤ nI a then f_X4_copy_b222 (nI k1) (nI k2) (nI a) (nI d) (nI n) σ else lt (nI n - 1) (fun x24 => f_X4_copy_L179 (nI k1) (nI k2) (nI a) (nI d) (nI n) x24 σ) else f_X4_copy_b222 (nI k1) (nI k2) (nI a) (nI d) (nI n) σ) = some (nI n, m_rowOf' σ (va_cpy (m_rowOf σ) (m_rowOf σ) (40 * k1 + a) (40 * k2 + d) n)) := by
    unfold f_X4_copy_b222
    rw [lt_e]
    by_cases ek : k1 = k2
    · subst ek
      rw [if_pos rfl]
      by_cases eo : d ≤ a
      · rw [if_pos (nI_le eo (by omega))]
        exact cp_up σ (by omega) (by omega) (by omega) (by omega)
      · rw [if_neg (nI_ge (by omega) (by omega))]
        exact cp_down σ (by omega) (by omega) (by omega) (by omega)
    · rw [if_neg (fun h => ek (nI_inj (by omega) (by omega) h))]
      exact cp_up σ (by omega) (by omega) (by omega) (by omega)
  rw [hm]
  refine ⟨nI n, _, _, rfl, rfl, ?_⟩
  obtain ⟨hG, hP, hS, hT, hF, hI⟩ := hR
  refine ⟨hG, hP, SRel_put hS hk2 _ rfl ?_ ?_ (Or.inr (Or.inr ⟨c2, L2, hc2, s1, hL2, s3, s4, ?_⟩)), hT, hF, hI⟩
  · intro j hj hjk
    refine ⟨rfl, rfl, fun i hi => ?_⟩
    exact pk_cpy_out (by omega)
  · show s_content (x_shelf x k2) = m_holding σ k2
    rw [s1, s2]
  · intro i hi
    show va_cpy (s_elements (x_shelf x k1)) (s_elements (x_shelf x k2)) a d n i = va_cpy (m_rowOf σ) (m_rowOf σ) (40 * k1 + a) (40 * k2 + d) n (40 * k2 + i)
    by_cases e : d ≤ i ∧ i < d + n
    · rw [pk_cpy_in e.1 e.2, pk_cpy_in (by omega) (by omega), q5 _ (by omega)]
      congr 1; omega
    · rw [pk_cpy_out (by omega), pk_cpy_out (by omega)]
      exact s5 i hi
theorem B_copy {x : XX} {σ : MM} (hR : Rel x σ) (a1 : Int32) (a2 : Int32) (a3 : Int32) (a4 : Int32) (a5 : Int32) : ∃ (r : Int32) (x' : XX) (σ' : MM), f_X3_copy x a1 a2 a3 a4 a5 = some (r, x') ∧ f_X4_copy σ a1 a2 a3 a4 a5 = some (r, σ') ∧ Rel x' σ' := by
  have hno := R_no' hR (-2) (Or.inl rfl)
  have hno3 := R_no' hR (-3) (by decide +kernel)
  unfold f_X3_copy f_X4_copy
  rcases sh_cases x a1 with ⟨e1, e2⟩ | ⟨k1, hk1, rfl, e1, e2⟩
  · rw [e1, e2, ob_s, om_n]
    rcases sh_cases x a2 with ⟨e3, e4⟩ | ⟨k2, hk2, rfl, e3, e4⟩
    · rw [e3, ob_s, om_n]; exact hno
    · rw [e3, ob_s, om_s, gd_t (decide_eq_true hk2)]; exact hno
  rw [e1, e2, if_pos rfl, ob_s, om_s, gd_t (decide_eq_true hk1)]
  rcases sh_cases x a2 with ⟨e3, e4⟩ | ⟨k2, hk2, rfl, e3, e4⟩
  · rw [e3, e4, ob_s, om_n]; exact hno
  rw [e3, e4, if_pos rfl, ob_s, om_s, gd_t (decide_eq_true hk2), gd_t (nI_inb hk1 (by omega)), gd_t (nI_inb hk2 (by omega)), gd_t (nI_inb hk1 (by omega)), gd_t (nI_inb hk2 (by omega)), nI_clamp (show k1 < 2 ^ 31 by omega), nI_clamp (show k2 < 2 ^ 31 by omega)]
  have g5 : ∀ c, c < 5 → ¬ (10 : Int32) ≤ nI c := by decide +kernel
  have g6 : ∀ p, p < 6 → (10 : Int32) ≤ nI (p + 10) := by decide +kernel
  have gm : ¬ (10 : Int32) ≤ -1 := by decide +kernel
  rcases noRow_iff hR hk1 with ⟨i1, _, b1, p1, c1, L1, hc1, hL1, q1, q2, _⟩ | ⟨i1, b1, _, q2, ⟨q1, _, _, p1⟩ | ⟨p, hp, q1, _, _, p1⟩⟩
  · rw [p1, q1, if_neg (g5 c1 hc1)]
    rcases noRow_iff hR hk2 with ⟨i2, _, b2, p2, c2, L2, hc2, hL2, s1, s2, _⟩ | ⟨i2, b2, _, s2, ⟨s1, _, _, p2⟩ | ⟨p, hp, s1, _, _, p2⟩⟩
    · have h90 := B_copy90 hR hk1 hk2 p1 p2 a3 a4 a5
      rw [p2, s1, if_neg (g5 c2 hc2), b1, b2, i1, i2, ob_s, ob_s, q2, s2]
      by_cases e : nI c1 = nI c2
      · rw [if_pos e, if_pos e]; exact h90
      · rw [if_neg e, if_neg e]; exact hno3
    · have h90 := B_copy90 hR hk1 hk2 p1 p2 a3 a4 a5
      rw [p2, s1, if_neg gm, b1, b2, i1, i2, ob_s, ob_s]; exact h90
    · rw [p2, s1, if_pos (g6 p hp)]; exact hno3
  · rw [p1, q1, if_neg gm]
    rcases noRow_iff hR hk2 with ⟨i2, _, b2, p2, c2, L2, hc2, hL2, s1, s2, _⟩ | ⟨i2, b2, _, s2, ⟨s1, _, _, p2⟩ | ⟨p, hp, s1, _, _, p2⟩⟩
    · have h90 := B_copy90 hR hk1 hk2 p1 p2 a3 a4 a5
      rw [p2, s1, if_neg (g5 c2 hc2), b1, i1, ob_s]; exact h90
    · have h90 := B_copy90 hR hk1 hk2 p1 p2 a3 a4 a5
      rw [p2, s1, if_neg gm, b1, i1, ob_s]; exact h90
    · rw [p2, s1, if_pos (g6 p hp)]; exact hno3
  · rw [p1, q1, if_pos (g6 p hp)]; exact hno3
