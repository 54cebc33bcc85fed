/-! Shelves, further -/
theorem low_kept {s : SS} {c : Nat} (hc : c < 5) (h : s_content s = nI c) (a : Int64) : f_X1_lowestBits s a = f_X4_kept (nI c) a := by
  unfold f_X1_lowestBits f_X4_kept
  rw [h]
  rcases (by omega : c = 0 ∨ c = 1 ∨ c = 2 ∨ c = 3 ∨ c = 4) with rfl | rfl | rfl | rfl | rfl
  · rw [if_pos (show nI 0 = 0 by decide +kernel), if_pos (show nI 0 = 0 by decide +kernel)]
  · rw [if_neg (show ¬ nI 1 = 0 by decide +kernel), if_pos (show nI 1 = 1 by decide +kernel), if_neg (show ¬ nI 1 = 0 by decide +kernel), if_pos (show nI 1 = 1 by decide +kernel)]
  · rw [if_neg (show ¬ nI 2 = 0 by decide +kernel), if_neg (show ¬ nI 2 = 1 by decide +kernel), if_pos (show nI 2 = 2 by decide +kernel), if_neg (show ¬ nI 2 = 0 by decide +kernel), if_neg (show ¬ nI 2 = 1 by decide +kernel), if_pos (show nI 2 = 2 by decide +kernel)]
  · rw [if_neg (show ¬ nI 3 = 0 by decide +kernel), if_neg (show ¬ nI 3 = 1 by decide +kernel), if_neg (show ¬ nI 3 = 2 by decide +kernel), if_pos (show nI 3 = 3 by decide +kernel), if_neg (show ¬ nI 3 = 0 by decide +kernel), if_neg (show ¬ nI 3 = 1 by decide +kernel), if_neg (show ¬ nI 3 = 2 by decide +kernel), if_pos (show nI 3 = 3 by decide +kernel)]
  · rw [if_neg (show ¬ nI 4 = 0 by decide +kernel), if_neg (show ¬ nI 4 = 1 by decide +kernel), if_neg (show ¬ nI 4 = 2 by decide +kernel), if_neg (show ¬ nI 4 = 3 by decide +kernel), if_pos (show nI 4 = 4 by decide +kernel), if_neg (show ¬ nI 4 = 0 by decide +kernel), if_neg (show ¬ nI 4 = 1 by decide +kernel), if_neg (show ¬ nI 4 = 2 by decide +kernel), if_neg (show ¬ nI 4 = 3 by decide +kernel)]
    have t0 : Int32.toInt64 (f_X3_truth 0) = 0 := by decide +kernel
    have t1 : Int32.toInt64 (f_X3_truth 1) = 1 := by decide +kernel
    rw [t0, t1]
theorem B_set {x : XX} {σ : MM} (hR : Rel x σ) (a1 : Int32) (a2 : Int32) (a3 : Int64) : ∃ (r : Int32) (x' : XX) (σ' : MM), f_X3_set x a1 a2 a3 = some (r, x') ∧ f_X4_set σ a1 a2 a3 = some (r, σ') ∧ Rel x' σ' := by
  have hno := R_no' hR (-2) (Or.inl rfl)
  unfold f_X3_set f_X4_set
  rcases sh_cases x a1 with ⟨e1, e2⟩ | ⟨k, hk, rfl, e1, e2⟩
  · have e3 : f_X3_rowTrouble_n = -2 := by decide +kernel
    rw [e1, e2, ob_s, om_n, e3, if_neg (by decide +kernel)]; exact hno
  rw [e1, e2, if_pos rfl, ob_s, om_s, gd_t (decide_eq_true hk), lt_e]
  rcases noRow_iff hR hk with ⟨h1, h2, h3, h4, c, n, hc, hn, q1, q2, q3, q4, q5⟩ | ⟨h1, h2, h3, h4, h5⟩
  · rw [h1, h2, if_pos rfl, ob_s, if_pos rfl, gd_t (nI_inb hk (by omega)), gd_t (nI_inb hk (by omega)), nI_clamp (by omega), q4]
    rcases reach_iff hn q3 a2 with ⟨e3, e4⟩ | ⟨i, hi, rfl, e3, e4⟩
    · rw [e3, e4]; exact hno
    · unfold f_X1_put
      rw [e3, e4, if_pos rfl, if_pos rfl, if_pos rfl, mi40, gd_t (nI_inb (by omega) (by omega)), gd_t (nI_inb (by omega) (by omega)), nI_clamp (by omega), nI_clamp (by omega), q1, low_kept hc q2, lt_e, ob_s, lt_e, lt_e]
      refine ⟨1, _, _, rfl, rfl, ?_⟩
      obtain ⟨hG, hP, hS, hT, hF, hI⟩ := hR
      refine ⟨hG, hP, SRel_put hS hk _ rfl ?_ ?_ (Or.inr (Or.inr ⟨c, n, hc, q1, hn, q3, q4, ?_⟩)), hT, hF, hI⟩
      · intro j hj hjk
        refine ⟨rfl, rfl, fun b hb => ?_⟩
        show (if 40 * j + b = 40 * k + i then _ else m_rowOf σ (40 * j + b)) = _
        rw [if_neg (by omega)]
      · show s_content (x_shelf x k) = m_holding σ k
        rw [q1, q2]
      · intro b hb
        show (if b = i then _ else s_elements (x_shelf x k) b) = if 40 * k + b = 40 * k + i then _ else m_rowOf σ (40 * k + b)
        by_cases e : b = i
        · rw [if_pos e, if_pos (by omega)]
        · rw [if_neg e, if_neg (by omega)]; exact q5 b hb
  · rw [h1, ob_s]
    rcases h5 with ⟨_, h6, h7, _⟩ | ⟨p, _, _, h6, h7, _⟩
    · rw [h6, h7, if_neg (by decide +kernel)]
      exact R_no' hR (-4) (by decide +kernel)
    · rw [h6, h7, if_neg (by decide +kernel)]
      exact R_no' hR (-3) (by decide +kernel)
theorem player_iff {x : XX} {σ : MM} (hR : Rel x σ) (a : Int32) : (f_X3_isPlayer x a = false ∧ f_X4_isPlayer σ a = false) ∨ ∃ p, p < 6 ∧ a = nI p ∧ nI p < m_players σ ∧ f_X3_isPlayer x a = true ∧ f_X4_isPlayer σ a = true := by
  obtain ⟨P, hP6, hP1, hP2, hP3⟩ := hR.2.1
  unfold f_X3_isPlayer f_X4_isPlayer
  rw [hP1, hP2]
  by_cases h0 : a < 0
  · left; exact ⟨by rw [if_pos h0], within_f (Or.inl h0)⟩
  rw [if_neg h0]
  by_cases h1 : nI P ≤ a
  · left
    refine ⟨by rw [if_pos h1], within_f (Or.inr ?_)⟩
    have g : ∀ n, n ≤ 6 → (nI n - 1).toInt = (n : Int) - 1 := by decide +kernel
    rw [Int32.le_iff_toInt_le, nI_toInt (by omega)] at h1
    rw [Int32.lt_iff_toInt_lt, g P hP6]
    omega
  · obtain ⟨i, hi, rfl⟩ := i_nat h0 (Int32.not_le.mp h1) (by omega)
    right
    refine ⟨i, by omega, rfl, nI_lt hi (by omega), by rw [if_neg h1], within_t h0 ?_⟩
    have e : nI P - 1 = nI (P - 1) := nn_sub (a := P) (b := 1) (by omega)
    rw [e]
    exact nI_nlt (by omega) (by omega)
theorem B_show {x : XX} {σ : MM} (hR : Rel x σ) (a1 : Int32) (a2 : Int32) : ∃ (r : Int32) (x' : XX) (σ' : MM), f_X3_show x a1 a2 = some (r, x') ∧ f_X4_show σ a1 a2 = some (r, σ') ∧ Rel x' σ' := by
  have hno := R_no' hR (-2) (Or.inl rfl)
  unfold f_X3_show f_X4_show
  rcases sh_cases x a1 with ⟨e1, e2⟩ | ⟨k, hk, rfl, e1, e2⟩
  · rw [e1, e2, ob_s, om_n]; exact hno
  rw [e1, e2, if_pos rfl, ob_s, om_s, gd_t (decide_eq_true hk)]
  unfold f_X3_show_b30 f_X4_show_b27
  by_cases h1 : a2 = -1
  · rw [if_pos h1, if_pos h1, if_pos h1, if_pos h1, gd_t (nI_inb hk (by omega)), nI_clamp (by omega), lt_e]
    unfold f_X1_empty
    rw [lt_e, lt_e, ob_s, lt_e]
    refine ⟨1, _, _, rfl, rfl, ?_⟩
    obtain ⟨hG, hP, hS, hT, hF, hI⟩ := hR
    refine ⟨hG, hP, SRel_put hS hk _ rfl ?_ ?_ (Or.inl ⟨?_, rfl⟩), hT, hF, hI⟩
    · intro j hj hjk
      exact ⟨if_neg hjk, rfl, fun _ _ => rfl⟩
    · exact (if_pos rfl : (if k = k then (-1 : Int32) else m_holding σ k) = -1).symm
    · exact (if_pos rfl : (if k = k then (-1 : Int32) else m_holding σ k) = -1)
  · rw [if_neg h1, if_neg h1, if_neg h1, if_neg h1]
    rcases player_iff hR a2 with ⟨e3, e4⟩ | ⟨p, hp, rfl, hpp, e3, e4⟩
    · rw [e3, e4]; exact hno
    rw [e3, e4, if_pos rfl, if_pos rfl, gd_t (nI_inb hk (by omega)), nI_clamp (by omega), lt_e]
    unfold f_X1_bear
    rw [lt_e, lt_e, ob_s, lt_e]
    have e5 : (10 : Int32) + nI p = nI (p + 10) := by rw [show (10 : Int32) = nI 10 from rfl, nn_add, Nat.add_comm]
    rw [e5]
    refine ⟨1, _, _, rfl, rfl, ?_⟩
    obtain ⟨hG, hP, hS, hT, hF, hI⟩ := hR
    refine ⟨hG, hP, SRel_put hS hk _ rfl ?_ ?_ (Or.inr (Or.inl ⟨p, ?_, hpp, hp, rfl⟩)), hT, hF, hI⟩
    · intro j hj hjk
      exact ⟨if_neg hjk, rfl, fun _ _ => rfl⟩
    · exact (if_pos rfl : (if k = k then nI (p + 10) else m_holding σ k) = nI (p + 10)).symm
    · exact (if_pos rfl : (if k = k then nI (p + 10) else m_holding σ k) = nI (p + 10))
