/-! Back to the image -/
theorem sh_at (x : XX) {k : Nat} (hk : k < 8) : f_X3_shelfAt x (nI k) = some (some k) := by
  unfold f_X3_shelfAt
  rw [if_neg (nI_pos (by omega)), if_pos (show nI k < 8 from nI_lt (b := 8) hk (by omega)), gd_t (nI_inb hk (by omega)), nI_clamp (by omega)]
def dr (x : XX) (s : SS) : SS := if f_X1_bearsPlayer s = true then if f_X3_isPlayer x (s_content s - 10) = true then s else s_length' (s_content' s (-1)) 0 else s
theorem drop_s (x : XX) (q : Nat) : f_X3_dropLostPlayer_s x q = some (x_shelves' x (fun j => if j = q then dr x (x_shelves x q) else x_shelves x j)) := by
  have e : (fun j => if j = q then x_shelves x q else x_shelves x j) = x_shelves x := by
    funext j
    by_cases h : j = q
    · rw [if_pos h, h]
    · rw [if_neg h]
  have eg : x_shelves' x (x_shelves x) = x := rfl
  unfold f_X3_dropLostPlayer_s dr x_shelf
  by_cases h1 : f_X1_bearsPlayer (x_shelves x q) = true
  · rw [if_pos h1, if_pos h1]
    by_cases h2 : f_X3_isPlayer x (s_content (x_shelves x q) - 10) = true
    · rw [if_pos h2, if_pos h2, e, eg]
    · rw [if_neg h2, if_neg h2]
      unfold f_X1_empty
      rw [lt_e, lt_e, ob_s, lt_e]
      rfl
  · rw [if_neg h1, if_neg h1, e, eg]
theorem isPl_sh (x : XX) (f : Nat → SS) (a : Int32) : f_X3_isPlayer (x_shelves' x f) a = f_X3_isPlayer x a := by
  unfold f_X3_isPlayer
  rw [q_x_crew_shelves]
theorem dr_sh (x : XX) (f : Nat → SS) (s : SS) : dr (x_shelves' x f) s = dr x s := by
  unfold dr
  rw [isPl_sh]
theorem bk_x (x : XX) : f_X3_back_L36 0 x = some (1, x_shelves' x (fun j => if j < 8 then dr x (x_shelves x j) else x_shelves x j)) := by
  have h := lp_FU (fun _ _ => none) f_X3_back_L36_b (fun f (p : Int32 × XX) => f p.1 p.2) (fun i => (nI i, x_shelves' x (fun j => if j < i then dr x (x_shelves x j) else x_shelves x j))) 8 (some (1, x_shelves' x (fun j => if j < 8 then dr x (x_shelves x j) else x_shelves x j))) (fun i rec hi => by
      show f_X3_back_L36_b rec (nI i) _ = rec (nI (i + 1)) _
      unfold f_X3_back_L36_b
      rw [if_neg (show ¬ (8 : Int32) ≤ nI i from nI_ge (b := 8) hi (by omega)), sh_at _ hi, ob_s, om_s, gd_t (decide_eq_true hi), drop_s, ob_s, lt_e, ← nI_succ]
      have ef : (fun j => if j = i then dr (x_shelves' x (fun j => if j < i then dr x (x_shelves x j) else x_shelves x j)) (x_shelves (x_shelves' x (fun j => if j < i then dr x (x_shelves x j) else x_shelves x j)) i) else x_shelves (x_shelves' x (fun j => if j < i then dr x (x_shelves x j) else x_shelves x j)) j) = (fun j => if j < i + 1 then dr x (x_shelves x j) else x_shelves x j) := by
        funext j
        rw [dr_sh, q_x_shelves_shelves]
        by_cases h1 : j = i
        · subst h1
          rw [if_pos rfl, if_neg (by omega), if_pos (by omega)]
        · rw [if_neg h1]
          by_cases h2 : j < i
          · rw [if_pos h2, if_pos (by omega)]
          · rw [if_neg h2, if_neg (by omega)]
      show rec (nI (i + 1)) (x_shelves' (x_shelves' x _) (fun j => _)) = _
      rw [ef]
      rfl) (fun rec => by
      show f_X3_back_L36_b rec (nI 8) _ = _
      unfold f_X3_back_L36_b
      rw [if_pos (show (8 : Int32) ≤ nI 8 by decide +kernel)]) (by omega)
  have ef : (fun j => if j < 0 then dr x (x_shelves x j) else x_shelves x j) = x_shelves x := by
    funext j
    rw [if_neg (by omega)]
  have eg : x_shelves' x (x_shelves x) = x := rfl
  simp only [ef, eg, nI_0] at h
  unfold f_X3_back_L36
  exact h
theorem bk_m (σ : MM) : f_X4_back_L24 0 σ = some (1, m_holding' σ (fun j => if j < 8 then (if m_holding σ j < 10 + m_players σ then m_holding σ j else -1) else m_holding σ j)) := by
  have h := lp_FU (fun _ _ => none) f_X4_back_L24_b (fun f (p : Int32 × MM) => f p.1 p.2) (fun i => (nI i, m_holding' σ (fun j => if j < i then (if m_holding σ j < 10 + m_players σ then m_holding σ j else -1) else m_holding σ j))) 8 (some (1, m_holding' σ (fun j => if j < 8 then (if m_holding σ j < 10 + m_players σ then m_holding σ j else -1) else m_holding σ j))) (fun i rec hi => by
      show f_X4_back_L24_b rec (nI i) _ = rec (nI (i + 1)) _
      unfold f_X4_back_L24_b
      rw [if_neg (show ¬ (8 : Int32) ≤ nI i from nI_ge (b := 8) hi (by omega)), gd_t (nI_inb hi (by omega)), gd_t (nI_inb hi (by omega)), nI_clamp (by omega)]
      simp only [lt_e, q_m_w_holding, q_m_h_holding, q_m_hedge_holding, q_m_dug_holding, q_m_owner_holding, q_m_turn_holding, q_m_made_holding, q_m_players_holding, q_m_kind_holding, q_m_own_holding, q_m_seed_holding, q_m_taped_holding, q_m_tape_holding, q_m_from_holding, q_m_to_holding, q_m_token_holding, q_m_value_holding, q_m_holding_holding, q_m_rowLength_holding, q_m_rowOf_holding, q_m_refusals_holding, q_m_imaged_holding, q_m_old_holding, q_m_ahead_holding, q_m_bestMove_holding, ← nI_succ]
      rw [if_neg (show ¬ i < i by omega)]
      by_cases e : m_holding σ i < 10 + m_players σ
      · rw [if_pos e]
        have ef : (fun j => if j < i then (if m_holding σ j < 10 + m_players σ then m_holding σ j else -1) else m_holding σ j) = (fun j => if j < i + 1 then (if m_holding σ j < 10 + m_players σ then m_holding σ j else -1) else m_holding σ j) := by
          funext j
          by_cases h1 : j = i
          · subst h1
            rw [if_neg (by omega), if_pos (by omega), if_pos e]
          · by_cases h2 : j < i
            · rw [if_pos h2, if_pos (show j < i + 1 by omega)]
            · rw [if_neg h2, if_neg (show ¬ j < i + 1 by omega)]
        rw [ef]
      · rw [if_neg e]
        have ef : upd (fun j => if j < i then (if m_holding σ j < 10 + m_players σ then m_holding σ j else -1) else m_holding σ j) i (-1) = (fun j => if j < i + 1 then (if m_holding σ j < 10 + m_players σ then m_holding σ j else -1) else m_holding σ j) := by
          funext j
          unfold upd
          by_cases h1 : j = i
          · subst h1
            rw [if_pos rfl, if_pos (by omega), if_neg e]
          · rw [if_neg h1]
            by_cases h2 : j < i
            · rw [if_pos (show j < i + 1 by omega)]; exact if_pos h2
            · rw [if_neg (show ¬ j < i + 1 by omega)]; exact if_neg h2
        rw [ef]
        rfl) (fun rec => by
      show f_X4_back_L24_b rec (nI 8) _ = _
      unfold f_X4_back_L24_b
      rw [if_pos (show (8 : Int32) ≤ nI 8 by decide +kernel)]) (by omega)
  have ef : (fun j => if j < 0 then (if m_holding σ j < 10 + m_players σ then m_holding σ j else -1) else m_holding σ j) = m_holding σ := by
    funext j
    rw [if_neg (by omega)]
  have eg : m_holding' σ (m_holding σ) = σ := rfl
  simp only [ef, eg, nI_0] at h
  unfold f_X4_back_L24
  exact h
