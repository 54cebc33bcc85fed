/-! The reference's search -/
theorem mOwn2 (σ : MM) (u v : Nat → Int32) : m_owner' (m_owner' σ u) v = m_owner' σ v := by unfold m_owner'; exact rfl
def otk (b : BD) (e : Nat) (o : Nat → Int32) (j : Nat) : Nat → Int32 := fun k => if (decide (k < bn b) && (an (fun s => decide (fd (bW b) (bH b) e s = k)) j && decide (ct (bW b) (bH b) (hp (bh b) e) k = 4))) = true then -1 else o k
theorem takes39 {σ : MM} {b : BD} (hb : BOK b) {e : Nat} (he : e < be b) (h1 : m_w σ = nI (bW b)) (h2 : m_h σ = nI (bH b)) (h3 : ∀ k, k < 40 → m_hedge σ k = ib (hp (bh b) e k)) (k : MM → Option MM) : f_X4_takes_L39 (nI e) k 0 σ = k (m_owner' σ (otk b e (m_owner σ) 2)) := by
  have hz : SZ (bW b) (bH b) := ⟨hb.1, hb.2.1⟩
  have sz := szs hz
  have hn : bn b ≤ 16 := sz.2.1
  have fs : ∀ s, s < 2 → fd (bW b) (bH b) e s < bn b ∨ fd (bW b) (bH b) e s = 99 := fun s hs => by
    rcases (by omega : s = 0 ∨ s = 1) with rfl | rfl
    · exact (fd_lt hz he).1
    · exact (fd_lt hz he).2
  have h := lp_FU (fun _ _ => none) (f_X4_takes_L39_b (nI e) k) (fun f (p : Int32 × MM) => f p.1 p.2) (fun j => (nI j, m_owner' σ (otk b e (m_owner σ) j))) 2 (k (m_owner' σ (otk b e (m_owner σ) 2))) (fun j rec hj => by
      show f_X4_takes_L39_b (nI e) k rec (nI j) (m_owner' σ (otk b e (m_owner σ) j)) = rec (nI (j + 1)) (m_owner' σ (otk b e (m_owner σ) (j + 1)))
      have w1 : m_w (m_owner' σ (otk b e (m_owner σ) j)) = nI (bW b) := by rw [q_m_w_owner]; exact h1
      have w2 : m_h (m_owner' σ (otk b e (m_owner σ) j)) = nI (bH b) := by rw [q_m_h_owner]; exact h2
      have w3 : ∀ k, k < 40 → m_hedge (m_owner' σ (otk b e (m_owner σ) j)) k = ib (hp (bh b) e k) := by rw [q_m_hedge_owner]; exact h3
      rw [f_X4_takes_L39_b, if_neg (show ¬ (2 : Int32) ≤ nI j from nI_ge (b := 2) hj (by omega)), geo_mf hz w1 w2 he hj, ob_s]
      simp only [lt_e, ← nI_succ]
      rcases fs j hj with hlt | h99
      · rw [show iF (fd (bW b) (bH b) e j) = nI (fd (bW b) (bH b) e j) from if_neg (by omega), if_neg (nI_ne1 (by omega)), hedges_w hz w1 w2 w3 hlt, ob_s]
        have hl : ct (bW b) (bH b) (hp (bh b) e) (fd (bW b) (bH b) e j) ≤ 4 := ct_le4 _ _ _ _
        by_cases c : ct (bW b) (bH b) (hp (bh b) e) (fd (bW b) (bH b) e j) = 4
        · rw [c, if_pos (show nI 4 = 4 from rfl), gd_t (nI_inb (show fd (bW b) (bH b) e j < 16 by omega) (by omega)), nI_clamp (by omega), mOwn2, q_m_owner_owner]
          congr 2
          funext q
          show (if q = fd (bW b) (bH b) e j then -1 else otk b e (m_owner σ) j q) = otk b e (m_owner σ) (j + 1) q
          unfold otk
          by_cases d : q = fd (bW b) (bH b) e j
          · rw [if_pos d, if_pos]
            rw [d, decide_eq_true hlt, c, an_s, decide_eq_true rfl, decide_eq_true rfl, Bool.or_true]; rfl
          · rw [if_neg d, an_s, decide_eq_false (show ¬ fd (bW b) (bH b) e j = q from fun h => d h.symm), Bool.or_false]
        · rw [if_neg (show ¬ nI (ct (bW b) (bH b) (hp (bh b) e) (fd (bW b) (bH b) e j)) = 4 from fun h => c (nI_inj (b := 4) (by omega) (by omega) h))]
          congr 2
          funext q
          unfold otk
          rw [an_s]
          by_cases d : fd (bW b) (bH b) e j = q
          · rw [← d, decide_eq_false c]; simp
          · rw [decide_eq_false d, Bool.or_false]
      · rw [h99, if_pos (show iF 99 = -1 by decide +kernel)]
        congr 2
        funext q
        unfold otk
        rw [an_s]
        by_cases d : fd (bW b) (bH b) e j = q
        · rw [← d, h99, decide_eq_false (show ¬ 99 < bn b by omega)]; rfl
        · rw [decide_eq_false d, Bool.or_false]) (fun rec => by
      show f_X4_takes_L39_b (nI e) k rec (nI 2) _ = _
      rw [f_X4_takes_L39_b, if_pos (show (2 : Int32) ≤ nI 2 by decide +kernel)]) (by omega)
  have e0 : otk b e (m_owner σ) 0 = m_owner σ := by
    funext q
    unfold otk
    rw [show an (fun s => decide (fd (bW b) (bH b) e s = q)) 0 = false from rfl, Bool.false_and, Bool.and_false, if_neg Bool.false_ne_true]
  have e1 : m_owner' σ (m_owner σ) = σ := rfl
  simp only [e0, e1, nI_0] at h
  unfold f_X4_takes_L39
  exact h
theorem takes_ok {σ : MM} {b : BD} (hb : BOK b) {t s : Nat} {mv0 sd : Int32} (ht : t < 2) (ho : os b s = true) (hm : MB σ (mk b t s)) (hs : MS σ (1 - t) (mv0 + 1) sd) : ∃ σ', f_X4_takes σ (nI (mv s)) = some σ' ∧ MB σ' b ∧ MS σ' t mv0 sd ∧ fz σ σ' ∧ m_bestMove σ' = m_bestMove σ := by
  have hz : SZ (bW b) (bH b) := ⟨hb.1, hb.2.1⟩
  have sz := szs hz
  have hn : bn b ≤ 16 := sz.2.1
  obtain ⟨-, s1, s2, s3⟩ := hs
  obtain ⟨h1, h2, h3⟩ := os_lt hz ho
  have e1t : (1 : Int32) - nI (1 - t) = nI t := by rw [one_sub (1 - t) (by omega), show 1 - (1 - t) = t by omega]
  unfold f_X4_takes mv
  simp only [lt_e]
  by_cases c : s < 40
  · obtain ⟨he, h0⟩ := h2 c
    rw [mk_e c] at hm
    obtain ⟨m1, m2, m3, m4, m5⟩ := hm
    have m1 : m_w σ = nI (bW b) := m1
    have m2 : m_h σ = nI (bH b) := m2
    have m3 : ∀ e, e < 40 → m_hedge σ e = ib (hp (bh b) s e) := m3
    have m4 : ∀ f, f < 16 → m_dug σ f = ib (bd b f) := m4
    have m5 : ∀ f, f < 16 → m_owner σ f = io (if shE b s f = true then t else bo b f) := m5
    rw [if_pos c, if_pos (show nI s < 100 from nI_lt (b := 100) (by omega) (by omega)), takes39 hb he (by simp only [q_m_w_turn, q_m_h_turn, q_m_hedge_turn, q_m_dug_turn, q_m_owner_turn, q_m_turn_turn, q_m_made_turn, q_m_players_turn, q_m_kind_turn, q_m_own_turn, q_m_seed_turn, q_m_taped_turn, q_m_tape_turn, q_m_from_turn, q_m_to_turn, q_m_token_turn, q_m_value_turn, q_m_holding_turn, q_m_rowLength_turn, q_m_rowOf_turn, q_m_refusals_turn, q_m_imaged_turn, q_m_old_turn, q_m_ahead_turn, q_m_bestMove_turn, q_m_w_made, q_m_h_made, q_m_hedge_made, q_m_dug_made, q_m_owner_made, q_m_turn_made, q_m_made_made, q_m_players_made, q_m_kind_made, q_m_own_made, q_m_seed_made, q_m_taped_made, q_m_tape_made, q_m_from_made, q_m_to_made, q_m_token_made, q_m_value_made, q_m_holding_made, q_m_rowLength_made, q_m_rowOf_made, q_m_refusals_made, q_m_imaged_made, q_m_old_made, q_m_ahead_made, q_m_bestMove_made]; exact m1) (by simp only [q_m_w_turn, q_m_h_turn, q_m_hedge_turn, q_m_dug_turn, q_m_owner_turn, q_m_turn_turn, q_m_made_turn, q_m_players_turn, q_m_kind_turn, q_m_own_turn, q_m_seed_turn, q_m_taped_turn, q_m_tape_turn, q_m_from_turn, q_m_to_turn, q_m_token_turn, q_m_value_turn, q_m_holding_turn, q_m_rowLength_turn, q_m_rowOf_turn, q_m_refusals_turn, q_m_imaged_turn, q_m_old_turn, q_m_ahead_turn, q_m_bestMove_turn, q_m_w_made, q_m_h_made, q_m_hedge_made, q_m_dug_made, q_m_owner_made, q_m_turn_made, q_m_made_made, q_m_players_made, q_m_kind_made, q_m_own_made, q_m_seed_made, q_m_taped_made, q_m_tape_made, q_m_from_made, q_m_to_made, q_m_token_made, q_m_value_made, q_m_holding_made, q_m_rowLength_made, q_m_rowOf_made, q_m_refusals_made, q_m_imaged_made, q_m_old_made, q_m_ahead_made, q_m_bestMove_made]; exact m2) (by simp only [q_m_w_turn, q_m_h_turn, q_m_hedge_turn, q_m_dug_turn, q_m_owner_turn, q_m_turn_turn, q_m_made_turn, q_m_players_turn, q_m_kind_turn, q_m_own_turn, q_m_seed_turn, q_m_taped_turn, q_m_tape_turn, q_m_from_turn, q_m_to_turn, q_m_token_turn, q_m_value_turn, q_m_holding_turn, q_m_rowLength_turn, q_m_rowOf_turn, q_m_refusals_turn, q_m_imaged_turn, q_m_old_turn, q_m_ahead_turn, q_m_bestMove_turn, q_m_w_made, q_m_h_made, q_m_hedge_made, q_m_dug_made, q_m_owner_made, q_m_turn_made, q_m_made_made, q_m_players_made, q_m_kind_made, q_m_own_made, q_m_seed_made, q_m_taped_made, q_m_tape_made, q_m_from_made, q_m_to_made, q_m_token_made, q_m_value_made, q_m_holding_made, q_m_rowLength_made, q_m_rowOf_made, q_m_refusals_made, q_m_imaged_made, q_m_old_made, q_m_ahead_made, q_m_bestMove_made]; exact m3), gd_t (nI_inb c (by omega)), nI_clamp (by omega), nar0]
    refine ⟨_, rfl, ⟨?_, ?_, ?_, ?_, ?_⟩, ⟨ht, ?_, ?_, ?_⟩, ?_, ?_⟩
    · simp only [q_m_w_hedge, q_m_h_hedge, q_m_hedge_hedge, q_m_dug_hedge, q_m_owner_hedge, q_m_turn_hedge, q_m_made_hedge, q_m_players_hedge, q_m_kind_hedge, q_m_own_hedge, q_m_seed_hedge, q_m_taped_hedge, q_m_tape_hedge, q_m_from_hedge, q_m_to_hedge, q_m_token_hedge, q_m_value_hedge, q_m_holding_hedge, q_m_rowLength_hedge, q_m_rowOf_hedge, q_m_refusals_hedge, q_m_imaged_hedge, q_m_old_hedge, q_m_ahead_hedge, q_m_bestMove_hedge, q_m_w_owner, q_m_h_owner, q_m_hedge_owner, q_m_dug_owner, q_m_owner_owner, q_m_turn_owner, q_m_made_owner, q_m_players_owner, q_m_kind_owner, q_m_own_owner, q_m_seed_owner, q_m_taped_owner, q_m_tape_owner, q_m_from_owner, q_m_to_owner, q_m_token_owner, q_m_value_owner, q_m_holding_owner, q_m_rowLength_owner, q_m_rowOf_owner, q_m_refusals_owner, q_m_imaged_owner, q_m_old_owner, q_m_ahead_owner, q_m_bestMove_owner, q_m_w_turn, q_m_h_turn, q_m_hedge_turn, q_m_dug_turn, q_m_owner_turn, q_m_turn_turn, q_m_made_turn, q_m_players_turn, q_m_kind_turn, q_m_own_turn, q_m_seed_turn, q_m_taped_turn, q_m_tape_turn, q_m_from_turn, q_m_to_turn, q_m_token_turn, q_m_value_turn, q_m_holding_turn, q_m_rowLength_turn, q_m_rowOf_turn, q_m_refusals_turn, q_m_imaged_turn, q_m_old_turn, q_m_ahead_turn, q_m_bestMove_turn, q_m_w_made, q_m_h_made, q_m_hedge_made, q_m_dug_made, q_m_owner_made, q_m_turn_made, q_m_made_made, q_m_players_made, q_m_kind_made, q_m_own_made, q_m_seed_made, q_m_taped_made, q_m_tape_made, q_m_from_made, q_m_to_made, q_m_token_made, q_m_value_made, q_m_holding_made, q_m_rowLength_made, q_m_rowOf_made, q_m_refusals_made, q_m_imaged_made, q_m_old_made, q_m_ahead_made, q_m_bestMove_made]; exact m1
    · simp only [q_m_w_hedge, q_m_h_hedge, q_m_hedge_hedge, q_m_dug_hedge, q_m_owner_hedge, q_m_turn_hedge, q_m_made_hedge, q_m_players_hedge, q_m_kind_hedge, q_m_own_hedge, q_m_seed_hedge, q_m_taped_hedge, q_m_tape_hedge, q_m_from_hedge, q_m_to_hedge, q_m_token_hedge, q_m_value_hedge, q_m_holding_hedge, q_m_rowLength_hedge, q_m_rowOf_hedge, q_m_refusals_hedge, q_m_imaged_hedge, q_m_old_hedge, q_m_ahead_hedge, q_m_bestMove_hedge, q_m_w_owner, q_m_h_owner, q_m_hedge_owner, q_m_dug_owner, q_m_owner_owner, q_m_turn_owner, q_m_made_owner, q_m_players_owner, q_m_kind_owner, q_m_own_owner, q_m_seed_owner, q_m_taped_owner, q_m_tape_owner, q_m_from_owner, q_m_to_owner, q_m_token_owner, q_m_value_owner, q_m_holding_owner, q_m_rowLength_owner, q_m_rowOf_owner, q_m_refusals_owner, q_m_imaged_owner, q_m_old_owner, q_m_ahead_owner, q_m_bestMove_owner, q_m_w_turn, q_m_h_turn, q_m_hedge_turn, q_m_dug_turn, q_m_owner_turn, q_m_turn_turn, q_m_made_turn, q_m_players_turn, q_m_kind_turn, q_m_own_turn, q_m_seed_turn, q_m_taped_turn, q_m_tape_turn, q_m_from_turn, q_m_to_turn, q_m_token_turn, q_m_value_turn, q_m_holding_turn, q_m_rowLength_turn, q_m_rowOf_turn, q_m_refusals_turn, q_m_imaged_turn, q_m_old_turn, q_m_ahead_turn, q_m_bestMove_turn, q_m_w_made, q_m_h_made, q_m_hedge_made, q_m_dug_made, q_m_owner_made, q_m_turn_made, q_m_made_made, q_m_players_made, q_m_kind_made, q_m_own_made, q_m_seed_made, q_m_taped_made, q_m_tape_made, q_m_from_made, q_m_to_made, q_m_token_made, q_m_value_made, q_m_holding_made, q_m_rowLength_made, q_m_rowOf_made, q_m_refusals_made, q_m_imaged_made, q_m_old_made, q_m_ahead_made, q_m_bestMove_made]; exact m2
    · simp only [q_m_w_hedge, q_m_h_hedge, q_m_hedge_hedge, q_m_dug_hedge, q_m_owner_hedge, q_m_turn_hedge, q_m_made_hedge, q_m_players_hedge, q_m_kind_hedge, q_m_own_hedge, q_m_seed_hedge, q_m_taped_hedge, q_m_tape_hedge, q_m_from_hedge, q_m_to_hedge, q_m_token_hedge, q_m_value_hedge, q_m_holding_hedge, q_m_rowLength_hedge, q_m_rowOf_hedge, q_m_refusals_hedge, q_m_imaged_hedge, q_m_old_hedge, q_m_ahead_hedge, q_m_bestMove_hedge, q_m_w_owner, q_m_h_owner, q_m_hedge_owner, q_m_dug_owner, q_m_owner_owner, q_m_turn_owner, q_m_made_owner, q_m_players_owner, q_m_kind_owner, q_m_own_owner, q_m_seed_owner, q_m_taped_owner, q_m_tape_owner, q_m_from_owner, q_m_to_owner, q_m_token_owner, q_m_value_owner, q_m_holding_owner, q_m_rowLength_owner, q_m_rowOf_owner, q_m_refusals_owner, q_m_imaged_owner, q_m_old_owner, q_m_ahead_owner, q_m_bestMove_owner, q_m_w_turn, q_m_h_turn, q_m_hedge_turn, q_m_dug_turn, q_m_owner_turn, q_m_turn_turn, q_m_made_turn, q_m_players_turn, q_m_kind_turn, q_m_own_turn, q_m_seed_turn, q_m_taped_turn, q_m_tape_turn, q_m_from_turn, q_m_to_turn, q_m_token_turn, q_m_value_turn, q_m_holding_turn, q_m_rowLength_turn, q_m_rowOf_turn, q_m_refusals_turn, q_m_imaged_turn, q_m_old_turn, q_m_ahead_turn, q_m_bestMove_turn, q_m_w_made, q_m_h_made, q_m_hedge_made, q_m_dug_made, q_m_owner_made, q_m_turn_made, q_m_made_made, q_m_players_made, q_m_kind_made, q_m_own_made, q_m_seed_made, q_m_taped_made, q_m_tape_made, q_m_from_made, q_m_to_made, q_m_token_made, q_m_value_made, q_m_holding_made, q_m_rowLength_made, q_m_rowOf_made, q_m_refusals_made, q_m_imaged_made, q_m_old_made, q_m_ahead_made, q_m_bestMove_made]
      intro k hk
      show (if k = s then 0 else m_hedge σ k) = ib (bh b k)
      by_cases d : k = s
      · rw [if_pos d, d, h0]; rfl
      · rw [if_neg d, m3 k hk]
        unfold hp
        rw [decide_eq_false d, Bool.or_false]
    · simp only [q_m_w_hedge, q_m_h_hedge, q_m_hedge_hedge, q_m_dug_hedge, q_m_owner_hedge, q_m_turn_hedge, q_m_made_hedge, q_m_players_hedge, q_m_kind_hedge, q_m_own_hedge, q_m_seed_hedge, q_m_taped_hedge, q_m_tape_hedge, q_m_from_hedge, q_m_to_hedge, q_m_token_hedge, q_m_value_hedge, q_m_holding_hedge, q_m_rowLength_hedge, q_m_rowOf_hedge, q_m_refusals_hedge, q_m_imaged_hedge, q_m_old_hedge, q_m_ahead_hedge, q_m_bestMove_hedge, q_m_w_owner, q_m_h_owner, q_m_hedge_owner, q_m_dug_owner, q_m_owner_owner, q_m_turn_owner, q_m_made_owner, q_m_players_owner, q_m_kind_owner, q_m_own_owner, q_m_seed_owner, q_m_taped_owner, q_m_tape_owner, q_m_from_owner, q_m_to_owner, q_m_token_owner, q_m_value_owner, q_m_holding_owner, q_m_rowLength_owner, q_m_rowOf_owner, q_m_refusals_owner, q_m_imaged_owner, q_m_old_owner, q_m_ahead_owner, q_m_bestMove_owner, q_m_w_turn, q_m_h_turn, q_m_hedge_turn, q_m_dug_turn, q_m_owner_turn, q_m_turn_turn, q_m_made_turn, q_m_players_turn, q_m_kind_turn, q_m_own_turn, q_m_seed_turn, q_m_taped_turn, q_m_tape_turn, q_m_from_turn, q_m_to_turn, q_m_token_turn, q_m_value_turn, q_m_holding_turn, q_m_rowLength_turn, q_m_rowOf_turn, q_m_refusals_turn, q_m_imaged_turn, q_m_old_turn, q_m_ahead_turn, q_m_bestMove_turn, q_m_w_made, q_m_h_made, q_m_hedge_made, q_m_dug_made, q_m_owner_made, q_m_turn_made, q_m_made_made, q_m_players_made, q_m_kind_made, q_m_own_made, q_m_seed_made, q_m_taped_made, q_m_tape_made, q_m_from_made, q_m_to_made, q_m_token_made, q_m_value_made, q_m_holding_made, q_m_rowLength_made, q_m_rowOf_made, q_m_refusals_made, q_m_imaged_made, q_m_old_made, q_m_ahead_made, q_m_bestMove_made]; exact m4
    · simp only [q_m_w_hedge, q_m_h_hedge, q_m_hedge_hedge, q_m_dug_hedge, q_m_owner_hedge, q_m_turn_hedge, q_m_made_hedge, q_m_players_hedge, q_m_kind_hedge, q_m_own_hedge, q_m_seed_hedge, q_m_taped_hedge, q_m_tape_hedge, q_m_from_hedge, q_m_to_hedge, q_m_token_hedge, q_m_value_hedge, q_m_holding_hedge, q_m_rowLength_hedge, q_m_rowOf_hedge, q_m_refusals_hedge, q_m_imaged_hedge, q_m_old_hedge, q_m_ahead_hedge, q_m_bestMove_hedge, q_m_w_owner, q_m_h_owner, q_m_hedge_owner, q_m_dug_owner, q_m_owner_owner, q_m_turn_owner, q_m_made_owner, q_m_players_owner, q_m_kind_owner, q_m_own_owner, q_m_seed_owner, q_m_taped_owner, q_m_tape_owner, q_m_from_owner, q_m_to_owner, q_m_token_owner, q_m_value_owner, q_m_holding_owner, q_m_rowLength_owner, q_m_rowOf_owner, q_m_refusals_owner, q_m_imaged_owner, q_m_old_owner, q_m_ahead_owner, q_m_bestMove_owner, q_m_w_turn, q_m_h_turn, q_m_hedge_turn, q_m_dug_turn, q_m_owner_turn, q_m_turn_turn, q_m_made_turn, q_m_players_turn, q_m_kind_turn, q_m_own_turn, q_m_seed_turn, q_m_taped_turn, q_m_tape_turn, q_m_from_turn, q_m_to_turn, q_m_token_turn, q_m_value_turn, q_m_holding_turn, q_m_rowLength_turn, q_m_rowOf_turn, q_m_refusals_turn, q_m_imaged_turn, q_m_old_turn, q_m_ahead_turn, q_m_bestMove_turn, q_m_w_made, q_m_h_made, q_m_hedge_made, q_m_dug_made, q_m_owner_made, q_m_turn_made, q_m_made_made, q_m_players_made, q_m_kind_made, q_m_own_made, q_m_seed_made, q_m_taped_made, q_m_tape_made, q_m_from_made, q_m_to_made, q_m_token_made, q_m_value_made, q_m_holding_made, q_m_rowLength_made, q_m_rowOf_made, q_m_refusals_made, q_m_imaged_made, q_m_old_made, q_m_ahead_made, q_m_bestMove_made]
      intro f hf
      show otk b s (m_owner σ) 2 f = io (bo b f)
      unfold otk
      have e2 : an (fun s' => decide (fd (bW b) (bH b) s s' = f)) 2 = isf (bW b) (bH b) s f := by
        rw [an_s, an_s]
        show ((false || decide (fd (bW b) (bH b) s 0 = f)) || decide (fd (bW b) (bH b) s 1 = f)) = (decide (f = fd (bW b) (bH b) s 0) || decide (f = fd (bW b) (bH b) s 1))
        rw [Bool.false_or]
        congr 1
        · exact decide_eq_decide.mpr ⟨Eq.symm, Eq.symm⟩
        · exact decide_eq_decide.mpr ⟨Eq.symm, Eq.symm⟩
      rw [e2]
      change (if shE b s f = true then (-1 : Int32) else m_owner σ f) = io (bo b f)
      cases hse : shE b s f with
      | true => rw [if_pos rfl, shE_bo hb he h0 hse]; rfl
      | false => rw [if_neg Bool.false_ne_true, m5 f hf, hse, if_neg Bool.false_ne_true]
    · simp only [q_m_w_hedge, q_m_h_hedge, q_m_hedge_hedge, q_m_dug_hedge, q_m_owner_hedge, q_m_turn_hedge, q_m_made_hedge, q_m_players_hedge, q_m_kind_hedge, q_m_own_hedge, q_m_seed_hedge, q_m_taped_hedge, q_m_tape_hedge, q_m_from_hedge, q_m_to_hedge, q_m_token_hedge, q_m_value_hedge, q_m_holding_hedge, q_m_rowLength_hedge, q_m_rowOf_hedge, q_m_refusals_hedge, q_m_imaged_hedge, q_m_old_hedge, q_m_ahead_hedge, q_m_bestMove_hedge, q_m_w_owner, q_m_h_owner, q_m_hedge_owner, q_m_dug_owner, q_m_owner_owner, q_m_turn_owner, q_m_made_owner, q_m_players_owner, q_m_kind_owner, q_m_own_owner, q_m_seed_owner, q_m_taped_owner, q_m_tape_owner, q_m_from_owner, q_m_to_owner, q_m_token_owner, q_m_value_owner, q_m_holding_owner, q_m_rowLength_owner, q_m_rowOf_owner, q_m_refusals_owner, q_m_imaged_owner, q_m_old_owner, q_m_ahead_owner, q_m_bestMove_owner, q_m_w_turn, q_m_h_turn, q_m_hedge_turn, q_m_dug_turn, q_m_owner_turn, q_m_turn_turn, q_m_made_turn, q_m_players_turn, q_m_kind_turn, q_m_own_turn, q_m_seed_turn, q_m_taped_turn, q_m_tape_turn, q_m_from_turn, q_m_to_turn, q_m_token_turn, q_m_value_turn, q_m_holding_turn, q_m_rowLength_turn, q_m_rowOf_turn, q_m_refusals_turn, q_m_imaged_turn, q_m_old_turn, q_m_ahead_turn, q_m_bestMove_turn, q_m_w_made, q_m_h_made, q_m_hedge_made, q_m_dug_made, q_m_owner_made, q_m_turn_made, q_m_made_made, q_m_players_made, q_m_kind_made, q_m_own_made, q_m_seed_made, q_m_taped_made, q_m_tape_made, q_m_from_made, q_m_to_made, q_m_token_made, q_m_value_made, q_m_holding_made, q_m_rowLength_made, q_m_rowOf_made, q_m_refusals_made, q_m_imaged_made, q_m_old_made, q_m_ahead_made, q_m_bestMove_made]
      rw [s1]; exact e1t
    · simp only [q_m_w_hedge, q_m_h_hedge, q_m_hedge_hedge, q_m_dug_hedge, q_m_owner_hedge, q_m_turn_hedge, q_m_made_hedge, q_m_players_hedge, q_m_kind_hedge, q_m_own_hedge, q_m_seed_hedge, q_m_taped_hedge, q_m_tape_hedge, q_m_from_hedge, q_m_to_hedge, q_m_token_hedge, q_m_value_hedge, q_m_holding_hedge, q_m_rowLength_hedge, q_m_rowOf_hedge, q_m_refusals_hedge, q_m_imaged_hedge, q_m_old_hedge, q_m_ahead_hedge, q_m_bestMove_hedge, q_m_w_owner, q_m_h_owner, q_m_hedge_owner, q_m_dug_owner, q_m_owner_owner, q_m_turn_owner, q_m_made_owner, q_m_players_owner, q_m_kind_owner, q_m_own_owner, q_m_seed_owner, q_m_taped_owner, q_m_tape_owner, q_m_from_owner, q_m_to_owner, q_m_token_owner, q_m_value_owner, q_m_holding_owner, q_m_rowLength_owner, q_m_rowOf_owner, q_m_refusals_owner, q_m_imaged_owner, q_m_old_owner, q_m_ahead_owner, q_m_bestMove_owner, q_m_w_turn, q_m_h_turn, q_m_hedge_turn, q_m_dug_turn, q_m_owner_turn, q_m_turn_turn, q_m_made_turn, q_m_players_turn, q_m_kind_turn, q_m_own_turn, q_m_seed_turn, q_m_taped_turn, q_m_tape_turn, q_m_from_turn, q_m_to_turn, q_m_token_turn, q_m_value_turn, q_m_holding_turn, q_m_rowLength_turn, q_m_rowOf_turn, q_m_refusals_turn, q_m_imaged_turn, q_m_old_turn, q_m_ahead_turn, q_m_bestMove_turn, q_m_w_made, q_m_h_made, q_m_hedge_made, q_m_dug_made, q_m_owner_made, q_m_turn_made, q_m_made_made, q_m_players_made, q_m_kind_made, q_m_own_made, q_m_seed_made, q_m_taped_made, q_m_tape_made, q_m_from_made, q_m_to_made, q_m_token_made, q_m_value_made, q_m_holding_made, q_m_rowLength_made, q_m_rowOf_made, q_m_refusals_made, q_m_imaged_made, q_m_old_made, q_m_ahead_made, q_m_bestMove_made]
      rw [s2, Int32.add_sub_cancel]
    · simp only [q_m_w_hedge, q_m_h_hedge, q_m_hedge_hedge, q_m_dug_hedge, q_m_owner_hedge, q_m_turn_hedge, q_m_made_hedge, q_m_players_hedge, q_m_kind_hedge, q_m_own_hedge, q_m_seed_hedge, q_m_taped_hedge, q_m_tape_hedge, q_m_from_hedge, q_m_to_hedge, q_m_token_hedge, q_m_value_hedge, q_m_holding_hedge, q_m_rowLength_hedge, q_m_rowOf_hedge, q_m_refusals_hedge, q_m_imaged_hedge, q_m_old_hedge, q_m_ahead_hedge, q_m_bestMove_hedge, q_m_w_owner, q_m_h_owner, q_m_hedge_owner, q_m_dug_owner, q_m_owner_owner, q_m_turn_owner, q_m_made_owner, q_m_players_owner, q_m_kind_owner, q_m_own_owner, q_m_seed_owner, q_m_taped_owner, q_m_tape_owner, q_m_from_owner, q_m_to_owner, q_m_token_owner, q_m_value_owner, q_m_holding_owner, q_m_rowLength_owner, q_m_rowOf_owner, q_m_refusals_owner, q_m_imaged_owner, q_m_old_owner, q_m_ahead_owner, q_m_bestMove_owner, q_m_w_turn, q_m_h_turn, q_m_hedge_turn, q_m_dug_turn, q_m_owner_turn, q_m_turn_turn, q_m_made_turn, q_m_players_turn, q_m_kind_turn, q_m_own_turn, q_m_seed_turn, q_m_taped_turn, q_m_tape_turn, q_m_from_turn, q_m_to_turn, q_m_token_turn, q_m_value_turn, q_m_holding_turn, q_m_rowLength_turn, q_m_rowOf_turn, q_m_refusals_turn, q_m_imaged_turn, q_m_old_turn, q_m_ahead_turn, q_m_bestMove_turn, q_m_w_made, q_m_h_made, q_m_hedge_made, q_m_dug_made, q_m_owner_made, q_m_turn_made, q_m_made_made, q_m_players_made, q_m_kind_made, q_m_own_made, q_m_seed_made, q_m_taped_made, q_m_tape_made, q_m_from_made, q_m_to_made, q_m_token_made, q_m_value_made, q_m_holding_made, q_m_rowLength_made, q_m_rowOf_made, q_m_refusals_made, q_m_imaged_made, q_m_old_made, q_m_ahead_made, q_m_bestMove_made]; exact s3
    · unfold fz
      simp only [q_m_w_hedge, q_m_h_hedge, q_m_hedge_hedge, q_m_dug_hedge, q_m_owner_hedge, q_m_turn_hedge, q_m_made_hedge, q_m_players_hedge, q_m_kind_hedge, q_m_own_hedge, q_m_seed_hedge, q_m_taped_hedge, q_m_tape_hedge, q_m_from_hedge, q_m_to_hedge, q_m_token_hedge, q_m_value_hedge, q_m_holding_hedge, q_m_rowLength_hedge, q_m_rowOf_hedge, q_m_refusals_hedge, q_m_imaged_hedge, q_m_old_hedge, q_m_ahead_hedge, q_m_bestMove_hedge, q_m_w_owner, q_m_h_owner, q_m_hedge_owner, q_m_dug_owner, q_m_owner_owner, q_m_turn_owner, q_m_made_owner, q_m_players_owner, q_m_kind_owner, q_m_own_owner, q_m_seed_owner, q_m_taped_owner, q_m_tape_owner, q_m_from_owner, q_m_to_owner, q_m_token_owner, q_m_value_owner, q_m_holding_owner, q_m_rowLength_owner, q_m_rowOf_owner, q_m_refusals_owner, q_m_imaged_owner, q_m_old_owner, q_m_ahead_owner, q_m_bestMove_owner, q_m_w_turn, q_m_h_turn, q_m_hedge_turn, q_m_dug_turn, q_m_owner_turn, q_m_turn_turn, q_m_made_turn, q_m_players_turn, q_m_kind_turn, q_m_own_turn, q_m_seed_turn, q_m_taped_turn, q_m_tape_turn, q_m_from_turn, q_m_to_turn, q_m_token_turn, q_m_value_turn, q_m_holding_turn, q_m_rowLength_turn, q_m_rowOf_turn, q_m_refusals_turn, q_m_imaged_turn, q_m_old_turn, q_m_ahead_turn, q_m_bestMove_turn, q_m_w_made, q_m_h_made, q_m_hedge_made, q_m_dug_made, q_m_owner_made, q_m_turn_made, q_m_made_made, q_m_players_made, q_m_kind_made, q_m_own_made, q_m_seed_made, q_m_taped_made, q_m_tape_made, q_m_from_made, q_m_to_made, q_m_token_made, q_m_value_made, q_m_holding_made, q_m_rowLength_made, q_m_rowOf_made, q_m_refusals_made, q_m_imaged_made, q_m_old_made, q_m_ahead_made, q_m_bestMove_made, and_self]
    · simp only [q_m_w_hedge, q_m_h_hedge, q_m_hedge_hedge, q_m_dug_hedge, q_m_owner_hedge, q_m_turn_hedge, q_m_made_hedge, q_m_players_hedge, q_m_kind_hedge, q_m_own_hedge, q_m_seed_hedge, q_m_taped_hedge, q_m_tape_hedge, q_m_from_hedge, q_m_to_hedge, q_m_token_hedge, q_m_value_hedge, q_m_holding_hedge, q_m_rowLength_hedge, q_m_rowOf_hedge, q_m_refusals_hedge, q_m_imaged_hedge, q_m_old_hedge, q_m_ahead_hedge, q_m_bestMove_hedge, q_m_w_owner, q_m_h_owner, q_m_hedge_owner, q_m_dug_owner, q_m_owner_owner, q_m_turn_owner, q_m_made_owner, q_m_players_owner, q_m_kind_owner, q_m_own_owner, q_m_seed_owner, q_m_taped_owner, q_m_tape_owner, q_m_from_owner, q_m_to_owner, q_m_token_owner, q_m_value_owner, q_m_holding_owner, q_m_rowLength_owner, q_m_rowOf_owner, q_m_refusals_owner, q_m_imaged_owner, q_m_old_owner, q_m_ahead_owner, q_m_bestMove_owner, q_m_w_turn, q_m_h_turn, q_m_hedge_turn, q_m_dug_turn, q_m_owner_turn, q_m_turn_turn, q_m_made_turn, q_m_players_turn, q_m_kind_turn, q_m_own_turn, q_m_seed_turn, q_m_taped_turn, q_m_tape_turn, q_m_from_turn, q_m_to_turn, q_m_token_turn, q_m_value_turn, q_m_holding_turn, q_m_rowLength_turn, q_m_rowOf_turn, q_m_refusals_turn, q_m_imaged_turn, q_m_old_turn, q_m_ahead_turn, q_m_bestMove_turn, q_m_w_made, q_m_h_made, q_m_hedge_made, q_m_dug_made, q_m_owner_made, q_m_turn_made, q_m_made_made, q_m_players_made, q_m_kind_made, q_m_own_made, q_m_seed_made, q_m_taped_made, q_m_tape_made, q_m_from_made, q_m_to_made, q_m_token_made, q_m_value_made, q_m_holding_made, q_m_rowLength_made, q_m_rowOf_made, q_m_refusals_made, q_m_imaged_made, q_m_old_made, q_m_ahead_made, q_m_bestMove_made]
  · obtain ⟨hf, hsf⟩ := h3 (by omega)
    rw [mk_d (by omega)] at hm
    obtain ⟨m1, m2, m3, m4, m5⟩ := hm
    have m1 : m_w σ = nI (bW b) := m1
    have m2 : m_h σ = nI (bH b) := m2
    have m3 : ∀ e, e < 40 → m_hedge σ e = ib (bh b e) := m3
    have m4 : ∀ f, f < 16 → m_dug σ f = ib (bd b f || decide (f = s - 40)) := m4
    have m5 : ∀ f, f < 16 → m_owner σ f = io (bo b f) := m5
    have hdug : bd b (s - 40) = false := by
      unfold sf at hsf
      rw [Bool.and_eq_true, Bool.not_eq_true'] at hsf
      exact hsf.1
    have e100 : nI (s + 60) - 100 = nI (s - 40) := by
      have := nn_sub (a := s + 60) (b := 100) (by omega)
      rw [show s + 60 - 100 = s - 40 by omega] at this
      exact this
    rw [if_neg c, if_neg (show ¬ nI (s + 60) < 100 from nI_nlt (b := 100) (by omega) (by omega)), e100, gd_t (nI_inb (by omega) (by omega)), nI_clamp (by omega), nar0]
    refine ⟨_, rfl, ⟨?_, ?_, ?_, ?_, ?_⟩, ⟨ht, ?_, ?_, ?_⟩, ?_, ?_⟩
    · simp only [q_m_w_dug, q_m_h_dug, q_m_hedge_dug, q_m_dug_dug, q_m_owner_dug, q_m_turn_dug, q_m_made_dug, q_m_players_dug, q_m_kind_dug, q_m_own_dug, q_m_seed_dug, q_m_taped_dug, q_m_tape_dug, q_m_from_dug, q_m_to_dug, q_m_token_dug, q_m_value_dug, q_m_holding_dug, q_m_rowLength_dug, q_m_rowOf_dug, q_m_refusals_dug, q_m_imaged_dug, q_m_old_dug, q_m_ahead_dug, q_m_bestMove_dug, q_m_w_turn, q_m_h_turn, q_m_hedge_turn, q_m_dug_turn, q_m_owner_turn, q_m_turn_turn, q_m_made_turn, q_m_players_turn, q_m_kind_turn, q_m_own_turn, q_m_seed_turn, q_m_taped_turn, q_m_tape_turn, q_m_from_turn, q_m_to_turn, q_m_token_turn, q_m_value_turn, q_m_holding_turn, q_m_rowLength_turn, q_m_rowOf_turn, q_m_refusals_turn, q_m_imaged_turn, q_m_old_turn, q_m_ahead_turn, q_m_bestMove_turn, q_m_w_made, q_m_h_made, q_m_hedge_made, q_m_dug_made, q_m_owner_made, q_m_turn_made, q_m_made_made, q_m_players_made, q_m_kind_made, q_m_own_made, q_m_seed_made, q_m_taped_made, q_m_tape_made, q_m_from_made, q_m_to_made, q_m_token_made, q_m_value_made, q_m_holding_made, q_m_rowLength_made, q_m_rowOf_made, q_m_refusals_made, q_m_imaged_made, q_m_old_made, q_m_ahead_made, q_m_bestMove_made]; exact m1
    · simp only [q_m_w_dug, q_m_h_dug, q_m_hedge_dug, q_m_dug_dug, q_m_owner_dug, q_m_turn_dug, q_m_made_dug, q_m_players_dug, q_m_kind_dug, q_m_own_dug, q_m_seed_dug, q_m_taped_dug, q_m_tape_dug, q_m_from_dug, q_m_to_dug, q_m_token_dug, q_m_value_dug, q_m_holding_dug, q_m_rowLength_dug, q_m_rowOf_dug, q_m_refusals_dug, q_m_imaged_dug, q_m_old_dug, q_m_ahead_dug, q_m_bestMove_dug, q_m_w_turn, q_m_h_turn, q_m_hedge_turn, q_m_dug_turn, q_m_owner_turn, q_m_turn_turn, q_m_made_turn, q_m_players_turn, q_m_kind_turn, q_m_own_turn, q_m_seed_turn, q_m_taped_turn, q_m_tape_turn, q_m_from_turn, q_m_to_turn, q_m_token_turn, q_m_value_turn, q_m_holding_turn, q_m_rowLength_turn, q_m_rowOf_turn, q_m_refusals_turn, q_m_imaged_turn, q_m_old_turn, q_m_ahead_turn, q_m_bestMove_turn, q_m_w_made, q_m_h_made, q_m_hedge_made, q_m_dug_made, q_m_owner_made, q_m_turn_made, q_m_made_made, q_m_players_made, q_m_kind_made, q_m_own_made, q_m_seed_made, q_m_taped_made, q_m_tape_made, q_m_from_made, q_m_to_made, q_m_token_made, q_m_value_made, q_m_holding_made, q_m_rowLength_made, q_m_rowOf_made, q_m_refusals_made, q_m_imaged_made, q_m_old_made, q_m_ahead_made, q_m_bestMove_made]; exact m2
    · simp only [q_m_w_dug, q_m_h_dug, q_m_hedge_dug, q_m_dug_dug, q_m_owner_dug, q_m_turn_dug, q_m_made_dug, q_m_players_dug, q_m_kind_dug, q_m_own_dug, q_m_seed_dug, q_m_taped_dug, q_m_tape_dug, q_m_from_dug, q_m_to_dug, q_m_token_dug, q_m_value_dug, q_m_holding_dug, q_m_rowLength_dug, q_m_rowOf_dug, q_m_refusals_dug, q_m_imaged_dug, q_m_old_dug, q_m_ahead_dug, q_m_bestMove_dug, q_m_w_turn, q_m_h_turn, q_m_hedge_turn, q_m_dug_turn, q_m_owner_turn, q_m_turn_turn, q_m_made_turn, q_m_players_turn, q_m_kind_turn, q_m_own_turn, q_m_seed_turn, q_m_taped_turn, q_m_tape_turn, q_m_from_turn, q_m_to_turn, q_m_token_turn, q_m_value_turn, q_m_holding_turn, q_m_rowLength_turn, q_m_rowOf_turn, q_m_refusals_turn, q_m_imaged_turn, q_m_old_turn, q_m_ahead_turn, q_m_bestMove_turn, q_m_w_made, q_m_h_made, q_m_hedge_made, q_m_dug_made, q_m_owner_made, q_m_turn_made, q_m_made_made, q_m_players_made, q_m_kind_made, q_m_own_made, q_m_seed_made, q_m_taped_made, q_m_tape_made, q_m_from_made, q_m_to_made, q_m_token_made, q_m_value_made, q_m_holding_made, q_m_rowLength_made, q_m_rowOf_made, q_m_refusals_made, q_m_imaged_made, q_m_old_made, q_m_ahead_made, q_m_bestMove_made]; exact m3
    · simp only [q_m_w_dug, q_m_h_dug, q_m_hedge_dug, q_m_dug_dug, q_m_owner_dug, q_m_turn_dug, q_m_made_dug, q_m_players_dug, q_m_kind_dug, q_m_own_dug, q_m_seed_dug, q_m_taped_dug, q_m_tape_dug, q_m_from_dug, q_m_to_dug, q_m_token_dug, q_m_value_dug, q_m_holding_dug, q_m_rowLength_dug, q_m_rowOf_dug, q_m_refusals_dug, q_m_imaged_dug, q_m_old_dug, q_m_ahead_dug, q_m_bestMove_dug, q_m_w_turn, q_m_h_turn, q_m_hedge_turn, q_m_dug_turn, q_m_owner_turn, q_m_turn_turn, q_m_made_turn, q_m_players_turn, q_m_kind_turn, q_m_own_turn, q_m_seed_turn, q_m_taped_turn, q_m_tape_turn, q_m_from_turn, q_m_to_turn, q_m_token_turn, q_m_value_turn, q_m_holding_turn, q_m_rowLength_turn, q_m_rowOf_turn, q_m_refusals_turn, q_m_imaged_turn, q_m_old_turn, q_m_ahead_turn, q_m_bestMove_turn, q_m_w_made, q_m_h_made, q_m_hedge_made, q_m_dug_made, q_m_owner_made, q_m_turn_made, q_m_made_made, q_m_players_made, q_m_kind_made, q_m_own_made, q_m_seed_made, q_m_taped_made, q_m_tape_made, q_m_from_made, q_m_to_made, q_m_token_made, q_m_value_made, q_m_holding_made, q_m_rowLength_made, q_m_rowOf_made, q_m_refusals_made, q_m_imaged_made, q_m_old_made, q_m_ahead_made, q_m_bestMove_made]
      intro k hk
      show (if k = s - 40 then 0 else m_dug σ k) = ib (bd b k)
      by_cases d : k = s - 40
      · rw [if_pos d, d, hdug]; rfl
      · rw [if_neg d, m4 k hk, decide_eq_false d, Bool.or_false]
    · simp only [q_m_w_dug, q_m_h_dug, q_m_hedge_dug, q_m_dug_dug, q_m_owner_dug, q_m_turn_dug, q_m_made_dug, q_m_players_dug, q_m_kind_dug, q_m_own_dug, q_m_seed_dug, q_m_taped_dug, q_m_tape_dug, q_m_from_dug, q_m_to_dug, q_m_token_dug, q_m_value_dug, q_m_holding_dug, q_m_rowLength_dug, q_m_rowOf_dug, q_m_refusals_dug, q_m_imaged_dug, q_m_old_dug, q_m_ahead_dug, q_m_bestMove_dug, q_m_w_turn, q_m_h_turn, q_m_hedge_turn, q_m_dug_turn, q_m_owner_turn, q_m_turn_turn, q_m_made_turn, q_m_players_turn, q_m_kind_turn, q_m_own_turn, q_m_seed_turn, q_m_taped_turn, q_m_tape_turn, q_m_from_turn, q_m_to_turn, q_m_token_turn, q_m_value_turn, q_m_holding_turn, q_m_rowLength_turn, q_m_rowOf_turn, q_m_refusals_turn, q_m_imaged_turn, q_m_old_turn, q_m_ahead_turn, q_m_bestMove_turn, q_m_w_made, q_m_h_made, q_m_hedge_made, q_m_dug_made, q_m_owner_made, q_m_turn_made, q_m_made_made, q_m_players_made, q_m_kind_made, q_m_own_made, q_m_seed_made, q_m_taped_made, q_m_tape_made, q_m_from_made, q_m_to_made, q_m_token_made, q_m_value_made, q_m_holding_made, q_m_rowLength_made, q_m_rowOf_made, q_m_refusals_made, q_m_imaged_made, q_m_old_made, q_m_ahead_made, q_m_bestMove_made]; exact m5
    · simp only [q_m_w_dug, q_m_h_dug, q_m_hedge_dug, q_m_dug_dug, q_m_owner_dug, q_m_turn_dug, q_m_made_dug, q_m_players_dug, q_m_kind_dug, q_m_own_dug, q_m_seed_dug, q_m_taped_dug, q_m_tape_dug, q_m_from_dug, q_m_to_dug, q_m_token_dug, q_m_value_dug, q_m_holding_dug, q_m_rowLength_dug, q_m_rowOf_dug, q_m_refusals_dug, q_m_imaged_dug, q_m_old_dug, q_m_ahead_dug, q_m_bestMove_dug, q_m_w_turn, q_m_h_turn, q_m_hedge_turn, q_m_dug_turn, q_m_owner_turn, q_m_turn_turn, q_m_made_turn, q_m_players_turn, q_m_kind_turn, q_m_own_turn, q_m_seed_turn, q_m_taped_turn, q_m_tape_turn, q_m_from_turn, q_m_to_turn, q_m_token_turn, q_m_value_turn, q_m_holding_turn, q_m_rowLength_turn, q_m_rowOf_turn, q_m_refusals_turn, q_m_imaged_turn, q_m_old_turn, q_m_ahead_turn, q_m_bestMove_turn, q_m_w_made, q_m_h_made, q_m_hedge_made, q_m_dug_made, q_m_owner_made, q_m_turn_made, q_m_made_made, q_m_players_made, q_m_kind_made, q_m_own_made, q_m_seed_made, q_m_taped_made, q_m_tape_made, q_m_from_made, q_m_to_made, q_m_token_made, q_m_value_made, q_m_holding_made, q_m_rowLength_made, q_m_rowOf_made, q_m_refusals_made, q_m_imaged_made, q_m_old_made, q_m_ahead_made, q_m_bestMove_made]
      rw [s1]; exact e1t
    · simp only [q_m_w_dug, q_m_h_dug, q_m_hedge_dug, q_m_dug_dug, q_m_owner_dug, q_m_turn_dug, q_m_made_dug, q_m_players_dug, q_m_kind_dug, q_m_own_dug, q_m_seed_dug, q_m_taped_dug, q_m_tape_dug, q_m_from_dug, q_m_to_dug, q_m_token_dug, q_m_value_dug, q_m_holding_dug, q_m_rowLength_dug, q_m_rowOf_dug, q_m_refusals_dug, q_m_imaged_dug, q_m_old_dug, q_m_ahead_dug, q_m_bestMove_dug, q_m_w_turn, q_m_h_turn, q_m_hedge_turn, q_m_dug_turn, q_m_owner_turn, q_m_turn_turn, q_m_made_turn, q_m_players_turn, q_m_kind_turn, q_m_own_turn, q_m_seed_turn, q_m_taped_turn, q_m_tape_turn, q_m_from_turn, q_m_to_turn, q_m_token_turn, q_m_value_turn, q_m_holding_turn, q_m_rowLength_turn, q_m_rowOf_turn, q_m_refusals_turn, q_m_imaged_turn, q_m_old_turn, q_m_ahead_turn, q_m_bestMove_turn, q_m_w_made, q_m_h_made, q_m_hedge_made, q_m_dug_made, q_m_owner_made, q_m_turn_made, q_m_made_made, q_m_players_made, q_m_kind_made, q_m_own_made, q_m_seed_made, q_m_taped_made, q_m_tape_made, q_m_from_made, q_m_to_made, q_m_token_made, q_m_value_made, q_m_holding_made, q_m_rowLength_made, q_m_rowOf_made, q_m_refusals_made, q_m_imaged_made, q_m_old_made, q_m_ahead_made, q_m_bestMove_made]
      rw [s2, Int32.add_sub_cancel]
    · simp only [q_m_w_dug, q_m_h_dug, q_m_hedge_dug, q_m_dug_dug, q_m_owner_dug, q_m_turn_dug, q_m_made_dug, q_m_players_dug, q_m_kind_dug, q_m_own_dug, q_m_seed_dug, q_m_taped_dug, q_m_tape_dug, q_m_from_dug, q_m_to_dug, q_m_token_dug, q_m_value_dug, q_m_holding_dug, q_m_rowLength_dug, q_m_rowOf_dug, q_m_refusals_dug, q_m_imaged_dug, q_m_old_dug, q_m_ahead_dug, q_m_bestMove_dug, q_m_w_turn, q_m_h_turn, q_m_hedge_turn, q_m_dug_turn, q_m_owner_turn, q_m_turn_turn, q_m_made_turn, q_m_players_turn, q_m_kind_turn, q_m_own_turn, q_m_seed_turn, q_m_taped_turn, q_m_tape_turn, q_m_from_turn, q_m_to_turn, q_m_token_turn, q_m_value_turn, q_m_holding_turn, q_m_rowLength_turn, q_m_rowOf_turn, q_m_refusals_turn, q_m_imaged_turn, q_m_old_turn, q_m_ahead_turn, q_m_bestMove_turn, q_m_w_made, q_m_h_made, q_m_hedge_made, q_m_dug_made, q_m_owner_made, q_m_turn_made, q_m_made_made, q_m_players_made, q_m_kind_made, q_m_own_made, q_m_seed_made, q_m_taped_made, q_m_tape_made, q_m_from_made, q_m_to_made, q_m_token_made, q_m_value_made, q_m_holding_made, q_m_rowLength_made, q_m_rowOf_made, q_m_refusals_made, q_m_imaged_made, q_m_old_made, q_m_ahead_made, q_m_bestMove_made]; exact s3
    · unfold fz
      simp only [q_m_w_dug, q_m_h_dug, q_m_hedge_dug, q_m_dug_dug, q_m_owner_dug, q_m_turn_dug, q_m_made_dug, q_m_players_dug, q_m_kind_dug, q_m_own_dug, q_m_seed_dug, q_m_taped_dug, q_m_tape_dug, q_m_from_dug, q_m_to_dug, q_m_token_dug, q_m_value_dug, q_m_holding_dug, q_m_rowLength_dug, q_m_rowOf_dug, q_m_refusals_dug, q_m_imaged_dug, q_m_old_dug, q_m_ahead_dug, q_m_bestMove_dug, q_m_w_turn, q_m_h_turn, q_m_hedge_turn, q_m_dug_turn, q_m_owner_turn, q_m_turn_turn, q_m_made_turn, q_m_players_turn, q_m_kind_turn, q_m_own_turn, q_m_seed_turn, q_m_taped_turn, q_m_tape_turn, q_m_from_turn, q_m_to_turn, q_m_token_turn, q_m_value_turn, q_m_holding_turn, q_m_rowLength_turn, q_m_rowOf_turn, q_m_refusals_turn, q_m_imaged_turn, q_m_old_turn, q_m_ahead_turn, q_m_bestMove_turn, q_m_w_made, q_m_h_made, q_m_hedge_made, q_m_dug_made, q_m_owner_made, q_m_turn_made, q_m_made_made, q_m_players_made, q_m_kind_made, q_m_own_made, q_m_seed_made, q_m_taped_made, q_m_tape_made, q_m_from_made, q_m_to_made, q_m_token_made, q_m_value_made, q_m_holding_made, q_m_rowLength_made, q_m_rowOf_made, q_m_refusals_made, q_m_imaged_made, q_m_old_made, q_m_ahead_made, q_m_bestMove_made, and_self]
    · simp only [q_m_w_dug, q_m_h_dug, q_m_hedge_dug, q_m_dug_dug, q_m_owner_dug, q_m_turn_dug, q_m_made_dug, q_m_players_dug, q_m_kind_dug, q_m_own_dug, q_m_seed_dug, q_m_taped_dug, q_m_tape_dug, q_m_from_dug, q_m_to_dug, q_m_token_dug, q_m_value_dug, q_m_holding_dug, q_m_rowLength_dug, q_m_rowOf_dug, q_m_refusals_dug, q_m_imaged_dug, q_m_old_dug, q_m_ahead_dug, q_m_bestMove_dug, q_m_w_turn, q_m_h_turn, q_m_hedge_turn, q_m_dug_turn, q_m_owner_turn, q_m_turn_turn, q_m_made_turn, q_m_players_turn, q_m_kind_turn, q_m_own_turn, q_m_seed_turn, q_m_taped_turn, q_m_tape_turn, q_m_from_turn, q_m_to_turn, q_m_token_turn, q_m_value_turn, q_m_holding_turn, q_m_rowLength_turn, q_m_rowOf_turn, q_m_refusals_turn, q_m_imaged_turn, q_m_old_turn, q_m_ahead_turn, q_m_bestMove_turn, q_m_w_made, q_m_h_made, q_m_hedge_made, q_m_dug_made, q_m_owner_made, q_m_turn_made, q_m_made_made, q_m_players_made, q_m_kind_made, q_m_own_made, q_m_seed_made, q_m_taped_made, q_m_tape_made, q_m_from_made, q_m_to_made, q_m_token_made, q_m_value_made, q_m_holding_made, q_m_rowLength_made, q_m_rowOf_made, q_m_refusals_made, q_m_imaged_made, q_m_old_made, q_m_ahead_made, q_m_bestMove_made]
/-- the slot behind which a move lies -/
def sl (m : Nat) : Nat := if m < 40 then m else if m < 100 then 40 else m - 60
def bv (b : BD) (t : Nat) : Nat → Int := fun s => -(Vv (mk b t s) (1 - t))
theorem bv_lo {b : BD} (hb : BOK b) {t : Nat} (ht : t < 2) {s : Nat} (ho : os b s = true) : -48 ≤ bv b t s ∧ bv b t s ≤ 48 := by
  have := Vv_b (BOK_mk hb ht ho) (show 1 - t < 2 by omega)
  unfold bv
  omega
/-- how far the reference's search is -/
def enc (o : Option Nat × Int) (x1 x2 : Int32) : Prop := x1 = emv o.1 ∧ (o.1 = none ∨ x2 = iN o.2)
theorem search_run {b : BD} {t : Nat} {mv0 sd : Int32} (hb : BOK b) (ht : t < 2) {σ0 : MM} {self : MM → Option (Int32 × MM)} (k74 : Int32 → Int32 → MM → Option (Int32 × MM))
    (hself : ∀ (σ : MM) (s : Nat), os b s = true → MB σ (mk b t s) → MS σ (1 - t) (mv0 + 1) sd → ∃ σ', self σ = some (iN (Vv (mk b t s) (1 - t)), σ') ∧ MB σ' (mk b t s) ∧ MS σ' (1 - t) (mv0 + 1) sd ∧ fz σ σ') :
    ∀ (k N m : Nat) (x1 x2 : Int32) (σ : MM), m + k = 116 → k < N → MB σ b → MS σ t mv0 sd → fz σ0 σ → enc (bf (os b) (bv b t) (sl m)) x1 x2 →
      ∃ (y1 y2 : Int32) (σ' : MM), lp (fun _ _ _ _ => none) (f_X4_search_L6_b self k74) N x1 x2 (nI m) σ = k74 y1 y2 σ' ∧ MB σ' b ∧ MS σ' t mv0 sd ∧ fz σ0 σ' ∧ enc (bf (os b) (bv b t) 56) y1 y2 := by
  have hz : SZ (bW b) (bH b) := ⟨hb.1, hb.2.1⟩
  have hE : be b ≤ 40 := (szs hz).1
  have hlo : ∀ s, os b s = true → -100 < bv b t s := fun s h => by have := bv_lo hb ht h; omega
  intro k
  induction k with
  | zero =>
    intro N m x1 x2 σ hmk hN hm hs hF he
    obtain ⟨M, rfl⟩ : ∃ q, N = q + 1 := ⟨N - 1, by omega⟩
    obtain rfl : m = 116 := by omega
    refine ⟨x1, x2, σ, ?_, hm, hs, hF, he⟩
    rw [lp_s, f_X4_search_L6_b, if_pos (show (116 : Int32) ≤ nI 116 by decide +kernel)]
  | succ k ih =>
    intro N m x1 x2 σ hmk hN hm hs hF he
    obtain ⟨M, rfl⟩ : ∃ q, N = q + 1 := ⟨N - 1, by omega⟩
    have hslm : pm b m = false → bf (os b) (bv b t) (sl (m + 1)) = bf (os b) (bv b t) (sl m) := fun hp => by
      unfold sl
      by_cases c : m < 40
      · rw [if_pos c]
        have hos : os b m = false := by rw [← pm_lo c]; exact hp
        have h2 : (if m + 1 < 40 then m + 1 else if m + 1 < 100 then 40 else m + 1 - 60) = m + 1 := by
          by_cases d : m + 1 < 40
          · rw [if_pos d]
          · rw [if_neg d, if_pos (by omega)]; omega
        rw [h2, bf_s, if_neg (by rw [hos]; exact Bool.false_ne_true)]
      · rw [if_neg c, if_neg (by omega)]
        by_cases d : m < 100
        · rw [if_pos d]
          by_cases e : m + 1 < 100
          · rw [if_pos e]
          · rw [if_neg e, show m + 1 - 60 = 40 by omega]
        · rw [if_neg d, if_neg (by omega), show m + 1 - 60 = (m - 60) + 1 by omega, bf_s]
          have hos : os b (m - 60) = false := by
            have := pm_hi hz (s := m - 60) (by omega)
            rw [show m - 60 + 60 = m by omega, hp] at this
            exact this.symm
          rw [if_neg (by rw [hos]; exact Bool.false_ne_true)]
    rw [lp_s, f_X4_search_L6_b, if_neg (show ¬ (116 : Int32) ≤ nI m from nI_ge (b := 116) (by omega) (by omega))]
    rcases mvs_ok hz hm (show m < 1000 by omega) with ⟨e1, e2⟩ | ⟨e1, e2⟩
    · rw [e1, if_neg Bool.false_ne_true, lt_e, ← nI_succ]
      exact ih M (m + 1) x1 x2 σ (by omega) (by omega) hm hs hF (by rw [hslm e2]; exact he)
    · rw [e1, if_pos rfl, e2, ob_s]
      cases hp : pm b m with
      | false =>
        rw [if_neg Bool.false_ne_true, lt_e, ← nI_succ]
        exact ih M (m + 1) x1 x2 σ (by omega) (by omega) hm hs hF (by rw [hslm hp]; exact he)
      | true =>
        rw [if_pos rfl]
        -- the slot of this move
        obtain ⟨s, hsm, hss, hs1⟩ : ∃ s, mv s = m ∧ sl m = s ∧ sl (m + 1) = s + 1 := by
          unfold sl
          by_cases c : m < 40
          · refine ⟨m, by unfold mv; rw [if_pos c], by rw [if_pos c], ?_⟩
            by_cases d : m + 1 < 40
            · rw [if_pos d]
            · rw [if_neg d, if_pos (by omega)]; omega
          · by_cases d : m < 100
            · rw [pm_mid hz (by omega) d] at hp; cases hp
            · refine ⟨m - 60, ?_, ?_, ?_⟩
              · unfold mv; rw [if_neg (by omega)]; omega
              · rw [if_neg c, if_neg d]
              · rw [if_neg (by omega), if_neg (by omega)]; omega
        have ho : os b s = true := by rw [← pm_mv hz, hsm]; exact hp
        obtain ⟨σ1, z1, z2, z3, z4, z5⟩ := makesM_ok hb hm hs ho
        obtain ⟨σ2, w1, w2, w3, w4⟩ := hself σ1 s ho z2 z3
        obtain ⟨σ3, u1, u2, u3, u4, u5⟩ := takes_ok hb ht ho w2 w3
        have hF3 := fz_t hF (fz_t z4 (fz_t w4 u4))
        have hbv := bv_lo hb ht ho
        rw [← hsm, z1, ob2_s, w1, ob2_s, lt_e, iN_neg, u1, ob_s]
        simp only [lt_e, ← nI_succ]
        rw [hsm]
        have he2 : bf (os b) (bv b t) (s + 1) = if (bf (os b) (bv b t) s).2 < bv b t s then (some s, bv b t s) else bf (os b) (bv b t) s := by rw [bf_s, if_pos ho]
        obtain ⟨q1, q2⟩ := he
        rw [hss] at q1 q2
        have hbn := bf_none hlo s
        have hbmx := bf_mx (os b) (bv b t) s
        have hmlo := mx_lo (P := os b) (F := bv b t) s
        have hmhi := mx_le (P := os b) (F := bv b t) (c := 48) (by omega) s (fun q _ hq => (bv_lo hb ht hq).2)
        cases hf : (bf (os b) (bv b t) s).1 with
        | none =>
          have h100 : (bf (os b) (bv b t) s).2 = -100 := by
            rw [hbmx]
            have h0 := hbn.mp hf
            have := mx_le (P := os b) (F := bv b t) (c := -100) (Int.le_refl _) s (fun q hq hp => by rw [h0 q hq] at hp; cases hp)
            omega
          rw [q1, hf, if_pos (show emv none = -1 from rfl)]
          refine ih M (m + 1) (nI m) (iN (-(Vv (mk b t s) (1 - t)))) σ3 (by omega) (by omega) u2 u3 hF3 ?_
          rw [hs1, he2, h100, if_pos (by omega)]
          exact ⟨by rw [← hsm]; rfl, Or.inr rfl⟩
        | some q =>
          have hqi := bf_in s q hf
          have h56 := (os_lt hz hqi.2).1
          have hx2 : x2 = iN (bf (os b) (bv b t) s).2 := by
            rcases q2 with h | h
            · rw [hf] at h; cases h
            · exact h
          rw [q1, hf, if_neg (emv_some h56), hx2]
          have hcmp : iN (bf (os b) (bv b t) s).2 < iN (-(Vv (mk b t s) (1 - t))) ↔ (bf (os b) (bv b t) s).2 < bv b t s := iN_lt (by rw [hbmx]; omega) (by show -1000 ≤ bv b t s ∧ bv b t s ≤ 1000; omega)
          by_cases c : (bf (os b) (bv b t) s).2 < bv b t s
          · rw [if_pos (hcmp.mpr c)]
            refine ih M (m + 1) (nI m) (iN (-(Vv (mk b t s) (1 - t)))) σ3 (by omega) (by omega) u2 u3 hF3 ?_
            rw [hs1, he2, if_pos c]
            exact ⟨by rw [← hsm]; rfl, Or.inr rfl⟩
          · rw [if_neg (fun h => c (hcmp.mp h))]
            refine ih M (m + 1) _ _ σ3 (by omega) (by omega) u2 u3 hF3 ?_
            rw [hs1, he2, if_neg c]
            exact ⟨by rw [hf], Or.inr rfl⟩
theorem search_ok : ∀ (N : Nat) (σ : MM) (b : BD) (t : Nat) (mv0 sd : Int32), BOK b → MB σ b → MS σ t mv0 sd → cn (os b) 64 < N → ∃ σ', f_X4_search N σ = some (iN (Vv b t), σ') ∧ MB σ' b ∧ MS σ' t mv0 sd ∧ fz σ σ' ∧ m_bestMove σ' = emv (bf (os b) (bv b t) 56).1 := by
  intro N
  induction N with
  | zero => intro σ b t mv0 sd _ _ _ h; omega
  | succ N ih =>
    intro σ b t mv0 sd hb hm hs hc
    have ht := hs.1
    have hz : SZ (bW b) (bH b) := ⟨hb.1, hb.2.1⟩
    have hlo : ∀ s, os b s = true → -100 < bv b t s := fun s h => by have := bv_lo hb ht h; omega
    obtain ⟨y1, y2, σ1, z1, z2, z3, z4, z5, z6⟩ := search_run (mv0 := mv0) (sd := sd) hb ht (σ0 := σ) (self := f_X4_search N) (fun x19 x20 σ21 => lt (m_bestMove' σ21 x19) (fun σ22 => if x19 = (-1) then ob (f_X4_leadOf σ22 (m_turn σ22)) (fun x23 => some (x23, σ22)) else some (x20, σ22))) (fun σ' s ho h1 h2 => by
      have := os_less (t := t) hb ho
      obtain ⟨τ, a1, a2, a3, a4, a5⟩ := ih σ' (mk b t s) (1 - t) (mv0 + 1) sd (BOK_mk hb ht ho) h1 h2 (by omega)
      exact ⟨τ, a1, a2, a3, a4⟩) 116 FU 0 (-1) 0 σ rfl (by unfold FU; omega) hm hs (fz_r σ) ⟨rfl, Or.inl rfl⟩
    have eN : f_X4_search (N + 1) = f_X4_search_b (f_X4_search N) := by unfold f_X4_search; rw [lp_s]
    have hm1 : MB (m_bestMove' σ1 y1) b := by
      unfold MB
      simp only [q_m_w_bestMove, q_m_h_bestMove, q_m_hedge_bestMove, q_m_dug_bestMove, q_m_owner_bestMove, q_m_turn_bestMove, q_m_made_bestMove, q_m_players_bestMove, q_m_kind_bestMove, q_m_own_bestMove, q_m_seed_bestMove, q_m_taped_bestMove, q_m_tape_bestMove, q_m_from_bestMove, q_m_to_bestMove, q_m_token_bestMove, q_m_value_bestMove, q_m_holding_bestMove, q_m_rowLength_bestMove, q_m_rowOf_bestMove, q_m_refusals_bestMove, q_m_imaged_bestMove, q_m_old_bestMove, q_m_ahead_bestMove, q_m_bestMove_bestMove]
      exact z2
    have hs1 : MS (m_bestMove' σ1 y1) t mv0 sd := by
      unfold MS
      simp only [q_m_w_bestMove, q_m_h_bestMove, q_m_hedge_bestMove, q_m_dug_bestMove, q_m_owner_bestMove, q_m_turn_bestMove, q_m_made_bestMove, q_m_players_bestMove, q_m_kind_bestMove, q_m_own_bestMove, q_m_seed_bestMove, q_m_taped_bestMove, q_m_tape_bestMove, q_m_from_bestMove, q_m_to_bestMove, q_m_token_bestMove, q_m_value_bestMove, q_m_holding_bestMove, q_m_rowLength_bestMove, q_m_rowOf_bestMove, q_m_refusals_bestMove, q_m_imaged_bestMove, q_m_old_bestMove, q_m_ahead_bestMove, q_m_bestMove_bestMove]
      exact z3
    have hf1 : fz σ (m_bestMove' σ1 y1) := fz_t z4 (by unfold fz; simp only [q_m_w_bestMove, q_m_h_bestMove, q_m_hedge_bestMove, q_m_dug_bestMove, q_m_owner_bestMove, q_m_turn_bestMove, q_m_made_bestMove, q_m_players_bestMove, q_m_kind_bestMove, q_m_own_bestMove, q_m_seed_bestMove, q_m_taped_bestMove, q_m_tape_bestMove, q_m_from_bestMove, q_m_to_bestMove, q_m_token_bestMove, q_m_value_bestMove, q_m_holding_bestMove, q_m_rowLength_bestMove, q_m_rowOf_bestMove, q_m_refusals_bestMove, q_m_imaged_bestMove, q_m_old_bestMove, q_m_ahead_bestMove, q_m_bestMove_bestMove, and_self])
    have hbest : m_bestMove (m_bestMove' σ1 y1) = emv (bf (os b) (bv b t) 56).1 := by rw [q_m_bestMove_bestMove]; exact z5
    rw [eN, f_X4_search_b]
    unfold f_X4_search_L6
    rw [show (0 : Int32) = nI 0 from rfl] at z1 ⊢
    rw [z1, lt_e]
    have hbn := bf_none hlo 56
    by_cases c : cn (os b) 64 = 0
    · have hnone : (bf (os b) (bv b t) 56).1 = none := hbn.mpr (fun s _ => cn_os0 hz c s)
      have hV : Vv b t = ldi b t := by rw [Vv_eq hb ht, if_pos c]
      rw [z5, hnone, if_pos (show emv none = -1 from rfl)]
      rw [z5, hnone] at hm1 hs1 hf1 hbest
      rw [hs1.2.1, leadM_ok hb hm1 ht, ob_s, led_ldi, ← hV]
      exact ⟨_, rfl, hm1, hs1, hf1, hbest⟩
    · obtain ⟨s, hs0, ho⟩ := os_ex hz c
      have hV : Vv b t = mx (os b) (bv b t) 56 := by rw [Vv_eq hb ht, if_neg c]; rfl
      cases hf : (bf (os b) (bv b t) 56).1 with
      | none => have := hbn.mp hf s hs0; rw [ho] at this; cases this
      | some q =>
        have hq := bf_in 56 q hf
        have hy2 : y2 = iN (Vv b t) := by
          rcases z6 with h | h
          · rw [hf] at h; cases h
          · rw [h, bf_mx, hV]
        rw [if_neg (by rw [z5, hf]; exact emv_some hq.1), hy2]
        exact ⟨_, rfl, hm1, hs1, hf1, by rw [hbest, hf]⟩
