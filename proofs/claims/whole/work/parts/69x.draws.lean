/-! Games by draws -/
theorem sized_fz {W H : Nat} (σ : MM) : ∃ σ', f_X4_sized σ (nI W) (nI H) = some (nI (nE W H), σ') ∧ MB σ' (b0 W H) ∧ m_turn σ' = 0 ∧ m_made σ' = 0 ∧ m_seed σ' = m_seed σ ∧ fz σ σ' := by
  have a2 : nI W * (nI H + 1) = nI (nU W H) := by
    rw [← nI_succ, nn_mul]; rfl
  have a3 : nI (nU W H) + nI H * (nI W + 1) = nI (nE W H) := by
    rw [← nI_succ, nn_mul, nn_add]; rfl
  unfold f_X4_sized
  rw [lt_e, lt_e, sz12, sz33]
  unfold f_X4_edges f_X4_level
  simp only [lt_e, q_m_w_w, q_m_h_w, q_m_hedge_w, q_m_dug_w, q_m_owner_w, q_m_turn_w, q_m_made_w, q_m_players_w, q_m_kind_w, q_m_own_w, q_m_seed_w, q_m_taped_w, q_m_tape_w, q_m_from_w, q_m_to_w, q_m_token_w, q_m_value_w, q_m_holding_w, q_m_rowLength_w, q_m_rowOf_w, q_m_refusals_w, q_m_imaged_w, q_m_old_w, q_m_ahead_w, q_m_bestMove_w, q_m_w_h, q_m_h_h, q_m_hedge_h, q_m_dug_h, q_m_owner_h, q_m_turn_h, q_m_made_h, q_m_players_h, q_m_kind_h, q_m_own_h, q_m_seed_h, q_m_taped_h, q_m_tape_h, q_m_from_h, q_m_to_h, q_m_token_h, q_m_value_h, q_m_holding_h, q_m_rowLength_h, q_m_rowOf_h, q_m_refusals_h, q_m_imaged_h, q_m_old_h, q_m_ahead_h, q_m_bestMove_h, q_m_w_hedge, q_m_h_hedge, q_m_hedge_hedge, q_m_dug_hedge, q_m_owner_hedge, q_m_turn_hedge, q_m_made_hedge, q_m_players_hedge, q_m_kind_hedge, q_m_own_hedge, q_m_seed_hedge, q_m_taped_hedge, q_m_tape_hedge, q_m_from_hedge, q_m_to_hedge, q_m_token_hedge, q_m_value_hedge, q_m_holding_hedge, q_m_rowLength_hedge, q_m_rowOf_hedge, q_m_refusals_hedge, q_m_imaged_hedge, q_m_old_hedge, q_m_ahead_hedge, q_m_bestMove_hedge, q_m_w_dug, q_m_h_dug, q_m_hedge_dug, q_m_dug_dug, q_m_owner_dug, q_m_turn_dug, q_m_made_dug, q_m_players_dug, q_m_kind_dug, q_m_own_dug, q_m_seed_dug, q_m_taped_dug, q_m_tape_dug, q_m_from_dug, q_m_to_dug, q_m_token_dug, q_m_value_dug, q_m_holding_dug, q_m_rowLength_dug, q_m_rowOf_dug, q_m_refusals_dug, q_m_imaged_dug, q_m_old_dug, q_m_ahead_dug, q_m_bestMove_dug, q_m_w_owner, q_m_h_owner, q_m_hedge_owner, q_m_dug_owner, q_m_owner_owner, q_m_turn_owner, q_m_made_owner, q_m_players_owner, q_m_kind_owner, q_m_own_owner, q_m_seed_owner, q_m_taped_owner, q_m_tape_owner, q_m_from_owner, q_m_to_owner, q_m_token_owner, q_m_value_owner, q_m_holding_owner, q_m_rowLength_owner, q_m_rowOf_owner, q_m_refusals_owner, q_m_imaged_owner, q_m_old_owner, q_m_ahead_owner, q_m_bestMove_owner, q_m_w_turn, q_m_h_turn, q_m_hedge_turn, q_m_dug_turn, q_m_owner_turn, q_m_turn_turn, q_m_made_turn, q_m_players_turn, q_m_kind_turn, q_m_own_turn, q_m_seed_turn, q_m_taped_turn, q_m_tape_turn, q_m_from_turn, q_m_to_turn, q_m_token_turn, q_m_value_turn, q_m_holding_turn, q_m_rowLength_turn, q_m_rowOf_turn, q_m_refusals_turn, q_m_imaged_turn, q_m_old_turn, q_m_ahead_turn, q_m_bestMove_turn, q_m_w_made, q_m_h_made, q_m_hedge_made, q_m_dug_made, q_m_owner_made, q_m_turn_made, q_m_made_made, q_m_players_made, q_m_kind_made, q_m_own_made, q_m_seed_made, q_m_taped_made, q_m_tape_made, q_m_from_made, q_m_to_made, q_m_token_made, q_m_value_made, q_m_holding_made, q_m_rowLength_made, q_m_rowOf_made, q_m_refusals_made, q_m_imaged_made, q_m_old_made, q_m_ahead_made, q_m_bestMove_made, a2, a3]
  refine ⟨_, rfl, ⟨?_, ?_, ?_, ?_, ?_⟩, ?_, ?_, ?_, ?_⟩
  all_goals simp only [fz, q_m_w_w, q_m_h_w, q_m_hedge_w, q_m_dug_w, q_m_owner_w, q_m_turn_w, q_m_made_w, q_m_players_w, q_m_kind_w, q_m_own_w, q_m_seed_w, q_m_taped_w, q_m_tape_w, q_m_from_w, q_m_to_w, q_m_token_w, q_m_value_w, q_m_holding_w, q_m_rowLength_w, q_m_rowOf_w, q_m_refusals_w, q_m_imaged_w, q_m_old_w, q_m_ahead_w, q_m_bestMove_w, q_m_w_h, q_m_h_h, q_m_hedge_h, q_m_dug_h, q_m_owner_h, q_m_turn_h, q_m_made_h, q_m_players_h, q_m_kind_h, q_m_own_h, q_m_seed_h, q_m_taped_h, q_m_tape_h, q_m_from_h, q_m_to_h, q_m_token_h, q_m_value_h, q_m_holding_h, q_m_rowLength_h, q_m_rowOf_h, q_m_refusals_h, q_m_imaged_h, q_m_old_h, q_m_ahead_h, q_m_bestMove_h, q_m_w_hedge, q_m_h_hedge, q_m_hedge_hedge, q_m_dug_hedge, q_m_owner_hedge, q_m_turn_hedge, q_m_made_hedge, q_m_players_hedge, q_m_kind_hedge, q_m_own_hedge, q_m_seed_hedge, q_m_taped_hedge, q_m_tape_hedge, q_m_from_hedge, q_m_to_hedge, q_m_token_hedge, q_m_value_hedge, q_m_holding_hedge, q_m_rowLength_hedge, q_m_rowOf_hedge, q_m_refusals_hedge, q_m_imaged_hedge, q_m_old_hedge, q_m_ahead_hedge, q_m_bestMove_hedge, q_m_w_dug, q_m_h_dug, q_m_hedge_dug, q_m_dug_dug, q_m_owner_dug, q_m_turn_dug, q_m_made_dug, q_m_players_dug, q_m_kind_dug, q_m_own_dug, q_m_seed_dug, q_m_taped_dug, q_m_tape_dug, q_m_from_dug, q_m_to_dug, q_m_token_dug, q_m_value_dug, q_m_holding_dug, q_m_rowLength_dug, q_m_rowOf_dug, q_m_refusals_dug, q_m_imaged_dug, q_m_old_dug, q_m_ahead_dug, q_m_bestMove_dug, q_m_w_owner, q_m_h_owner, q_m_hedge_owner, q_m_dug_owner, q_m_owner_owner, q_m_turn_owner, q_m_made_owner, q_m_players_owner, q_m_kind_owner, q_m_own_owner, q_m_seed_owner, q_m_taped_owner, q_m_tape_owner, q_m_from_owner, q_m_to_owner, q_m_token_owner, q_m_value_owner, q_m_holding_owner, q_m_rowLength_owner, q_m_rowOf_owner, q_m_refusals_owner, q_m_imaged_owner, q_m_old_owner, q_m_ahead_owner, q_m_bestMove_owner, q_m_w_turn, q_m_h_turn, q_m_hedge_turn, q_m_dug_turn, q_m_owner_turn, q_m_turn_turn, q_m_made_turn, q_m_players_turn, q_m_kind_turn, q_m_own_turn, q_m_seed_turn, q_m_taped_turn, q_m_tape_turn, q_m_from_turn, q_m_to_turn, q_m_token_turn, q_m_value_turn, q_m_holding_turn, q_m_rowLength_turn, q_m_rowOf_turn, q_m_refusals_turn, q_m_imaged_turn, q_m_old_turn, q_m_ahead_turn, q_m_bestMove_turn, q_m_w_made, q_m_h_made, q_m_hedge_made, q_m_dug_made, q_m_owner_made, q_m_turn_made, q_m_made_made, q_m_players_made, q_m_kind_made, q_m_own_made, q_m_seed_made, q_m_taped_made, q_m_tape_made, q_m_from_made, q_m_to_made, q_m_token_made, q_m_value_made, q_m_holding_made, q_m_rowLength_made, q_m_rowOf_made, q_m_refusals_made, q_m_imaged_made, q_m_old_made, q_m_ahead_made, q_m_bestMove_made, b0, bW, bH, bh, bd, bo, and_self]
  · intro e he; rw [if_pos he]; rfl
  · intro f hf; rw [if_pos hf]; rfl
  · intro f hf; rw [if_pos hf]; rfl
theorem clear_ok {g : GG} {W H : Nat} (hg : GGeo g W H) : ∃ g', f_X0_clear g = some g' ∧ GB g' (b0 W H) ∧ g_turn g' = 0 ∧ g_made g' = 0 ∧ g_seed g' = g_seed g := by
  unfold f_X0_clear
  simp only [lt_e]
  refine ⟨_, rfl, ⟨?_, ?_, ?_, ?_, ?_⟩, ?_, ?_, ?_⟩
  · unfold GGeo
    simp only [q_g_width_hedges, q_g_height_hedges, q_g_fields_hedges, q_g_edges_hedges, q_g_uprights_hedges, q_g_all_hedges, q_g_leftmost_hedges, q_g_rightmost_hedges, q_g_rimEdges_hedges, q_g_hedges_hedges, q_g_dug_hedges, q_g_ownedBy0_hedges, q_g_ownedBy1_hedges, q_g_turn_hedges, q_g_made_hedges, q_g_seed_hedges, q_g_width_dug, q_g_height_dug, q_g_fields_dug, q_g_edges_dug, q_g_uprights_dug, q_g_all_dug, q_g_leftmost_dug, q_g_rightmost_dug, q_g_rimEdges_dug, q_g_hedges_dug, q_g_dug_dug, q_g_ownedBy0_dug, q_g_ownedBy1_dug, q_g_turn_dug, q_g_made_dug, q_g_seed_dug, q_g_width_ownedBy0, q_g_height_ownedBy0, q_g_fields_ownedBy0, q_g_edges_ownedBy0, q_g_uprights_ownedBy0, q_g_all_ownedBy0, q_g_leftmost_ownedBy0, q_g_rightmost_ownedBy0, q_g_rimEdges_ownedBy0, q_g_hedges_ownedBy0, q_g_dug_ownedBy0, q_g_ownedBy0_ownedBy0, q_g_ownedBy1_ownedBy0, q_g_turn_ownedBy0, q_g_made_ownedBy0, q_g_seed_ownedBy0, q_g_width_ownedBy1, q_g_height_ownedBy1, q_g_fields_ownedBy1, q_g_edges_ownedBy1, q_g_uprights_ownedBy1, q_g_all_ownedBy1, q_g_leftmost_ownedBy1, q_g_rightmost_ownedBy1, q_g_rimEdges_ownedBy1, q_g_hedges_ownedBy1, q_g_dug_ownedBy1, q_g_ownedBy0_ownedBy1, q_g_ownedBy1_ownedBy1, q_g_turn_ownedBy1, q_g_made_ownedBy1, q_g_seed_ownedBy1, q_g_width_turn, q_g_height_turn, q_g_fields_turn, q_g_edges_turn, q_g_uprights_turn, q_g_all_turn, q_g_leftmost_turn, q_g_rightmost_turn, q_g_rimEdges_turn, q_g_hedges_turn, q_g_dug_turn, q_g_ownedBy0_turn, q_g_ownedBy1_turn, q_g_turn_turn, q_g_made_turn, q_g_seed_turn, q_g_width_made, q_g_height_made, q_g_fields_made, q_g_edges_made, q_g_uprights_made, q_g_all_made, q_g_leftmost_made, q_g_rightmost_made, q_g_rimEdges_made, q_g_hedges_made, q_g_dug_made, q_g_ownedBy0_made, q_g_ownedBy1_made, q_g_turn_made, q_g_made_made, q_g_seed_made]
    exact hg
  · simp only [q_g_width_hedges, q_g_height_hedges, q_g_fields_hedges, q_g_edges_hedges, q_g_uprights_hedges, q_g_all_hedges, q_g_leftmost_hedges, q_g_rightmost_hedges, q_g_rimEdges_hedges, q_g_hedges_hedges, q_g_dug_hedges, q_g_ownedBy0_hedges, q_g_ownedBy1_hedges, q_g_turn_hedges, q_g_made_hedges, q_g_seed_hedges, q_g_width_dug, q_g_height_dug, q_g_fields_dug, q_g_edges_dug, q_g_uprights_dug, q_g_all_dug, q_g_leftmost_dug, q_g_rightmost_dug, q_g_rimEdges_dug, q_g_hedges_dug, q_g_dug_dug, q_g_ownedBy0_dug, q_g_ownedBy1_dug, q_g_turn_dug, q_g_made_dug, q_g_seed_dug, q_g_width_ownedBy0, q_g_height_ownedBy0, q_g_fields_ownedBy0, q_g_edges_ownedBy0, q_g_uprights_ownedBy0, q_g_all_ownedBy0, q_g_leftmost_ownedBy0, q_g_rightmost_ownedBy0, q_g_rimEdges_ownedBy0, q_g_hedges_ownedBy0, q_g_dug_ownedBy0, q_g_ownedBy0_ownedBy0, q_g_ownedBy1_ownedBy0, q_g_turn_ownedBy0, q_g_made_ownedBy0, q_g_seed_ownedBy0, q_g_width_ownedBy1, q_g_height_ownedBy1, q_g_fields_ownedBy1, q_g_edges_ownedBy1, q_g_uprights_ownedBy1, q_g_all_ownedBy1, q_g_leftmost_ownedBy1, q_g_rightmost_ownedBy1, q_g_rimEdges_ownedBy1, q_g_hedges_ownedBy1, q_g_dug_ownedBy1, q_g_ownedBy0_ownedBy1, q_g_ownedBy1_ownedBy1, q_g_turn_ownedBy1, q_g_made_ownedBy1, q_g_seed_ownedBy1, q_g_width_turn, q_g_height_turn, q_g_fields_turn, q_g_edges_turn, q_g_uprights_turn, q_g_all_turn, q_g_leftmost_turn, q_g_rightmost_turn, q_g_rimEdges_turn, q_g_hedges_turn, q_g_dug_turn, q_g_ownedBy0_turn, q_g_ownedBy1_turn, q_g_turn_turn, q_g_made_turn, q_g_seed_turn, q_g_width_made, q_g_height_made, q_g_fields_made, q_g_edges_made, q_g_uprights_made, q_g_all_made, q_g_leftmost_made, q_g_rightmost_made, q_g_rimEdges_made, q_g_hedges_made, q_g_dug_made, q_g_ownedBy0_made, q_g_ownedBy1_made, q_g_turn_made, q_g_made_made, q_g_seed_made]
    intro e he; exact bl_0 e
  · simp only [q_g_width_hedges, q_g_height_hedges, q_g_fields_hedges, q_g_edges_hedges, q_g_uprights_hedges, q_g_all_hedges, q_g_leftmost_hedges, q_g_rightmost_hedges, q_g_rimEdges_hedges, q_g_hedges_hedges, q_g_dug_hedges, q_g_ownedBy0_hedges, q_g_ownedBy1_hedges, q_g_turn_hedges, q_g_made_hedges, q_g_seed_hedges, q_g_width_dug, q_g_height_dug, q_g_fields_dug, q_g_edges_dug, q_g_uprights_dug, q_g_all_dug, q_g_leftmost_dug, q_g_rightmost_dug, q_g_rimEdges_dug, q_g_hedges_dug, q_g_dug_dug, q_g_ownedBy0_dug, q_g_ownedBy1_dug, q_g_turn_dug, q_g_made_dug, q_g_seed_dug, q_g_width_ownedBy0, q_g_height_ownedBy0, q_g_fields_ownedBy0, q_g_edges_ownedBy0, q_g_uprights_ownedBy0, q_g_all_ownedBy0, q_g_leftmost_ownedBy0, q_g_rightmost_ownedBy0, q_g_rimEdges_ownedBy0, q_g_hedges_ownedBy0, q_g_dug_ownedBy0, q_g_ownedBy0_ownedBy0, q_g_ownedBy1_ownedBy0, q_g_turn_ownedBy0, q_g_made_ownedBy0, q_g_seed_ownedBy0, q_g_width_ownedBy1, q_g_height_ownedBy1, q_g_fields_ownedBy1, q_g_edges_ownedBy1, q_g_uprights_ownedBy1, q_g_all_ownedBy1, q_g_leftmost_ownedBy1, q_g_rightmost_ownedBy1, q_g_rimEdges_ownedBy1, q_g_hedges_ownedBy1, q_g_dug_ownedBy1, q_g_ownedBy0_ownedBy1, q_g_ownedBy1_ownedBy1, q_g_turn_ownedBy1, q_g_made_ownedBy1, q_g_seed_ownedBy1, q_g_width_turn, q_g_height_turn, q_g_fields_turn, q_g_edges_turn, q_g_uprights_turn, q_g_all_turn, q_g_leftmost_turn, q_g_rightmost_turn, q_g_rimEdges_turn, q_g_hedges_turn, q_g_dug_turn, q_g_ownedBy0_turn, q_g_ownedBy1_turn, q_g_turn_turn, q_g_made_turn, q_g_seed_turn, q_g_width_made, q_g_height_made, q_g_fields_made, q_g_edges_made, q_g_uprights_made, q_g_all_made, q_g_leftmost_made, q_g_rightmost_made, q_g_rimEdges_made, q_g_hedges_made, q_g_dug_made, q_g_ownedBy0_made, q_g_ownedBy1_made, q_g_turn_made, q_g_made_made, q_g_seed_made]
    intro e he; exact bt_0 e
  · simp only [q_g_width_hedges, q_g_height_hedges, q_g_fields_hedges, q_g_edges_hedges, q_g_uprights_hedges, q_g_all_hedges, q_g_leftmost_hedges, q_g_rightmost_hedges, q_g_rimEdges_hedges, q_g_hedges_hedges, q_g_dug_hedges, q_g_ownedBy0_hedges, q_g_ownedBy1_hedges, q_g_turn_hedges, q_g_made_hedges, q_g_seed_hedges, q_g_width_dug, q_g_height_dug, q_g_fields_dug, q_g_edges_dug, q_g_uprights_dug, q_g_all_dug, q_g_leftmost_dug, q_g_rightmost_dug, q_g_rimEdges_dug, q_g_hedges_dug, q_g_dug_dug, q_g_ownedBy0_dug, q_g_ownedBy1_dug, q_g_turn_dug, q_g_made_dug, q_g_seed_dug, q_g_width_ownedBy0, q_g_height_ownedBy0, q_g_fields_ownedBy0, q_g_edges_ownedBy0, q_g_uprights_ownedBy0, q_g_all_ownedBy0, q_g_leftmost_ownedBy0, q_g_rightmost_ownedBy0, q_g_rimEdges_ownedBy0, q_g_hedges_ownedBy0, q_g_dug_ownedBy0, q_g_ownedBy0_ownedBy0, q_g_ownedBy1_ownedBy0, q_g_turn_ownedBy0, q_g_made_ownedBy0, q_g_seed_ownedBy0, q_g_width_ownedBy1, q_g_height_ownedBy1, q_g_fields_ownedBy1, q_g_edges_ownedBy1, q_g_uprights_ownedBy1, q_g_all_ownedBy1, q_g_leftmost_ownedBy1, q_g_rightmost_ownedBy1, q_g_rimEdges_ownedBy1, q_g_hedges_ownedBy1, q_g_dug_ownedBy1, q_g_ownedBy0_ownedBy1, q_g_ownedBy1_ownedBy1, q_g_turn_ownedBy1, q_g_made_ownedBy1, q_g_seed_ownedBy1, q_g_width_turn, q_g_height_turn, q_g_fields_turn, q_g_edges_turn, q_g_uprights_turn, q_g_all_turn, q_g_leftmost_turn, q_g_rightmost_turn, q_g_rimEdges_turn, q_g_hedges_turn, q_g_dug_turn, q_g_ownedBy0_turn, q_g_ownedBy1_turn, q_g_turn_turn, q_g_made_turn, q_g_seed_turn, q_g_width_made, q_g_height_made, q_g_fields_made, q_g_edges_made, q_g_uprights_made, q_g_all_made, q_g_leftmost_made, q_g_rightmost_made, q_g_rimEdges_made, q_g_hedges_made, q_g_dug_made, q_g_ownedBy0_made, q_g_ownedBy1_made, q_g_turn_made, q_g_made_made, q_g_seed_made]
    intro e he; exact bt_0 e
  · simp only [q_g_width_hedges, q_g_height_hedges, q_g_fields_hedges, q_g_edges_hedges, q_g_uprights_hedges, q_g_all_hedges, q_g_leftmost_hedges, q_g_rightmost_hedges, q_g_rimEdges_hedges, q_g_hedges_hedges, q_g_dug_hedges, q_g_ownedBy0_hedges, q_g_ownedBy1_hedges, q_g_turn_hedges, q_g_made_hedges, q_g_seed_hedges, q_g_width_dug, q_g_height_dug, q_g_fields_dug, q_g_edges_dug, q_g_uprights_dug, q_g_all_dug, q_g_leftmost_dug, q_g_rightmost_dug, q_g_rimEdges_dug, q_g_hedges_dug, q_g_dug_dug, q_g_ownedBy0_dug, q_g_ownedBy1_dug, q_g_turn_dug, q_g_made_dug, q_g_seed_dug, q_g_width_ownedBy0, q_g_height_ownedBy0, q_g_fields_ownedBy0, q_g_edges_ownedBy0, q_g_uprights_ownedBy0, q_g_all_ownedBy0, q_g_leftmost_ownedBy0, q_g_rightmost_ownedBy0, q_g_rimEdges_ownedBy0, q_g_hedges_ownedBy0, q_g_dug_ownedBy0, q_g_ownedBy0_ownedBy0, q_g_ownedBy1_ownedBy0, q_g_turn_ownedBy0, q_g_made_ownedBy0, q_g_seed_ownedBy0, q_g_width_ownedBy1, q_g_height_ownedBy1, q_g_fields_ownedBy1, q_g_edges_ownedBy1, q_g_uprights_ownedBy1, q_g_all_ownedBy1, q_g_leftmost_ownedBy1, q_g_rightmost_ownedBy1, q_g_rimEdges_ownedBy1, q_g_hedges_ownedBy1, q_g_dug_ownedBy1, q_g_ownedBy0_ownedBy1, q_g_ownedBy1_ownedBy1, q_g_turn_ownedBy1, q_g_made_ownedBy1, q_g_seed_ownedBy1, q_g_width_turn, q_g_height_turn, q_g_fields_turn, q_g_edges_turn, q_g_uprights_turn, q_g_all_turn, q_g_leftmost_turn, q_g_rightmost_turn, q_g_rimEdges_turn, q_g_hedges_turn, q_g_dug_turn, q_g_ownedBy0_turn, q_g_ownedBy1_turn, q_g_turn_turn, q_g_made_turn, q_g_seed_turn, q_g_width_made, q_g_height_made, q_g_fields_made, q_g_edges_made, q_g_uprights_made, q_g_all_made, q_g_leftmost_made, q_g_rightmost_made, q_g_rimEdges_made, q_g_hedges_made, q_g_dug_made, q_g_ownedBy0_made, q_g_ownedBy1_made, q_g_turn_made, q_g_made_made, q_g_seed_made]
    intro e he; exact bt_0 e
  · simp only [q_g_width_hedges, q_g_height_hedges, q_g_fields_hedges, q_g_edges_hedges, q_g_uprights_hedges, q_g_all_hedges, q_g_leftmost_hedges, q_g_rightmost_hedges, q_g_rimEdges_hedges, q_g_hedges_hedges, q_g_dug_hedges, q_g_ownedBy0_hedges, q_g_ownedBy1_hedges, q_g_turn_hedges, q_g_made_hedges, q_g_seed_hedges, q_g_width_dug, q_g_height_dug, q_g_fields_dug, q_g_edges_dug, q_g_uprights_dug, q_g_all_dug, q_g_leftmost_dug, q_g_rightmost_dug, q_g_rimEdges_dug, q_g_hedges_dug, q_g_dug_dug, q_g_ownedBy0_dug, q_g_ownedBy1_dug, q_g_turn_dug, q_g_made_dug, q_g_seed_dug, q_g_width_ownedBy0, q_g_height_ownedBy0, q_g_fields_ownedBy0, q_g_edges_ownedBy0, q_g_uprights_ownedBy0, q_g_all_ownedBy0, q_g_leftmost_ownedBy0, q_g_rightmost_ownedBy0, q_g_rimEdges_ownedBy0, q_g_hedges_ownedBy0, q_g_dug_ownedBy0, q_g_ownedBy0_ownedBy0, q_g_ownedBy1_ownedBy0, q_g_turn_ownedBy0, q_g_made_ownedBy0, q_g_seed_ownedBy0, q_g_width_ownedBy1, q_g_height_ownedBy1, q_g_fields_ownedBy1, q_g_edges_ownedBy1, q_g_uprights_ownedBy1, q_g_all_ownedBy1, q_g_leftmost_ownedBy1, q_g_rightmost_ownedBy1, q_g_rimEdges_ownedBy1, q_g_hedges_ownedBy1, q_g_dug_ownedBy1, q_g_ownedBy0_ownedBy1, q_g_ownedBy1_ownedBy1, q_g_turn_ownedBy1, q_g_made_ownedBy1, q_g_seed_ownedBy1, q_g_width_turn, q_g_height_turn, q_g_fields_turn, q_g_edges_turn, q_g_uprights_turn, q_g_all_turn, q_g_leftmost_turn, q_g_rightmost_turn, q_g_rimEdges_turn, q_g_hedges_turn, q_g_dug_turn, q_g_ownedBy0_turn, q_g_ownedBy1_turn, q_g_turn_turn, q_g_made_turn, q_g_seed_turn, q_g_width_made, q_g_height_made, q_g_fields_made, q_g_edges_made, q_g_uprights_made, q_g_all_made, q_g_leftmost_made, q_g_rightmost_made, q_g_rimEdges_made, q_g_hedges_made, q_g_dug_made, q_g_ownedBy0_made, q_g_ownedBy1_made, q_g_turn_made, q_g_made_made, q_g_seed_made]
  · simp only [q_g_width_hedges, q_g_height_hedges, q_g_fields_hedges, q_g_edges_hedges, q_g_uprights_hedges, q_g_all_hedges, q_g_leftmost_hedges, q_g_rightmost_hedges, q_g_rimEdges_hedges, q_g_hedges_hedges, q_g_dug_hedges, q_g_ownedBy0_hedges, q_g_ownedBy1_hedges, q_g_turn_hedges, q_g_made_hedges, q_g_seed_hedges, q_g_width_dug, q_g_height_dug, q_g_fields_dug, q_g_edges_dug, q_g_uprights_dug, q_g_all_dug, q_g_leftmost_dug, q_g_rightmost_dug, q_g_rimEdges_dug, q_g_hedges_dug, q_g_dug_dug, q_g_ownedBy0_dug, q_g_ownedBy1_dug, q_g_turn_dug, q_g_made_dug, q_g_seed_dug, q_g_width_ownedBy0, q_g_height_ownedBy0, q_g_fields_ownedBy0, q_g_edges_ownedBy0, q_g_uprights_ownedBy0, q_g_all_ownedBy0, q_g_leftmost_ownedBy0, q_g_rightmost_ownedBy0, q_g_rimEdges_ownedBy0, q_g_hedges_ownedBy0, q_g_dug_ownedBy0, q_g_ownedBy0_ownedBy0, q_g_ownedBy1_ownedBy0, q_g_turn_ownedBy0, q_g_made_ownedBy0, q_g_seed_ownedBy0, q_g_width_ownedBy1, q_g_height_ownedBy1, q_g_fields_ownedBy1, q_g_edges_ownedBy1, q_g_uprights_ownedBy1, q_g_all_ownedBy1, q_g_leftmost_ownedBy1, q_g_rightmost_ownedBy1, q_g_rimEdges_ownedBy1, q_g_hedges_ownedBy1, q_g_dug_ownedBy1, q_g_ownedBy0_ownedBy1, q_g_ownedBy1_ownedBy1, q_g_turn_ownedBy1, q_g_made_ownedBy1, q_g_seed_ownedBy1, q_g_width_turn, q_g_height_turn, q_g_fields_turn, q_g_edges_turn, q_g_uprights_turn, q_g_all_turn, q_g_leftmost_turn, q_g_rightmost_turn, q_g_rimEdges_turn, q_g_hedges_turn, q_g_dug_turn, q_g_ownedBy0_turn, q_g_ownedBy1_turn, q_g_turn_turn, q_g_made_turn, q_g_seed_turn, q_g_width_made, q_g_height_made, q_g_fields_made, q_g_edges_made, q_g_uprights_made, q_g_all_made, q_g_leftmost_made, q_g_rightmost_made, q_g_rimEdges_made, q_g_hedges_made, q_g_dug_made, q_g_ownedBy0_made, q_g_ownedBy1_made, q_g_turn_made, q_g_made_made, q_g_seed_made]
  · simp only [q_g_width_hedges, q_g_height_hedges, q_g_fields_hedges, q_g_edges_hedges, q_g_uprights_hedges, q_g_all_hedges, q_g_leftmost_hedges, q_g_rightmost_hedges, q_g_rimEdges_hedges, q_g_hedges_hedges, q_g_dug_hedges, q_g_ownedBy0_hedges, q_g_ownedBy1_hedges, q_g_turn_hedges, q_g_made_hedges, q_g_seed_hedges, q_g_width_dug, q_g_height_dug, q_g_fields_dug, q_g_edges_dug, q_g_uprights_dug, q_g_all_dug, q_g_leftmost_dug, q_g_rightmost_dug, q_g_rimEdges_dug, q_g_hedges_dug, q_g_dug_dug, q_g_ownedBy0_dug, q_g_ownedBy1_dug, q_g_turn_dug, q_g_made_dug, q_g_seed_dug, q_g_width_ownedBy0, q_g_height_ownedBy0, q_g_fields_ownedBy0, q_g_edges_ownedBy0, q_g_uprights_ownedBy0, q_g_all_ownedBy0, q_g_leftmost_ownedBy0, q_g_rightmost_ownedBy0, q_g_rimEdges_ownedBy0, q_g_hedges_ownedBy0, q_g_dug_ownedBy0, q_g_ownedBy0_ownedBy0, q_g_ownedBy1_ownedBy0, q_g_turn_ownedBy0, q_g_made_ownedBy0, q_g_seed_ownedBy0, q_g_width_ownedBy1, q_g_height_ownedBy1, q_g_fields_ownedBy1, q_g_edges_ownedBy1, q_g_uprights_ownedBy1, q_g_all_ownedBy1, q_g_leftmost_ownedBy1, q_g_rightmost_ownedBy1, q_g_rimEdges_ownedBy1, q_g_hedges_ownedBy1, q_g_dug_ownedBy1, q_g_ownedBy0_ownedBy1, q_g_ownedBy1_ownedBy1, q_g_turn_ownedBy1, q_g_made_ownedBy1, q_g_seed_ownedBy1, q_g_width_turn, q_g_height_turn, q_g_fields_turn, q_g_edges_turn, q_g_uprights_turn, q_g_all_turn, q_g_leftmost_turn, q_g_rightmost_turn, q_g_rimEdges_turn, q_g_hedges_turn, q_g_dug_turn, q_g_ownedBy0_turn, q_g_ownedBy1_turn, q_g_turn_turn, q_g_made_turn, q_g_seed_turn, q_g_width_made, q_g_height_made, q_g_fields_made, q_g_edges_made, q_g_uprights_made, q_g_all_made, q_g_leftmost_made, q_g_rightmost_made, q_g_rimEdges_made, q_g_hedges_made, q_g_dug_made, q_g_ownedBy0_made, q_g_ownedBy1_made, q_g_turn_made, q_g_made_made, q_g_seed_made]
theorem cn_os0 {b : BD} (hz : SZ (bW b) (bH b)) (h : cn (os b) 64 = 0) (s : Nat) : os b s = false := by
  cases ho : os b s with
  | false => rfl
  | true => have h1 := (os_lt hz ho).1; have := cn_lt (P := os b) (show s < 64 by omega) ho; omega
theorem chance_ok {g : GG} {σ : MM} {b : BD} {t : Nat} {mv0 sd : Int32} (h : GRb g σ b t mv0 sd) : (cn (os b) 64 = 0 ∧ f_X0_drawnSlot g (f_X0_openSlots g) = some (-1, g)) ∨ ∃ (s k : Nat) (sd' : Int32), 0 < cn (os b) 64 ∧ os b s = true ∧ f_X0_drawnSlot g (f_X0_openSlots g) = some (nI s, g_seed' g sd') ∧ f_X4_draw σ (nI (cn (os b) 64)) = some (nI k, m_seed' σ sd') ∧ f_X4_ith (m_seed' σ sd') (nI k) = some (nI (mv s)) := by
  obtain ⟨hb, hg, hm, hgs, hms⟩ := h
  have hz : SZ (bW b) (bH b) := ⟨hb.1, hb.2.1⟩
  have hop := fun i hi => open_bits hb hg (i := i) hi
  have hcl := cn_le (os b) 64
  rcases Nat.eq_zero_or_pos (cn (os b) 64) with h0 | hpos
  · left
    refine ⟨h0, ?_⟩
    unfold f_X0_drawnSlot
    rw [if_pos ((lg0_fo hop).mpr (fo_zero (fun i _ => cn_os0 hz h0 i)))]
  · right
    obtain ⟨v, hv, e16⟩ := iush16 (sd * 1103515245 + 12345)
    have hl : v % cn (os b) 64 < cn (os b) 64 := Nat.mod_lt v hpos
    obtain ⟨s, q1, q2, q3⟩ := cn_nth (P := os b) 64 hl
    have h56 := (os_lt hz q2).1
    refine ⟨s, v % cn (os b) 64, sd * 1103515245 + 12345, hpos, q2, ?_, ?_, ?_⟩
    · unfold f_X0_drawnSlot f_X0_drawBelow
      rw [if_neg (fun hh => by have := fo_none ((lg0_fo hop).mp hh) s q1; rw [q2] at this; cases this), cnt64, cn_bl hb hg]
      simp only [lt_e, q_g_seed_seed]
      rw [hgs.2.2.2, if_neg (nI_nle hpos (by omega)), gd_t (show nz (nI (cn (os b) 64)) = true from decide_eq_true (nI_ne0 hpos (by omega))), ob2_s, e16, show irem (nI v) (nI (cn (os b) 64)) = nI (v % cn (os b) 64) from pk_rem (by omega) hpos (by omega), slotAt_ok (s := s) (by have := cn_os hz; have := cn_le (os b) 56; omega) q1 (by rw [hop s q1]; exact q2) (by rw [cn_cong s (fun i hi => hop i (show i < 64 by omega))]; exact q3), ob_s]
    · unfold f_X4_draw
      simp only [lt_e, q_m_seed_seed]
      rw [hms.2.2.2, gd_t (show nz (nI (cn (os b) 64)) = true from decide_eq_true (nI_ne0 hpos (by omega))), e16, show irem (nI v) (nI (cn (os b) 64)) = nI (v % cn (os b) 64) from pk_rem (by omega) hpos (by omega)]
    · have hm2 : MB (m_seed' σ (sd * 1103515245 + 12345)) b := by
        unfold MB
        rw [q_m_w_seed, q_m_h_seed, q_m_hedge_seed, q_m_dug_seed, q_m_owner_seed]
        exact hm
      exact ith_ok hz hm2 (mv_lt h56) (by rw [pm_mv hz]; exact q2) (by rw [cn_mv hz]; exact q3)
theorem draws_run {x0 : XX} {σ0 : MM} (k82 : MM → Option (Int32 × MM)) : ∀ (k N1 N2 i : Nat) (g : GG) (σ : MM) (b : BD) (t : Nat) (mv0 sd : Int32), i + k = 56 → cn (os b) 64 ≤ k → k < N1 → k < N2 → GRb g σ b t mv0 sd → fz σ0 σ →
    ∃ (g' : GG) (σ' : MM), lp (fun _ _ => none) f_X3_endByDraws_L2_b N1 (nI i) (x_thought' x0 g) = some (x_thought' x0 g') ∧ lp (fun _ _ => none) (f_X4_games_L53_b k82) N2 (nI (cn (os b) 64)) σ = k82 σ' ∧ GRel g' σ' ∧ fz σ0 σ' := by
  intro k
  induction k with
  | zero =>
    intro N1 N2 i g σ b t mv0 sd hi hc hN1 hN2 hG hF
    obtain ⟨m1, rfl⟩ : ∃ m, N1 = m + 1 := ⟨N1 - 1, by omega⟩
    obtain ⟨m2, rfl⟩ : ∃ m, N2 = m + 1 := ⟨N2 - 1, by omega⟩
    obtain rfl : i = 56 := by omega
    refine ⟨g, σ, ?_, ?_, GRb_GRel hG, hF⟩
    · rw [lp_s]
      unfold f_X3_endByDraws_L2_b
      rw [if_pos (show (56 : Int32) ≤ nI 56 by decide +kernel)]
    · rw [lp_s]
      unfold f_X4_games_L53_b
      rw [show cn (os b) 64 = 0 by omega, if_pos (show nI 0 ≤ 0 by decide +kernel)]
  | succ k ih =>
    intro N1 N2 i g σ b t mv0 sd hi hc hN1 hN2 hG hF
    obtain ⟨m1, rfl⟩ : ∃ m, N1 = m + 1 := ⟨N1 - 1, by omega⟩
    obtain ⟨m2, rfl⟩ : ∃ m, N2 = m + 1 := ⟨N2 - 1, by omega⟩
    have hcl := cn_le (os b) 64
    rw [lp_s, lp_s]
    unfold f_X3_endByDraws_L2_b f_X4_games_L53_b
    rw [if_neg (show ¬ (56 : Int32) ≤ nI i from nI_ge (b := 56) (by omega) (by omega)), q_x_thought_thought]
    rcases chance_ok hG with ⟨h0, h1⟩ | ⟨s, q, sd', hpos, ho, h1, h2, h3⟩
    · rw [h1, ob2_s, lt_e, if_pos rfl, h0, if_pos (show nI 0 ≤ 0 by decide +kernel), q2_x_thought]
      exact ⟨g, σ, rfl, rfl, GRb_GRel hG, hF⟩
    · obtain ⟨s1, s2⟩ := GRb_seed hG sd'
      obtain ⟨g', σ', z1, z2, z3, z4, z5⟩ := GRb_make s1 ho
      have hless := os_less (t := t) hG.1 ho
      have h56 := (os_lt ⟨hG.1.1, hG.1.2.1⟩ ho).1
      rw [h1, ob2_s, lt_e, if_neg (nI_ne1 (by omega)), q2_x_thought, q_x_thought_thought, z1, ob_s, lt_e, lt_e, ← nI_succ, q2_x_thought, if_neg (nI_nle hpos (by omega)), h2, ob2_s, h3, ob_s, z2, ob2_s, howMany_ok ⟨z3.1.1, z3.1.2.1⟩ z3.2.2.1, ob_s]
      exact ih m1 m2 (i + 1) g' σ' (mk b t s) (1 - t) (mv0 + 1) sd' (by omega) (by omega) (by omega) (by omega) z3 (fz_t (fz_t hF s2) z4)
theorem games_run {x0 : XX} {σ0 : MM} {n : Nat} (hn : n ≤ 20) (k77 : Int32 → XX → Option (Int32 × XX)) (k99 : Int32 → MM → Option (Int32 × MM)) : ∀ (k N1 N2 i : Nat) (w : Int32) (g : GG) (σ : MM), i + k = n → k < N1 → k < N2 → GRel g σ → fz σ0 σ →
    ∃ (w' : Int32) (g' : GG) (σ' : MM), lp (fun _ _ _ => none) (f_X3_games_L33_b (nI n) k77) N1 w (nI i) (x_thought' x0 g) = k77 w' (x_thought' x0 g') ∧ lp (fun _ _ _ => none) (f_X4_games_L29_b (nI n) k99) N2 w (nI i) σ = k99 w' σ' ∧ GRel g' σ' ∧ fz σ0 σ' := by
  intro k
  induction k with
  | zero =>
    intro N1 N2 i w g σ hi hN1 hN2 hG hF
    obtain ⟨m1, rfl⟩ : ∃ m, N1 = m + 1 := ⟨N1 - 1, by omega⟩
    obtain ⟨m2, rfl⟩ : ∃ m, N2 = m + 1 := ⟨N2 - 1, by omega⟩
    rw [lp_s, lp_s]
    unfold f_X3_games_L33_b f_X4_games_L29_b
    rw [if_pos (nI_le (by omega) (by omega)), if_pos (nI_le (by omega) (by omega))]
    exact ⟨w, g, σ, rfl, rfl, hG, hF⟩
  | succ k ih =>
    intro N1 N2 i w g σ hi hN1 hN2 hG hF
    obtain ⟨m1, rfl⟩ : ∃ m, N1 = m + 1 := ⟨N1 - 1, by omega⟩
    obtain ⟨m2, rfl⟩ : ∃ m, N2 = m + 1 := ⟨N2 - 1, by omega⟩
    obtain ⟨b, t, mv0, sd, hb, hg, hm, hgs, hms⟩ := hG
    have hz : SZ (bW b) (bH b) := ⟨hb.1, hb.2.1⟩
    obtain ⟨g1, c1, c2, c3, c4, c5⟩ := clear_ok hg.1
    obtain ⟨σ1, d1, d2, d3, d4, d5, d6⟩ := sized_fz (W := bW b) (H := bH b) σ
    have hG1 : GRb g1 σ1 (b0 (bW b) (bH b)) 0 0 sd := ⟨BOK_b0 hz, c2, d2, ⟨by omega, c3, c4, c5.trans hgs.2.2.2⟩, ⟨by omega, d3, d4, d5.trans hms.2.2.2⟩⟩
    have hle : cn (os (b0 (bW b) (bH b))) 64 ≤ 56 := by rw [cn_os (b := b0 (bW b) (bH b)) hz]; exact cn_le _ _
    obtain ⟨g2, σ2, e1, e2, ⟨b2, t2, mv2, sd2, hG2⟩, e4⟩ := draws_run (x0 := x0) (σ0 := σ0) (fun σ16 => ob (f_X4_leadOf σ16 0) (fun x17 => if x17 ≤ 0 then lt (nI i + 1) (fun x18 => lp (fun _ _ _ => none) (f_X4_games_L29_b (nI n) k99) m2 w x18 σ16) else lt (w + 1) (fun x19 => lt (nI i + 1) (fun x20 => lp (fun _ _ _ => none) (f_X4_games_L29_b (nI n) k99) m2 x19 x20 σ16)))) 56 FU FU 0 g1 σ1 _ _ _ _ rfl hle (by unfold FU; omega) (by unfold FU; omega) hG1 (fz_t hF d6)
    have e1' : f_X3_endByDraws (x_thought' x0 g1) = some (x_thought' x0 g2) := by
      unfold f_X3_endByDraws f_X3_endByDraws_L2
      exact e1
    rw [lp_s, lp_s, f_X3_games_L33_b, f_X4_games_L29_b, if_neg (nI_ge (by omega) (by omega)), if_neg (nI_ge (by omega) (by omega)), q_x_thought_thought, c1, ob_s, lt_e, q2_x_thought, e1', ob_s, q_x_thought_thought, show f_X0_leadOf g2 0 = some (led b2 0) from leadX_ok hG2.1 hG2.2.1 (p := 0) (by omega), ob_s, hm.1, hm.2.1, d1, ob2_s, howMany_ok (b := b0 (bW b) (bH b)) hz d2, ob_s]
    unfold f_X4_games_L53
    rw [e2, show f_X4_leadOf σ2 0 = some (led b2 0) from leadM_ok hG2.1 hG2.2.2.1 (p := 0) (by omega), ob_s]
    by_cases c : led b2 0 ≤ 0
    · rw [if_pos c, if_pos c, show f_X3_truth 0 = 0 by decide +kernel, Int32.add_zero]
      simp only [lt_e, ← nI_succ]
      exact ih m1 m2 (i + 1) w g2 σ2 (by omega) (by omega) (by omega) (GRb_GRel hG2) e4
    · rw [if_neg c, if_neg c, show f_X3_truth 1 = 1 by decide +kernel]
      simp only [lt_e, ← nI_succ]
      exact ih m1 m2 (i + 1) (w + 1) g2 σ2 (by omega) (by omega) (by omega) (GRb_GRel hG2) e4
theorem B_games {x : XX} {σ : MM} (hR : Rel x σ) (a1 : Int32) : ∃ (r : Int32) (x' : XX) (σ' : MM), f_X3_games x a1 = some (r, x') ∧ f_X4_games σ a1 = some (r, σ') ∧ Rel x' σ' := by
  have hno := R_no' hR (-2) (Or.inl rfl)
  unfold f_X3_games f_X4_games
  rcases n1_iff (n := 20) (by omega) a1 with ⟨q1, q2⟩ | ⟨n, hn1, hn, rfl, q1, q2, q3⟩
  · rw [show f_X4_within a1 1 20 = false from q1, if_neg Bool.false_ne_true]
    rcases q2 with q2 | ⟨q2, q3⟩
    · rw [if_pos q2]; exact hno
    · rw [if_neg q2, if_neg (show ¬ a1 ≤ 20 from q3)]; exact hno
  rw [show f_X4_within (nI n) 1 20 = true from q1, if_neg q2, if_pos (show nI n ≤ 20 from q3), if_pos rfl]
  obtain ⟨b, t, mv0, sd, h⟩ := hR.1
  obtain ⟨K, k1, k2⟩ := keep_ahead_ok σ
  have h2 := GRb_ah (h : GRb (x_now x) σ b t mv0 sd) K
  rw [become_eq, ob_s, lt_e, k1, ob_s]
  unfold f_X3_games_L33 f_X4_games_L29
  obtain ⟨w, g', σ2, z1, z2, ⟨b2, t2, mv2, sd2, hG2⟩, z4⟩ := games_run (x0 := x) (σ0 := m_ahead' σ K) hn (fun x17 σ18 => lt (x_now' σ18 (g_seed' (x_now σ18) (g_seed (x_thought σ18)))) (fun σ19 => some (x17, σ19))) (fun x22 σ23 => lt (m_seed σ23) (fun x24 => ob (f_X4_again_ahead σ23) (fun σ25 => lt (m_seed' σ25 x24) (fun σ26 => some (x22, σ26))))) n FU FU 0 (nI 0) (x_now x) (m_ahead' σ K) (by omega) (by unfold FU; omega) (by unfold FU; omega) (GRb_GRel h2) (fz_r _)
  rw [show (0 : Int32) = nI 0 from rfl, z1, z2]
  obtain ⟨σ3, a1, a3, a4⟩ := again_ahead_ok σ2
  have hR3 := Rel_back hR k2 z4 a3 a4
  obtain ⟨b3, t3, mv3, sd3, h3⟩ := hR3.1
  obtain ⟨s1, s2⟩ := GRb_seed (h3 : GRb (x_now x) σ3 b3 t3 mv3 sd3) sd2
  rw [lt_e, lt_e, a1, ob_s, lt_e, q_x_thought_thought, q_x_now_thought, hG2.2.2.2.1.2.2.2, hG2.2.2.2.2.2.2.2]
  refine ⟨_, _, _, rfl, rfl, ?_⟩
  have hR4 := Rel_th hR3 g'
  exact Rel_now hR4 (GRb_GRel s1) s2
