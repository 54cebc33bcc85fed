/-! The class's search tells the value, within its bounds -/
def Sp (low high r V : Int) : Prop := (r ≤ low → V ≤ r) ∧ (low < r → r < high → r = V) ∧ (high ≤ r → r ≤ V)
theorem unmake_ok {g : GG} {b : BD} {t s : Nat} {mv0 sd : Int32} {y : Int64} {d o0 o1 : Int32} (hg : GB g (mk b t s)) (hs : GS g (1 - t) (mv0 + 1) sd) (ht : t < 2) (h1 : ∀ e, e < 64 → bl y e = bh b e) (h2 : ∀ f, f < 32 → bt d f = bd b f) (h3 : ∀ f, f < 32 → bt o0 f = decide (bo b f = 0)) (h4 : ∀ f, f < 32 → bt o1 f = decide (bo b f = 1)) : ∃ g', f_X0_unmake g y d o0 o1 = some g' ∧ GB g' b ∧ GS g' t mv0 sd := by
  have hgeo := hg.1
  rw [mk_W, mk_H] at hgeo
  obtain ⟨-, s1, s2, s3⟩ := hs
  unfold f_X0_unmake
  simp only [lt_e]
  refine ⟨_, rfl, ⟨?_, ?_, ?_, ?_, ?_⟩, ht, ?_, ?_, ?_⟩
  · unfold GGeo
    simp only [q_g_width_hedges, q_g_height_hedges, q_g_fields_hedges, q_g_edges_hedges, q_g_uprights_hedges, q_g_all_hedges, q_g_leftmost_hedges, q_g_rightmost_hedges, q_g_rimEdges_hedges, q_g_hedges_hedges, q_g_dug_hedges, q_g_ownedBy0_hedges, q_g_ownedBy1_hedges, q_g_turn_hedges, q_g_made_hedges, q_g_seed_hedges, q_g_width_dug, q_g_height_dug, q_g_fields_dug, q_g_edges_dug, q_g_uprights_dug, q_g_all_dug, q_g_leftmost_dug, q_g_rightmost_dug, q_g_rimEdges_dug, q_g_hedges_dug, q_g_dug_dug, q_g_ownedBy0_dug, q_g_ownedBy1_dug, q_g_turn_dug, q_g_made_dug, q_g_seed_dug, q_g_width_ownedBy0, q_g_height_ownedBy0, q_g_fields_ownedBy0, q_g_edges_ownedBy0, q_g_uprights_ownedBy0, q_g_all_ownedBy0, q_g_leftmost_ownedBy0, q_g_rightmost_ownedBy0, q_g_rimEdges_ownedBy0, q_g_hedges_ownedBy0, q_g_dug_ownedBy0, q_g_ownedBy0_ownedBy0, q_g_ownedBy1_ownedBy0, q_g_turn_ownedBy0, q_g_made_ownedBy0, q_g_seed_ownedBy0, q_g_width_ownedBy1, q_g_height_ownedBy1, q_g_fields_ownedBy1, q_g_edges_ownedBy1, q_g_uprights_ownedBy1, q_g_all_ownedBy1, q_g_leftmost_ownedBy1, q_g_rightmost_ownedBy1, q_g_rimEdges_ownedBy1, q_g_hedges_ownedBy1, q_g_dug_ownedBy1, q_g_ownedBy0_ownedBy1, q_g_ownedBy1_ownedBy1, q_g_turn_ownedBy1, q_g_made_ownedBy1, q_g_seed_ownedBy1, q_g_width_turn, q_g_height_turn, q_g_fields_turn, q_g_edges_turn, q_g_uprights_turn, q_g_all_turn, q_g_leftmost_turn, q_g_rightmost_turn, q_g_rimEdges_turn, q_g_hedges_turn, q_g_dug_turn, q_g_ownedBy0_turn, q_g_ownedBy1_turn, q_g_turn_turn, q_g_made_turn, q_g_seed_turn, q_g_width_made, q_g_height_made, q_g_fields_made, q_g_edges_made, q_g_uprights_made, q_g_all_made, q_g_leftmost_made, q_g_rightmost_made, q_g_rimEdges_made, q_g_hedges_made, q_g_dug_made, q_g_ownedBy0_made, q_g_ownedBy1_made, q_g_turn_made, q_g_made_made, q_g_seed_made]
    exact hgeo
  · simp only [q_g_width_hedges, q_g_height_hedges, q_g_fields_hedges, q_g_edges_hedges, q_g_uprights_hedges, q_g_all_hedges, q_g_leftmost_hedges, q_g_rightmost_hedges, q_g_rimEdges_hedges, q_g_hedges_hedges, q_g_dug_hedges, q_g_ownedBy0_hedges, q_g_ownedBy1_hedges, q_g_turn_hedges, q_g_made_hedges, q_g_seed_hedges, q_g_width_dug, q_g_height_dug, q_g_fields_dug, q_g_edges_dug, q_g_uprights_dug, q_g_all_dug, q_g_leftmost_dug, q_g_rightmost_dug, q_g_rimEdges_dug, q_g_hedges_dug, q_g_dug_dug, q_g_ownedBy0_dug, q_g_ownedBy1_dug, q_g_turn_dug, q_g_made_dug, q_g_seed_dug, q_g_width_ownedBy0, q_g_height_ownedBy0, q_g_fields_ownedBy0, q_g_edges_ownedBy0, q_g_uprights_ownedBy0, q_g_all_ownedBy0, q_g_leftmost_ownedBy0, q_g_rightmost_ownedBy0, q_g_rimEdges_ownedBy0, q_g_hedges_ownedBy0, q_g_dug_ownedBy0, q_g_ownedBy0_ownedBy0, q_g_ownedBy1_ownedBy0, q_g_turn_ownedBy0, q_g_made_ownedBy0, q_g_seed_ownedBy0, q_g_width_ownedBy1, q_g_height_ownedBy1, q_g_fields_ownedBy1, q_g_edges_ownedBy1, q_g_uprights_ownedBy1, q_g_all_ownedBy1, q_g_leftmost_ownedBy1, q_g_rightmost_ownedBy1, q_g_rimEdges_ownedBy1, q_g_hedges_ownedBy1, q_g_dug_ownedBy1, q_g_ownedBy0_ownedBy1, q_g_ownedBy1_ownedBy1, q_g_turn_ownedBy1, q_g_made_ownedBy1, q_g_seed_ownedBy1, q_g_width_turn, q_g_height_turn, q_g_fields_turn, q_g_edges_turn, q_g_uprights_turn, q_g_all_turn, q_g_leftmost_turn, q_g_rightmost_turn, q_g_rimEdges_turn, q_g_hedges_turn, q_g_dug_turn, q_g_ownedBy0_turn, q_g_ownedBy1_turn, q_g_turn_turn, q_g_made_turn, q_g_seed_turn, q_g_width_made, q_g_height_made, q_g_fields_made, q_g_edges_made, q_g_uprights_made, q_g_all_made, q_g_leftmost_made, q_g_rightmost_made, q_g_rimEdges_made, q_g_hedges_made, q_g_dug_made, q_g_ownedBy0_made, q_g_ownedBy1_made, q_g_turn_made, q_g_made_made, q_g_seed_made]; exact h1
  · simp only [q_g_width_hedges, q_g_height_hedges, q_g_fields_hedges, q_g_edges_hedges, q_g_uprights_hedges, q_g_all_hedges, q_g_leftmost_hedges, q_g_rightmost_hedges, q_g_rimEdges_hedges, q_g_hedges_hedges, q_g_dug_hedges, q_g_ownedBy0_hedges, q_g_ownedBy1_hedges, q_g_turn_hedges, q_g_made_hedges, q_g_seed_hedges, q_g_width_dug, q_g_height_dug, q_g_fields_dug, q_g_edges_dug, q_g_uprights_dug, q_g_all_dug, q_g_leftmost_dug, q_g_rightmost_dug, q_g_rimEdges_dug, q_g_hedges_dug, q_g_dug_dug, q_g_ownedBy0_dug, q_g_ownedBy1_dug, q_g_turn_dug, q_g_made_dug, q_g_seed_dug, q_g_width_ownedBy0, q_g_height_ownedBy0, q_g_fields_ownedBy0, q_g_edges_ownedBy0, q_g_uprights_ownedBy0, q_g_all_ownedBy0, q_g_leftmost_ownedBy0, q_g_rightmost_ownedBy0, q_g_rimEdges_ownedBy0, q_g_hedges_ownedBy0, q_g_dug_ownedBy0, q_g_ownedBy0_ownedBy0, q_g_ownedBy1_ownedBy0, q_g_turn_ownedBy0, q_g_made_ownedBy0, q_g_seed_ownedBy0, q_g_width_ownedBy1, q_g_height_ownedBy1, q_g_fields_ownedBy1, q_g_edges_ownedBy1, q_g_uprights_ownedBy1, q_g_all_ownedBy1, q_g_leftmost_ownedBy1, q_g_rightmost_ownedBy1, q_g_rimEdges_ownedBy1, q_g_hedges_ownedBy1, q_g_dug_ownedBy1, q_g_ownedBy0_ownedBy1, q_g_ownedBy1_ownedBy1, q_g_turn_ownedBy1, q_g_made_ownedBy1, q_g_seed_ownedBy1, q_g_width_turn, q_g_height_turn, q_g_fields_turn, q_g_edges_turn, q_g_uprights_turn, q_g_all_turn, q_g_leftmost_turn, q_g_rightmost_turn, q_g_rimEdges_turn, q_g_hedges_turn, q_g_dug_turn, q_g_ownedBy0_turn, q_g_ownedBy1_turn, q_g_turn_turn, q_g_made_turn, q_g_seed_turn, q_g_width_made, q_g_height_made, q_g_fields_made, q_g_edges_made, q_g_uprights_made, q_g_all_made, q_g_leftmost_made, q_g_rightmost_made, q_g_rimEdges_made, q_g_hedges_made, q_g_dug_made, q_g_ownedBy0_made, q_g_ownedBy1_made, q_g_turn_made, q_g_made_made, q_g_seed_made]; exact h2
  · simp only [q_g_width_hedges, q_g_height_hedges, q_g_fields_hedges, q_g_edges_hedges, q_g_uprights_hedges, q_g_all_hedges, q_g_leftmost_hedges, q_g_rightmost_hedges, q_g_rimEdges_hedges, q_g_hedges_hedges, q_g_dug_hedges, q_g_ownedBy0_hedges, q_g_ownedBy1_hedges, q_g_turn_hedges, q_g_made_hedges, q_g_seed_hedges, q_g_width_dug, q_g_height_dug, q_g_fields_dug, q_g_edges_dug, q_g_uprights_dug, q_g_all_dug, q_g_leftmost_dug, q_g_rightmost_dug, q_g_rimEdges_dug, q_g_hedges_dug, q_g_dug_dug, q_g_ownedBy0_dug, q_g_ownedBy1_dug, q_g_turn_dug, q_g_made_dug, q_g_seed_dug, q_g_width_ownedBy0, q_g_height_ownedBy0, q_g_fields_ownedBy0, q_g_edges_ownedBy0, q_g_uprights_ownedBy0, q_g_all_ownedBy0, q_g_leftmost_ownedBy0, q_g_rightmost_ownedBy0, q_g_rimEdges_ownedBy0, q_g_hedges_ownedBy0, q_g_dug_ownedBy0, q_g_ownedBy0_ownedBy0, q_g_ownedBy1_ownedBy0, q_g_turn_ownedBy0, q_g_made_ownedBy0, q_g_seed_ownedBy0, q_g_width_ownedBy1, q_g_height_ownedBy1, q_g_fields_ownedBy1, q_g_edges_ownedBy1, q_g_uprights_ownedBy1, q_g_all_ownedBy1, q_g_leftmost_ownedBy1, q_g_rightmost_ownedBy1, q_g_rimEdges_ownedBy1, q_g_hedges_ownedBy1, q_g_dug_ownedBy1, q_g_ownedBy0_ownedBy1, q_g_ownedBy1_ownedBy1, q_g_turn_ownedBy1, q_g_made_ownedBy1, q_g_seed_ownedBy1, q_g_width_turn, q_g_height_turn, q_g_fields_turn, q_g_edges_turn, q_g_uprights_turn, q_g_all_turn, q_g_leftmost_turn, q_g_rightmost_turn, q_g_rimEdges_turn, q_g_hedges_turn, q_g_dug_turn, q_g_ownedBy0_turn, q_g_ownedBy1_turn, q_g_turn_turn, q_g_made_turn, q_g_seed_turn, q_g_width_made, q_g_height_made, q_g_fields_made, q_g_edges_made, q_g_uprights_made, q_g_all_made, q_g_leftmost_made, q_g_rightmost_made, q_g_rimEdges_made, q_g_hedges_made, q_g_dug_made, q_g_ownedBy0_made, q_g_ownedBy1_made, q_g_turn_made, q_g_made_made, q_g_seed_made]; exact h3
  · simp only [q_g_width_hedges, q_g_height_hedges, q_g_fields_hedges, q_g_edges_hedges, q_g_uprights_hedges, q_g_all_hedges, q_g_leftmost_hedges, q_g_rightmost_hedges, q_g_rimEdges_hedges, q_g_hedges_hedges, q_g_dug_hedges, q_g_ownedBy0_hedges, q_g_ownedBy1_hedges, q_g_turn_hedges, q_g_made_hedges, q_g_seed_hedges, q_g_width_dug, q_g_height_dug, q_g_fields_dug, q_g_edges_dug, q_g_uprights_dug, q_g_all_dug, q_g_leftmost_dug, q_g_rightmost_dug, q_g_rimEdges_dug, q_g_hedges_dug, q_g_dug_dug, q_g_ownedBy0_dug, q_g_ownedBy1_dug, q_g_turn_dug, q_g_made_dug, q_g_seed_dug, q_g_width_ownedBy0, q_g_height_ownedBy0, q_g_fields_ownedBy0, q_g_edges_ownedBy0, q_g_uprights_ownedBy0, q_g_all_ownedBy0, q_g_leftmost_ownedBy0, q_g_rightmost_ownedBy0, q_g_rimEdges_ownedBy0, q_g_hedges_ownedBy0, q_g_dug_ownedBy0, q_g_ownedBy0_ownedBy0, q_g_ownedBy1_ownedBy0, q_g_turn_ownedBy0, q_g_made_ownedBy0, q_g_seed_ownedBy0, q_g_width_ownedBy1, q_g_height_ownedBy1, q_g_fields_ownedBy1, q_g_edges_ownedBy1, q_g_uprights_ownedBy1, q_g_all_ownedBy1, q_g_leftmost_ownedBy1, q_g_rightmost_ownedBy1, q_g_rimEdges_ownedBy1, q_g_hedges_ownedBy1, q_g_dug_ownedBy1, q_g_ownedBy0_ownedBy1, q_g_ownedBy1_ownedBy1, q_g_turn_ownedBy1, q_g_made_ownedBy1, q_g_seed_ownedBy1, q_g_width_turn, q_g_height_turn, q_g_fields_turn, q_g_edges_turn, q_g_uprights_turn, q_g_all_turn, q_g_leftmost_turn, q_g_rightmost_turn, q_g_rimEdges_turn, q_g_hedges_turn, q_g_dug_turn, q_g_ownedBy0_turn, q_g_ownedBy1_turn, q_g_turn_turn, q_g_made_turn, q_g_seed_turn, q_g_width_made, q_g_height_made, q_g_fields_made, q_g_edges_made, q_g_uprights_made, q_g_all_made, q_g_leftmost_made, q_g_rightmost_made, q_g_rimEdges_made, q_g_hedges_made, q_g_dug_made, q_g_ownedBy0_made, q_g_ownedBy1_made, q_g_turn_made, q_g_made_made, q_g_seed_made]; exact h4
  · simp only [q_g_width_hedges, q_g_height_hedges, q_g_fields_hedges, q_g_edges_hedges, q_g_uprights_hedges, q_g_all_hedges, q_g_leftmost_hedges, q_g_rightmost_hedges, q_g_rimEdges_hedges, q_g_hedges_hedges, q_g_dug_hedges, q_g_ownedBy0_hedges, q_g_ownedBy1_hedges, q_g_turn_hedges, q_g_made_hedges, q_g_seed_hedges, q_g_width_dug, q_g_height_dug, q_g_fields_dug, q_g_edges_dug, q_g_uprights_dug, q_g_all_dug, q_g_leftmost_dug, q_g_rightmost_dug, q_g_rimEdges_dug, q_g_hedges_dug, q_g_dug_dug, q_g_ownedBy0_dug, q_g_ownedBy1_dug, q_g_turn_dug, q_g_made_dug, q_g_seed_dug, q_g_width_ownedBy0, q_g_height_ownedBy0, q_g_fields_ownedBy0, q_g_edges_ownedBy0, q_g_uprights_ownedBy0, q_g_all_ownedBy0, q_g_leftmost_ownedBy0, q_g_rightmost_ownedBy0, q_g_rimEdges_ownedBy0, q_g_hedges_ownedBy0, q_g_dug_ownedBy0, q_g_ownedBy0_ownedBy0, q_g_ownedBy1_ownedBy0, q_g_turn_ownedBy0, q_g_made_ownedBy0, q_g_seed_ownedBy0, q_g_width_ownedBy1, q_g_height_ownedBy1, q_g_fields_ownedBy1, q_g_edges_ownedBy1, q_g_uprights_ownedBy1, q_g_all_ownedBy1, q_g_leftmost_ownedBy1, q_g_rightmost_ownedBy1, q_g_rimEdges_ownedBy1, q_g_hedges_ownedBy1, q_g_dug_ownedBy1, q_g_ownedBy0_ownedBy1, q_g_ownedBy1_ownedBy1, q_g_turn_ownedBy1, q_g_made_ownedBy1, q_g_seed_ownedBy1, q_g_width_turn, q_g_height_turn, q_g_fields_turn, q_g_edges_turn, q_g_uprights_turn, q_g_all_turn, q_g_leftmost_turn, q_g_rightmost_turn, q_g_rimEdges_turn, q_g_hedges_turn, q_g_dug_turn, q_g_ownedBy0_turn, q_g_ownedBy1_turn, q_g_turn_turn, q_g_made_turn, q_g_seed_turn, q_g_width_made, q_g_height_made, q_g_fields_made, q_g_edges_made, q_g_uprights_made, q_g_all_made, q_g_leftmost_made, q_g_rightmost_made, q_g_rimEdges_made, q_g_hedges_made, q_g_dug_made, q_g_ownedBy0_made, q_g_ownedBy1_made, q_g_turn_made, q_g_made_made, q_g_seed_made]
    rw [s1, one_sub (1 - t) (by omega), show 1 - (1 - t) = t by omega]
  · simp only [q_g_width_hedges, q_g_height_hedges, q_g_fields_hedges, q_g_edges_hedges, q_g_uprights_hedges, q_g_all_hedges, q_g_leftmost_hedges, q_g_rightmost_hedges, q_g_rimEdges_hedges, q_g_hedges_hedges, q_g_dug_hedges, q_g_ownedBy0_hedges, q_g_ownedBy1_hedges, q_g_turn_hedges, q_g_made_hedges, q_g_seed_hedges, q_g_width_dug, q_g_height_dug, q_g_fields_dug, q_g_edges_dug, q_g_uprights_dug, q_g_all_dug, q_g_leftmost_dug, q_g_rightmost_dug, q_g_rimEdges_dug, q_g_hedges_dug, q_g_dug_dug, q_g_ownedBy0_dug, q_g_ownedBy1_dug, q_g_turn_dug, q_g_made_dug, q_g_seed_dug, q_g_width_ownedBy0, q_g_height_ownedBy0, q_g_fields_ownedBy0, q_g_edges_ownedBy0, q_g_uprights_ownedBy0, q_g_all_ownedBy0, q_g_leftmost_ownedBy0, q_g_rightmost_ownedBy0, q_g_rimEdges_ownedBy0, q_g_hedges_ownedBy0, q_g_dug_ownedBy0, q_g_ownedBy0_ownedBy0, q_g_ownedBy1_ownedBy0, q_g_turn_ownedBy0, q_g_made_ownedBy0, q_g_seed_ownedBy0, q_g_width_ownedBy1, q_g_height_ownedBy1, q_g_fields_ownedBy1, q_g_edges_ownedBy1, q_g_uprights_ownedBy1, q_g_all_ownedBy1, q_g_leftmost_ownedBy1, q_g_rightmost_ownedBy1, q_g_rimEdges_ownedBy1, q_g_hedges_ownedBy1, q_g_dug_ownedBy1, q_g_ownedBy0_ownedBy1, q_g_ownedBy1_ownedBy1, q_g_turn_ownedBy1, q_g_made_ownedBy1, q_g_seed_ownedBy1, q_g_width_turn, q_g_height_turn, q_g_fields_turn, q_g_edges_turn, q_g_uprights_turn, q_g_all_turn, q_g_leftmost_turn, q_g_rightmost_turn, q_g_rimEdges_turn, q_g_hedges_turn, q_g_dug_turn, q_g_ownedBy0_turn, q_g_ownedBy1_turn, q_g_turn_turn, q_g_made_turn, q_g_seed_turn, q_g_width_made, q_g_height_made, q_g_fields_made, q_g_edges_made, q_g_uprights_made, q_g_all_made, q_g_leftmost_made, q_g_rightmost_made, q_g_rimEdges_made, q_g_hedges_made, q_g_dug_made, q_g_ownedBy0_made, q_g_ownedBy1_made, q_g_turn_made, q_g_made_made, q_g_seed_made]
    rw [s2, Int32.add_sub_cancel]
  · simp only [q_g_width_hedges, q_g_height_hedges, q_g_fields_hedges, q_g_edges_hedges, q_g_uprights_hedges, q_g_all_hedges, q_g_leftmost_hedges, q_g_rightmost_hedges, q_g_rimEdges_hedges, q_g_hedges_hedges, q_g_dug_hedges, q_g_ownedBy0_hedges, q_g_ownedBy1_hedges, q_g_turn_hedges, q_g_made_hedges, q_g_seed_hedges, q_g_width_dug, q_g_height_dug, q_g_fields_dug, q_g_edges_dug, q_g_uprights_dug, q_g_all_dug, q_g_leftmost_dug, q_g_rightmost_dug, q_g_rimEdges_dug, q_g_hedges_dug, q_g_dug_dug, q_g_ownedBy0_dug, q_g_ownedBy1_dug, q_g_turn_dug, q_g_made_dug, q_g_seed_dug, q_g_width_ownedBy0, q_g_height_ownedBy0, q_g_fields_ownedBy0, q_g_edges_ownedBy0, q_g_uprights_ownedBy0, q_g_all_ownedBy0, q_g_leftmost_ownedBy0, q_g_rightmost_ownedBy0, q_g_rimEdges_ownedBy0, q_g_hedges_ownedBy0, q_g_dug_ownedBy0, q_g_ownedBy0_ownedBy0, q_g_ownedBy1_ownedBy0, q_g_turn_ownedBy0, q_g_made_ownedBy0, q_g_seed_ownedBy0, q_g_width_ownedBy1, q_g_height_ownedBy1, q_g_fields_ownedBy1, q_g_edges_ownedBy1, q_g_uprights_ownedBy1, q_g_all_ownedBy1, q_g_leftmost_ownedBy1, q_g_rightmost_ownedBy1, q_g_rimEdges_ownedBy1, q_g_hedges_ownedBy1, q_g_dug_ownedBy1, q_g_ownedBy0_ownedBy1, q_g_ownedBy1_ownedBy1, q_g_turn_ownedBy1, q_g_made_ownedBy1, q_g_seed_ownedBy1, q_g_width_turn, q_g_height_turn, q_g_fields_turn, q_g_edges_turn, q_g_uprights_turn, q_g_all_turn, q_g_leftmost_turn, q_g_rightmost_turn, q_g_rimEdges_turn, q_g_hedges_turn, q_g_dug_turn, q_g_ownedBy0_turn, q_g_ownedBy1_turn, q_g_turn_turn, q_g_made_turn, q_g_seed_turn, q_g_width_made, q_g_height_made, q_g_fields_made, q_g_edges_made, q_g_uprights_made, q_g_all_made, q_g_leftmost_made, q_g_rightmost_made, q_g_rimEdges_made, q_g_hedges_made, q_g_dug_made, q_g_ownedBy0_made, q_g_ownedBy1_made, q_g_turn_made, q_g_made_made, q_g_seed_made]; exact s3
theorem ab_step {low high m vs r v' : Int} (hlh : low < high) (hm : m < high) (hi : (m ≤ low → vs ≤ m) ∧ (low < m → m < high → m = vs) ∧ (high ≤ m → m ≤ vs)) (hs : Sp (-high) (-(max low m)) r v') :
    (max m (-r) ≤ low → max vs (-v') ≤ max m (-r)) ∧ (low < max m (-r) → max m (-r) < high → max m (-r) = max vs (-v')) ∧ (high ≤ max m (-r) → max m (-r) ≤ max vs (-v')) := by
  obtain ⟨i1, i2, i3⟩ := hi
  obtain ⟨s1, s2, s3⟩ := hs
  rcases Int.lt_or_le low m with hlm | hlm
  · have e1 : max low m = m := by omega
    have e2 := i2 hlm hm
    rw [e1] at s2 s3
    rcases Int.lt_or_le (-high) r with a | a
    · rcases Int.lt_or_le r (-m) with c | c
      · have := s2 a c
        omega
      · have := s3 c
        omega
    · have := s1 a
      omega
  · have e1 : max low m = low := by omega
    have e2 := i1 hlm
    rw [e1] at s2 s3
    rcases Int.lt_or_le (-high) r with a | a
    · rcases Int.lt_or_le r (-low) with c | c
      · have := s2 a c
        omega
      · have := s3 c
        omega
    · have := s1 a
      omega
theorem drop_bits {y : Int64} {R : Nat → Bool} (hy : ∀ e, e < 64 → bl y e = R e) {l : Nat} (hl : l < 64) (h1 : R l = true) (h0 : ∀ i, i < l → R i = false) : ∀ e, e < 64 → bl (y &&& (y - 1)) e = (R e && !decide (e = l)) := fun e he => by
  rw [bl_drop hl (by rw [hy l hl]; exact h1) (fun i hi => by rw [hy i (by omega)]; exact h0 i hi), hy e he]
theorem cn_rm {R : Nat → Bool} {l n k : Nat} (hl : l < n) (h1 : R l = true) (hc : cn R n = k + 1) : cn (fun e => R e && !decide (e = l)) n = k := by
  have h2 : cn R n = cn (fun f => R f && !decide (f = l)) n + cn (fun f => decide (f = l) && true) n := by
    rw [← cn_or _ (fun f _ hh => by
      simp only [Bool.and_eq_true, Bool.not_eq_true', decide_eq_true_eq] at hh
      exact of_decide_eq_false hh.1.2 hh.2.1)]
    refine cn_cong _ (fun f _ => ?_)
    by_cases c : f = l
    · rw [c, h1, decide_eq_true rfl]; rfl
    · rw [decide_eq_false c]; simp
  rw [cn_one, if_pos hl] at h2
  have e1 : cb true = 1 := rfl
  omega
theorem loop_ok {b : BD} {t : Nat} {mv0 sd : Int32} (hb : BOK b) (ht : t < 2) {self : GG → Int32 → Int32 → Int32 → Option (Int32 × GG)} {low high : Int} {dep : Nat} (hl : -100 ≤ low) (hlh : low < high) (hh : high ≤ 100) (hdep : dep < 1000)
    (hself : ∀ (g : GG) (s : Nat) (lo hi : Int), os b s = true → GB g (mk b t s) → GS g (1 - t) (mv0 + 1) sd → -100 ≤ lo → lo < hi → hi ≤ 100 → ∃ (r : Int) (g' : GG), self g (iN lo) (iN hi) (nI (dep - 1)) = some (iN r, g') ∧ GB g' (mk b t s) ∧ GS g' (1 - t) (mv0 + 1) sd ∧ -100 ≤ r ∧ r ≤ 100 ∧ Sp lo hi r (Vv (mk b t s) (1 - t)))
    {y3 : Int64} {x4 x5 x6 : Int32} (hy3 : ∀ e, e < 64 → bl y3 e = bh b e) (hx4 : ∀ f, f < 32 → bt x4 f = bd b f) (hx5 : ∀ f, f < 32 → bt x5 f = decide (bo b f = 0)) (hx6 : ∀ f, f < 32 → bt x6 f = decide (bo b f = 1)) (hd1 : 1 ≤ dep) :
    ∀ (k M : Nat) (y : Int64) (R : Nat → Bool) (i : Nat) (m vs : Int) (g1 : GG), (∀ e, e < 64 → bl y e = R e) → (∀ s, R s = true → os b s = true) → cn R 64 = k → i + k ≤ 7 → k < M → GB g1 b → GS g1 t mv0 sd → -100 ≤ m → m ≤ 100 → -100 ≤ vs → ((m ≤ low → vs ≤ m) ∧ (low < m → m < high → m = vs) ∧ (high ≤ m → m ≤ vs)) →
      ∃ (r : Int) (g' : GG), lp (fun _ _ _ _ => none) (f_X3_outcome_L57_b (iN low) (iN high) (nI dep) self y3 x4 x5 x6) M y (iN m) (nI i) g1 = some (iN r, g') ∧ GB g' b ∧ GS g' t mv0 sd ∧ -100 ≤ r ∧ r ≤ 100 ∧ Sp low high r (max vs (mx R (fun s => -(Vv (mk b t s) (1 - t))) 56)) := by
  have hz : SZ (bW b) (bH b) := ⟨hb.1, hb.2.1⟩
  intro k
  induction k with
  | zero =>
    intro M y R i m vs g1 hy hR hc hi hM hg hs hm1 hm2 hvs hinv
    obtain ⟨M', rfl⟩ : ∃ q, M = q + 1 := ⟨M - 1, by omega⟩
    have hR0 : ∀ e, e < 64 → R e = false := fun e he => by
      cases hr : R e with
      | false => rfl
      | true => have := cn_lt he hr; omega
    have hmx : mx R (fun s => -(Vv (mk b t s) (1 - t))) 56 = -100 := by
      have a := mx_lo (P := R) (F := fun s => -(Vv (mk b t s) (1 - t))) 56
      have c := mx_le (P := R) (F := fun s => -(Vv (mk b t s) (1 - t))) (c := -100) (Int.le_refl _) 56 (fun s hs hp => by rw [hR0 s (by omega)] at hp; cases hp)
      omega
    refine ⟨m, g1, ?_, hg, hs, hm1, hm2, ?_⟩
    · rw [lp_s, f_X3_outcome_L57_b]
      by_cases c : (7 : Int32) ≤ nI i
      · rw [if_pos c]
      · rw [if_neg c, if_pos ((lg0_fo hy).mpr (fo_zero hR0))]
    · rw [hmx, show max vs (-100) = vs by omega]
      exact hinv
  | succ k ih =>
    intro M y R i m vs g1 hy hR hc hi hM hg hs hm1 hm2 hvs hinv
    obtain ⟨M', rfl⟩ : ∃ q, M = q + 1 := ⟨M - 1, by omega⟩
    obtain ⟨j, hj, hRj⟩ := cn_ex (P := R) 64 (by omega)
    have hl64 : ff R 64 < 64 := Nat.lt_of_le_of_lt (ff_at hj hRj) hj
    have hRl := ff_yes (P := R) _ hl64
    have hno := ff_no (P := R) 64
    generalize hlq : ff R 64 = l at hl64 hRl hno
    have ho := hR l hRl
    have h56 := (os_lt hz ho).1
    have hfo : fo R = some l := by unfold fo; rw [(an_iff 64).mpr ⟨l, hl64, hRl⟩, if_pos rfl, hlq]
    rw [lp_s, f_X3_outcome_L57_b, if_neg (show ¬ (7 : Int32) ≤ nI i from nI_ge (b := 7) (by omega) (by omega)), if_neg (fun h => by have := (lg0_fo hy).mp h; rw [hfo] at this; cases this)]
    by_cases c : high ≤ m
    · rw [if_pos ((iN_le (by omega) (by omega)).mpr c)]
      refine ⟨m, g1, rfl, hg, hs, hm1, hm2, ?_, ?_, ?_⟩
      · intro h; omega
      · intro _ h; omega
      · intro _
        have := hinv.2.2 c
        omega
    · rw [if_neg (fun h => c ((iN_le (by omega) (by omega)).mp h)), firstSlot_fo hy, hfo]
      obtain ⟨g2, e1, e2, e3⟩ := makeX_ok hb hg hs ho
      obtain ⟨r, g3, f1, f2, f3, f4, f5, f6⟩ := hself g2 l (-high) (-(max low m)) ho e2 e3 (by omega) (by omega) (by omega)
      obtain ⟨g4, u1, u2, u3⟩ := unmake_ok (t := t) (s := l) f2 f3 ht hy3 hx4 hx5 hx6
      have edep : nI dep - 1 = nI (dep - 1) := nn_sub (a := dep) (b := 1) hd1
      have hmax : imax (iN low) (iN m) = iN (max low m) := iN_max (by omega) (by omega)
      have hmax2 : imax (iN m) (iN (-r)) = iN (max m (-r)) := iN_max (by omega) (by omega)
      rw [show eo (some l) = nI l from rfl, e1, ob_s, hmax, iN_neg, iN_neg, edep, f1, ob2_s, iN_neg, hmax2, lt_e, u1, ob_s, lt_e, lt_e, ← nI_succ]
      have hrm := mx_drop (F := fun s => -(Vv (mk b t s) (1 - t))) hRl 56 h56
      obtain ⟨r2, g5, w1, w2, w3, w4, w5, w6⟩ := ih M' (y &&& (y - 1)) (fun e => R e && !decide (e = l)) (i + 1) (max m (-r)) (max vs (-(Vv (mk b t l) (1 - t)))) g4 (drop_bits hy hl64 hRl hno) (fun s hs => hR s (by rw [Bool.and_eq_true] at hs; exact hs.1)) (cn_rm hl64 hRl hc) (by omega) (by omega) u2 u3 (by omega) (by omega) (by omega) (ab_step hlh (by omega) hinv f6)
      refine ⟨r2, g5, w1, w2, w3, w4, w5, ?_⟩
      rw [hrm]
      have e9 : max vs (max (-(Vv (mk b t l) (1 - t))) (mx (fun s => R s && !decide (s = l)) (fun s => -(Vv (mk b t s) (1 - t))) 56)) = max (max vs (-(Vv (mk b t l) (1 - t)))) (mx (fun s => R s && !decide (s = l)) (fun s => -(Vv (mk b t s) (1 - t))) 56) := by omega
      show Sp low high r2 (max vs (max (-(Vv (mk b t l) (1 - t))) (mx (fun s => R s && !decide (s = l)) (fun s => -(Vv (mk b t s) (1 - t))) 56)))
      rw [e9]
      exact w6
theorem out_ok : ∀ (N : Nat) (g : GG) (b : BD) (t : Nat) (mv0 sd : Int32) (low high : Int) (dep : Nat), BOK b → GB g b → GS g t mv0 sd → cn (os b) 64 ≤ dep → dep < N → dep ≤ 7 → -100 ≤ low → low < high → high ≤ 100 → ∃ (r : Int) (g' : GG), f_X3_outcome N g (iN low) (iN high) (nI dep) = some (iN r, g') ∧ GB g' b ∧ GS g' t mv0 sd ∧ -100 ≤ r ∧ r ≤ 100 ∧ Sp low high r (Vv b t) := by
  intro N
  induction N with
  | zero => intro g b t mv0 sd low high dep _ _ _ _ h; omega
  | succ N ih =>
    intro g b t mv0 sd low high dep hb hg hs hc hN hd7 hl hlh hh
    have hz : SZ (bW b) (bH b) := ⟨hb.1, hb.2.1⟩
    have ht := hs.1
    have hop := fun i hi => open_bits hb hg (i := i) hi
    have hV := Vv_b hb ht
    have hlead : f_X0_leadOf g (g_turn g) = some (iN (ldi b t)) := by rw [hs.2.1, leadX_ok hb hg ht, led_ldi]
    have eN : f_X3_outcome (N + 1) = f_X3_outcome_b (f_X3_outcome N) := by unfold f_X3_outcome; rw [lp_s]
    rw [eN, f_X3_outcome_b, lt_e]
    by_cases c : cn (os b) 64 = 0
    · have hVl : Vv b t = ldi b t := by rw [Vv_eq hb ht, if_pos c]
      rw [if_pos ((lg0_fo hop).mpr (fo_zero (fun i _ => cn_os0 hz c i))), hlead, ob_s, ← hVl]
      exact ⟨Vv b t, g, rfl, hg, hs, by omega, by omega, fun _ => Int.le_refl _, fun _ _ => rfl, fun _ => Int.le_refl _⟩
    · have hVm : Vv b t = mx (os b) (fun s => -(Vv (mk b t s) (1 - t))) 56 := by rw [Vv_eq hb ht, if_neg c]
      obtain ⟨s0, hs0, ho0⟩ := os_ex hz c
      rw [if_neg (fun h => by have := fo_none ((lg0_fo hop).mp h) s0 (by omega); rw [ho0] at this; cases this), if_pos (show 0 < nI dep from nI_lt (a := 0) (by omega) (by omega))]
      simp only [lt_e]
      obtain ⟨r, g', w1, w2, w3, w4, w5, w6⟩ := loop_ok (dep := dep) hb ht (self := f_X3_outcome N) hl hlh hh (by omega) (fun g2 s lo hi ho hg2 hs2 h1 h2 h3 => by
        have hless := os_less (t := t) hb ho
        exact ih g2 (mk b t s) (1 - t) (mv0 + 1) sd lo hi (dep - 1) (BOK_mk hb ht ho) hg2 hs2 (by omega) (by omega) (by omega) h1 h2 h3) hg.2.1 hg.2.2.1 hg.2.2.2.1 hg.2.2.2.2 (by omega) (cn (os b) 64) FU (f_X0_openSlots g) (os b) 0 (-100) (-100) g hop (fun s h => h) rfl (by omega) (by unfold FU; omega) hg hs (by omega) (by omega) (by omega) ⟨fun _ => Int.le_refl _, fun _ _ => rfl, fun _ => Int.le_refl _⟩
      rw [← hVm, show max (-100) (Vv b t) = Vv b t by omega] at w6
      refine ⟨r, g', ?_, w2, w3, w4, w5, w6⟩
      unfold f_X3_outcome_L57
      exact w1
/-- within wide bounds the search tells the value itself -/
theorem out_val {g : GG} {b : BD} {t : Nat} {mv0 sd : Int32} {dep : Nat} (hb : BOK b) (hg : GB g b) (hs : GS g t mv0 sd) (hc : cn (os b) 64 ≤ dep) (hd : dep ≤ 7) : ∃ g', f_X3_outcome 10 g (-100) 100 (nI dep) = some (iN (Vv b t), g') ∧ GB g' b ∧ GS g' t mv0 sd := by
  have hV := Vv_b hb hs.1
  obtain ⟨r, g', w1, w2, w3, w4, w5, w6⟩ := out_ok 10 g b t mv0 sd (-100) 100 dep hb hg hs hc (by omega) hd (by omega) (by omega) (by omega)
  have hr : r = Vv b t := by
    obtain ⟨a, c, d⟩ := w6
    rcases Int.lt_or_le (-100) r with h1 | h1
    · rcases Int.lt_or_le r 100 with h2 | h2
      · exact c h1 h2
      · have := d h2; omega
    · have := a h1; omega
  rw [hr] at w1
  exact ⟨g', w1, w2, w3⟩
