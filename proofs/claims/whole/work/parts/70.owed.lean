/-! what class and reference owe each other: for each call, from states that belong together, both answer, the same, and the states belong together again -/
theorem B_row {x : XX} {σ : MM} (hR : Rel x σ) (a1 : Int32) (a2 : Int32) (a3 : Int32) : ∃ (r : Int32) (x' : XX) (σ' : MM), f_X3_row x a1 a2 a3 = some (r, x') ∧ f_X4_row σ a1 a2 a3 = some (r, σ') ∧ Rel x' σ' := by
  sorry
theorem B_set {x : XX} {σ : MM} (hR : Rel x σ) (a1 : Int32) (a2 : Int32) (a3 : Int64) : ∃ (r : Int32) (x' : XX) (σ' : MM), f_X3_set x a1 a2 a3 = some (r, x') ∧ f_X4_set σ a1 a2 a3 = some (r, σ') ∧ Rel x' σ' := by
  sorry
theorem B_copy {x : XX} {σ : MM} (hR : Rel x σ) (a1 : Int32) (a2 : Int32) (a3 : Int32) (a4 : Int32) (a5 : Int32) : ∃ (r : Int32) (x' : XX) (σ' : MM), f_X3_copy x a1 a2 a3 a4 a5 = some (r, x') ∧ f_X4_copy σ a1 a2 a3 a4 a5 = some (r, σ') ∧ Rel x' σ' := by
  sorry
theorem B_element {x : XX} {σ : MM} (hR : Rel x σ) (a1 : Int32) (a2 : Int32) : ∃ (r : Int64), f_X3_element x a1 a2 = some r ∧ f_X4_element σ a1 a2 = some r ∧ Rel x σ := by
  sorry
theorem B_holds {x : XX} {σ : MM} (hR : Rel x σ) (a1 : Int32) : ∃ (r : Int32), f_X3_holds x a1 = some r ∧ f_X4_holds σ a1 = some r ∧ Rel x σ := by
  sorry
theorem B_show {x : XX} {σ : MM} (hR : Rel x σ) (a1 : Int32) (a2 : Int32) : ∃ (r : Int32) (x' : XX) (σ' : MM), f_X3_show x a1 a2 = some (r, x') ∧ f_X4_show σ a1 a2 = some (r, σ') ∧ Rel x' σ' := by
  sorry
theorem B_says {x : XX} {σ : MM} (hR : Rel x σ) (a1 : Int32) (a2 : Int32) : ∃ (r : Int32) (x' : XX) (σ' : MM), f_X3_says x a1 a2 = some (r, x') ∧ f_X4_says σ a1 a2 = some (r, σ') ∧ Rel x' σ' := by
  sorry
theorem B_size {x : XX} {σ : MM} (hR : Rel x σ) (a1 : Int32) (a2 : Int32) : ∃ (r : Int32) (x' : XX) (σ' : MM), f_X3_size x a1 a2 = some (r, x') ∧ f_X4_size σ a1 a2 = some (r, σ') ∧ Rel x' σ' := by
  sorry
theorem B_player {x : XX} {σ : MM} (hR : Rel x σ) (a1 : Int32) (a2 : Int32) : ∃ (r : Int32) (x' : XX) (σ' : MM), f_X3_player x a1 a2 = some (r, x') ∧ f_X4_player σ a1 a2 = some (r, σ') ∧ Rel x' σ' := by
  sorry
theorem B_turn {x : XX} {σ : MM} (hR : Rel x σ) (a1 : Int32) : ∃ (r : Int32) (x' : XX) (σ' : MM), f_X3_turn x a1 = some (r, x') ∧ f_X4_turn σ a1 = some (r, σ') ∧ Rel x' σ' := by
  sorry
theorem B_feed {x : XX} {σ : MM} (hR : Rel x σ) (a1 : Int32) : ∃ (r : Int32) (x' : XX) (σ' : MM), f_X3_feed x a1 = some (r, x') ∧ f_X4_feed σ a1 = some (r, σ') ∧ Rel x' σ' := by
  sorry
theorem B_wipe {x : XX} {σ : MM} (hR : Rel x σ)  : ∃ (r : Int32) (x' : XX) (σ' : MM), f_X3_wipe x  = some (r, x') ∧ f_X4_wipe σ  = some (r, σ') ∧ Rel x' σ' := by
  sorry
theorem B_board {x : XX} {σ : MM} (hR : Rel x σ)  : ∃ (r : Int32) (x' : XX) (σ' : MM), f_X3_board x  = some (r, x') ∧ f_X4_board σ  = some (r, σ') ∧ Rel x' σ' := by
  sorry
theorem B_fieldOf {x : XX} {σ : MM} (hR : Rel x σ) (a1 : Int32) (a2 : Int32) : ∃ (r : Int32) (x' : XX) (σ' : MM), f_X3_fieldOf x a1 a2 = some (r, x') ∧ f_X4_fieldOf σ a1 a2 = some (r, σ') ∧ Rel x' σ' := by
  sorry
theorem B_edgeOf {x : XX} {σ : MM} (hR : Rel x σ) (a1 : Int32) (a2 : Int32) : ∃ (r : Int32) (x' : XX) (σ' : MM), f_X3_edgeOf x a1 a2 = some (r, x') ∧ f_X4_edgeOf σ a1 a2 = some (r, σ') ∧ Rel x' σ' := by
  sorry
theorem B_playerOf {x : XX} {σ : MM} (hR : Rel x σ) (a1 : Int32) (a2 : Int32) : ∃ (r : Int32) (x' : XX) (σ' : MM), f_X3_playerOf x a1 a2 = some (r, x') ∧ f_X4_playerOf σ a1 a2 = some (r, σ') ∧ Rel x' σ' := by
  sorry
theorem B_may {x : XX} {σ : MM} (hR : Rel x σ) (a1 : Int32) : ∃ (r : Int32) (x' : XX) (σ' : MM), f_X3_may x a1 = some (r, x') ∧ f_X4_may σ a1 = some (r, σ') ∧ Rel x' σ' := by
  sorry
theorem B_moves {x : XX} {σ : MM} (hR : Rel x σ) (a1 : Int32) : ∃ (r : Int32) (x' : XX) (σ' : MM), f_X3_moves x a1 = some (r, x') ∧ f_X4_moves σ a1 = some (r, σ') ∧ Rel x' σ' := by
  sorry
theorem B_score {x : XX} {σ : MM} (hR : Rel x σ) (a1 : Int32) : ∃ (r : Int32) (x' : XX) (σ' : MM), f_X3_score x a1 = some (r, x') ∧ f_X4_score σ a1 = some (r, σ') ∧ Rel x' σ' := by
  sorry
theorem B_lead {x : XX} {σ : MM} (hR : Rel x σ) (a1 : Int32) : ∃ (r : Int32) (x' : XX) (σ' : MM), f_X3_lead x a1 = some (r, x') ∧ f_X4_lead σ a1 = some (r, σ') ∧ Rel x' σ' := by
  sorry
theorem B_lanes {x : XX} {σ : MM} (hR : Rel x σ) (a1 : Int32) : ∃ (r : Int32) (x' : XX) (σ' : MM), f_X3_lanes x a1 = some (r, x') ∧ f_X4_lanes σ a1 = some (r, σ') ∧ Rel x' σ' := by
  sorry
theorem B_ditch {x : XX} {σ : MM} (hR : Rel x σ) (a1 : Int32) : ∃ (r : Int32) (x' : XX) (σ' : MM), f_X3_ditch x a1 = some (r, x') ∧ f_X4_ditch σ a1 = some (r, σ') ∧ Rel x' σ' := by
  sorry
theorem B_drained {x : XX} {σ : MM} (hR : Rel x σ)  : ∃ (r : Int32), f_X3_drained x  = some r ∧ f_X4_drained σ  = some r ∧ Rel x σ := by
  sorry
theorem B_thirds {x : XX} {σ : MM} (hR : Rel x σ)  : ∃ (r : Int32), f_X3_thirds x  = some r ∧ f_X4_thirds σ  = some r ∧ Rel x σ := by
  sorry
theorem B_chain {x : XX} {σ : MM} (hR : Rel x σ) (a1 : Int32) : ∃ (r : Int32) (x' : XX) (σ' : MM), f_X3_chain x a1 = some (r, x') ∧ f_X4_chain σ a1 = some (r, σ') ∧ Rel x' σ' := by
  sorry
theorem B_longest {x : XX} {σ : MM} (hR : Rel x σ)  : ∃ (r : Int32) (σ' : MM), f_X3_longest x  = some r ∧ f_X4_longest σ  = some (r, σ') ∧ Rel x σ' := by
  sorry
theorem B_shuts {x : XX} {σ : MM} (hR : Rel x σ) (a1 : Int32) : ∃ (r : Int32) (x' : XX) (σ' : MM), f_X3_shuts x a1 = some (r, x') ∧ f_X4_shuts_ σ a1 = some (r, σ') ∧ Rel x' σ' := by
  sorry
theorem B_calm {x : XX} {σ : MM} (hR : Rel x σ)  : ∃ (r : Int32) (σ' : MM), f_X3_calm x  = some r ∧ f_X4_calm σ  = some (r, σ') ∧ Rel x σ' := by
  sorry
theorem B_part {x : XX} {σ : MM} (hR : Rel x σ) (a1 : Int32) : ∃ (r : Int32) (x' : XX) (σ' : MM), f_X3_part x a1 = some (r, x') ∧ f_X4_part σ a1 = some (r, σ') ∧ Rel x' σ' := by
  sorry
theorem B_parts {x : XX} {σ : MM} (hR : Rel x σ)  : ∃ (r : Int32), f_X3_parts x  = some r ∧ f_X4_parts σ  = some r ∧ Rel x σ := by
  sorry
theorem B_ditches {x : XX} {σ : MM} (hR : Rel x σ)  : ∃ (r : Int32), f_X3_ditches x  = some r ∧ f_X4_ditches σ  = some r ∧ Rel x σ := by
  sorry
theorem B_owned {x : XX} {σ : MM} (hR : Rel x σ) (a1 : Int32) : ∃ (r : Int32) (x' : XX) (σ' : MM), f_X3_owned x a1 = some (r, x') ∧ f_X4_owned σ a1 = some (r, σ') ∧ Rel x' σ' := by
  sorry
theorem B_coloured {x : XX} {σ : MM} (hR : Rel x σ) (a1 : Int32) : ∃ (r : Int32) (x' : XX) (σ' : MM), f_X3_coloured x a1 = some (r, x') ∧ f_X4_coloured σ a1 = some (r, σ') ∧ Rel x' σ' := by
  sorry
theorem B_gives {x : XX} {σ : MM} (hR : Rel x σ) (a1 : Int32) : ∃ (r : Int32) (x' : XX) (σ' : MM), f_X3_gives x a1 = some (r, x') ∧ f_X4_gives σ a1 = some (r, σ') ∧ Rel x' σ' := by
  sorry
theorem B_gaps {x : XX} {σ : MM} (hR : Rel x σ)  : ∃ (r : Int32), f_X3_gaps x  = r ∧ f_X4_gaps σ  = some r ∧ Rel x σ := by
  sorry
theorem B_rim {x : XX} {σ : MM} (hR : Rel x σ)  : ∃ (r : Int32), f_X3_rim x  = some r ∧ f_X4_rim σ  = some r ∧ Rel x σ := by
  sorry
theorem B_leader {x : XX} {σ : MM} (hR : Rel x σ)  : ∃ (r : Int32), f_X3_leader x  = some r ∧ f_X4_leader σ  = some r ∧ Rel x σ := by
  sorry
theorem B_bare {x : XX} {σ : MM} (hR : Rel x σ)  : ∃ (r : Int32), f_X3_bare x  = some r ∧ f_X4_bare σ  = some r ∧ Rel x σ := by
  sorry
theorem B_soft {x : XX} {σ : MM} (hR : Rel x σ)  : ∃ (r : Int32), f_X3_soft x  = r ∧ f_X4_soft σ  = some r ∧ Rel x σ := by
  sorry
theorem B_after {x : XX} {σ : MM} (hR : Rel x σ) (a1 : Int32) : ∃ (r : Int32) (x' : XX) (σ' : MM), f_X3_after x a1 = some (r, x') ∧ f_X4_after σ a1 = some (r, σ') ∧ Rel x' σ' := by
  sorry
theorem B_best {x : XX} {σ : MM} (hR : Rel x σ)  : ∃ (r : Int32) (x' : XX) (σ' : MM), f_X3_best x  = some (r, x') ∧ f_X4_best σ  = some (r, σ') ∧ Rel x' σ' := by
  sorry
theorem B_worth {x : XX} {σ : MM} (hR : Rel x σ)  : ∃ (r : Int32) (x' : XX) (σ' : MM), f_X3_worth x  = some (r, x') ∧ f_X4_worth σ  = some (r, σ') ∧ Rel x' σ' := by
  sorry
theorem B_choice {x : XX} {σ : MM} (hR : Rel x σ) (a1 : Int32) : ∃ (r : Int32) (x' : XX) (σ' : MM), f_X3_choice x a1 = some (r, x') ∧ f_X4_choice σ a1 = some (r, σ') ∧ Rel x' σ' := by
  sorry
theorem B_played {x : XX} {σ : MM} (hR : Rel x σ) (a1 : Int32) (a2 : Int32) (a3 : Int32) : ∃ (r : Int32) (x' : XX) (σ' : MM), f_X3_played x a1 a2 a3 = some (r, x') ∧ f_X4_played σ a1 a2 a3 = some (r, σ') ∧ Rel x' σ' := by
  sorry
theorem B_wins {x : XX} {σ : MM} (hR : Rel x σ) (a1 : Int32) : ∃ (r : Int32) (x' : XX) (σ' : MM), f_X3_wins x a1 = some (r, x') ∧ f_X4_wins σ a1 = some (r, σ') ∧ Rel x' σ' := by
  sorry
theorem B_champion {x : XX} {σ : MM} (hR : Rel x σ)  : ∃ (r : Int32) (x' : XX) (σ' : MM), f_X3_champion x  = some (r, x') ∧ f_X4_champion σ  = some (r, σ') ∧ Rel x' σ' := by
  sorry
theorem B_likenesses {x : XX} {σ : MM} (hR : Rel x σ)  : ∃ (r : Int32), f_X3_likenesses x  = some r ∧ f_X4_likenesses σ  = some r ∧ Rel x σ := by
  sorry
theorem B_alike {x : XX} {σ : MM} (hR : Rel x σ) (a1 : Int32) : ∃ (r : Int32) (x' : XX) (σ' : MM), f_X3_alike x a1 = some (r, x') ∧ f_X4_alike σ a1 = some (r, σ') ∧ Rel x' σ' := by
  sorry
theorem B_judge {x : XX} {σ : MM} (hR : Rel x σ) (a1 : Int32) (a2 : Int32) : ∃ (r : Int32) (x' : XX) (σ' : MM), f_X3_judge x a1 a2 = some (r, x') ∧ f_X4_judge σ a1 a2 = some (r, σ') ∧ Rel x' σ' := by
  sorry
theorem B_behind {x : XX} {σ : MM} (hR : Rel x σ) (a1 : Int32) (a2 : Int32) : ∃ (r : Int32) (x' : XX) (σ' : MM), f_X3_behind x a1 a2 = some (r, x') ∧ f_X4_behind σ a1 a2 = some (r, σ') ∧ Rel x' σ' := by
  sorry
theorem B_done {x : XX} {σ : MM} (hR : Rel x σ) (a1 : Int32) (a2 : Int32) : ∃ (r : Int32) (x' : XX) (σ' : MM), f_X3_done x a1 a2 = some (r, x') ∧ f_X4_done σ a1 a2 = some (r, σ') ∧ Rel x' σ' := by
  sorry
theorem B_move {x : XX} {σ : MM} (hR : Rel x σ) (a1 : Int32) : ∃ (r : Int32) (x' : XX) (σ' : MM), f_X3_move x a1 = some (r, x') ∧ f_X4_move σ a1 = some (r, σ') ∧ Rel x' σ' := by
  sorry
theorem B_goes {x : XX} {σ : MM} (hR : Rel x σ) (a1 : Int32) (a2 : Int32) : ∃ (r : Int32) (x' : XX) (σ' : MM), f_X3_goes x a1 a2 = some (r, x') ∧ f_X4_goes σ a1 a2 = some (r, σ') ∧ Rel x' σ' := by
  sorry
theorem B_games {x : XX} {σ : MM} (hR : Rel x σ) (a1 : Int32) : ∃ (r : Int32) (x' : XX) (σ' : MM), f_X3_games x a1 = some (r, x') ∧ f_X4_games σ a1 = some (r, σ') ∧ Rel x' σ' := by
  sorry
theorem B_seed {x : XX} {σ : MM} (hR : Rel x σ) (a1 : Int32) : ∃ (r : Int32) (x' : XX) (σ' : MM), f_X3_seed x a1 = some (r, x') ∧ f_X4_seed σ a1 = some (r, σ') ∧ Rel x' σ' := by
  sorry
theorem B_image {x : XX} {σ : MM} (hR : Rel x σ)  : ∃ (r : Int32) (x' : XX) (σ' : MM), f_X3_image x  = some (r, x') ∧ f_X4_image σ  = some (r, σ') ∧ Rel x' σ' := by
  sorry
theorem B_back {x : XX} {σ : MM} (hR : Rel x σ)  : ∃ (r : Int32) (x' : XX) (σ' : MM), f_X3_back x  = some (r, x') ∧ f_X4_back σ  = some (r, σ') ∧ Rel x' σ' := by
  sorry
theorem B_status {x : XX} {σ : MM} (hR : Rel x σ) (a1 : Int32) : ∃ (r : Int32), f_X3_status x a1 = some r ∧ f_X4_status σ a1 = some r ∧ Rel x σ := by
  sorry
theorem B_init : ∃ (r : Int32) (g : GG) (z : MM), f_X0_init g0 = some g ∧ f_X4_sized mI 2 2 = some (r, z) ∧ Rel (xI g) z := by
  sorry
