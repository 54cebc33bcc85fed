/-! A board read from the tape -/
def XF (x0 x : XX) (P0 : Nat) : Prop := x_now x = x_now x0 ∧ x_crew x = x_crew x0 ∧ x_shelves x = x_shelves x0 ∧ x_refusals x = x_refusals x0 ∧ x_kept x = x_kept x0 ∧ x_keptCrew x = x_keptCrew x0 ∧ ∀ p, p < P0 → x_kinds x p = x_kinds x0 p ∧ x_amounts x p = x_amounts x0 p
def MF (σ0 σ : MM) : Prop := m_holding σ = m_holding σ0 ∧ m_rowLength σ = m_rowLength σ0 ∧ m_rowOf σ = m_rowOf σ0 ∧ m_refusals σ = m_refusals σ0 ∧ m_imaged σ = m_imaged σ0 ∧ m_old σ = m_old σ0 ∧ m_ahead σ = m_ahead σ0
def PP (x : XX) (σ : MM) (P0 P : Nat) : Prop := P0 ≤ P ∧ P ≤ 6 ∧ x_crewRead x = nI P ∧ m_players σ = nI P ∧ ∀ p, p < P → x_kinds x p = m_kind σ p ∧ x_amounts x p = m_own σ p ∧ (∃ k, k < 6 ∧ m_kind σ p = nI k) ∧ ∃ a, a < 10 ∧ m_own σ p = nI a
def TK (x : XX) (σ : MM) (n : Nat) (c : Nat → Nat) (f u : Nat) : Prop := TX (x_tape x) n c ∧ TM σ n c ∧ t_from (x_tape x) = nI f ∧ t_upto (x_tape x) = nI u ∧ m_from σ = nI f ∧ m_to σ = nI u ∧ f ≤ u ∧ u ≤ n
def PB (x0 : XX) (σ0 : MM) (P0 n : Nat) (c : Nat → Nat) (x : XX) (σ : MM) (f u P : Nat) : Prop := XF x0 x P0 ∧ MF σ0 σ ∧ PP x σ P0 P ∧ TK x σ n c f u ∧ GRel (x_thought x) σ
section
variable {x0 : XX} {σ0 : MM} {P0 n : Nat} {c : Nat → Nat} {x : XX} {σ : MM} {f u P : Nat}
theorem PB_next (hp : TP n c) (h : PB x0 σ0 P0 n c x σ f u P) : ∃ (τ : TT) (σ' : MM), f_X2_step (x_tape x) = some τ ∧ f_X4_next σ = some σ' ∧ PB x0 σ0 P0 n c (x_tape' x τ) σ' (sk c n u) (en c n (sk c n u)) P ∧ u ≤ sk c n u ∧ sk c n u ≤ n ∧ m_token σ' = nI (tkn c n (sk c n u)) ∧ (sk c n u < n → ccl (c (sk c n u)) = 2 → m_value σ' = nI (vvl c (sk c n u) (en c n (sk c n u) - (sk c n u + 1)))) := by
  obtain ⟨hX, hM, hP, ⟨t1, t2, t3, t4, t5, t6, t7, t8⟩, hG⟩ := h
  obtain ⟨s1, s2⟩ := sk_b (c := c) t8
  obtain ⟨q1, q2, q3⟩ := en_b (c := c) s2
  obtain ⟨v, v1, v2⟩ := next_ok hp t2 t8 t6
  refine ⟨_, _, step_ok hp t1 t8 t4, v1, ⟨?_, ?_, ?_, ⟨?_, ?_, ?_, ?_, ?_, ?_, q1, q2⟩, ?_⟩, s1, s2, ?_, fun h1 h2 => ?_⟩
  · unfold XF at hX ⊢
    simp only [q_x_now_tape, q_x_thought_tape, q_x_kept_tape, q_x_keptCrew_tape, q_x_kinds_tape, q_x_amounts_tape, q_x_crew_tape, q_x_crewRead_tape, q_x_shelves_tape, q_x_tape_tape, q_x_refusals_tape]
    exact hX
  · unfold MF at hM ⊢
    simp only [q_m_w_from, q_m_h_from, q_m_hedge_from, q_m_dug_from, q_m_owner_from, q_m_turn_from, q_m_made_from, q_m_players_from, q_m_kind_from, q_m_own_from, q_m_seed_from, q_m_taped_from, q_m_tape_from, q_m_from_from, q_m_to_from, q_m_token_from, q_m_value_from, q_m_holding_from, q_m_rowLength_from, q_m_rowOf_from, q_m_refusals_from, q_m_imaged_from, q_m_old_from, q_m_ahead_from, q_m_bestMove_from, q_m_w_to, q_m_h_to, q_m_hedge_to, q_m_dug_to, q_m_owner_to, q_m_turn_to, q_m_made_to, q_m_players_to, q_m_kind_to, q_m_own_to, q_m_seed_to, q_m_taped_to, q_m_tape_to, q_m_from_to, q_m_to_to, q_m_token_to, q_m_value_to, q_m_holding_to, q_m_rowLength_to, q_m_rowOf_to, q_m_refusals_to, q_m_imaged_to, q_m_old_to, q_m_ahead_to, q_m_bestMove_to, q_m_w_value, q_m_h_value, q_m_hedge_value, q_m_dug_value, q_m_owner_value, q_m_turn_value, q_m_made_value, q_m_players_value, q_m_kind_value, q_m_own_value, q_m_seed_value, q_m_taped_value, q_m_tape_value, q_m_from_value, q_m_to_value, q_m_token_value, q_m_value_value, q_m_holding_value, q_m_rowLength_value, q_m_rowOf_value, q_m_refusals_value, q_m_imaged_value, q_m_old_value, q_m_ahead_value, q_m_bestMove_value, q_m_w_token, q_m_h_token, q_m_hedge_token, q_m_dug_token, q_m_owner_token, q_m_turn_token, q_m_made_token, q_m_players_token, q_m_kind_token, q_m_own_token, q_m_seed_token, q_m_taped_token, q_m_tape_token, q_m_from_token, q_m_to_token, q_m_token_token, q_m_value_token, q_m_holding_token, q_m_rowLength_token, q_m_rowOf_token, q_m_refusals_token, q_m_imaged_token, q_m_old_token, q_m_ahead_token, q_m_bestMove_token]
    exact hM
  · unfold PP at hP ⊢
    simp only [q_x_now_tape, q_x_thought_tape, q_x_kept_tape, q_x_keptCrew_tape, q_x_kinds_tape, q_x_amounts_tape, q_x_crew_tape, q_x_crewRead_tape, q_x_shelves_tape, q_x_tape_tape, q_x_refusals_tape, q_m_w_from, q_m_h_from, q_m_hedge_from, q_m_dug_from, q_m_owner_from, q_m_turn_from, q_m_made_from, q_m_players_from, q_m_kind_from, q_m_own_from, q_m_seed_from, q_m_taped_from, q_m_tape_from, q_m_from_from, q_m_to_from, q_m_token_from, q_m_value_from, q_m_holding_from, q_m_rowLength_from, q_m_rowOf_from, q_m_refusals_from, q_m_imaged_from, q_m_old_from, q_m_ahead_from, q_m_bestMove_from, q_m_w_to, q_m_h_to, q_m_hedge_to, q_m_dug_to, q_m_owner_to, q_m_turn_to, q_m_made_to, q_m_players_to, q_m_kind_to, q_m_own_to, q_m_seed_to, q_m_taped_to, q_m_tape_to, q_m_from_to, q_m_to_to, q_m_token_to, q_m_value_to, q_m_holding_to, q_m_rowLength_to, q_m_rowOf_to, q_m_refusals_to, q_m_imaged_to, q_m_old_to, q_m_ahead_to, q_m_bestMove_to, q_m_w_value, q_m_h_value, q_m_hedge_value, q_m_dug_value, q_m_owner_value, q_m_turn_value, q_m_made_value, q_m_players_value, q_m_kind_value, q_m_own_value, q_m_seed_value, q_m_taped_value, q_m_tape_value, q_m_from_value, q_m_to_value, q_m_token_value, q_m_value_value, q_m_holding_value, q_m_rowLength_value, q_m_rowOf_value, q_m_refusals_value, q_m_imaged_value, q_m_old_value, q_m_ahead_value, q_m_bestMove_value, q_m_w_token, q_m_h_token, q_m_hedge_token, q_m_dug_token, q_m_owner_token, q_m_turn_token, q_m_made_token, q_m_players_token, q_m_kind_token, q_m_own_token, q_m_seed_token, q_m_taped_token, q_m_tape_token, q_m_from_token, q_m_to_token, q_m_token_token, q_m_value_token, q_m_holding_token, q_m_rowLength_token, q_m_rowOf_token, q_m_refusals_token, q_m_imaged_token, q_m_old_token, q_m_ahead_token, q_m_bestMove_token]
    exact hP
  · unfold TX at t1 ⊢
    simp only [q_x_now_tape, q_x_thought_tape, q_x_kept_tape, q_x_keptCrew_tape, q_x_kinds_tape, q_x_amounts_tape, q_x_crew_tape, q_x_crewRead_tape, q_x_shelves_tape, q_x_tape_tape, q_x_refusals_tape, q_t_bytes_from, q_t_length_from, q_t_from_from, q_t_upto_from, q_t_bytes_upto, q_t_length_upto, q_t_from_upto, q_t_upto_upto]
    exact t1
  · unfold TM at t2 ⊢
    simp only [q_m_w_from, q_m_h_from, q_m_hedge_from, q_m_dug_from, q_m_owner_from, q_m_turn_from, q_m_made_from, q_m_players_from, q_m_kind_from, q_m_own_from, q_m_seed_from, q_m_taped_from, q_m_tape_from, q_m_from_from, q_m_to_from, q_m_token_from, q_m_value_from, q_m_holding_from, q_m_rowLength_from, q_m_rowOf_from, q_m_refusals_from, q_m_imaged_from, q_m_old_from, q_m_ahead_from, q_m_bestMove_from, q_m_w_to, q_m_h_to, q_m_hedge_to, q_m_dug_to, q_m_owner_to, q_m_turn_to, q_m_made_to, q_m_players_to, q_m_kind_to, q_m_own_to, q_m_seed_to, q_m_taped_to, q_m_tape_to, q_m_from_to, q_m_to_to, q_m_token_to, q_m_value_to, q_m_holding_to, q_m_rowLength_to, q_m_rowOf_to, q_m_refusals_to, q_m_imaged_to, q_m_old_to, q_m_ahead_to, q_m_bestMove_to, q_m_w_value, q_m_h_value, q_m_hedge_value, q_m_dug_value, q_m_owner_value, q_m_turn_value, q_m_made_value, q_m_players_value, q_m_kind_value, q_m_own_value, q_m_seed_value, q_m_taped_value, q_m_tape_value, q_m_from_value, q_m_to_value, q_m_token_value, q_m_value_value, q_m_holding_value, q_m_rowLength_value, q_m_rowOf_value, q_m_refusals_value, q_m_imaged_value, q_m_old_value, q_m_ahead_value, q_m_bestMove_value, q_m_w_token, q_m_h_token, q_m_hedge_token, q_m_dug_token, q_m_owner_token, q_m_turn_token, q_m_made_token, q_m_players_token, q_m_kind_token, q_m_own_token, q_m_seed_token, q_m_taped_token, q_m_tape_token, q_m_from_token, q_m_to_token, q_m_token_token, q_m_value_token, q_m_holding_token, q_m_rowLength_token, q_m_rowOf_token, q_m_refusals_token, q_m_imaged_token, q_m_old_token, q_m_ahead_token, q_m_bestMove_token]
    exact t2
  · simp only [q_x_now_tape, q_x_thought_tape, q_x_kept_tape, q_x_keptCrew_tape, q_x_kinds_tape, q_x_amounts_tape, q_x_crew_tape, q_x_crewRead_tape, q_x_shelves_tape, q_x_tape_tape, q_x_refusals_tape, q_t_bytes_from, q_t_length_from, q_t_from_from, q_t_upto_from, q_t_bytes_upto, q_t_length_upto, q_t_from_upto, q_t_upto_upto]
  · simp only [q_x_now_tape, q_x_thought_tape, q_x_kept_tape, q_x_keptCrew_tape, q_x_kinds_tape, q_x_amounts_tape, q_x_crew_tape, q_x_crewRead_tape, q_x_shelves_tape, q_x_tape_tape, q_x_refusals_tape, q_t_bytes_from, q_t_length_from, q_t_from_from, q_t_upto_from, q_t_bytes_upto, q_t_length_upto, q_t_from_upto, q_t_upto_upto]
  · simp only [q_m_w_from, q_m_h_from, q_m_hedge_from, q_m_dug_from, q_m_owner_from, q_m_turn_from, q_m_made_from, q_m_players_from, q_m_kind_from, q_m_own_from, q_m_seed_from, q_m_taped_from, q_m_tape_from, q_m_from_from, q_m_to_from, q_m_token_from, q_m_value_from, q_m_holding_from, q_m_rowLength_from, q_m_rowOf_from, q_m_refusals_from, q_m_imaged_from, q_m_old_from, q_m_ahead_from, q_m_bestMove_from, q_m_w_to, q_m_h_to, q_m_hedge_to, q_m_dug_to, q_m_owner_to, q_m_turn_to, q_m_made_to, q_m_players_to, q_m_kind_to, q_m_own_to, q_m_seed_to, q_m_taped_to, q_m_tape_to, q_m_from_to, q_m_to_to, q_m_token_to, q_m_value_to, q_m_holding_to, q_m_rowLength_to, q_m_rowOf_to, q_m_refusals_to, q_m_imaged_to, q_m_old_to, q_m_ahead_to, q_m_bestMove_to, q_m_w_value, q_m_h_value, q_m_hedge_value, q_m_dug_value, q_m_owner_value, q_m_turn_value, q_m_made_value, q_m_players_value, q_m_kind_value, q_m_own_value, q_m_seed_value, q_m_taped_value, q_m_tape_value, q_m_from_value, q_m_to_value, q_m_token_value, q_m_value_value, q_m_holding_value, q_m_rowLength_value, q_m_rowOf_value, q_m_refusals_value, q_m_imaged_value, q_m_old_value, q_m_ahead_value, q_m_bestMove_value, q_m_w_token, q_m_h_token, q_m_hedge_token, q_m_dug_token, q_m_owner_token, q_m_turn_token, q_m_made_token, q_m_players_token, q_m_kind_token, q_m_own_token, q_m_seed_token, q_m_taped_token, q_m_tape_token, q_m_from_token, q_m_to_token, q_m_token_token, q_m_value_token, q_m_holding_token, q_m_rowLength_token, q_m_rowOf_token, q_m_refusals_token, q_m_imaged_token, q_m_old_token, q_m_ahead_token, q_m_bestMove_token]
  · simp only [q_m_w_from, q_m_h_from, q_m_hedge_from, q_m_dug_from, q_m_owner_from, q_m_turn_from, q_m_made_from, q_m_players_from, q_m_kind_from, q_m_own_from, q_m_seed_from, q_m_taped_from, q_m_tape_from, q_m_from_from, q_m_to_from, q_m_token_from, q_m_value_from, q_m_holding_from, q_m_rowLength_from, q_m_rowOf_from, q_m_refusals_from, q_m_imaged_from, q_m_old_from, q_m_ahead_from, q_m_bestMove_from, q_m_w_to, q_m_h_to, q_m_hedge_to, q_m_dug_to, q_m_owner_to, q_m_turn_to, q_m_made_to, q_m_players_to, q_m_kind_to, q_m_own_to, q_m_seed_to, q_m_taped_to, q_m_tape_to, q_m_from_to, q_m_to_to, q_m_token_to, q_m_value_to, q_m_holding_to, q_m_rowLength_to, q_m_rowOf_to, q_m_refusals_to, q_m_imaged_to, q_m_old_to, q_m_ahead_to, q_m_bestMove_to, q_m_w_value, q_m_h_value, q_m_hedge_value, q_m_dug_value, q_m_owner_value, q_m_turn_value, q_m_made_value, q_m_players_value, q_m_kind_value, q_m_own_value, q_m_seed_value, q_m_taped_value, q_m_tape_value, q_m_from_value, q_m_to_value, q_m_token_value, q_m_value_value, q_m_holding_value, q_m_rowLength_value, q_m_rowOf_value, q_m_refusals_value, q_m_imaged_value, q_m_old_value, q_m_ahead_value, q_m_bestMove_value, q_m_w_token, q_m_h_token, q_m_hedge_token, q_m_dug_token, q_m_owner_token, q_m_turn_token, q_m_made_token, q_m_players_token, q_m_kind_token, q_m_own_token, q_m_seed_token, q_m_taped_token, q_m_tape_token, q_m_from_token, q_m_to_token, q_m_token_token, q_m_value_token, q_m_holding_token, q_m_rowLength_token, q_m_rowOf_token, q_m_refusals_token, q_m_imaged_token, q_m_old_token, q_m_ahead_token, q_m_bestMove_token]
  · exact GRel_c hG (by simp only [q_x_now_tape, q_x_thought_tape, q_x_kept_tape, q_x_keptCrew_tape, q_x_kinds_tape, q_x_amounts_tape, q_x_crew_tape, q_x_crewRead_tape, q_x_shelves_tape, q_x_tape_tape, q_x_refusals_tape]) (by simp only [q_m_w_from, q_m_h_from, q_m_hedge_from, q_m_dug_from, q_m_owner_from, q_m_turn_from, q_m_made_from, q_m_players_from, q_m_kind_from, q_m_own_from, q_m_seed_from, q_m_taped_from, q_m_tape_from, q_m_from_from, q_m_to_from, q_m_token_from, q_m_value_from, q_m_holding_from, q_m_rowLength_from, q_m_rowOf_from, q_m_refusals_from, q_m_imaged_from, q_m_old_from, q_m_ahead_from, q_m_bestMove_from, q_m_w_to, q_m_h_to, q_m_hedge_to, q_m_dug_to, q_m_owner_to, q_m_turn_to, q_m_made_to, q_m_players_to, q_m_kind_to, q_m_own_to, q_m_seed_to, q_m_taped_to, q_m_tape_to, q_m_from_to, q_m_to_to, q_m_token_to, q_m_value_to, q_m_holding_to, q_m_rowLength_to, q_m_rowOf_to, q_m_refusals_to, q_m_imaged_to, q_m_old_to, q_m_ahead_to, q_m_bestMove_to, q_m_w_value, q_m_h_value, q_m_hedge_value, q_m_dug_value, q_m_owner_value, q_m_turn_value, q_m_made_value, q_m_players_value, q_m_kind_value, q_m_own_value, q_m_seed_value, q_m_taped_value, q_m_tape_value, q_m_from_value, q_m_to_value, q_m_token_value, q_m_value_value, q_m_holding_value, q_m_rowLength_value, q_m_rowOf_value, q_m_refusals_value, q_m_imaged_value, q_m_old_value, q_m_ahead_value, q_m_bestMove_value, q_m_w_token, q_m_h_token, q_m_hedge_token, q_m_dug_token, q_m_owner_token, q_m_turn_token, q_m_made_token, q_m_players_token, q_m_kind_token, q_m_own_token, q_m_seed_token, q_m_taped_token, q_m_tape_token, q_m_from_token, q_m_to_token, q_m_token_token, q_m_value_token, q_m_holding_token, q_m_rowLength_token, q_m_rowOf_token, q_m_refusals_token, q_m_imaged_token, q_m_old_token, q_m_ahead_token, q_m_bestMove_token, and_self])
  · simp only [q_m_w_from, q_m_h_from, q_m_hedge_from, q_m_dug_from, q_m_owner_from, q_m_turn_from, q_m_made_from, q_m_players_from, q_m_kind_from, q_m_own_from, q_m_seed_from, q_m_taped_from, q_m_tape_from, q_m_from_from, q_m_to_from, q_m_token_from, q_m_value_from, q_m_holding_from, q_m_rowLength_from, q_m_rowOf_from, q_m_refusals_from, q_m_imaged_from, q_m_old_from, q_m_ahead_from, q_m_bestMove_from, q_m_w_to, q_m_h_to, q_m_hedge_to, q_m_dug_to, q_m_owner_to, q_m_turn_to, q_m_made_to, q_m_players_to, q_m_kind_to, q_m_own_to, q_m_seed_to, q_m_taped_to, q_m_tape_to, q_m_from_to, q_m_to_to, q_m_token_to, q_m_value_to, q_m_holding_to, q_m_rowLength_to, q_m_rowOf_to, q_m_refusals_to, q_m_imaged_to, q_m_old_to, q_m_ahead_to, q_m_bestMove_to, q_m_w_value, q_m_h_value, q_m_hedge_value, q_m_dug_value, q_m_owner_value, q_m_turn_value, q_m_made_value, q_m_players_value, q_m_kind_value, q_m_own_value, q_m_seed_value, q_m_taped_value, q_m_tape_value, q_m_from_value, q_m_to_value, q_m_token_value, q_m_value_value, q_m_holding_value, q_m_rowLength_value, q_m_rowOf_value, q_m_refusals_value, q_m_imaged_value, q_m_old_value, q_m_ahead_value, q_m_bestMove_value, q_m_w_token, q_m_h_token, q_m_hedge_token, q_m_dug_token, q_m_owner_token, q_m_turn_token, q_m_made_token, q_m_players_token, q_m_kind_token, q_m_own_token, q_m_seed_token, q_m_taped_token, q_m_tape_token, q_m_from_token, q_m_to_token, q_m_token_token, q_m_value_token, q_m_holding_token, q_m_rowLength_token, q_m_rowOf_token, q_m_refusals_token, q_m_imaged_token, q_m_old_token, q_m_ahead_token, q_m_bestMove_token]
  · simp only [q_m_w_from, q_m_h_from, q_m_hedge_from, q_m_dug_from, q_m_owner_from, q_m_turn_from, q_m_made_from, q_m_players_from, q_m_kind_from, q_m_own_from, q_m_seed_from, q_m_taped_from, q_m_tape_from, q_m_from_from, q_m_to_from, q_m_token_from, q_m_value_from, q_m_holding_from, q_m_rowLength_from, q_m_rowOf_from, q_m_refusals_from, q_m_imaged_from, q_m_old_from, q_m_ahead_from, q_m_bestMove_from, q_m_w_to, q_m_h_to, q_m_hedge_to, q_m_dug_to, q_m_owner_to, q_m_turn_to, q_m_made_to, q_m_players_to, q_m_kind_to, q_m_own_to, q_m_seed_to, q_m_taped_to, q_m_tape_to, q_m_from_to, q_m_to_to, q_m_token_to, q_m_value_to, q_m_holding_to, q_m_rowLength_to, q_m_rowOf_to, q_m_refusals_to, q_m_imaged_to, q_m_old_to, q_m_ahead_to, q_m_bestMove_to, q_m_w_value, q_m_h_value, q_m_hedge_value, q_m_dug_value, q_m_owner_value, q_m_turn_value, q_m_made_value, q_m_players_value, q_m_kind_value, q_m_own_value, q_m_seed_value, q_m_taped_value, q_m_tape_value, q_m_from_value, q_m_to_value, q_m_token_value, q_m_value_value, q_m_holding_value, q_m_rowLength_value, q_m_rowOf_value, q_m_refusals_value, q_m_imaged_value, q_m_old_value, q_m_ahead_value, q_m_bestMove_value, q_m_w_token, q_m_h_token, q_m_hedge_token, q_m_dug_token, q_m_owner_token, q_m_turn_token, q_m_made_token, q_m_players_token, q_m_kind_token, q_m_own_token, q_m_seed_token, q_m_taped_token, q_m_tape_token, q_m_from_token, q_m_to_token, q_m_token_token, q_m_value_token, q_m_holding_token, q_m_rowLength_token, q_m_rowOf_token, q_m_refusals_token, q_m_imaged_token, q_m_old_token, q_m_ahead_token, q_m_bestMove_token]
    exact v2 h1 h2
theorem PB_game (h : PB x0 σ0 P0 n c x σ f u P) {g' : GG} {σ' : MM} (hG : GRel g' σ') (hf : fz σ σ') : PB x0 σ0 P0 n c (x_thought' x g') σ' f u P := by
  obtain ⟨hX, ⟨m1, m2, m3, m4, m5, m6, m7⟩, hP, ⟨t1, t2, t3, t4, t5, t6, t7, t8⟩, -⟩ := h
  obtain ⟨f1, f2, f3, f4, f5, f6, f7, f8, f9, f10, f11, f12, f13, f14, f15, f16⟩ := hf
  refine ⟨?_, ⟨f10.trans m1, f11.trans m2, f12.trans m3, f13.trans m4, f14.trans m5, f15.trans m6, f16.trans m7⟩, ?_, ⟨?_, ?_, ?_, ?_, f6.trans t5, f7.trans t6, t7, t8⟩, ?_⟩
  · unfold XF at hX ⊢
    simp only [q_x_now_thought, q_x_thought_thought, q_x_kept_thought, q_x_keptCrew_thought, q_x_kinds_thought, q_x_amounts_thought, q_x_crew_thought, q_x_crewRead_thought, q_x_shelves_thought, q_x_tape_thought, q_x_refusals_thought]
    exact hX
  · unfold PP at hP ⊢
    simp only [q_x_now_thought, q_x_thought_thought, q_x_kept_thought, q_x_keptCrew_thought, q_x_kinds_thought, q_x_amounts_thought, q_x_crew_thought, q_x_crewRead_thought, q_x_shelves_thought, q_x_tape_thought, q_x_refusals_thought]
    rw [f1, f2, f3]
    exact hP
  · simp only [q_x_now_thought, q_x_thought_thought, q_x_kept_thought, q_x_keptCrew_thought, q_x_kinds_thought, q_x_amounts_thought, q_x_crew_thought, q_x_crewRead_thought, q_x_shelves_thought, q_x_tape_thought, q_x_refusals_thought]; exact t1
  · unfold TM at t2 ⊢
    rw [f4, f5]
    exact t2
  · simp only [q_x_now_thought, q_x_thought_thought, q_x_kept_thought, q_x_keptCrew_thought, q_x_kinds_thought, q_x_amounts_thought, q_x_crew_thought, q_x_crewRead_thought, q_x_shelves_thought, q_x_tape_thought, q_x_refusals_thought]; exact t3
  · simp only [q_x_now_thought, q_x_thought_thought, q_x_kept_thought, q_x_keptCrew_thought, q_x_kinds_thought, q_x_amounts_thought, q_x_crew_thought, q_x_crewRead_thought, q_x_shelves_thought, q_x_tape_thought, q_x_refusals_thought]; exact t4
  · simp only [q_x_now_thought, q_x_thought_thought, q_x_kept_thought, q_x_keptCrew_thought, q_x_kinds_thought, q_x_amounts_thought, q_x_crew_thought, q_x_crewRead_thought, q_x_shelves_thought, q_x_tape_thought, q_x_refusals_thought]; exact hG
theorem numHere_ok {τ : TT} (hp : TP n c) (h : TX τ n c) (hf : t_from τ = nI f) (hu : t_upto τ = nI (en c n f)) (hfn : f ≤ n) : f_X2_numberHere τ = some (if f < n ∧ ccl (c f) = 2 ∧ en c n f - f ≤ 2 then nI (vvl c f (en c n f - (f + 1))) else -1) := by
  have hn := hp.1
  obtain ⟨q1, q2, q3⟩ := en_b (c := c) hfn
  unfold f_X2_numberHere
  rw [hf, hu, nn_sub q1]
  by_cases d : f < n
  · rw [sortAt_in hp h d, ob_s]
    by_cases e : ccl (c f) = 2
    · have es : srt (c f) = 2 := by unfold srt; rw [if_neg (by omega), if_pos e]
      rw [es, if_pos rfl]
      by_cases g : en c n f - f ≤ 2
      · have q3 := q3 d
        rw [if_pos (show nI (en c n f - f) ≤ 2 from nI_le (b := 2) g (by omega)), if_pos ⟨d, e, g⟩, lt_e]
        have d1 := dig_b _ (hp.2 f d) e
        have hl := lp_FU (fun _ _ => none) (f_X2_numberHere_L34_b τ) (fun g (q : Int32 × Int32) => g q.1 q.2) (fun j => (nI (if j = 0 then 0 else vvl c f (j - 1)), nI (f + j))) (en c n f - f) (some (nI (vvl c f (en c n f - (f + 1))))) (fun j rec hj => by
          show f_X2_numberHere_L34_b τ rec (nI (if j = 0 then 0 else vvl c f (j - 1))) (nI (f + j)) = rec (nI (if j + 1 = 0 then 0 else vvl c f (j + 1 - 1))) (nI (f + (j + 1)))
          rw [f_X2_numberHere_L34_b, hu, if_neg (nI_ge (by omega) (by omega)), byteAt_in hp h (by omega), ob_s, lt_e, lt_e, ← nI_succ, show (10 : Int32) = nI 10 from rfl, nn_mul, nn_add, show (48 : Int32) = nI 48 from rfl]
          have ev : nI ((if j = 0 then 0 else vvl c f (j - 1)) * 10 + c (f + j)) - nI 48 = nI (if j + 1 = 0 then 0 else vvl c f (j + 1 - 1)) := by
            rcases (by omega : j = 0 ∨ j = 1) with rfl | rfl
            · rw [if_pos rfl, if_neg (by omega), Nat.add_zero, nn_sub (by omega)]
              congr 1
              unfold vvl
              rw [if_pos rfl]
              omega
            · -- the second digit
              have hc2 : ccl (c (f + 1)) = 2 := by
                have hno := ff_no (P := fun j => !decide (ccl (c (f + 1 + j)) = ccl (c f))) (n - (f + 1)) 0 (by
                  have : en c n f = f + 1 + ff (fun j => !decide (ccl (c (f + 1 + j)) = ccl (c f))) (n - (f + 1)) := by unfold en; rw [if_neg (by omega), if_neg (by omega)]
                  omega)
                have : ccl (c (f + 1 + 0)) = ccl (c f) := by simpa using hno
                rw [Nat.add_zero] at this
                omega
              have d2 := dig_b _ (hp.2 (f + 1) (by omega)) hc2
              rw [if_neg (by omega), if_neg (by omega), nn_sub (by omega)]
              congr 1
              unfold vvl
              rw [if_pos (by omega), if_neg (by omega)]
              omega
          rw [ev]
          rfl) (fun rec => by
          show f_X2_numberHere_L34_b τ rec (nI (if en c n f - f = 0 then 0 else vvl c f (en c n f - f - 1))) (nI (f + (en c n f - f))) = _
          rw [f_X2_numberHere_L34_b, hu, if_pos (nI_le (by omega) (by omega)), if_neg (by omega), show en c n f - f - 1 = en c n f - (f + 1) by omega]) (by omega)
        unfold f_X2_numberHere_L34
        exact hl
      · rw [if_neg (show ¬ nI (en c n f - f) ≤ 2 from nI_ge (a := 2) (by omega) (by omega)), if_neg (fun hh => g hh.2.2)]
    · have es : ¬ srt (c f) = 2 := by
        unfold srt
        by_cases e1 : ccl (c f) = 1
        · rw [if_pos e1]; decide +kernel
        · rw [if_neg e1, if_neg e]; decide +kernel
      rw [if_neg es, if_neg (fun hh => e hh.2.1)]
  · rw [sortAt_out hp h (by omega) (by omega), ob_s, if_neg (show ¬ (-1 : Int32) = 2 by decide +kernel), if_neg (fun hh => d hh.1)]
theorem vvl_b (hp : TP n c) (hfn : f < n) (hc : ccl (c f) = 2) (hg : en c n f - f ≤ 2) : vvl c f (en c n f - (f + 1)) ≤ 99 := by
  obtain ⟨q1, q2, q3⟩ := en_b (c := c) (Nat.le_of_lt hfn)
  have d1 := dig_b _ (hp.2 f hfn) hc
  unfold vvl
  by_cases e : en c n f - (f + 1) = 0
  · rw [if_pos e]; omega
  · rw [if_neg e]
    have hc2 : ccl (c (f + 1)) = 2 := by
      have hno := ff_no (P := fun j => !decide (ccl (c (f + 1 + j)) = ccl (c f))) (n - (f + 1)) 0 (by
        have : en c n f = f + 1 + ff (fun j => !decide (ccl (c (f + 1 + j)) = ccl (c f))) (n - (f + 1)) := by unfold en; rw [if_neg (by omega), if_neg (by omega)]
        omega)
      have : ccl (c (f + 1 + 0)) = ccl (c f) := by simpa using hno
      rw [Nat.add_zero] at this
      omega
    have d2 := dig_b _ (hp.2 (f + 1) (by omega)) hc2
    omega
theorem tkn_48 (hf : f ≤ n) : tkn c n f = 48 ↔ f < n ∧ ccl (c f) = 2 ∧ en c n f - f ≤ 2 := by
  unfold tkn
  by_cases d : f = n
  · rw [if_pos d]; omega
  · rw [if_neg d]
    by_cases e : ccl (c f) = 1
    · rw [if_pos e]; omega
    · rw [if_neg e]
      by_cases g : ccl (c f) = 2
      · rw [if_pos g]
        by_cases k : en c n f - f ≤ 2
        · rw [if_pos k]; omega
        · rw [if_neg k]; omega
      · rw [if_neg g]
        by_cases k : c f = 59
        · rw [if_pos k]; omega
        · rw [if_neg k]; omega
theorem tkn_b : tkn c n f < 256 := by
  unfold tkn
  repeat' split
  all_goals omega
theorem PB_number (hp : TP n c) (h : PB x0 σ0 P0 n c x σ f u P) {low high : Nat} (hl : low ≤ 1) (hh : high ≤ 99) : ∃ (r : Int32) (x' : XX) (σ' : MM) (f' u' : Nat), f_X3_readNumber x (nI low) (nI high) = some (r, x') ∧ f_X4_number σ (nI low) (nI high) = some (r, σ') ∧ PB x0 σ0 P0 n c x' σ' f' u' P ∧ u ≤ u' ∧ (r = -1 ∨ ∃ v, low ≤ v ∧ v ≤ high ∧ r = nI v) := by
  obtain ⟨τ, σ', z1, z2, z3, z4, z5, z6, z7⟩ := PB_next hp h
  have hn := hp.1
  obtain ⟨q1, q2, q3⟩ := en_b (c := c) z5
  unfold f_X3_readNumber f_X4_number
  rw [z1, ob_s, lt_e, z2, ob_s, z6]
  have hT := z3.2.2.2.1
  rw [numHere_ok hp hT.1 hT.2.2.1 hT.2.2.2.1 z5, ob_s]
  have neg1 : (-1 : Int32) < nI low := (by decide +kernel : ∀ l, l < 2 → (-1 : Int32) < nI l) low (by omega)
  by_cases d : sk c n u < n ∧ ccl (c (sk c n u)) = 2 ∧ en c n (sk c n u) - sk c n u ≤ 2
  · have hv := vvl_b hp d.1 d.2.1 d.2.2
    rw [if_pos d, (tkn_48 z5).mpr d, if_pos (show nI 48 = 48 from rfl), z7 d.1 d.2.1]
    generalize vvl c (sk c n u) (en c n (sk c n u) - (sk c n u + 1)) = v at hv
    by_cases e : v < low
    · rw [if_pos (nI_lt e (by omega)), within_f (Or.inl (nI_lt e (by omega))), if_neg Bool.false_ne_true]
      exact ⟨-1, _, _, _, _, rfl, rfl, z3, by omega, Or.inl rfl⟩
    · rw [if_neg (nI_nlt (by omega) (by omega))]
      by_cases g : high < v
      · rw [if_pos (nI_lt g (by omega)), within_f (Or.inr (nI_lt g (by omega))), if_neg Bool.false_ne_true]
        exact ⟨-1, _, _, _, _, rfl, rfl, z3, by omega, Or.inl rfl⟩
      · rw [if_neg (nI_nlt (by omega) (by omega)), within_t (nI_nlt (by omega) (by omega)) (nI_nlt (by omega) (by omega)), if_pos rfl]
        exact ⟨nI v, _, _, _, _, rfl, rfl, z3, by omega, Or.inr ⟨v, by omega, by omega, rfl⟩⟩
  · rw [if_neg d, if_neg (show ¬ nI (tkn c n (sk c n u)) = 48 from fun hh => d ((tkn_48 z5).mp (nI_inj (b := 48) (by have := tkn_b (c := c) (n := n) (f := sk c n u); omega) (by omega) hh))), if_pos neg1]
    exact ⟨-1, _, _, _, _, rfl, rfl, z3, by omega, Or.inl rfl⟩
theorem PB_size (hp : TP n c) (h : PB x0 σ0 P0 n c x σ f u P) : ∃ (r : Bool) (x' : XX) (σ' : MM) (f' u' P' : Nat), f_X3_readSize x = some (r, x') ∧ ob2 (f_X4_number σ 1 4) (fun x31 σ30 => if x31 = (-1) then f_X4_statement_b31 x31 (-1) σ30 else ob2 (f_X4_number σ30 1 4) (fun x33 σ32 => f_X4_statement_b31 x31 x33 σ32)) = some (r, σ') ∧ PB x0 σ0 P0 n c x' σ' f' u' P' ∧ u ≤ u' := by
  obtain ⟨r, x1, σ1, f1, u1, z1, z2, z3, z4, z5⟩ := PB_number hp h (low := 1) (high := 4) (by omega) (by omega)
  unfold f_X3_readSize f_X4_statement_b31
  rw [show f_X3_readNumber x 1 4 = some (r, x1) from z1, show f_X4_number σ 1 4 = some (r, σ1) from z2, ob2_s, ob2_s]
  rcases z5 with rfl | ⟨W, w1, w2, rfl⟩
  · rw [if_pos rfl, if_pos rfl, if_pos rfl]
    exact ⟨false, _, _, _, _, _, rfl, rfl, z3, z4⟩
  · rw [if_neg (nI_ne1 (by omega)), if_neg (nI_ne1 (by omega))]
    obtain ⟨r2, x2, σ2, f2, u2, y1, y2, y3, y4, y5⟩ := PB_number hp z3 (low := 1) (high := 4) (by omega) (by omega)
    rw [show f_X3_readNumber x1 1 4 = some (r2, x2) from y1, show f_X4_number σ1 1 4 = some (r2, σ2) from y2, ob2_s, ob2_s]
    rcases y5 with rfl | ⟨H, v1, v2, rfl⟩
    · rw [if_pos rfl, if_pos rfl]
      exact ⟨false, _, _, _, _, _, rfl, rfl, y3, by omega⟩
    · have hz : SZ W H := ⟨⟨w1, w2⟩, v1, v2⟩
      obtain ⟨g, g1, g2, g3, g4, g5, g6⟩ := lay_ok hz (x_thought x2)
      obtain ⟨σ3, m1, m2, m3, m4, m5, m6⟩ := sized_fz (W := W) (H := H) σ2
      obtain ⟨b, t, mv0, sd, hb, hg, hm, hgs, hms⟩ := y3.2.2.2.2
      rw [if_neg (nI_ne1 (by omega)), if_neg (nI_ne1 (by omega)), g1, m1, ob_s, ob2_s, lt_e]
      exact ⟨true, _, _, _, _, _, rfl, rfl, PB_game y3 ⟨b0 W H, 0, 0, sd, BOK_b0 hz, g2, m2, ⟨by omega, g3, g4, g5.trans hgs.2.2.2⟩, ⟨by omega, m3, m4, m5.trans hms.2.2.2⟩⟩ m6, by omega⟩
theorem PB_move (hp : TP n c) (h : PB x0 σ0 P0 n c x σ f u P) {base : Nat} (hbase : base = 0 ∨ base = 100) : ∃ (r : Bool) (x' : XX) (σ' : MM) (f' u' P' : Nat), f_X3_readMove x (nI base) = some (r, x') ∧ f_X4_statement_b81 (nI base) σ = some (r, σ') ∧ PB x0 σ0 P0 n c x' σ' f' u' P' ∧ u ≤ u' := by
  obtain ⟨r, x1, σ1, f1, u1, z1, z2, z3, z4, z5⟩ := PB_number hp h (low := 0) (high := 99) (by omega) (by omega)
  unfold f_X3_readMove f_X4_statement_b81 f_X3_readMove_b27 f_X4_statement_b107
  rw [show f_X3_readNumber x 0 99 = some (r, x1) from z1, show f_X4_number σ 0 99 = some (r, σ1) from z2, ob2_s, ob2_s]
  rcases z5 with rfl | ⟨v, v1, v2, rfl⟩
  · rw [if_pos rfl, if_pos rfl, if_pos rfl]
    exact ⟨false, _, _, _, _, _, rfl, rfl, z3, z4⟩
  · rw [if_neg (nI_ne1 (by omega)), if_neg (nI_ne1 (by omega)), nn_add]
    obtain ⟨b, t, mv0, sd, hb, hg, hm, hgs, hms⟩ := z3.2.2.2.2
    have hz : SZ (bW b) (bH b) := ⟨hb.1, hb.2.1⟩
    have hE : be b ≤ 40 := (szs hz).1
    have bad : ∃ (r : Bool) (x' : XX) (σ' : MM) (f' u' P' : Nat), some (false, x1) = some (r, x') ∧ some (false, σ1) = some (r, σ') ∧ PB x0 σ0 P0 n c x' σ' f' u' P' ∧ u ≤ u' := ⟨false, _, _, _, _, _, rfl, rfl, z3, z4⟩
    rcases slot_iff hb hg hm (nI (base + v)) with ⟨e1, e2⟩ | ⟨s, hs, ha, e1, e2, e3, e4⟩
    · rw [e1, e2, if_pos rfl, if_neg Bool.false_ne_true, ite_self, ite_self]
      exact bad
    · rw [e1, e2, e3, if_neg (nI_ne1 (by omega)), e4, if_pos rfl, ob_s]
      have hed : ¬ (nI base = 0 ∧ f_X4_edges σ1 ≤ nI v) := by
        rintro ⟨k1, k2⟩
        have k3 : base = 0 := by
          rcases hbase with h | h
          · exact h
          · rw [h] at k1; exact absurd k1 (by decide +kernel)
        subst k3
        rw [Nat.zero_add] at e2
        have : f_X4_isMove σ1 (nI v) = decide (v < be b) := by
          unfold f_X4_isMove f_X4_isField
          rw [ed_ok hm, wh_ok hm, wi_ok (by omega) (by omega), wi_neg (by have := (szs hz).2.1; have h9 : bn b ≤ 16 := this; omega) (by omega)]
          by_cases d : v < be b
          · rw [decide_eq_true d, if_pos rfl]
          · rw [decide_eq_false d, if_neg Bool.false_ne_true, if_neg Bool.false_ne_true]
        rw [this, decide_eq_true_eq] at e2
        rw [ed_ok hm] at k2
        exact nI_ge e2 (by omega) k2
      have hred : ∀ {A B : Option (Bool × MM)}, (if nI base = 0 then (if f_X4_edges σ1 ≤ nI v then A else B) else B) = B := fun {A B} => by
        by_cases k1 : nI base = 0
        · rw [if_pos k1, if_neg (fun k2 => hed ⟨k1, k2⟩)]
        · rw [if_neg k1]
      rw [hred]
      cases ho : os b s with
      | false =>
        rw [if_neg Bool.false_ne_true, if_neg Bool.false_ne_true]
        exact bad
      | true =>
        obtain ⟨g', σ', y1, y2, y3, y4, y5⟩ := GRb_make (⟨hb, hg, hm, hgs, hms⟩ : GRb (x_thought x1) σ1 b t mv0 sd) ho
        rw [if_pos rfl, if_pos rfl, y1, ob_s, lt_e, ha, y2, ob2_s]
        exact ⟨true, _, _, _, _, _, rfl, rfl, PB_game z3 (GRb_GRel y3) y4, z4⟩
theorem PB_turn (hp : TP n c) (h : PB x0 σ0 P0 n c x σ f u P) : ∃ (r : Bool) (x' : XX) (σ' : MM) (f' u' P' : Nat), f_X3_readTurn x = some (r, x') ∧ ob2 (f_X4_number σ 0 1) (fun x28 σ27 => if x28 = (-1) then some (false, σ27) else lt (m_turn' σ27 x28) (fun σ29 => some (true, σ29))) = some (r, σ') ∧ PB x0 σ0 P0 n c x' σ' f' u' P' ∧ u ≤ u' := by
  obtain ⟨r, x1, σ1, f1, u1, z1, z2, z3, z4, z5⟩ := PB_number hp h (low := 0) (high := 1) (by omega) (by omega)
  unfold f_X3_readTurn
  rw [show f_X3_readNumber x 0 1 = some (r, x1) from z1, show f_X4_number σ 0 1 = some (r, σ1) from z2, ob2_s, ob2_s]
  rcases z5 with rfl | ⟨v, v1, v2, rfl⟩
  · rw [if_pos rfl, if_pos rfl]
    exact ⟨false, _, _, _, _, _, rfl, rfl, z3, z4⟩
  · obtain ⟨b, t, mv0, sd, hb, hg, hm, hgs, hms⟩ := z3.2.2.2.2
    rw [if_neg (nI_ne1 (by omega)), if_neg (nI_ne1 (by omega)), lt_e, lt_e]
    refine ⟨true, _, _, _, _, _, rfl, rfl, PB_game z3 ⟨b, v, mv0, sd, hb, ?_, ?_, ⟨by omega, ?_, ?_, ?_⟩, ⟨by omega, ?_, ?_, ?_⟩⟩ ?_, z4⟩
    · unfold GB GGeo
      simp only [q_g_width_turn, q_g_height_turn, q_g_fields_turn, q_g_edges_turn, q_g_uprights_turn, q_g_all_turn, q_g_leftmost_turn, q_g_rightmost_turn, q_g_rimEdges_turn, q_g_hedges_turn, q_g_dug_turn, q_g_ownedBy0_turn, q_g_ownedBy1_turn, q_g_turn_turn, q_g_made_turn, q_g_seed_turn]
      exact hg
    · unfold MB
      simp only [q_m_w_turn, q_m_h_turn, q_m_hedge_turn, q_m_dug_turn, q_m_owner_turn, q_m_turn_turn, q_m_made_turn, q_m_players_turn, q_m_kind_turn, q_m_own_turn, q_m_seed_turn, q_m_taped_turn, q_m_tape_turn, q_m_from_turn, q_m_to_turn, q_m_token_turn, q_m_value_turn, q_m_holding_turn, q_m_rowLength_turn, q_m_rowOf_turn, q_m_refusals_turn, q_m_imaged_turn, q_m_old_turn, q_m_ahead_turn, q_m_bestMove_turn]
      exact hm
    · simp only [q_g_width_turn, q_g_height_turn, q_g_fields_turn, q_g_edges_turn, q_g_uprights_turn, q_g_all_turn, q_g_leftmost_turn, q_g_rightmost_turn, q_g_rimEdges_turn, q_g_hedges_turn, q_g_dug_turn, q_g_ownedBy0_turn, q_g_ownedBy1_turn, q_g_turn_turn, q_g_made_turn, q_g_seed_turn]
    · simp only [q_g_width_turn, q_g_height_turn, q_g_fields_turn, q_g_edges_turn, q_g_uprights_turn, q_g_all_turn, q_g_leftmost_turn, q_g_rightmost_turn, q_g_rimEdges_turn, q_g_hedges_turn, q_g_dug_turn, q_g_ownedBy0_turn, q_g_ownedBy1_turn, q_g_turn_turn, q_g_made_turn, q_g_seed_turn]; exact hgs.2.2.1
    · simp only [q_g_width_turn, q_g_height_turn, q_g_fields_turn, q_g_edges_turn, q_g_uprights_turn, q_g_all_turn, q_g_leftmost_turn, q_g_rightmost_turn, q_g_rimEdges_turn, q_g_hedges_turn, q_g_dug_turn, q_g_ownedBy0_turn, q_g_ownedBy1_turn, q_g_turn_turn, q_g_made_turn, q_g_seed_turn]; exact hgs.2.2.2
    · simp only [q_m_w_turn, q_m_h_turn, q_m_hedge_turn, q_m_dug_turn, q_m_owner_turn, q_m_turn_turn, q_m_made_turn, q_m_players_turn, q_m_kind_turn, q_m_own_turn, q_m_seed_turn, q_m_taped_turn, q_m_tape_turn, q_m_from_turn, q_m_to_turn, q_m_token_turn, q_m_value_turn, q_m_holding_turn, q_m_rowLength_turn, q_m_rowOf_turn, q_m_refusals_turn, q_m_imaged_turn, q_m_old_turn, q_m_ahead_turn, q_m_bestMove_turn]
    · simp only [q_m_w_turn, q_m_h_turn, q_m_hedge_turn, q_m_dug_turn, q_m_owner_turn, q_m_turn_turn, q_m_made_turn, q_m_players_turn, q_m_kind_turn, q_m_own_turn, q_m_seed_turn, q_m_taped_turn, q_m_tape_turn, q_m_from_turn, q_m_to_turn, q_m_token_turn, q_m_value_turn, q_m_holding_turn, q_m_rowLength_turn, q_m_rowOf_turn, q_m_refusals_turn, q_m_imaged_turn, q_m_old_turn, q_m_ahead_turn, q_m_bestMove_turn]; exact hms.2.2.1
    · simp only [q_m_w_turn, q_m_h_turn, q_m_hedge_turn, q_m_dug_turn, q_m_owner_turn, q_m_turn_turn, q_m_made_turn, q_m_players_turn, q_m_kind_turn, q_m_own_turn, q_m_seed_turn, q_m_taped_turn, q_m_tape_turn, q_m_from_turn, q_m_to_turn, q_m_token_turn, q_m_value_turn, q_m_holding_turn, q_m_rowLength_turn, q_m_rowOf_turn, q_m_refusals_turn, q_m_imaged_turn, q_m_old_turn, q_m_ahead_turn, q_m_bestMove_turn]; exact hms.2.2.2
    · unfold fz
      simp only [q_m_w_turn, q_m_h_turn, q_m_hedge_turn, q_m_dug_turn, q_m_owner_turn, q_m_turn_turn, q_m_made_turn, q_m_players_turn, q_m_kind_turn, q_m_own_turn, q_m_seed_turn, q_m_taped_turn, q_m_tape_turn, q_m_from_turn, q_m_to_turn, q_m_token_turn, q_m_value_turn, q_m_holding_turn, q_m_rowLength_turn, q_m_rowOf_turn, q_m_refusals_turn, q_m_imaged_turn, q_m_old_turn, q_m_ahead_turn, q_m_bestMove_turn, and_self]
theorem PB_player (hp : TP n c) (h : PB x0 σ0 P0 n c x σ f u P) (hP5 : P < 6) : ∃ (r : Bool) (x' : XX) (σ' : MM) (f' u' P' : Nat), f_X3_readPlayer x = some (r, x') ∧ ob2 (f_X4_number σ 0 5) (fun x19 σ18 => if x19 = (-1) then f_X4_statement_b212 x19 (-1) σ18 else ob2 (f_X4_number σ18 0 9) (fun x21 σ20 => f_X4_statement_b212 x19 x21 σ20)) = some (r, σ') ∧ PB x0 σ0 P0 n c x' σ' f' u' P' ∧ u ≤ u' := by
  obtain ⟨r, x1, σ1, f1, u1, z1, z2, z3, z4, z5⟩ := PB_number hp h (low := 0) (high := 5) (by omega) (by omega)
  unfold f_X3_readPlayer f_X4_statement_b212
  rw [show f_X3_readNumber x 0 5 = some (r, x1) from z1, show f_X4_number σ 0 5 = some (r, σ1) from z2, ob2_s, ob2_s]
  rcases z5 with rfl | ⟨k, k1, k2, rfl⟩
  · rw [if_pos rfl, if_pos rfl, if_pos rfl]
    exact ⟨false, _, _, _, _, _, rfl, rfl, z3, z4⟩
  · rw [if_neg (nI_ne1 (by omega)), if_neg (nI_ne1 (by omega))]
    obtain ⟨r2, x2, σ2, f2, u2, y1, y2, y3, y4, y5⟩ := PB_number hp z3 (low := 0) (high := 9) (by omega) (by omega)
    rw [show f_X3_readNumber x1 0 9 = some (r2, x2) from y1, show f_X4_number σ1 0 9 = some (r2, σ2) from y2, ob2_s, ob2_s]
    rcases y5 with rfl | ⟨a, a1, a2, rfl⟩
    · rw [if_pos rfl, if_pos rfl]
      exact ⟨false, _, _, _, _, _, rfl, rfl, y3, by omega⟩
    · rw [if_neg (nI_ne1 (by omega)), if_neg (nI_ne1 (by omega))]
      obtain ⟨⟨w1, w2, w3, w4, w5, w6, w7⟩, hM, ⟨p1, p2, p3, p4, p5⟩, hT, hG⟩ := y3
      unfold f_X3_enlist f_X4_newPlayer
      have c6 : ¬ (6 : Int32) ≤ nI P := nI_ge (b := 6) hP5 (by omega)
      rw [p3, p4, if_neg (nI_pos (by omega)), if_neg c6, if_neg c6, gd_t (nI_inb hP5 (by omega)), gd_t (nI_inb hP5 (by omega)), nI_clamp (by omega)]
      simp only [lt_e, q_x_now_kinds, q_x_thought_kinds, q_x_kept_kinds, q_x_keptCrew_kinds, q_x_kinds_kinds, q_x_amounts_kinds, q_x_crew_kinds, q_x_crewRead_kinds, q_x_shelves_kinds, q_x_tape_kinds, q_x_refusals_kinds, q_x_now_amounts, q_x_thought_amounts, q_x_kept_amounts, q_x_keptCrew_amounts, q_x_kinds_amounts, q_x_amounts_amounts, q_x_crew_amounts, q_x_crewRead_amounts, q_x_shelves_amounts, q_x_tape_amounts, q_x_refusals_amounts, q_m_w_kind, q_m_h_kind, q_m_hedge_kind, q_m_dug_kind, q_m_owner_kind, q_m_turn_kind, q_m_made_kind, q_m_players_kind, q_m_kind_kind, q_m_own_kind, q_m_seed_kind, q_m_taped_kind, q_m_tape_kind, q_m_from_kind, q_m_to_kind, q_m_token_kind, q_m_value_kind, q_m_holding_kind, q_m_rowLength_kind, q_m_rowOf_kind, q_m_refusals_kind, q_m_imaged_kind, q_m_old_kind, q_m_ahead_kind, q_m_bestMove_kind, q_m_w_own, q_m_h_own, q_m_hedge_own, q_m_dug_own, q_m_owner_own, q_m_turn_own, q_m_made_own, q_m_players_own, q_m_kind_own, q_m_own_own, q_m_seed_own, q_m_taped_own, q_m_tape_own, q_m_from_own, q_m_to_own, q_m_token_own, q_m_value_own, q_m_holding_own, q_m_rowLength_own, q_m_rowOf_own, q_m_refusals_own, q_m_imaged_own, q_m_old_own, q_m_ahead_own, q_m_bestMove_own]
      have ecr : ∀ A B, x_crewRead (x_amounts' (x_kinds' x2 A) B) = nI P := fun A B => by
        simp only [q_x_now_kinds, q_x_thought_kinds, q_x_kept_kinds, q_x_keptCrew_kinds, q_x_kinds_kinds, q_x_amounts_kinds, q_x_crew_kinds, q_x_crewRead_kinds, q_x_shelves_kinds, q_x_tape_kinds, q_x_refusals_kinds, q_x_now_amounts, q_x_thought_amounts, q_x_kept_amounts, q_x_keptCrew_amounts, q_x_kinds_amounts, q_x_amounts_amounts, q_x_crew_amounts, q_x_crewRead_amounts, q_x_shelves_amounts, q_x_tape_amounts, q_x_refusals_amounts]
        exact p3
      rw [gd_t (nI_inb hP5 (by omega)), p4, gd_t (nI_inb hP5 (by omega)), ob_s, ecr, ob2_s, ← nI_succ, nI_clamp (by omega)]
      refine ⟨true, _, _, f2, u2, P + 1, rfl, rfl, ⟨⟨?_, ?_, ?_, ?_, ?_, ?_, fun p hpp => ?_⟩, ?_, ⟨by omega, by omega, ?_, ?_, fun p hpp => ?_⟩, ?_, ?_⟩, by omega⟩
      · simp only [q_x_now_kinds, q_x_thought_kinds, q_x_kept_kinds, q_x_keptCrew_kinds, q_x_kinds_kinds, q_x_amounts_kinds, q_x_crew_kinds, q_x_crewRead_kinds, q_x_shelves_kinds, q_x_tape_kinds, q_x_refusals_kinds, q_x_now_amounts, q_x_thought_amounts, q_x_kept_amounts, q_x_keptCrew_amounts, q_x_kinds_amounts, q_x_amounts_amounts, q_x_crew_amounts, q_x_crewRead_amounts, q_x_shelves_amounts, q_x_tape_amounts, q_x_refusals_amounts, q_x_now_crewRead, q_x_thought_crewRead, q_x_kept_crewRead, q_x_keptCrew_crewRead, q_x_kinds_crewRead, q_x_amounts_crewRead, q_x_crew_crewRead, q_x_crewRead_crewRead, q_x_shelves_crewRead, q_x_tape_crewRead, q_x_refusals_crewRead]; exact w1
      · simp only [q_x_now_kinds, q_x_thought_kinds, q_x_kept_kinds, q_x_keptCrew_kinds, q_x_kinds_kinds, q_x_amounts_kinds, q_x_crew_kinds, q_x_crewRead_kinds, q_x_shelves_kinds, q_x_tape_kinds, q_x_refusals_kinds, q_x_now_amounts, q_x_thought_amounts, q_x_kept_amounts, q_x_keptCrew_amounts, q_x_kinds_amounts, q_x_amounts_amounts, q_x_crew_amounts, q_x_crewRead_amounts, q_x_shelves_amounts, q_x_tape_amounts, q_x_refusals_amounts, q_x_now_crewRead, q_x_thought_crewRead, q_x_kept_crewRead, q_x_keptCrew_crewRead, q_x_kinds_crewRead, q_x_amounts_crewRead, q_x_crew_crewRead, q_x_crewRead_crewRead, q_x_shelves_crewRead, q_x_tape_crewRead, q_x_refusals_crewRead]; exact w2
      · simp only [q_x_now_kinds, q_x_thought_kinds, q_x_kept_kinds, q_x_keptCrew_kinds, q_x_kinds_kinds, q_x_amounts_kinds, q_x_crew_kinds, q_x_crewRead_kinds, q_x_shelves_kinds, q_x_tape_kinds, q_x_refusals_kinds, q_x_now_amounts, q_x_thought_amounts, q_x_kept_amounts, q_x_keptCrew_amounts, q_x_kinds_amounts, q_x_amounts_amounts, q_x_crew_amounts, q_x_crewRead_amounts, q_x_shelves_amounts, q_x_tape_amounts, q_x_refusals_amounts, q_x_now_crewRead, q_x_thought_crewRead, q_x_kept_crewRead, q_x_keptCrew_crewRead, q_x_kinds_crewRead, q_x_amounts_crewRead, q_x_crew_crewRead, q_x_crewRead_crewRead, q_x_shelves_crewRead, q_x_tape_crewRead, q_x_refusals_crewRead]; exact w3
      · simp only [q_x_now_kinds, q_x_thought_kinds, q_x_kept_kinds, q_x_keptCrew_kinds, q_x_kinds_kinds, q_x_amounts_kinds, q_x_crew_kinds, q_x_crewRead_kinds, q_x_shelves_kinds, q_x_tape_kinds, q_x_refusals_kinds, q_x_now_amounts, q_x_thought_amounts, q_x_kept_amounts, q_x_keptCrew_amounts, q_x_kinds_amounts, q_x_amounts_amounts, q_x_crew_amounts, q_x_crewRead_amounts, q_x_shelves_amounts, q_x_tape_amounts, q_x_refusals_amounts, q_x_now_crewRead, q_x_thought_crewRead, q_x_kept_crewRead, q_x_keptCrew_crewRead, q_x_kinds_crewRead, q_x_amounts_crewRead, q_x_crew_crewRead, q_x_crewRead_crewRead, q_x_shelves_crewRead, q_x_tape_crewRead, q_x_refusals_crewRead]; exact w4
      · simp only [q_x_now_kinds, q_x_thought_kinds, q_x_kept_kinds, q_x_keptCrew_kinds, q_x_kinds_kinds, q_x_amounts_kinds, q_x_crew_kinds, q_x_crewRead_kinds, q_x_shelves_kinds, q_x_tape_kinds, q_x_refusals_kinds, q_x_now_amounts, q_x_thought_amounts, q_x_kept_amounts, q_x_keptCrew_amounts, q_x_kinds_amounts, q_x_amounts_amounts, q_x_crew_amounts, q_x_crewRead_amounts, q_x_shelves_amounts, q_x_tape_amounts, q_x_refusals_amounts, q_x_now_crewRead, q_x_thought_crewRead, q_x_kept_crewRead, q_x_keptCrew_crewRead, q_x_kinds_crewRead, q_x_amounts_crewRead, q_x_crew_crewRead, q_x_crewRead_crewRead, q_x_shelves_crewRead, q_x_tape_crewRead, q_x_refusals_crewRead]; exact w5
      · simp only [q_x_now_kinds, q_x_thought_kinds, q_x_kept_kinds, q_x_keptCrew_kinds, q_x_kinds_kinds, q_x_amounts_kinds, q_x_crew_kinds, q_x_crewRead_kinds, q_x_shelves_kinds, q_x_tape_kinds, q_x_refusals_kinds, q_x_now_amounts, q_x_thought_amounts, q_x_kept_amounts, q_x_keptCrew_amounts, q_x_kinds_amounts, q_x_amounts_amounts, q_x_crew_amounts, q_x_crewRead_amounts, q_x_shelves_amounts, q_x_tape_amounts, q_x_refusals_amounts, q_x_now_crewRead, q_x_thought_crewRead, q_x_kept_crewRead, q_x_keptCrew_crewRead, q_x_kinds_crewRead, q_x_amounts_crewRead, q_x_crew_crewRead, q_x_crewRead_crewRead, q_x_shelves_crewRead, q_x_tape_crewRead, q_x_refusals_crewRead]; exact w6
      · simp only [q_x_now_kinds, q_x_thought_kinds, q_x_kept_kinds, q_x_keptCrew_kinds, q_x_kinds_kinds, q_x_amounts_kinds, q_x_crew_kinds, q_x_crewRead_kinds, q_x_shelves_kinds, q_x_tape_kinds, q_x_refusals_kinds, q_x_now_amounts, q_x_thought_amounts, q_x_kept_amounts, q_x_keptCrew_amounts, q_x_kinds_amounts, q_x_amounts_amounts, q_x_crew_amounts, q_x_crewRead_amounts, q_x_shelves_amounts, q_x_tape_amounts, q_x_refusals_amounts, q_x_now_crewRead, q_x_thought_crewRead, q_x_kept_crewRead, q_x_keptCrew_crewRead, q_x_kinds_crewRead, q_x_amounts_crewRead, q_x_crew_crewRead, q_x_crewRead_crewRead, q_x_shelves_crewRead, q_x_tape_crewRead, q_x_refusals_crewRead]
        show (if p = P then nI k else x_kinds x2 p) = x_kinds x0 p ∧ (if p = P then nI a else x_amounts x2 p) = x_amounts x0 p
        rw [if_neg (by omega), if_neg (by omega)]
        exact w7 p hpp
      · unfold MF at hM ⊢
        simp only [q_m_w_kind, q_m_h_kind, q_m_hedge_kind, q_m_dug_kind, q_m_owner_kind, q_m_turn_kind, q_m_made_kind, q_m_players_kind, q_m_kind_kind, q_m_own_kind, q_m_seed_kind, q_m_taped_kind, q_m_tape_kind, q_m_from_kind, q_m_to_kind, q_m_token_kind, q_m_value_kind, q_m_holding_kind, q_m_rowLength_kind, q_m_rowOf_kind, q_m_refusals_kind, q_m_imaged_kind, q_m_old_kind, q_m_ahead_kind, q_m_bestMove_kind, q_m_w_own, q_m_h_own, q_m_hedge_own, q_m_dug_own, q_m_owner_own, q_m_turn_own, q_m_made_own, q_m_players_own, q_m_kind_own, q_m_own_own, q_m_seed_own, q_m_taped_own, q_m_tape_own, q_m_from_own, q_m_to_own, q_m_token_own, q_m_value_own, q_m_holding_own, q_m_rowLength_own, q_m_rowOf_own, q_m_refusals_own, q_m_imaged_own, q_m_old_own, q_m_ahead_own, q_m_bestMove_own, q_m_w_players, q_m_h_players, q_m_hedge_players, q_m_dug_players, q_m_owner_players, q_m_turn_players, q_m_made_players, q_m_players_players, q_m_kind_players, q_m_own_players, q_m_seed_players, q_m_taped_players, q_m_tape_players, q_m_from_players, q_m_to_players, q_m_token_players, q_m_value_players, q_m_holding_players, q_m_rowLength_players, q_m_rowOf_players, q_m_refusals_players, q_m_imaged_players, q_m_old_players, q_m_ahead_players, q_m_bestMove_players]
        exact hM
      · simp only [q_x_now_kinds, q_x_thought_kinds, q_x_kept_kinds, q_x_keptCrew_kinds, q_x_kinds_kinds, q_x_amounts_kinds, q_x_crew_kinds, q_x_crewRead_kinds, q_x_shelves_kinds, q_x_tape_kinds, q_x_refusals_kinds, q_x_now_amounts, q_x_thought_amounts, q_x_kept_amounts, q_x_keptCrew_amounts, q_x_kinds_amounts, q_x_amounts_amounts, q_x_crew_amounts, q_x_crewRead_amounts, q_x_shelves_amounts, q_x_tape_amounts, q_x_refusals_amounts, q_x_now_crewRead, q_x_thought_crewRead, q_x_kept_crewRead, q_x_keptCrew_crewRead, q_x_kinds_crewRead, q_x_amounts_crewRead, q_x_crew_crewRead, q_x_crewRead_crewRead, q_x_shelves_crewRead, q_x_tape_crewRead, q_x_refusals_crewRead]
      · simp only [q_m_w_kind, q_m_h_kind, q_m_hedge_kind, q_m_dug_kind, q_m_owner_kind, q_m_turn_kind, q_m_made_kind, q_m_players_kind, q_m_kind_kind, q_m_own_kind, q_m_seed_kind, q_m_taped_kind, q_m_tape_kind, q_m_from_kind, q_m_to_kind, q_m_token_kind, q_m_value_kind, q_m_holding_kind, q_m_rowLength_kind, q_m_rowOf_kind, q_m_refusals_kind, q_m_imaged_kind, q_m_old_kind, q_m_ahead_kind, q_m_bestMove_kind, q_m_w_own, q_m_h_own, q_m_hedge_own, q_m_dug_own, q_m_owner_own, q_m_turn_own, q_m_made_own, q_m_players_own, q_m_kind_own, q_m_own_own, q_m_seed_own, q_m_taped_own, q_m_tape_own, q_m_from_own, q_m_to_own, q_m_token_own, q_m_value_own, q_m_holding_own, q_m_rowLength_own, q_m_rowOf_own, q_m_refusals_own, q_m_imaged_own, q_m_old_own, q_m_ahead_own, q_m_bestMove_own, q_m_w_players, q_m_h_players, q_m_hedge_players, q_m_dug_players, q_m_owner_players, q_m_turn_players, q_m_made_players, q_m_players_players, q_m_kind_players, q_m_own_players, q_m_seed_players, q_m_taped_players, q_m_tape_players, q_m_from_players, q_m_to_players, q_m_token_players, q_m_value_players, q_m_holding_players, q_m_rowLength_players, q_m_rowOf_players, q_m_refusals_players, q_m_imaged_players, q_m_old_players, q_m_ahead_players, q_m_bestMove_players]
      · simp only [q_x_now_kinds, q_x_thought_kinds, q_x_kept_kinds, q_x_keptCrew_kinds, q_x_kinds_kinds, q_x_amounts_kinds, q_x_crew_kinds, q_x_crewRead_kinds, q_x_shelves_kinds, q_x_tape_kinds, q_x_refusals_kinds, q_x_now_amounts, q_x_thought_amounts, q_x_kept_amounts, q_x_keptCrew_amounts, q_x_kinds_amounts, q_x_amounts_amounts, q_x_crew_amounts, q_x_crewRead_amounts, q_x_shelves_amounts, q_x_tape_amounts, q_x_refusals_amounts, q_x_now_crewRead, q_x_thought_crewRead, q_x_kept_crewRead, q_x_keptCrew_crewRead, q_x_kinds_crewRead, q_x_amounts_crewRead, q_x_crew_crewRead, q_x_crewRead_crewRead, q_x_shelves_crewRead, q_x_tape_crewRead, q_x_refusals_crewRead, q_m_w_kind, q_m_h_kind, q_m_hedge_kind, q_m_dug_kind, q_m_owner_kind, q_m_turn_kind, q_m_made_kind, q_m_players_kind, q_m_kind_kind, q_m_own_kind, q_m_seed_kind, q_m_taped_kind, q_m_tape_kind, q_m_from_kind, q_m_to_kind, q_m_token_kind, q_m_value_kind, q_m_holding_kind, q_m_rowLength_kind, q_m_rowOf_kind, q_m_refusals_kind, q_m_imaged_kind, q_m_old_kind, q_m_ahead_kind, q_m_bestMove_kind, q_m_w_own, q_m_h_own, q_m_hedge_own, q_m_dug_own, q_m_owner_own, q_m_turn_own, q_m_made_own, q_m_players_own, q_m_kind_own, q_m_own_own, q_m_seed_own, q_m_taped_own, q_m_tape_own, q_m_from_own, q_m_to_own, q_m_token_own, q_m_value_own, q_m_holding_own, q_m_rowLength_own, q_m_rowOf_own, q_m_refusals_own, q_m_imaged_own, q_m_old_own, q_m_ahead_own, q_m_bestMove_own, q_m_w_players, q_m_h_players, q_m_hedge_players, q_m_dug_players, q_m_owner_players, q_m_turn_players, q_m_made_players, q_m_players_players, q_m_kind_players, q_m_own_players, q_m_seed_players, q_m_taped_players, q_m_tape_players, q_m_from_players, q_m_to_players, q_m_token_players, q_m_value_players, q_m_holding_players, q_m_rowLength_players, q_m_rowOf_players, q_m_refusals_players, q_m_imaged_players, q_m_old_players, q_m_ahead_players, q_m_bestMove_players]
        show (if p = P then nI k else x_kinds x2 p) = (if p = P then nI k else m_kind σ2 p) ∧ (if p = P then nI a else x_amounts x2 p) = (if p = P then nI a else m_own σ2 p) ∧ (∃ k', k' < 6 ∧ (if p = P then nI k else m_kind σ2 p) = nI k') ∧ ∃ a', a' < 10 ∧ (if p = P then nI a else m_own σ2 p) = nI a'
        by_cases e : p = P
        · rw [if_pos e, if_pos e, if_pos e, if_pos e]
          exact ⟨rfl, rfl, ⟨k, by omega, rfl⟩, a, by omega, rfl⟩
        · rw [if_neg e, if_neg e, if_neg e, if_neg e]
          exact p5 p (by omega)
      · obtain ⟨t1, t2, t3, t4, t5, t6, t7, t8⟩ := hT
        refine ⟨?_, ?_, ?_, ?_, ?_, ?_, t7, t8⟩
        · simp only [q_x_now_kinds, q_x_thought_kinds, q_x_kept_kinds, q_x_keptCrew_kinds, q_x_kinds_kinds, q_x_amounts_kinds, q_x_crew_kinds, q_x_crewRead_kinds, q_x_shelves_kinds, q_x_tape_kinds, q_x_refusals_kinds, q_x_now_amounts, q_x_thought_amounts, q_x_kept_amounts, q_x_keptCrew_amounts, q_x_kinds_amounts, q_x_amounts_amounts, q_x_crew_amounts, q_x_crewRead_amounts, q_x_shelves_amounts, q_x_tape_amounts, q_x_refusals_amounts, q_x_now_crewRead, q_x_thought_crewRead, q_x_kept_crewRead, q_x_keptCrew_crewRead, q_x_kinds_crewRead, q_x_amounts_crewRead, q_x_crew_crewRead, q_x_crewRead_crewRead, q_x_shelves_crewRead, q_x_tape_crewRead, q_x_refusals_crewRead]; exact t1
        · unfold TM at t2 ⊢
          simp only [q_m_w_kind, q_m_h_kind, q_m_hedge_kind, q_m_dug_kind, q_m_owner_kind, q_m_turn_kind, q_m_made_kind, q_m_players_kind, q_m_kind_kind, q_m_own_kind, q_m_seed_kind, q_m_taped_kind, q_m_tape_kind, q_m_from_kind, q_m_to_kind, q_m_token_kind, q_m_value_kind, q_m_holding_kind, q_m_rowLength_kind, q_m_rowOf_kind, q_m_refusals_kind, q_m_imaged_kind, q_m_old_kind, q_m_ahead_kind, q_m_bestMove_kind, q_m_w_own, q_m_h_own, q_m_hedge_own, q_m_dug_own, q_m_owner_own, q_m_turn_own, q_m_made_own, q_m_players_own, q_m_kind_own, q_m_own_own, q_m_seed_own, q_m_taped_own, q_m_tape_own, q_m_from_own, q_m_to_own, q_m_token_own, q_m_value_own, q_m_holding_own, q_m_rowLength_own, q_m_rowOf_own, q_m_refusals_own, q_m_imaged_own, q_m_old_own, q_m_ahead_own, q_m_bestMove_own, q_m_w_players, q_m_h_players, q_m_hedge_players, q_m_dug_players, q_m_owner_players, q_m_turn_players, q_m_made_players, q_m_players_players, q_m_kind_players, q_m_own_players, q_m_seed_players, q_m_taped_players, q_m_tape_players, q_m_from_players, q_m_to_players, q_m_token_players, q_m_value_players, q_m_holding_players, q_m_rowLength_players, q_m_rowOf_players, q_m_refusals_players, q_m_imaged_players, q_m_old_players, q_m_ahead_players, q_m_bestMove_players]
          exact t2
        · simp only [q_x_now_kinds, q_x_thought_kinds, q_x_kept_kinds, q_x_keptCrew_kinds, q_x_kinds_kinds, q_x_amounts_kinds, q_x_crew_kinds, q_x_crewRead_kinds, q_x_shelves_kinds, q_x_tape_kinds, q_x_refusals_kinds, q_x_now_amounts, q_x_thought_amounts, q_x_kept_amounts, q_x_keptCrew_amounts, q_x_kinds_amounts, q_x_amounts_amounts, q_x_crew_amounts, q_x_crewRead_amounts, q_x_shelves_amounts, q_x_tape_amounts, q_x_refusals_amounts, q_x_now_crewRead, q_x_thought_crewRead, q_x_kept_crewRead, q_x_keptCrew_crewRead, q_x_kinds_crewRead, q_x_amounts_crewRead, q_x_crew_crewRead, q_x_crewRead_crewRead, q_x_shelves_crewRead, q_x_tape_crewRead, q_x_refusals_crewRead]; exact t3
        · simp only [q_x_now_kinds, q_x_thought_kinds, q_x_kept_kinds, q_x_keptCrew_kinds, q_x_kinds_kinds, q_x_amounts_kinds, q_x_crew_kinds, q_x_crewRead_kinds, q_x_shelves_kinds, q_x_tape_kinds, q_x_refusals_kinds, q_x_now_amounts, q_x_thought_amounts, q_x_kept_amounts, q_x_keptCrew_amounts, q_x_kinds_amounts, q_x_amounts_amounts, q_x_crew_amounts, q_x_crewRead_amounts, q_x_shelves_amounts, q_x_tape_amounts, q_x_refusals_amounts, q_x_now_crewRead, q_x_thought_crewRead, q_x_kept_crewRead, q_x_keptCrew_crewRead, q_x_kinds_crewRead, q_x_amounts_crewRead, q_x_crew_crewRead, q_x_crewRead_crewRead, q_x_shelves_crewRead, q_x_tape_crewRead, q_x_refusals_crewRead]; exact t4
        · simp only [q_m_w_kind, q_m_h_kind, q_m_hedge_kind, q_m_dug_kind, q_m_owner_kind, q_m_turn_kind, q_m_made_kind, q_m_players_kind, q_m_kind_kind, q_m_own_kind, q_m_seed_kind, q_m_taped_kind, q_m_tape_kind, q_m_from_kind, q_m_to_kind, q_m_token_kind, q_m_value_kind, q_m_holding_kind, q_m_rowLength_kind, q_m_rowOf_kind, q_m_refusals_kind, q_m_imaged_kind, q_m_old_kind, q_m_ahead_kind, q_m_bestMove_kind, q_m_w_own, q_m_h_own, q_m_hedge_own, q_m_dug_own, q_m_owner_own, q_m_turn_own, q_m_made_own, q_m_players_own, q_m_kind_own, q_m_own_own, q_m_seed_own, q_m_taped_own, q_m_tape_own, q_m_from_own, q_m_to_own, q_m_token_own, q_m_value_own, q_m_holding_own, q_m_rowLength_own, q_m_rowOf_own, q_m_refusals_own, q_m_imaged_own, q_m_old_own, q_m_ahead_own, q_m_bestMove_own, q_m_w_players, q_m_h_players, q_m_hedge_players, q_m_dug_players, q_m_owner_players, q_m_turn_players, q_m_made_players, q_m_players_players, q_m_kind_players, q_m_own_players, q_m_seed_players, q_m_taped_players, q_m_tape_players, q_m_from_players, q_m_to_players, q_m_token_players, q_m_value_players, q_m_holding_players, q_m_rowLength_players, q_m_rowOf_players, q_m_refusals_players, q_m_imaged_players, q_m_old_players, q_m_ahead_players, q_m_bestMove_players]; exact t5
        · simp only [q_m_w_kind, q_m_h_kind, q_m_hedge_kind, q_m_dug_kind, q_m_owner_kind, q_m_turn_kind, q_m_made_kind, q_m_players_kind, q_m_kind_kind, q_m_own_kind, q_m_seed_kind, q_m_taped_kind, q_m_tape_kind, q_m_from_kind, q_m_to_kind, q_m_token_kind, q_m_value_kind, q_m_holding_kind, q_m_rowLength_kind, q_m_rowOf_kind, q_m_refusals_kind, q_m_imaged_kind, q_m_old_kind, q_m_ahead_kind, q_m_bestMove_kind, q_m_w_own, q_m_h_own, q_m_hedge_own, q_m_dug_own, q_m_owner_own, q_m_turn_own, q_m_made_own, q_m_players_own, q_m_kind_own, q_m_own_own, q_m_seed_own, q_m_taped_own, q_m_tape_own, q_m_from_own, q_m_to_own, q_m_token_own, q_m_value_own, q_m_holding_own, q_m_rowLength_own, q_m_rowOf_own, q_m_refusals_own, q_m_imaged_own, q_m_old_own, q_m_ahead_own, q_m_bestMove_own, q_m_w_players, q_m_h_players, q_m_hedge_players, q_m_dug_players, q_m_owner_players, q_m_turn_players, q_m_made_players, q_m_players_players, q_m_kind_players, q_m_own_players, q_m_seed_players, q_m_taped_players, q_m_tape_players, q_m_from_players, q_m_to_players, q_m_token_players, q_m_value_players, q_m_holding_players, q_m_rowLength_players, q_m_rowOf_players, q_m_refusals_players, q_m_imaged_players, q_m_old_players, q_m_ahead_players, q_m_bestMove_players]; exact t6
      · exact GRel_c hG (by simp only [q_x_now_kinds, q_x_thought_kinds, q_x_kept_kinds, q_x_keptCrew_kinds, q_x_kinds_kinds, q_x_amounts_kinds, q_x_crew_kinds, q_x_crewRead_kinds, q_x_shelves_kinds, q_x_tape_kinds, q_x_refusals_kinds, q_x_now_amounts, q_x_thought_amounts, q_x_kept_amounts, q_x_keptCrew_amounts, q_x_kinds_amounts, q_x_amounts_amounts, q_x_crew_amounts, q_x_crewRead_amounts, q_x_shelves_amounts, q_x_tape_amounts, q_x_refusals_amounts, q_x_now_crewRead, q_x_thought_crewRead, q_x_kept_crewRead, q_x_keptCrew_crewRead, q_x_kinds_crewRead, q_x_amounts_crewRead, q_x_crew_crewRead, q_x_crewRead_crewRead, q_x_shelves_crewRead, q_x_tape_crewRead, q_x_refusals_crewRead]) (by simp only [q_m_w_kind, q_m_h_kind, q_m_hedge_kind, q_m_dug_kind, q_m_owner_kind, q_m_turn_kind, q_m_made_kind, q_m_players_kind, q_m_kind_kind, q_m_own_kind, q_m_seed_kind, q_m_taped_kind, q_m_tape_kind, q_m_from_kind, q_m_to_kind, q_m_token_kind, q_m_value_kind, q_m_holding_kind, q_m_rowLength_kind, q_m_rowOf_kind, q_m_refusals_kind, q_m_imaged_kind, q_m_old_kind, q_m_ahead_kind, q_m_bestMove_kind, q_m_w_own, q_m_h_own, q_m_hedge_own, q_m_dug_own, q_m_owner_own, q_m_turn_own, q_m_made_own, q_m_players_own, q_m_kind_own, q_m_own_own, q_m_seed_own, q_m_taped_own, q_m_tape_own, q_m_from_own, q_m_to_own, q_m_token_own, q_m_value_own, q_m_holding_own, q_m_rowLength_own, q_m_rowOf_own, q_m_refusals_own, q_m_imaged_own, q_m_old_own, q_m_ahead_own, q_m_bestMove_own, q_m_w_players, q_m_h_players, q_m_hedge_players, q_m_dug_players, q_m_owner_players, q_m_turn_players, q_m_made_players, q_m_players_players, q_m_kind_players, q_m_own_players, q_m_seed_players, q_m_taped_players, q_m_tape_players, q_m_from_players, q_m_to_players, q_m_token_players, q_m_value_players, q_m_holding_players, q_m_rowLength_players, q_m_rowOf_players, q_m_refusals_players, q_m_imaged_players, q_m_old_players, q_m_ahead_players, q_m_bestMove_players, and_self])
theorem PB_statement (hp : TP n c) (h : PB x0 σ0 P0 n c x σ f u P) : ∃ (r : Bool) (x' : XX) (σ1 σ' : MM) (f' u' P' : Nat), f_X3_readStatement x = some (r, x') ∧ f_X4_next σ = some σ1 ∧ f_X4_statement σ1 = some (r, σ') ∧ PB x0 σ0 P0 n c x' σ' f' u' P' ∧ (r = true → u + 1 ≤ u') := by
  obtain ⟨τ, σ1, z1, z2, z3, z4, z5, z6, z7⟩ := PB_next hp h
  obtain ⟨q1, q2, q3⟩ := en_b (c := c) z5
  have hT := z3.2.2.2.1
  have hz : sk c n u = n → en c n (sk c n u) - sk c n u = 0 := fun e => by unfold en; rw [if_pos e]; omega
  have hgt : ∀ W, 0 < W.length → wd W c (sk c n u) (en c n (sk c n u)) = true → u + 1 ≤ en c n (sk c n u) := fun W h0 hw => by
    have := wd_len hw
    omega
  have X0 := wX0_ok hp hT.1 hT.2.2.1 hT.2.2.2.1 q1 q2
  have X1 := wX1_ok hp hT.1 hT.2.2.1 hT.2.2.2.1 q1 q2
  have X2 := wX2_ok hp hT.1 hT.2.2.1 hT.2.2.2.1 q1 q2
  have X3 := wX3_ok hp hT.1 hT.2.2.1 hT.2.2.2.1 q1 q2
  have X4 := wX4_ok hp hT.1 hT.2.2.1 hT.2.2.2.1 q1 q2
  have M0 := wM0_ok hp hT.2.1 hT.2.2.2.2.1 hT.2.2.2.2.2.1 q1 q2 z6 hz
  have M1 := wM1_ok hp hT.2.1 hT.2.2.2.2.1 hT.2.2.2.2.2.1 q1 q2 z6 hz
  have M2 := wM2_ok hp hT.2.1 hT.2.2.2.2.1 hT.2.2.2.2.2.1 q1 q2 z6 hz
  have M3 := wM3_ok hp hT.2.1 hT.2.2.2.2.1 hT.2.2.2.2.2.1 q1 q2 z6 hz
  have M4 := wM4_ok hp hT.2.1 hT.2.2.2.2.1 hT.2.2.2.2.2.1 q1 q2 z6 hz
  unfold f_X3_readStatement
  rw [z1, ob_s, lt_e, X0, ob_s, X1, ob_s, X2, ob_s, X3, ob_s, X4, ob_s]
  have bad : ∃ (r : Bool) (x' : XX) (σ2 σ' : MM) (f' u' P' : Nat), some (false, x_tape' x τ) = some (r, x') ∧ f_X4_next σ = some σ2 ∧ f_X4_statement σ2 = some (r, σ') ∧ PB x0 σ0 P0 n c x' σ' f' u' P' ∧ (r = true → u + 1 ≤ u') → True := ⟨false, x, σ, σ, 0, 0, 0, fun _ => trivial⟩
  cases w0 : wd W0_w c (sk c n u) (en c n (sk c n u)) with
  | true =>
    obtain ⟨r, x', σ', f', u', P', y1, y2, y3, y4⟩ := PB_size hp z3
    have := hgt _ (by decide) w0
    rw [if_pos rfl, y1, ob2_s]
    refine ⟨r, x', σ1, σ', f', u', P', rfl, z2, ?_, y3, fun _ => by omega⟩
    unfold f_X4_statement
    rw [M0, w0, ob_s, if_pos rfl]
    exact y2
  | false =>
  rw [if_neg Bool.false_ne_true]
  cases w1 : wd W1_w c (sk c n u) (en c n (sk c n u)) with
  | true =>
    obtain ⟨r, x', σ', f', u', P', y1, y2, y3, y4⟩ := PB_move hp z3 (base := 0) (Or.inl rfl)
    have hg := hgt _ (by decide) w1
    have w2 : wd W2_w c (sk c n u) (en c n (sk c n u)) = false := by
      cases e : wd W2_w c (sk c n u) (en c n (sk c n u)) with
      | false => rfl
      | true => have a1 := wd_len w1; have a2 := wd_len e; rw [a1] at a2; exact absurd a2 (by decide)
    rw [if_pos rfl, show f_X3_readMove (x_tape' x τ) 0 = some (r, x') from y1, ob2_s]
    refine ⟨r, x', σ1, σ', f', u', P', rfl, z2, ?_, y3, fun _ => by omega⟩
    unfold f_X4_statement f_X4_statement_b66
    rw [M0, w0, ob_s, if_neg Bool.false_ne_true, M1, w1, ob_s, if_pos rfl, M2, w2, ob_s, if_neg Bool.false_ne_true]
    exact y2
  | false =>
  rw [if_neg Bool.false_ne_true]
  cases w2 : wd W2_w c (sk c n u) (en c n (sk c n u)) with
  | true =>
    obtain ⟨r, x', σ', f', u', P', y1, y2, y3, y4⟩ := PB_move hp z3 (base := 100) (Or.inr rfl)
    have hg := hgt _ (by decide) w2
    rw [if_pos rfl, show f_X3_readMove (x_tape' x τ) 100 = some (r, x') from y1, ob2_s]
    refine ⟨r, x', σ1, σ', f', u', P', rfl, z2, ?_, y3, fun _ => by omega⟩
    unfold f_X4_statement f_X4_statement_b66
    rw [M0, w0, ob_s, if_neg Bool.false_ne_true, M1, w1, ob_s, if_neg Bool.false_ne_true, M2, w2, ob_s, if_pos rfl, ob_s, if_pos rfl]
    exact y2
  | false =>
  rw [if_neg Bool.false_ne_true]
  cases w3 : wd W3_w c (sk c n u) (en c n (sk c n u)) with
  | true =>
    obtain ⟨r, x', σ', f', u', P', y1, y2, y3, y4⟩ := PB_turn hp z3
    have hg := hgt _ (by decide) w3
    rw [if_pos rfl, y1, ob2_s]
    refine ⟨r, x', σ1, σ', f', u', P', rfl, z2, ?_, y3, fun _ => by omega⟩
    unfold f_X4_statement
    rw [M0, w0, ob_s, if_neg Bool.false_ne_true, M1, w1, ob_s, if_neg Bool.false_ne_true, M2, w2, ob_s, if_neg Bool.false_ne_true, M3, w3, ob_s, if_pos rfl]
    exact y2
  | false =>
  rw [if_neg Bool.false_ne_true]
  cases w4 : wd W4_w c (sk c n u) (en c n (sk c n u)) with
  | true =>
    have hg := hgt _ (by decide) w4
    obtain ⟨p1, p2, p3, p4, p5⟩ := z3.2.2.1
    rw [if_pos rfl, p3]
    by_cases h6 : P = 6
    · rw [if_pos (show (6 : Int32) ≤ nI P by rw [h6]; decide +kernel)]
      refine ⟨false, _, σ1, σ1, _, _, P, rfl, z2, ?_, z3, fun h => by cases h⟩
      unfold f_X4_statement
      rw [M0, w0, ob_s, if_neg Bool.false_ne_true, M1, w1, ob_s, if_neg Bool.false_ne_true, M2, w2, ob_s, if_neg Bool.false_ne_true, M3, w3, ob_s, if_neg Bool.false_ne_true, M4, w4, ob_s, if_pos rfl, p4, if_pos (show nI P = 6 by rw [h6]; rfl)]
    · obtain ⟨r, x', σ', f', u', P', y1, y2, y3, y4⟩ := PB_player hp z3 (by omega)
      rw [if_neg (show ¬ (6 : Int32) ≤ nI P from nI_ge (b := 6) (by omega) (by omega)), y1, ob2_s]
      refine ⟨r, x', σ1, σ', f', u', P', ?_, z2, ?_, y3, fun _ => by omega⟩
      · cases r <;> rfl
      · unfold f_X4_statement
        rw [M0, w0, ob_s, if_neg Bool.false_ne_true, M1, w1, ob_s, if_neg Bool.false_ne_true, M2, w2, ob_s, if_neg Bool.false_ne_true, M3, w3, ob_s, if_neg Bool.false_ne_true, M4, w4, ob_s, if_pos rfl, p4, if_neg (show ¬ nI P = 6 from fun hh => h6 (nI_inj (b := 6) (by omega) (by omega) hh))]
        exact y2
  | false =>
    rw [if_neg Bool.false_ne_true]
    refine ⟨false, _, σ1, σ1, _, _, P, rfl, z2, ?_, z3, fun h => by cases h⟩
    unfold f_X4_statement
    rw [M0, w0, ob_s, if_neg Bool.false_ne_true, M1, w1, ob_s, if_neg Bool.false_ne_true, M2, w2, ob_s, if_neg Bool.false_ne_true, M3, w3, ob_s, if_neg Bool.false_ne_true, M4, w4, ob_s, if_neg Bool.false_ne_true]
end
