theorem ibb (c : Bool) : (if ib (decide (ib c ≠ 0)) = 1 then (1 : Int32) else 0) = ib c := by
  cases c
  · decide +kernel
  · decide +kernel
theorem bk_GRel {g : GG} {τ σ : MM} {K : Nat → Int32} (h : GRel g τ) (hk : kept K τ) (ha : agn K σ) : GRel g σ := by
  obtain ⟨b, t, mv, sd, hb, hg, ⟨w, hh, he, hd, ho⟩, hgs, hms⟩ := h
  obtain ⟨k1, k2, k3, k4, k5, k6, k7, k8, k9⟩ := hk
  obtain ⟨a1, a2, a3, a4, a5, a6, a7, a8, a9⟩ := ha
  refine ⟨b, t, mv, sd, hb, hg, ⟨by rw [a4, k4, w], by rw [a5, k5, hh], ?_, ?_, ?_⟩, hgs, ⟨hms.1, by rw [a6, k6, hms.2.1], by rw [a7, k7, hms.2.2.1], by rw [a9, k9, hms.2.2.2]⟩⟩
  · intro e hlt
    rw [a1 e hlt, k1 e hlt, he e hlt, ibb]
  · intro f hlt
    rw [(a2 f hlt).1, (k2 f hlt).1, hd f hlt, ibb]
  · intro f hlt
    rw [(a2 f hlt).2, (k2 f hlt).2, ho f hlt]
theorem B_back {x : XX} {σ : MM} (hR : Rel x σ)  : ∃ (r : Int32) (x' : XX) (σ' : MM), f_X3_back x  = some (r, x') ∧ f_X4_back σ  = some (r, σ') ∧ Rel x' σ' := by
  have hno := R_no' hR (-5) (by decide +kernel)
  obtain ⟨hG, hP, hS, hT, hF, hI⟩ := hR
  unfold f_X3_back f_X4_back
  rcases hI with ⟨i0, k0⟩ | ⟨i1, τ, P, hk, hGk, hP6, hkc, hpl, hlt, hpp⟩
  · rw [k0, i0, if_pos rfl, if_pos rfl]; exact hno
  have n1 : ¬ nI P = -1 := (by decide +kernel : ∀ P, P < 7 → ¬ nI P = -1) P (by omega)
  obtain ⟨σ', a1, a2, r1, r2, r3, r4, r5, r6, r7, r8, r9, r10, r11, r12, r13, r14⟩ := again_old_ok σ
  have hkept := hk
  obtain ⟨k1, k2, k3, k4, k5, k6, k7, k8, k9⟩ := hk
  obtain ⟨b1, b2, b3, b4, b5, b6, b7, b8, b9⟩ := a2
  have hpl' : m_players σ' = nI P := by rw [b8, k8, hpl]
  rw [hkc, if_neg n1, i1, if_neg (show ¬ (1 : Int32) = 0 by decide +kernel), become_eq, ob_s, lt_e, lt_e, a1, ob_s, bk_x, bk_m]
  refine ⟨1, _, _, rfl, rfl, ?_⟩
  have ecr : x_keptCrew (x_now' x (x_kept x)) = nI P := by rw [q_x_keptCrew_now, hkc]
  rw [ecr]
  refine ⟨GRel_c (bk_GRel hGk hkept ⟨b1, b2, b3, b4, b5, b6, b7, b8, b9⟩) (by simp only [q_x_now_now, q_x_thought_now, q_x_kept_now, q_x_keptCrew_now, q_x_kinds_now, q_x_amounts_now, q_x_crew_now, q_x_crewRead_now, q_x_shelves_now, q_x_tape_now, q_x_refusals_now, q_x_now_crew, q_x_thought_crew, q_x_kept_crew, q_x_keptCrew_crew, q_x_kinds_crew, q_x_amounts_crew, q_x_crew_crew, q_x_crewRead_crew, q_x_shelves_crew, q_x_tape_crew, q_x_refusals_crew, q_x_now_shelves, q_x_thought_shelves, q_x_kept_shelves, q_x_keptCrew_shelves, q_x_kinds_shelves, q_x_amounts_shelves, q_x_crew_shelves, q_x_crewRead_shelves, q_x_shelves_shelves, q_x_tape_shelves, q_x_refusals_shelves]) (by simp only [q_m_w_holding, q_m_h_holding, q_m_hedge_holding, q_m_dug_holding, q_m_owner_holding, q_m_turn_holding, q_m_made_holding, q_m_players_holding, q_m_kind_holding, q_m_own_holding, q_m_seed_holding, q_m_taped_holding, q_m_tape_holding, q_m_from_holding, q_m_to_holding, q_m_token_holding, q_m_value_holding, q_m_holding_holding, q_m_rowLength_holding, q_m_rowOf_holding, q_m_refusals_holding, q_m_imaged_holding, q_m_old_holding, q_m_ahead_holding, q_m_bestMove_holding, and_self]), ⟨P, hP6, by simp only [q_x_now_now, q_x_thought_now, q_x_kept_now, q_x_keptCrew_now, q_x_kinds_now, q_x_amounts_now, q_x_crew_now, q_x_crewRead_now, q_x_shelves_now, q_x_tape_now, q_x_refusals_now, q_x_now_crew, q_x_thought_crew, q_x_kept_crew, q_x_keptCrew_crew, q_x_kinds_crew, q_x_amounts_crew, q_x_crew_crew, q_x_crewRead_crew, q_x_shelves_crew, q_x_tape_crew, q_x_refusals_crew, q_x_now_shelves, q_x_thought_shelves, q_x_kept_shelves, q_x_keptCrew_shelves, q_x_kinds_shelves, q_x_amounts_shelves, q_x_crew_shelves, q_x_crewRead_shelves, q_x_shelves_shelves, q_x_tape_shelves, q_x_refusals_shelves], by rw [q_m_players_holding, hpl'], ?_⟩, ?_, TRel_c hT (by simp only [q_x_now_now, q_x_thought_now, q_x_kept_now, q_x_keptCrew_now, q_x_kinds_now, q_x_amounts_now, q_x_crew_now, q_x_crewRead_now, q_x_shelves_now, q_x_tape_now, q_x_refusals_now, q_x_now_crew, q_x_thought_crew, q_x_kept_crew, q_x_keptCrew_crew, q_x_kinds_crew, q_x_amounts_crew, q_x_crew_crew, q_x_crewRead_crew, q_x_shelves_crew, q_x_tape_crew, q_x_refusals_crew, q_x_now_shelves, q_x_thought_shelves, q_x_kept_shelves, q_x_keptCrew_shelves, q_x_kinds_shelves, q_x_amounts_shelves, q_x_crew_shelves, q_x_crewRead_shelves, q_x_shelves_shelves, q_x_tape_shelves, q_x_refusals_shelves]) (by simp only [q_m_w_holding, q_m_h_holding, q_m_hedge_holding, q_m_dug_holding, q_m_owner_holding, q_m_turn_holding, q_m_made_holding, q_m_players_holding, q_m_kind_holding, q_m_own_holding, q_m_seed_holding, q_m_taped_holding, q_m_tape_holding, q_m_from_holding, q_m_to_holding, q_m_token_holding, q_m_value_holding, q_m_holding_holding, q_m_rowLength_holding, q_m_rowOf_holding, q_m_refusals_holding, q_m_imaged_holding, q_m_old_holding, q_m_ahead_holding, q_m_bestMove_holding]; exact ⟨r1, r2⟩), RRel_c hF (by simp only [q_x_now_now, q_x_thought_now, q_x_kept_now, q_x_keptCrew_now, q_x_kinds_now, q_x_amounts_now, q_x_crew_now, q_x_crewRead_now, q_x_shelves_now, q_x_tape_now, q_x_refusals_now, q_x_now_crew, q_x_thought_crew, q_x_kept_crew, q_x_keptCrew_crew, q_x_kinds_crew, q_x_amounts_crew, q_x_crew_crew, q_x_crewRead_crew, q_x_shelves_crew, q_x_tape_crew, q_x_refusals_crew, q_x_now_shelves, q_x_thought_shelves, q_x_kept_shelves, q_x_keptCrew_shelves, q_x_kinds_shelves, q_x_amounts_shelves, q_x_crew_shelves, q_x_crewRead_shelves, q_x_shelves_shelves, q_x_tape_shelves, q_x_refusals_shelves]) (by simp only [q_m_w_holding, q_m_h_holding, q_m_hedge_holding, q_m_dug_holding, q_m_owner_holding, q_m_turn_holding, q_m_made_holding, q_m_players_holding, q_m_kind_holding, q_m_own_holding, q_m_seed_holding, q_m_taped_holding, q_m_tape_holding, q_m_from_holding, q_m_to_holding, q_m_token_holding, q_m_value_holding, q_m_holding_holding, q_m_rowLength_holding, q_m_rowOf_holding, q_m_refusals_holding, q_m_imaged_holding, q_m_old_holding, q_m_ahead_holding, q_m_bestMove_holding]; exact r10), ?_⟩
  · intro p hp
    simp only [q_x_now_now, q_x_thought_now, q_x_kept_now, q_x_keptCrew_now, q_x_kinds_now, q_x_amounts_now, q_x_crew_now, q_x_crewRead_now, q_x_shelves_now, q_x_tape_now, q_x_refusals_now, q_x_now_crew, q_x_thought_crew, q_x_kept_crew, q_x_keptCrew_crew, q_x_kinds_crew, q_x_amounts_crew, q_x_crew_crew, q_x_crewRead_crew, q_x_shelves_crew, q_x_tape_crew, q_x_refusals_crew, q_x_now_shelves, q_x_thought_shelves, q_x_kept_shelves, q_x_keptCrew_shelves, q_x_kinds_shelves, q_x_amounts_shelves, q_x_crew_shelves, q_x_crewRead_shelves, q_x_shelves_shelves, q_x_tape_shelves, q_x_refusals_shelves, q_m_w_holding, q_m_h_holding, q_m_hedge_holding, q_m_dug_holding, q_m_owner_holding, q_m_turn_holding, q_m_made_holding, q_m_players_holding, q_m_kind_holding, q_m_own_holding, q_m_seed_holding, q_m_taped_holding, q_m_tape_holding, q_m_from_holding, q_m_to_holding, q_m_token_holding, q_m_value_holding, q_m_holding_holding, q_m_rowLength_holding, q_m_rowOf_holding, q_m_refusals_holding, q_m_imaged_holding, q_m_old_holding, q_m_ahead_holding, q_m_bestMove_holding]
    rw [(b3 p (by omega)).1, (b3 p (by omega)).2, (k3 p (by omega)).1, (k3 p (by omega)).2]
    exact hpp p hp
  · intro s hs
    unfold x_shelf
    simp only [q_x_now_now, q_x_thought_now, q_x_kept_now, q_x_keptCrew_now, q_x_kinds_now, q_x_amounts_now, q_x_crew_now, q_x_crewRead_now, q_x_shelves_now, q_x_tape_now, q_x_refusals_now, q_x_now_crew, q_x_thought_crew, q_x_kept_crew, q_x_keptCrew_crew, q_x_kinds_crew, q_x_amounts_crew, q_x_crew_crew, q_x_crewRead_crew, q_x_shelves_crew, q_x_tape_crew, q_x_refusals_crew, q_x_now_shelves, q_x_thought_shelves, q_x_kept_shelves, q_x_keptCrew_shelves, q_x_kinds_shelves, q_x_amounts_shelves, q_x_crew_shelves, q_x_crewRead_shelves, q_x_shelves_shelves, q_x_tape_shelves, q_x_refusals_shelves, q_m_w_holding, q_m_h_holding, q_m_hedge_holding, q_m_dug_holding, q_m_owner_holding, q_m_turn_holding, q_m_made_holding, q_m_players_holding, q_m_kind_holding, q_m_own_holding, q_m_seed_holding, q_m_taped_holding, q_m_tape_holding, q_m_from_holding, q_m_to_holding, q_m_token_holding, q_m_value_holding, q_m_holding_holding, q_m_rowLength_holding, q_m_rowOf_holding, q_m_refusals_holding, q_m_imaged_holding, q_m_old_holding, q_m_ahead_holding, q_m_bestMove_holding]
    rw [if_pos hs, if_pos hs, r7, r8, r9, hpl']
    obtain ⟨h1, h2⟩ := hS s hs
    unfold x_shelf at h1 h2
    have e10 : (10 : Int32) + nI P = nI (10 + P) := nn_add 10 P
    rw [e10]
    rcases h2 with ⟨q1, q2⟩ | ⟨p, q1, q2, q3, q4⟩ | ⟨c, n, q1, q2, q3, q4, q5, q6⟩
    · have t1 : (-1 : Int32) < nI (10 + P) := (by decide +kernel : ∀ P, P < 7 → (-1 : Int32) < nI (10 + P)) P (by omega)
      have t2 : f_X1_bearsPlayer (x_shelves x s) = false := by unfold f_X1_bearsPlayer; rw [h1, q1]; decide +kernel
      rw [q1, if_pos t1]
      unfold dr
      rw [t2, if_neg Bool.false_ne_true]
      exact ⟨by rw [h1, q1], Or.inl ⟨rfl, q2⟩⟩
    · have t2 : f_X1_bearsPlayer (x_shelves x s) = true := by
        unfold f_X1_bearsPlayer; rw [h1, q1]
        exact (by decide +kernel : ∀ p, p < 6 → (if nI (p + 10) < 10 then false else true) = true) p q3
      have t3 : s_content (x_shelves x s) - 10 = nI p := by
        rw [h1, q1]
        exact (by decide +kernel : ∀ p, p < 6 → nI (p + 10) - 10 = nI p) p q3
      unfold dr
      rw [t2, if_pos rfl, t3]
      unfold f_X3_isPlayer
      simp only [q_x_now_now, q_x_thought_now, q_x_kept_now, q_x_keptCrew_now, q_x_kinds_now, q_x_amounts_now, q_x_crew_now, q_x_crewRead_now, q_x_shelves_now, q_x_tape_now, q_x_refusals_now, q_x_now_crew, q_x_thought_crew, q_x_kept_crew, q_x_keptCrew_crew, q_x_kinds_crew, q_x_amounts_crew, q_x_crew_crew, q_x_crewRead_crew, q_x_shelves_crew, q_x_tape_crew, q_x_refusals_crew, q_x_now_shelves, q_x_thought_shelves, q_x_kept_shelves, q_x_keptCrew_shelves, q_x_kinds_shelves, q_x_amounts_shelves, q_x_crew_shelves, q_x_crewRead_shelves, q_x_shelves_shelves, q_x_tape_shelves, q_x_refusals_shelves]
      rw [if_neg (nI_pos (by omega)), q1]
      by_cases hpP : p < P
      · rw [if_neg (nI_ge hpP (by omega)), if_pos rfl, if_pos (nI_lt (by omega) (by omega))]
        exact ⟨by rw [h1, q1], Or.inr (Or.inl ⟨p, rfl, nI_lt hpP (by omega), q3, q4⟩)⟩
      · rw [if_pos (nI_le (by omega) (by omega)), if_neg Bool.false_ne_true, if_neg (nI_nlt (by omega) (by omega))]
        exact ⟨rfl, Or.inl ⟨rfl, rfl⟩⟩
    · have t2 : f_X1_bearsPlayer (x_shelves x s) = false := by
        unfold f_X1_bearsPlayer; rw [h1, q2]
        exact (by decide +kernel : ∀ p, p < 5 → (if nI p < 10 then false else true) = false) c q1
      unfold dr
      rw [t2, if_neg Bool.false_ne_true, q2, if_pos (nI_lt (by omega) (by omega))]
      exact ⟨by rw [h1, q2], Or.inr (Or.inr ⟨c, n, q1, rfl, q3, q4, q5, q6⟩)⟩
  · unfold IRel
    simp only [q_x_now_now, q_x_thought_now, q_x_kept_now, q_x_keptCrew_now, q_x_kinds_now, q_x_amounts_now, q_x_crew_now, q_x_crewRead_now, q_x_shelves_now, q_x_tape_now, q_x_refusals_now, q_x_now_crew, q_x_thought_crew, q_x_kept_crew, q_x_keptCrew_crew, q_x_kinds_crew, q_x_amounts_crew, q_x_crew_crew, q_x_crewRead_crew, q_x_shelves_crew, q_x_tape_crew, q_x_refusals_crew, q_x_now_shelves, q_x_thought_shelves, q_x_kept_shelves, q_x_keptCrew_shelves, q_x_kinds_shelves, q_x_amounts_shelves, q_x_crew_shelves, q_x_crewRead_shelves, q_x_shelves_shelves, q_x_tape_shelves, q_x_refusals_shelves, q_m_w_holding, q_m_h_holding, q_m_hedge_holding, q_m_dug_holding, q_m_owner_holding, q_m_turn_holding, q_m_made_holding, q_m_players_holding, q_m_kind_holding, q_m_own_holding, q_m_seed_holding, q_m_taped_holding, q_m_tape_holding, q_m_from_holding, q_m_to_holding, q_m_token_holding, q_m_value_holding, q_m_holding_holding, q_m_rowLength_holding, q_m_rowOf_holding, q_m_refusals_holding, q_m_imaged_holding, q_m_old_holding, q_m_ahead_holding, q_m_bestMove_holding]
    rw [r11, r12, hpl']
    exact Or.inr ⟨i1, τ, P, hkept, hGk, hP6, hkc, hpl, nI_nlt (Nat.le_refl P) (by omega), hpp⟩
