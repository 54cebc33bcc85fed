/-! What a relation looks at -/
theorem GRel_c {g g' : GG} {σ σ' : MM} (h : GRel g σ) (e : g' = g) (e' : m_w σ' = m_w σ ∧ m_h σ' = m_h σ ∧ m_hedge σ' = m_hedge σ ∧ m_dug σ' = m_dug σ ∧ m_owner σ' = m_owner σ ∧ m_turn σ' = m_turn σ ∧ m_made σ' = m_made σ ∧ m_seed σ' = m_seed σ) : GRel g' σ' := by
  obtain ⟨b, t, mv, sd, h1, h2, h3, h4, h5⟩ := h
  obtain ⟨a1, a2, a3, a4, a5, a6, a7, a8⟩ := e'
  rw [e]
  refine ⟨b, t, mv, sd, h1, h2, ?_, h4, ?_⟩
  · unfold MB at h3 ⊢; rw [a1, a2, a3, a4, a5]; exact h3
  · unfold MS at h5 ⊢; rw [a6, a7, a8]; exact h5
theorem PRel_c {x x' : XX} {σ σ' : MM} (h : PRel x σ) (e : x_crew x' = x_crew x ∧ x_kinds x' = x_kinds x ∧ x_amounts x' = x_amounts x) (e' : m_players σ' = m_players σ ∧ m_kind σ' = m_kind σ ∧ m_own σ' = m_own σ) : PRel x' σ' := by
  unfold PRel at h ⊢
  rw [e.1, e.2.1, e.2.2, e'.1, e'.2.1, e'.2.2]
  exact h
theorem SRel_c {x x' : XX} {σ σ' : MM} (h : SRel x σ) (e : x_shelves x' = x_shelves x) (e' : m_players σ' = m_players σ ∧ m_holding σ' = m_holding σ ∧ m_rowLength σ' = m_rowLength σ ∧ m_rowOf σ' = m_rowOf σ) : SRel x' σ' := by
  unfold SRel x_shelf at h ⊢
  rw [e, e'.1, e'.2.1, e'.2.2.1, e'.2.2.2]
  exact h
theorem TRel_c {x x' : XX} {σ σ' : MM} (h : TRel x σ) (e : x_tape x' = x_tape x) (e' : m_taped σ' = m_taped σ ∧ m_tape σ' = m_tape σ) : TRel x' σ' := by
  unfold TRel at h ⊢
  rw [e, e'.1, e'.2]
  exact h
theorem RRel_c {x x' : XX} {σ σ' : MM} (h : RRel x σ) (e : x_refusals x' = x_refusals x) (e' : m_refusals σ' = m_refusals σ) : RRel x' σ' := by
  unfold RRel at h ⊢
  rw [e, e']
  exact h
theorem IRel_c {x x' : XX} {σ σ' : MM} (h : IRel x σ) (e : x_keptCrew x' = x_keptCrew x ∧ x_kept x' = x_kept x ∧ x_kinds x' = x_kinds x ∧ x_amounts x' = x_amounts x) (e' : m_imaged σ' = m_imaged σ ∧ m_old σ' = m_old σ ∧ m_players σ' = m_players σ) : IRel x' σ' := by
  unfold IRel at h ⊢
  rw [e.1, e.2.1, e.2.2.1, e.2.2.2, e'.1, e'.2.1, e'.2.2]
  exact h
