/-! Games in lockstep -/
def GRb (g : GG) (σ : MM) (b : BD) (t : Nat) (mv0 sd : Int32) : Prop := BOK b ∧ GB g b ∧ MB σ b ∧ GS g t mv0 sd ∧ MS σ t mv0 sd
theorem GRb_GRel {g : GG} {σ : MM} {b : BD} {t : Nat} {mv0 sd : Int32} (h : GRb g σ b t mv0 sd) : GRel g σ := ⟨b, t, mv0, sd, h⟩
theorem GRb_make {g : GG} {σ : MM} {b : BD} {t : Nat} {mv0 sd : Int32} (h : GRb g σ b t mv0 sd) {s : Nat} (ho : os b s = true) : ∃ g' σ', f_X0_make g (nI s) = some g' ∧ f_X4_makes σ (nI (mv s)) = some (nI (shn b s), σ') ∧ GRb g' σ' (mk b t s) (1 - t) (mv0 + 1) sd ∧ fz σ σ' ∧ m_bestMove σ' = m_bestMove σ := by
  obtain ⟨hb, hg, hm, hgs, hms⟩ := h
  obtain ⟨g', g1, g2, g3⟩ := makeX_ok hb hg hgs ho
  obtain ⟨σ', m1, m2, m3, m4, m5⟩ := makesM_ok hb hm hms ho
  exact ⟨g', σ', g1, m1, ⟨BOK_mk hb hgs.1 ho, g2, m2, g3, m3⟩, m4, m5⟩
theorem GRb_seed {g : GG} {σ : MM} {b : BD} {t : Nat} {mv0 sd : Int32} (h : GRb g σ b t mv0 sd) (v : Int32) : GRb (g_seed' g v) (m_seed' σ v) b t mv0 v ∧ fz σ (m_seed' σ v) := by
  obtain ⟨hb, hg, hm, hgs, hms⟩ := h
  refine ⟨⟨hb, ?_, ?_, ?_, ?_⟩, ?_⟩
  · unfold GB GGeo
    simp only [q_g_width_seed, q_g_height_seed, q_g_fields_seed, q_g_edges_seed, q_g_uprights_seed, q_g_all_seed, q_g_leftmost_seed, q_g_rightmost_seed, q_g_rimEdges_seed, q_g_hedges_seed, q_g_dug_seed, q_g_ownedBy0_seed, q_g_ownedBy1_seed, q_g_turn_seed, q_g_made_seed, q_g_seed_seed]
    exact hg
  · unfold MB
    simp only [q_m_w_seed, q_m_h_seed, q_m_hedge_seed, q_m_dug_seed, q_m_owner_seed, q_m_turn_seed, q_m_made_seed, q_m_players_seed, q_m_kind_seed, q_m_own_seed, q_m_seed_seed, q_m_taped_seed, q_m_tape_seed, q_m_from_seed, q_m_to_seed, q_m_token_seed, q_m_value_seed, q_m_holding_seed, q_m_rowLength_seed, q_m_rowOf_seed, q_m_refusals_seed, q_m_imaged_seed, q_m_old_seed, q_m_ahead_seed, q_m_bestMove_seed]
    exact hm
  · unfold GS
    simp only [q_g_width_seed, q_g_height_seed, q_g_fields_seed, q_g_edges_seed, q_g_uprights_seed, q_g_all_seed, q_g_leftmost_seed, q_g_rightmost_seed, q_g_rimEdges_seed, q_g_hedges_seed, q_g_dug_seed, q_g_ownedBy0_seed, q_g_ownedBy1_seed, q_g_turn_seed, q_g_made_seed, q_g_seed_seed]
    exact ⟨hgs.1, hgs.2.1, hgs.2.2.1, trivial⟩
  · unfold MS
    simp only [q_m_w_seed, q_m_h_seed, q_m_hedge_seed, q_m_dug_seed, q_m_owner_seed, q_m_turn_seed, q_m_made_seed, q_m_players_seed, q_m_kind_seed, q_m_own_seed, q_m_seed_seed, q_m_taped_seed, q_m_tape_seed, q_m_from_seed, q_m_to_seed, q_m_token_seed, q_m_value_seed, q_m_holding_seed, q_m_rowLength_seed, q_m_rowOf_seed, q_m_refusals_seed, q_m_imaged_seed, q_m_old_seed, q_m_ahead_seed, q_m_bestMove_seed]
    exact ⟨hms.1, hms.2.1, hms.2.2.1, trivial⟩
  · unfold fz
    simp only [q_m_w_seed, q_m_h_seed, q_m_hedge_seed, q_m_dug_seed, q_m_owner_seed, q_m_turn_seed, q_m_made_seed, q_m_players_seed, q_m_kind_seed, q_m_own_seed, q_m_seed_seed, q_m_taped_seed, q_m_tape_seed, q_m_from_seed, q_m_to_seed, q_m_token_seed, q_m_value_seed, q_m_holding_seed, q_m_rowLength_seed, q_m_rowOf_seed, q_m_refusals_seed, q_m_imaged_seed, q_m_old_seed, q_m_ahead_seed, q_m_bestMove_seed, and_self]
theorem q2_x_thought (x : XX) (a c : GG) : x_thought' (x_thought' x a) c = x_thought' x c := by unfold x_thought'; exact rfl
theorem KP_of {x : XX} {σ : MM} (hR : Rel x σ) {p : Nat} (hp : p < 6) (h : nI p < m_players σ) : KP x σ p := by
  obtain ⟨-, ⟨P, hP6, hP1, hP2, hP3⟩, -⟩ := hR
  have hpP : p < P := by rw [hP2, lt_iff (by omega) (by omega)] at h; exact h
  obtain ⟨a1, a2, a3, a4⟩ := hP3 p hpP
  exact ⟨hp, a1, a2, a3, a4⟩
theorem KP_th {x : XX} {σ σ' : MM} {p : Nat} (h : KP x σ p) (g : GG) (hf : fz σ σ') : KP (x_thought' x g) σ' p := by
  obtain ⟨f1, f2, f3, -⟩ := hf
  unfold KP at h ⊢
  rw [q_x_kinds_thought, q_x_amounts_thought, f2, f3]
  exact h
theorem KP_now {x : XX} {σ σ' : MM} {p : Nat} (h : KP x σ p) (g : GG) (hf : fz σ σ') : KP (x_now' x g) σ' p := by
  obtain ⟨f1, f2, f3, -⟩ := hf
  unfold KP at h ⊢
  rw [q_x_kinds_now, q_x_amounts_now, f2, f3]
  exact h
/-- a choice in thought -/
theorem step_th {x0 : XX} {σ0 : MM} {g : GG} {σ : MM} {b : BD} {t p : Nat} {mv0 sd : Int32} (h : GRb g σ b t mv0 sd) (hf : fz σ0 σ) (hk : KP x0 σ0 p) : ∃ (o : Option Nat) (sd' : Int32), (∀ s, o = some s → os b s = true) ∧ (o = none → (∀ s, os b s = false) ∧ sd' = sd) ∧ f_X3_chosenSlot_thought (x_thought' x0 g) (nI p) = some (eo o, x_thought' x0 (g_seed' g sd')) ∧ f_X4_chosen σ (nI p) = some (emv o, m_seed' σ sd') ∧ GRb (g_seed' g sd') (m_seed' σ sd') b t mv0 sd' ∧ fz σ0 (m_seed' σ sd') := by
  obtain ⟨hb, hg, hm, hgs, hms⟩ := h
  obtain ⟨o, sd', h1, h2, h3, h4⟩ := chosen_thought (x := x_thought' x0 g) (b := b) (t := t) (p := p) (mv0 := mv0) (sd := sd) hb (by rw [q_x_thought_thought]; exact hg) (by rw [q_x_thought_thought]; exact hgs) hm hms (KP_th hk g hf)
  rw [q_x_thought_thought, q2_x_thought] at h3
  obtain ⟨s1, s2⟩ := GRb_seed (⟨hb, hg, hm, hgs, hms⟩ : GRb g σ b t mv0 sd) sd'
  exact ⟨o, sd', h1, h2, h3, h4, s1, fz_t hf s2⟩
theorem eo_some {s : Nat} (h : s < 56) : ¬ eo (some s) = -1 := nI_ne1 (by omega)
theorem emv_some {s : Nat} (h : s < 56) : ¬ emv (some s) = -1 := nI_ne1 (by have := mv_lt h; omega)
theorem moveOf_o {b : BD} (hz : SZ (bW b) (bH b)) (o : Option Nat) (h : ∀ s, o = some s → os b s = true) : f_X3_moveOf (eo o) = emv o := by
  cases o with
  | none => exact moveOf_m1
  | some s => exact moveOf_ok s (by have := (os_lt hz (h s rfl)).1; omega)
theorem thoughtChoice_ok {x : XX} {σ : MM} (hR : Rel x σ) {p : Nat} (hk : KP x σ p) : ∃ (r : Int32) (x' : XX) (σ' : MM), f_X3_thoughtChoice x (nI p) = some (r, x') ∧ f_X4_choiceOf σ (nI p) = some (r, σ') ∧ Rel x' σ' := by
  obtain ⟨b, t, mv0, sd, hb, hg, hm, hgs, hms⟩ := hR.1
  have hz : SZ (bW b) (bH b) := ⟨hb.1, hb.2.1⟩
  obtain ⟨o, sd', h1, h2, h3, h4, h5, h6⟩ := step_th (x0 := x) (σ0 := σ) (g := x_now x) (⟨hb, hg, hm, hgs, hms⟩ : GRb (x_now x) σ b t mv0 sd) (fz_r σ) hk
  unfold f_X3_thoughtChoice f_X4_choiceOf
  rw [become_eq, ob_s, lt_e, lt_e, h3, h4, ob2_s, ob2_s, lt_e, moveOf_o hz o h1]
  refine ⟨_, _, _, rfl, rfl, ?_⟩
  have e : m_seed' (m_seed' σ sd') (m_seed σ) = σ := by unfold m_seed' m_seed; exact rfl
  rw [e]
  exact Rel_th hR _
theorem B_choice {x : XX} {σ : MM} (hR : Rel x σ) (a1 : Int32) : ∃ (r : Int32) (x' : XX) (σ' : MM), f_X3_choice x a1 = some (r, x') ∧ f_X4_choice σ a1 = some (r, σ') ∧ Rel x' σ' := by
  have hno := R_no' hR (-2) (Or.inl rfl)
  unfold f_X3_choice f_X4_choice
  rcases player_iff hR a1 with ⟨e1, e2⟩ | ⟨p, hp, rfl, hpp, e1, e2⟩
  · rw [e1, e2]; exact hno
  obtain ⟨r, x', σ', h1, h2, h3⟩ := thoughtChoice_ok hR (KP_of hR hp hpp)
  rw [e1, e2, if_pos rfl, if_pos rfl, h1, h2, ob2_s, ob2_s]
  exact ⟨_, _, _, rfl, rfl, h3⟩
theorem under_ok : ∀ k, k < 6 → ∀ j, j < 6 → f_X3_isUnder (nI k) (nI j) = some (f_X4_isUnder (nI k) (nI j)) := by decide +kernel
theorem B_says {x : XX} {σ : MM} (hR : Rel x σ) (a1 : Int32) (a2 : Int32) : ∃ (r : Int32) (x' : XX) (σ' : MM), f_X3_says x a1 a2 = some (r, x') ∧ f_X4_says σ a1 a2 = some (r, σ') ∧ Rel x' σ' := by
  have hno := R_no' hR (-2) (Or.inl rfl)
  have hno3 := R_no' hR (-3) (by decide +kernel)
  have hno4 := R_no' hR (-4) (by decide +kernel)
  unfold f_X3_says f_X4_says
  rcases sh_cases x a1 with ⟨e1, e2⟩ | ⟨s, hs, rfl, e1, e2⟩
  · rw [e1, e2, ob_s, om_n, if_neg Bool.false_ne_true]; exact hno
  rw [e1, e2, if_pos rfl, ob_s, om_s, gd_t (decide_eq_true hs)]
  rcases n4_iff (n := 5) (by omega) a2 with ⟨q1, q2⟩ | ⟨j, hj, rfl, q1⟩
  · rw [show f_X4_within a2 0 5 = false from q1, if_neg Bool.false_ne_true]
    rcases q2 with q2 | ⟨q2, q3⟩
    · rw [if_pos q2]; exact hno
    · rw [if_neg q2, if_neg (show ¬ a2 < 6 from fun hh => q3 (by rw [Int32.le_iff_toInt_le, nI_toInt (by omega)]; rw [Int32.lt_iff_toInt_lt, show (6 : Int32).toInt = 6 by decide +kernel] at hh; omega))]; exact hno
  rw [show f_X4_within (nI j) 0 5 = true from q1, if_pos rfl, if_neg (nI_pos (by omega)), if_pos (show nI j < 6 from nI_lt (b := 6) (by omega) (by omega)), lt_e]
  obtain ⟨hcont, hsh⟩ := hR.2.2.1 s hs
  unfold f_X4_isRow
  rw [gd_t (nI_inb hs (by omega)), gd_t (nI_inb hs (by omega)), gd_t (nI_inb hs (by omega)), nI_clamp (by omega), ob_s]
  unfold f_X1_bearsRow f_X1_bearsPlayer
  rw [hcont]
  rcases hsh with ⟨h1, -⟩ | ⟨p, h1, h2, hp6, -⟩ | ⟨k, n, hk5, h1, -⟩
  · rw [h1, if_pos (show (-1 : Int32) < 0 by decide +kernel), if_neg Bool.false_ne_true, if_pos (show (-1 : Int32) < 10 by decide +kernel), if_neg Bool.false_ne_true, within_f (Or.inl (show (-1 : Int32) < 0 by decide +kernel)), if_neg Bool.false_ne_true, if_neg (show ¬ (0 : Int32) ≤ -1 by decide +kernel)]
    unfold f_X3_says_b70 f_X1_bearsPlayer
    rw [hcont, h1, if_pos (show (-1 : Int32) < 10 by decide +kernel), if_neg Bool.false_ne_true]
    exact hno4
  · have hkp := KP_of hR hp6 h2
    have e10 : nI (p + 10) - 10 = nI p := nn_sub (a := p + 10) (b := 10) (by omega) |>.trans (by rw [Nat.add_sub_cancel])
    obtain ⟨-, k1, k2, ⟨k, hk6, k3⟩, a, ha, k4⟩ := hkp
    rw [h1, e10, if_neg (nI_pos (by omega)), if_pos (show (5 : Int32) ≤ nI (p + 10) from nI_le (a := 5) (by omega) (by omega)), if_neg Bool.false_ne_true, if_neg (show ¬ nI (p + 10) < 10 from nI_nlt (b := 10) (by omega) (by omega)), if_pos rfl, within_f (Or.inr (show (4 : Int32) < nI (p + 10) from nI_lt (a := 4) (by omega) (by omega))), if_neg Bool.false_ne_true, if_pos (nI_pos' (by omega)), (kind_ok hp6).1, ob_s, lt_e, gd_t (nI_inb hp6 (by omega)), gd_t (nI_inb hp6 (by omega)), nI_clamp (by omega), k1, k3, under_ok k hk6 j (by omega), ob_s]
    cases hu : f_X4_isUnder (nI k) (nI j) with
    | false => rw [if_neg Bool.false_ne_true, if_neg Bool.false_ne_true]; exact hno3
    | true =>
      rw [if_pos rfl, if_pos rfl]
      unfold f_X3_says_b70 f_X1_bearsPlayer
      rw [hcont, h1, if_neg (show ¬ nI (p + 10) < 10 from nI_nlt (b := 10) (by omega) (by omega)), if_pos rfl]
      by_cases j0 : nI j = 0
      · rw [if_pos j0, if_pos j0, (kind_ok hp6).2, ob_s, k2]
        exact ⟨_, _, _, rfl, rfl, hR⟩
      · rw [if_neg j0, if_neg j0]
        by_cases j5 : nI j = 5
        · obtain ⟨b, t, mv0, sd, hb, hg, hm, hgs, hms⟩ := hR.1
          rw [if_pos j5, if_pos j5, cnt64, cn_bl hb hg, howMany_ok ⟨hb.1, hb.2.1⟩ hm, ob_s]
          exact ⟨_, _, _, rfl, rfl, hR⟩
        · obtain ⟨r, x', σ', z1, z2, z3⟩ := thoughtChoice_ok hR (KP_of hR hp6 h2)
          rw [if_neg j5, if_neg j5, z1, z2, ob2_s, ob2_s]
          exact ⟨_, _, _, rfl, rfl, z3⟩
  · rw [h1, if_neg (nI_pos (by omega)), if_neg (show ¬ (5 : Int32) ≤ nI k from nI_ge (b := 5) hk5 (by omega)), if_pos rfl, within_t (nI_pos (by omega)) (show ¬ (4 : Int32) < nI k from nI_nlt (a := 4) (by omega) (by omega)), if_pos rfl]
    exact hno3
-- in truth
theorem goes_run {p n : Nat} (hn : n ≤ 40) : ∀ (k N1 N2 i : Nat) (x : XX) (σ : MM), i + k = n → k < N1 → k < N2 → Rel x σ → KP x σ p → ∃ (r : Int32) (x' : XX) (σ' : MM), lp (fun _ _ => none) (f_X3_goes_L28_b (nI p) (nI n)) N1 (nI i) x = some (r, x') ∧ lp (fun _ _ => none) (f_X4_goes_L27_b (nI p) (nI n)) N2 (nI i) σ = some (r, σ') ∧ Rel x' σ' := by
  intro k
  induction k with
  | zero =>
    intro N1 N2 i x σ hi h1 h2 hR hK
    obtain ⟨m1, rfl⟩ : ∃ m, N1 = m + 1 := ⟨N1 - 1, by omega⟩
    obtain ⟨m2, rfl⟩ : ∃ m, N2 = m + 1 := ⟨N2 - 1, by omega⟩
    rw [lp_s, lp_s]
    unfold f_X3_goes_L28_b f_X4_goes_L27_b
    rw [if_pos (nI_le (by omega) (by omega)), if_pos (nI_le (by omega) (by omega))]
    exact ⟨_, _, _, rfl, rfl, hR⟩
  | succ k ih =>
    intro N1 N2 i x σ hi h1 h2 hR hK
    obtain ⟨m1, rfl⟩ : ∃ m, N1 = m + 1 := ⟨N1 - 1, by omega⟩
    obtain ⟨m2, rfl⟩ : ∃ m, N2 = m + 1 := ⟨N2 - 1, by omega⟩
    obtain ⟨b, t, mv0, sd, hb, hg, hm, hgs, hms⟩ := hR.1
    have hz : SZ (bW b) (bH b) := ⟨hb.1, hb.2.1⟩
    obtain ⟨o, sd', c1, c2, c3, c4⟩ := chosen_now hb hg hgs hm hms hK
    obtain ⟨s1, s2⟩ := GRb_seed (⟨hb, hg, hm, hgs, hms⟩ : GRb (x_now x) σ b t mv0 sd) sd'
    have hR2 := Rel_now hR (GRb_GRel s1) s2
    rw [lp_s, lp_s]
    unfold f_X3_goes_L28_b f_X4_goes_L27_b
    rw [if_neg (nI_ge (by omega) (by omega)), if_neg (nI_ge (by omega) (by omega)), c3, c4, ob2_s, ob2_s]
    cases o with
    | none =>
      rw [if_pos (show eo none = -1 from rfl), if_pos (show emv none = -1 from rfl)]
      exact ⟨_, _, _, rfl, rfl, hR2⟩
    | some s =>
      have ho := c1 s rfl
      have h56 := (os_lt hz ho).1
      obtain ⟨g', σ', z1, z2, z3, z4, z5⟩ := GRb_make s1 ho
      rw [if_neg (eo_some h56), if_neg (emv_some h56), q_x_now_now, show eo (some s) = nI s from rfl, show emv (some s) = nI (mv s) from rfl, z1, z2, ob_s, ob2_s, lt_e, lt_e, lt_e, ← nI_succ]
      exact ih m1 m2 (i + 1) _ _ (by omega) (by omega) (by omega) (Rel_now hR2 (GRb_GRel z3) z4) (KP_now (KP_now hK _ s2) _ z4)
theorem n1_iff {n : Nat} (hn : n < 1000) (a : Int32) : (f_X4_within a 1 (nI n) = false ∧ (a < 1 ∨ ¬ a < 1 ∧ ¬ a ≤ nI n)) ∨ ∃ k, 1 ≤ k ∧ k ≤ n ∧ a = nI k ∧ f_X4_within a 1 (nI n) = true ∧ ¬ a < 1 ∧ a ≤ nI n := by
  by_cases h0 : a < 1
  · exact Or.inl ⟨within_f (Or.inl h0), Or.inl h0⟩
  by_cases h1 : a ≤ nI n
  · have h00 : ¬ a < 0 := fun hh => h0 (by rw [Int32.lt_iff_toInt_lt] at hh ⊢; rw [Int32.toInt_zero] at hh; rw [show (1 : Int32).toInt = 1 by decide +kernel]; omega)
    obtain ⟨k, hk, rfl⟩ := i_nat' h00 h1 (by omega)
    refine Or.inr ⟨k, ?_, hk, rfl, within_t h0 (nI_nlt hk (by omega)), h0, h1⟩
    rcases Nat.eq_zero_or_pos k with h | h
    · subst h; exact absurd (show nI 0 < 1 by decide +kernel) h0
    · exact h
  · exact Or.inl ⟨within_f (Or.inr (Int32.not_le.mp h1)), Or.inr ⟨h0, h1⟩⟩
theorem B_goes {x : XX} {σ : MM} (hR : Rel x σ) (a1 : Int32) (a2 : Int32) : ∃ (r : Int32) (x' : XX) (σ' : MM), f_X3_goes x a1 a2 = some (r, x') ∧ f_X4_goes σ a1 a2 = some (r, σ') ∧ Rel x' σ' := by
  have hno := R_no' hR (-2) (Or.inl rfl)
  unfold f_X3_goes f_X4_goes
  rcases player_iff hR a1 with ⟨e1, e2⟩ | ⟨p, hp, rfl, hpp, e1, e2⟩
  · rw [e1, e2]; exact hno
  rw [e1, e2, if_pos rfl, if_pos rfl]
  rcases n1_iff (n := 40) (by omega) a2 with ⟨q1, q2⟩ | ⟨n, hn1, hn, rfl, q1, q2, q3⟩
  · rw [show f_X4_within a2 1 40 = false from q1, if_neg Bool.false_ne_true]
    rcases q2 with q2 | ⟨q2, q3⟩
    · rw [if_pos q2]; exact hno
    · rw [if_neg q2, if_neg (show ¬ a2 ≤ 40 from q3)]; exact hno
  · rw [show f_X4_within (nI n) 1 40 = true from q1, if_neg q2, if_pos (show nI n ≤ 40 from q3), if_pos rfl]
    unfold f_X3_goes_L28 f_X4_goes_L27
    exact goes_run hn n FU FU 0 x σ (by omega) (by unfold FU; omega) (by unfold FU; omega) hR (KP_of hR hp hpp)
