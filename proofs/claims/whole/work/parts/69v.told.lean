/-! Told games -/
theorem Rel_ah {x : XX} {σ : MM} (hR : Rel x σ) (K : Nat → Int32) : Rel x (m_ahead' σ K) := by
  obtain ⟨h1, hP, hS, hT, hF, hI⟩ := hR
  exact ⟨GRel_c h1 rfl (by simp only [q_m_w_ahead, q_m_h_ahead, q_m_hedge_ahead, q_m_dug_ahead, q_m_owner_ahead, q_m_turn_ahead, q_m_made_ahead, q_m_players_ahead, q_m_kind_ahead, q_m_own_ahead, q_m_seed_ahead, q_m_taped_ahead, q_m_tape_ahead, q_m_from_ahead, q_m_to_ahead, q_m_token_ahead, q_m_value_ahead, q_m_holding_ahead, q_m_rowLength_ahead, q_m_rowOf_ahead, q_m_refusals_ahead, q_m_imaged_ahead, q_m_old_ahead, q_m_ahead_ahead, q_m_bestMove_ahead, and_self]), PRel_c hP ⟨rfl, rfl, rfl⟩ (by simp only [q_m_w_ahead, q_m_h_ahead, q_m_hedge_ahead, q_m_dug_ahead, q_m_owner_ahead, q_m_turn_ahead, q_m_made_ahead, q_m_players_ahead, q_m_kind_ahead, q_m_own_ahead, q_m_seed_ahead, q_m_taped_ahead, q_m_tape_ahead, q_m_from_ahead, q_m_to_ahead, q_m_token_ahead, q_m_value_ahead, q_m_holding_ahead, q_m_rowLength_ahead, q_m_rowOf_ahead, q_m_refusals_ahead, q_m_imaged_ahead, q_m_old_ahead, q_m_ahead_ahead, q_m_bestMove_ahead, and_self]), SRel_c hS rfl (by simp only [q_m_w_ahead, q_m_h_ahead, q_m_hedge_ahead, q_m_dug_ahead, q_m_owner_ahead, q_m_turn_ahead, q_m_made_ahead, q_m_players_ahead, q_m_kind_ahead, q_m_own_ahead, q_m_seed_ahead, q_m_taped_ahead, q_m_tape_ahead, q_m_from_ahead, q_m_to_ahead, q_m_token_ahead, q_m_value_ahead, q_m_holding_ahead, q_m_rowLength_ahead, q_m_rowOf_ahead, q_m_refusals_ahead, q_m_imaged_ahead, q_m_old_ahead, q_m_ahead_ahead, q_m_bestMove_ahead, and_self]), TRel_c hT rfl (by simp only [q_m_w_ahead, q_m_h_ahead, q_m_hedge_ahead, q_m_dug_ahead, q_m_owner_ahead, q_m_turn_ahead, q_m_made_ahead, q_m_players_ahead, q_m_kind_ahead, q_m_own_ahead, q_m_seed_ahead, q_m_taped_ahead, q_m_tape_ahead, q_m_from_ahead, q_m_to_ahead, q_m_token_ahead, q_m_value_ahead, q_m_holding_ahead, q_m_rowLength_ahead, q_m_rowOf_ahead, q_m_refusals_ahead, q_m_imaged_ahead, q_m_old_ahead, q_m_ahead_ahead, q_m_bestMove_ahead, and_self]), RRel_c hF rfl (by simp only [q_m_w_ahead, q_m_h_ahead, q_m_hedge_ahead, q_m_dug_ahead, q_m_owner_ahead, q_m_turn_ahead, q_m_made_ahead, q_m_players_ahead, q_m_kind_ahead, q_m_own_ahead, q_m_seed_ahead, q_m_taped_ahead, q_m_tape_ahead, q_m_from_ahead, q_m_to_ahead, q_m_token_ahead, q_m_value_ahead, q_m_holding_ahead, q_m_rowLength_ahead, q_m_rowOf_ahead, q_m_refusals_ahead, q_m_imaged_ahead, q_m_old_ahead, q_m_ahead_ahead, q_m_bestMove_ahead]), IRel_c hI ⟨rfl, rfl, rfl, rfl⟩ (by simp only [q_m_w_ahead, q_m_h_ahead, q_m_hedge_ahead, q_m_dug_ahead, q_m_owner_ahead, q_m_turn_ahead, q_m_made_ahead, q_m_players_ahead, q_m_kind_ahead, q_m_own_ahead, q_m_seed_ahead, q_m_taped_ahead, q_m_tape_ahead, q_m_from_ahead, q_m_to_ahead, q_m_token_ahead, q_m_value_ahead, q_m_holding_ahead, q_m_rowLength_ahead, q_m_rowOf_ahead, q_m_refusals_ahead, q_m_imaged_ahead, q_m_old_ahead, q_m_ahead_ahead, q_m_bestMove_ahead, and_self])⟩
theorem GRb_ah {g : GG} {σ : MM} {b : BD} {t : Nat} {mv0 sd : Int32} (h : GRb g σ b t mv0 sd) (K : Nat → Int32) : GRb g (m_ahead' σ K) b t mv0 sd := by
  obtain ⟨hb, hg, hm, hgs, hms⟩ := h
  refine ⟨hb, hg, ?_, hgs, ?_⟩
  · unfold MB
    simp only [q_m_w_ahead, q_m_h_ahead, q_m_hedge_ahead, q_m_dug_ahead, q_m_owner_ahead, q_m_turn_ahead, q_m_made_ahead, q_m_players_ahead, q_m_kind_ahead, q_m_own_ahead, q_m_seed_ahead, q_m_taped_ahead, q_m_tape_ahead, q_m_from_ahead, q_m_to_ahead, q_m_token_ahead, q_m_value_ahead, q_m_holding_ahead, q_m_rowLength_ahead, q_m_rowOf_ahead, q_m_refusals_ahead, q_m_imaged_ahead, q_m_old_ahead, q_m_ahead_ahead, q_m_bestMove_ahead]
    exact hm
  · unfold MS
    simp only [q_m_w_ahead, q_m_h_ahead, q_m_hedge_ahead, q_m_dug_ahead, q_m_owner_ahead, q_m_turn_ahead, q_m_made_ahead, q_m_players_ahead, q_m_kind_ahead, q_m_own_ahead, q_m_seed_ahead, q_m_taped_ahead, q_m_tape_ahead, q_m_from_ahead, q_m_to_ahead, q_m_token_ahead, q_m_value_ahead, q_m_holding_ahead, q_m_rowLength_ahead, q_m_rowOf_ahead, q_m_refusals_ahead, q_m_imaged_ahead, q_m_old_ahead, q_m_ahead_ahead, q_m_bestMove_ahead]
    exact hms
/-- all is taken back -/
theorem Rel_back {x : XX} {σ σ2 σ3 : MM} {K : Nat → Int32} (hR : Rel x σ) (hk : kept K σ) (hf : fz (m_ahead' σ K) σ2) (ha : agn (m_ahead σ2) σ3) (hr : restA σ2 σ3) : Rel x σ3 := by
  obtain ⟨h1, ⟨P, hP6, hP1, hP2, hP3⟩, hS, hT, hF, hI⟩ := hR
  obtain ⟨f1, f2, f3, f4, f5, f6, f7, f8, f9, f10, f11, f12, f13, f14, f15, f16⟩ := hf
  obtain ⟨r1, r2, r3, r4, r5, r6, r7, r8, r9, r10, r11, r12, r13, r14⟩ := hr
  rw [q_m_ahead_ahead] at f16
  rw [f16] at ha
  have hG := bk_GRel h1 hk ha
  obtain ⟨k1, k2, k3, k4, k5, k6, k7, k8, k9⟩ := hk
  obtain ⟨a1, a2, a3, a4, a5, a6, a7, a8, a9⟩ := ha
  simp only [q_m_w_ahead, q_m_h_ahead, q_m_hedge_ahead, q_m_dug_ahead, q_m_owner_ahead, q_m_turn_ahead, q_m_made_ahead, q_m_players_ahead, q_m_kind_ahead, q_m_own_ahead, q_m_seed_ahead, q_m_taped_ahead, q_m_tape_ahead, q_m_from_ahead, q_m_to_ahead, q_m_token_ahead, q_m_value_ahead, q_m_holding_ahead, q_m_rowLength_ahead, q_m_rowOf_ahead, q_m_refusals_ahead, q_m_imaged_ahead, q_m_old_ahead, q_m_ahead_ahead, q_m_bestMove_ahead] at f1 f2 f3 f4 f5 f6 f7 f8 f9 f10 f11 f12 f13 f14 f15
  have hpl : m_players σ3 = m_players σ := by rw [a8, k8]
  refine ⟨hG, ⟨P, hP6, hP1, hpl.trans hP2, fun p hp => ?_⟩, SRel_c hS rfl ⟨hpl, r7.trans f10, r8.trans f11, r9.trans f12⟩, TRel_c hT rfl ⟨r1.trans f4, r2.trans f5⟩, RRel_c hF rfl (r10.trans f13), IRel_c hI ⟨rfl, rfl, rfl, rfl⟩ ⟨r11.trans f14, r12.trans f15, hpl⟩⟩
  rw [(a3 p (by omega)).1, (a3 p (by omega)).2, (k3 p (by omega)).1, (k3 p (by omega)).2]
  exact hP3 p hp
theorem slot_m1 {g : GG} {σ : MM} {b : BD} (hb : BOK b) (hg : GB g b) (hm : MB σ b) : f_X4_isMove σ (-1) = false := by
  rcases slot_iff hb hg hm (-1) with ⟨_, e2⟩ | ⟨s, hs, ha, -⟩
  · exact e2
  · exact absurd ha.symm (nI_ne1 (by have := mv_lt hs; omega))
theorem told_run {x0 : XX} {σ0 : MM} {q n : Nat} (hq : q < 8) (hn : n ≤ 40) (hel : ∀ i, i < n → f_X1_elementAt (x_shelf x0 q) (nI i) = some (m_rowOf σ0 (40 * q + i))) : ∀ (k N1 N2 i : Nat) (g : GG) (σ : MM), i + k = n → k < N1 → k < N2 → GRel g σ → fz σ0 σ → ∃ (r : Int32) (g' : GG) (σ' : MM), lp (fun _ _ => none) (f_X3_toldWrong_s_L13_b q (nI n)) N1 (nI i) (x_thought' x0 g) = some (r, x_thought' x0 g') ∧ lp (fun _ _ => none) (f_X4_lived_L2_b (nI q) (nI n)) N2 (nI i) σ = some (r, σ') ∧ GRel g' σ' ∧ fz σ0 σ' := by
  intro k
  induction k with
  | zero =>
    intro N1 N2 i g σ hi h1 h2 hG hF
    obtain ⟨m1, rfl⟩ : ∃ m, N1 = m + 1 := ⟨N1 - 1, by omega⟩
    obtain ⟨m2, rfl⟩ : ∃ m, N2 = m + 1 := ⟨N2 - 1, by omega⟩
    rw [lp_s, lp_s]
    unfold f_X3_toldWrong_s_L13_b f_X4_lived_L2_b
    rw [if_pos (nI_le (by omega) (by omega)), if_pos (nI_le (by omega) (by omega))]
    exact ⟨_, _, _, rfl, rfl, hG, hF⟩
  | succ k ih =>
    intro N1 N2 i g σ hi h1 h2 hG hF
    obtain ⟨m1, rfl⟩ : ∃ m, N1 = m + 1 := ⟨N1 - 1, by omega⟩
    obtain ⟨m2, rfl⟩ : ∃ m, N2 = m + 1 := ⟨N2 - 1, by omega⟩
    obtain ⟨b, t, mv0, sd, hb, hg, hm, hgs, hms⟩ := hG
    have hz : SZ (bW b) (bH b) := ⟨hb.1, hb.2.1⟩
    have esh : x_shelf (x_thought' x0 g) q = x_shelf x0 q := by unfold x_shelf; rw [q_x_shelves_thought]
    have e40 : (40 : Int32) * nI q + nI i = nI (40 * q + i) := by rw [show (40 : Int32) = nI 40 from rfl, nn_mul, nn_add]
    obtain ⟨f1, f2, f3, f4, f5, f6, f7, f8, f9, f10, f11, f12, frest⟩ := hF
    have hF : fz σ0 σ := ⟨f1, f2, f3, f4, f5, f6, f7, f8, f9, f10, f11, f12, frest⟩
    rw [lp_s, lp_s]
    unfold f_X3_toldWrong_s_L13_b f_X4_lived_L2_b f_X3_toldWrong_s_b33 f_X4_toldAt
    rw [if_neg (nI_ge (by omega) (by omega)), if_neg (nI_ge (by omega) (by omega)), esh, hel i (by omega), ob_s, e40, gd_t (nI_inb (show 40 * q + i < 320 by omega) (by omega)), nI_clamp (by omega), lt_e, f12, q_x_thought_thought]
    generalize m_rowOf σ0 (40 * q + i) = y
    have bad : ∃ (r : Int32) (g' : GG) (σ' : MM), some (nI i, x_thought' x0 g) = some (r, x_thought' x0 g') ∧ some (nI i, σ) = some (r, σ') ∧ GRel g' σ' ∧ fz σ0 σ' := ⟨_, _, _, rfl, rfl, ⟨b, t, mv0, sd, hb, hg, hm, hgs, hms⟩, hF⟩
    by_cases c : (lg_cmp y (Int32.toInt64 (Int64.toInt32 y))) = 0
    · rw [if_pos c, if_pos c, ob_s]
      unfold f_X3_toldWrong_s_b59
      rcases slot_iff hb hg hm (Int64.toInt32 y) with ⟨e1, e2⟩ | ⟨s, hs, ha, e1, e2, e3, e4⟩
      · rw [e1, e2, if_pos rfl, if_neg Bool.false_ne_true]
        exact bad
      · rw [e1, e2, e3, if_neg (nI_ne1 (by omega)), if_pos rfl, ob_s, q_x_thought_thought, e4]
        cases ho : os b s with
        | false => rw [if_neg Bool.false_ne_true, if_neg Bool.false_ne_true]; exact bad
        | true =>
          obtain ⟨g', σ', z1, z2, z3, z4, z5⟩ := GRb_make (⟨hb, hg, hm, hgs, hms⟩ : GRb g σ b t mv0 sd) ho
          rw [if_pos rfl, if_pos rfl, z1, ob_s, lt_e, lt_e, ha, z2, ob2_s, lt_e, ← nI_succ, q2_x_thought]
          exact ih m1 m2 (i + 1) g' σ' (by omega) (by omega) (by omega) (GRb_GRel z3) (fz_t hF z4)
    · rw [if_neg c, if_neg c, ob_s, slot_m1 hb hg hm, if_neg Bool.false_ne_true]
      unfold f_X3_toldWrong_s_b59
      rw [if_pos rfl]
      exact bad
theorem told_iff {x : XX} {σ : MM} (hR : Rel x σ) {q : Nat} (hq : q < 8) (a2 : Int32) : (∃ c : Int32, (c = -2 ∨ c = -3 ∨ c = -4) ∧ f_X3_toldTrouble_s (x_shelf x q) a2 = c ∧ f_X4_noGame σ (nI q) a2 = some c) ∨ ∃ n, n ≤ 40 ∧ a2 = nI n ∧ f_X3_toldTrouble_s (x_shelf x q) a2 = 0 ∧ f_X4_noGame σ (nI q) a2 = some 0 ∧ ∀ i, i < n → f_X1_elementAt (x_shelf x q) (nI i) = some (m_rowOf σ (40 * q + i)) := by
  obtain ⟨hcont, hsh⟩ := hR.2.2.1 q hq
  have eS : f_X4_isShelf (nI q) = true := by
    unfold f_X4_isShelf
    exact within_t (nI_pos (by omega)) (show ¬ (7 : Int32) < nI q from nI_nlt (a := 7) (by omega) (by omega))
  unfold f_X3_toldTrouble_s f_X4_noGame
  rw [eS, if_pos rfl]
  rcases n4_iff (n := 40) (by omega) a2 with ⟨q1, q2⟩ | ⟨n, hn, rfl, q1⟩
  · left
    refine ⟨-2, Or.inl rfl, ?_, ?_⟩
    · rcases q2 with q2 | ⟨q2, q3⟩
      · rw [if_pos q2]
      · rw [if_neg q2, if_neg (show ¬ a2 ≤ 40 from q3)]
    · rw [show f_X4_within a2 0 40 = false from q1, if_neg Bool.false_ne_true]
  rw [show f_X4_within (nI n) 0 40 = true from q1, if_pos rfl, if_neg (nI_pos (by omega)), if_pos (show nI n ≤ 40 from nI_le (b := 40) hn (by omega)), lt_e]
  unfold f_X4_isRow f_X3_rowTrouble_s f_X1_bearsPlayer f_X1_bearsRow f_X4_noRow
  rw [gd_t (nI_inb hq (by omega)), gd_t (nI_inb hq (by omega)), gd_t (nI_inb hq (by omega)), gd_t (nI_inb hq (by omega)), nI_clamp (by omega), hcont, ob_s]
  rcases hsh with ⟨h1, -⟩ | ⟨p, h1, h2, hp6, -⟩ | ⟨k, m, hk5, h1, hm, h2, h3, h4⟩
  · left
    refine ⟨-4, Or.inr (Or.inr rfl), ?_, ?_⟩
    · rw [h1, if_pos (show (-1 : Int32) < 10 by decide +kernel), if_neg Bool.false_ne_true, if_pos (show (-1 : Int32) < 0 by decide +kernel), if_neg Bool.false_ne_true, if_neg (show ¬ (-4 : Int32) = 0 by decide +kernel)]
    · rw [h1, show f_X4_within (-1) 0 4 = false by decide +kernel, if_neg Bool.false_ne_true, if_pos (show (-1 : Int32) < 10 by decide +kernel), if_neg (show ¬ (0 : Int32) ≤ -1 by decide +kernel), ob_s]
  · left
    refine ⟨-3, Or.inr (Or.inl rfl), ?_, ?_⟩
    · rw [h1, if_neg (show ¬ nI (p + 10) < 10 from nI_nlt (b := 10) (by omega) (by omega)), if_pos rfl, if_neg (show ¬ (-3 : Int32) = 0 by decide +kernel)]
    · rw [h1, within_f (Or.inr (show (4 : Int32) < nI (p + 10) from nI_lt (a := 4) (by omega) (by omega))), if_neg Bool.false_ne_true, if_neg (show ¬ nI (p + 10) < 10 from nI_nlt (b := 10) (by omega) (by omega)), ob_s]
  · rw [h1, if_pos (show nI k < 10 from nI_lt (b := 10) (by omega) (by omega)), if_neg Bool.false_ne_true, if_neg (nI_pos (by omega)), if_neg (show ¬ (5 : Int32) ≤ nI k from nI_ge (b := 5) hk5 (by omega)), if_pos rfl, within_t (nI_pos (by omega)) (show ¬ (4 : Int32) < nI k from nI_nlt (a := 4) (by omega) (by omega)), if_pos rfl, if_pos rfl, h2, h3]
    by_cases c : n ≤ m
    · right
      refine ⟨n, hn, rfl, by rw [if_pos (nI_le c (by omega))], by rw [if_pos (nI_le c (by omega))], fun i hi => ?_⟩
      unfold f_X1_elementAt f_X1_reaches
      rw [h2, if_neg (nI_pos (by omega)), if_neg (nI_ge (show i < m by omega) (by omega)), if_neg (show ¬ (40 : Int32) ≤ nI i from nI_ge (b := 40) (by omega) (by omega)), if_pos rfl, gd_t (nI_inb (by omega) (by omega)), nI_clamp (by omega), h4 i (by omega)]
    · left
      refine ⟨-2, Or.inl rfl, by rw [if_neg (nI_ge (by omega) (by omega))], by rw [if_neg (nI_ge (by omega) (by omega))]⟩
theorem told_ok {x : XX} {σ : MM} (hR : Rel x σ) {q n : Nat} (hq : q < 8) (hn : n ≤ 40) (hel : ∀ i, i < n → f_X1_elementAt (x_shelf x q) (nI i) = some (m_rowOf σ (40 * q + i))) (K : Nat → Int32) : ∃ (r : Int32) (g' : GG) (σ' : MM), f_X3_toldWrong_s x q (nI n) = some (r, x_thought' x g') ∧ f_X4_lived (m_ahead' σ K) (nI q) (nI n) = some (r, σ') ∧ GRel g' σ' ∧ fz (m_ahead' σ K) σ' := by
  obtain ⟨b, t, mv0, sd, h⟩ := hR.1
  have h2 := GRb_ah (h : GRb (x_now x) σ b t mv0 sd) K
  obtain ⟨r, g', σ', z1, z2, z3, z4⟩ := told_run (x0 := x) (σ0 := m_ahead' σ K) hq hn (by rw [q_m_rowOf_ahead]; exact hel) n FU FU 0 (x_now x) (m_ahead' σ K) (by omega) (by unfold FU; omega) (by unfold FU; omega) (GRb_GRel h2) (fz_r _)
  refine ⟨r, g', σ', ?_, ?_, z3, z4⟩
  · unfold f_X3_toldWrong_s f_X3_toldWrong_s_L13
    rw [become_eq, ob_s, lt_e]
    exact z1
  · unfold f_X4_lived f_X4_lived_L2
    exact z2
theorem B_judge {x : XX} {σ : MM} (hR : Rel x σ) (a1 : Int32) (a2 : Int32) : ∃ (r : Int32) (x' : XX) (σ' : MM), f_X3_judge x a1 a2 = some (r, x') ∧ f_X4_judge σ a1 a2 = some (r, σ') ∧ Rel x' σ' := by
  have hno := R_no' hR (-2) (Or.inl rfl)
  unfold f_X3_judge f_X4_judge
  rcases sh_cases x a1 with ⟨e1, e2⟩ | ⟨q, hq, rfl, e1, e2⟩
  · unfold f_X4_noGame f_X3_toldTrouble_n
    rw [e1, e2, ob_s, om_n, if_neg Bool.false_ne_true, lt_e, if_neg (show ¬ (-2 : Int32) = 0 by decide +kernel), ob_s, if_neg (show ¬ (0 : Int32) ≤ -2 by decide +kernel)]
    exact hno
  rw [e1, ob_s, om_s, gd_t (decide_eq_true hq), lt_e, ob_s, om_s, gd_t (decide_eq_true hq)]
  rcases told_iff hR hq a2 with ⟨c, hc, t1, t2⟩ | ⟨n, hn, rfl, t1, t2, t3⟩
  · have hnc := R_no' hR c (by rcases hc with h | h | h <;> simp [h])
    have c0 : ¬ c = 0 ∧ ¬ (0 : Int32) ≤ c := by rcases hc with rfl | rfl | rfl <;> decide +kernel
    rw [t1, t2, ob_s, if_neg c0.1, if_neg c0.2]
    exact hnc
  · obtain ⟨K, k1, k2⟩ := keep_ahead_ok σ
    obtain ⟨r, g', σ', z1, z2, z3, z4⟩ := told_ok hR hq hn t3 K
    obtain ⟨σ3, a1, a3, a4⟩ := again_ahead_ok σ'
    rw [t1, t2, ob_s, if_pos rfl, if_pos (show (0 : Int32) ≤ 0 by decide +kernel), k1, ob_s, z1, z2, ob2_s, ob2_s, a1, ob_s]
    exact ⟨_, _, _, rfl, rfl, Rel_th (Rel_back hR k2 z4 a3 a4) g'⟩
theorem B_behind {x : XX} {σ : MM} (hR : Rel x σ) (a1 : Int32) (a2 : Int32) : ∃ (r : Int32) (x' : XX) (σ' : MM), f_X3_behind x a1 a2 = some (r, x') ∧ f_X4_behind σ a1 a2 = some (r, σ') ∧ Rel x' σ' := by
  have hno := R_noL hR (-2) (Or.inl rfl)
  unfold f_X3_behind f_X4_behind
  rcases sh_cases x a1 with ⟨e1, e2⟩ | ⟨q, hq, rfl, e1, e2⟩
  · unfold f_X4_noGame f_X3_toldTrouble_n
    rw [e1, e2, ob_s, om_n, if_neg Bool.false_ne_true, lt_e, if_neg (show ¬ (-2 : Int32) = 0 by decide +kernel), ob_s, if_neg (show ¬ (0 : Int32) ≤ -2 by decide +kernel)]
    exact hno
  rw [e1, ob_s, om_s, gd_t (decide_eq_true hq), lt_e, ob_s, om_s, gd_t (decide_eq_true hq)]
  rcases told_iff hR hq a2 with ⟨c, hc, t1, t2⟩ | ⟨n, hn, rfl, t1, t2, t3⟩
  · have hnc := R_noL hR c (by rcases hc with h | h | h <;> simp [h])
    have c0 : ¬ c = 0 ∧ ¬ (0 : Int32) ≤ c := by rcases hc with rfl | rfl | rfl <;> decide +kernel
    rw [t1, t2, ob_s, if_neg c0.1, if_neg c0.2]
    exact hnc
  · obtain ⟨K, k1, k2⟩ := keep_ahead_ok σ
    obtain ⟨r, g', σ', z1, z2, ⟨b, t, mv0, sd, hb, hg, hm, hgs, hms⟩, z4⟩ := told_ok hR hq hn t3 K
    obtain ⟨σ3, a1, a3, a4⟩ := again_ahead_ok σ'
    have hR3 := Rel_th (Rel_back hR k2 z4 a3 a4) g'
    rw [t1, t2, ob_s, if_pos rfl, if_pos (show (0 : Int32) ≤ 0 by decide +kernel), k1, ob_s, z1, z2, ob2_s, ob2_s, show (0 : Int32) = nI 0 from rfl, leadM_ok hb hm (p := 0) (by omega), ob_s, a1, ob_s, q_x_thought_thought, leadX_ok hb hg (p := 0) (by omega), ob_s]
    by_cases c : r = -1
    · rw [if_pos c, if_pos c]
      exact ⟨_, _, _, rfl, rfl, hR3⟩
    · rw [if_neg c, if_neg c]
      exact R_noL hR3 (-5) (by decide +kernel)
theorem B_done {x : XX} {σ : MM} (hR : Rel x σ) (a1 : Int32) (a2 : Int32) : ∃ (r : Int32) (x' : XX) (σ' : MM), f_X3_done x a1 a2 = some (r, x') ∧ f_X4_done σ a1 a2 = some (r, σ') ∧ Rel x' σ' := by
  have hno := R_no' hR (-2) (Or.inl rfl)
  unfold f_X3_done f_X4_done
  rcases sh_cases x a1 with ⟨e1, e2⟩ | ⟨q, hq, rfl, e1, e2⟩
  · unfold f_X4_noGame f_X3_toldTrouble_n
    rw [e1, e2, ob_s, om_n, if_neg Bool.false_ne_true, lt_e, if_neg (show ¬ (-2 : Int32) = 0 by decide +kernel), ob_s, if_neg (show ¬ (0 : Int32) ≤ -2 by decide +kernel)]
    exact hno
  rw [e1, ob_s, om_s, gd_t (decide_eq_true hq), lt_e, ob_s, om_s, gd_t (decide_eq_true hq)]
  rcases told_iff hR hq a2 with ⟨c, hc, t1, t2⟩ | ⟨n, hn, rfl, t1, t2, t3⟩
  · have hnc := R_no' hR c (by rcases hc with h | h | h <;> simp [h])
    have c0 : ¬ c = 0 ∧ ¬ (0 : Int32) ≤ c := by rcases hc with rfl | rfl | rfl <;> decide +kernel
    rw [t1, t2, ob_s, if_neg c0.1, if_neg c0.2]
    exact hnc
  · obtain ⟨K, k1, k2⟩ := keep_ahead_ok σ
    obtain ⟨r, g', σ', z1, z2, z3, z4⟩ := told_ok hR hq hn t3 K
    obtain ⟨σ3, a1, a3, a4⟩ := again_ahead_ok σ'
    rw [t1, t2, ob_s, if_pos rfl, if_pos (show (0 : Int32) ≤ 0 by decide +kernel), k1, ob_s, z1, z2, ob2_s, ob2_s]
    by_cases c : r = -1
    · rw [if_pos c, if_pos c, become_eq, ob_s, lt_e, q_x_now_now, q_x_thought_thought]
      have hR4 := Rel_now (Rel_th (Rel_ah hR K) g') z3 z4
      obtain ⟨b, t, mv0, sd, hb, hg, hm, hgs, hms⟩ := z3
      rw [hgs.2.2.1, hms.2.2.1]
      exact ⟨_, _, _, rfl, rfl, hR4⟩
    · rw [if_neg c, if_neg c, a1, ob_s]
      exact R_no' (Rel_th (Rel_back hR k2 z4 a3 a4) g') (-5) (by decide +kernel)
