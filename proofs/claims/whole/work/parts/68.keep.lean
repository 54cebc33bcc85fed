/-- a window laid over a row -/
def fl (g : Nat → Int32) (lo n : Nat) (f : Nat → Int32) : Nat → Int32 := fun j => if lo ≤ j ∧ j < lo + n then f (j - lo) else g j
theorem fl_0 (g : Nat → Int32) (lo : Nat) (f : Nat → Int32) : fl g lo 0 f = g := by
  funext j
  exact if_neg (by omega)
theorem fl_s (g : Nat → Int32) (lo i : Nat) (f : Nat → Int32) : upd (fl g lo i f) (lo + i) (f i) = fl g lo (i + 1) f := by
  funext j
  show (if j = lo + i then f i else if lo ≤ j ∧ j < lo + i then f (j - lo) else g j) = if lo ≤ j ∧ j < lo + (i + 1) then f (j - lo) else g j
  by_cases h1 : j = lo + i
  · rw [if_pos h1, if_pos (by omega)]
    congr 1; omega
  · rw [if_neg h1]
    by_cases h2 : lo ≤ j ∧ j < lo + i
    · rw [if_pos h2, if_pos (by omega)]
    · rw [if_neg h2, if_neg (by omega)]
theorem fl_s0 (g : Nat → Int32) (i : Nat) (f : Nat → Int32) : upd (fl g 0 i f) i (f i) = fl g 0 (i + 1) f := by
  have h := fl_s g 0 i f
  rw [Nat.zero_add] at h
  exact h
theorem fl_uo (g f : Nat → Int32) {lo n k : Nat} {v : Int32} (h : k < lo ∨ lo + n ≤ k) : upd (fl g lo n f) k v = fl (upd g k v) lo n f := by
  funext j
  show (if j = k then v else if lo ≤ j ∧ j < lo + n then f (j - lo) else g j) = if lo ≤ j ∧ j < lo + n then f (j - lo) else if j = k then v else g j
  by_cases h1 : j = k
  · rw [if_pos h1, if_neg (by omega), if_pos h1]
  · rw [if_neg h1]
    by_cases h2 : lo ≤ j ∧ j < lo + n
    · rw [if_pos h2, if_pos h2]
    · rw [if_neg h2, if_neg h2, if_neg h1]
/-! Keeping and taking back, old -/
theorem q2_m_old (σ : MM) (a b : Nat → Int32) : m_old' (m_old' σ a) b = m_old' σ b := by unfold m_old'; exact rfl
theorem kp2_old (σ : MM) (k : MM → Option MM) : f_X4_keep_old_L2 k 0 σ = k (m_old' σ (fl (m_old σ) 0 40 (fun e => ib (decide (m_hedge σ e ≠ 0))))) := by
  have h := lp_FU (fun _ _ => none) (f_X4_keep_old_L2_b k) (fun f (p : Int32 × MM) => f p.1 p.2) (fun i => (nI i, m_old' σ (fl (m_old σ) 0 i (fun e => ib (decide (m_hedge σ e ≠ 0)))))) 40 (k (m_old' σ (fl (m_old σ) 0 40 (fun e => ib (decide (m_hedge σ e ≠ 0)))))) (fun i rec hi => by
      show f_X4_keep_old_L2_b k rec (nI i) _ = rec (nI (i + 1)) _
      unfold f_X4_keep_old_L2_b
      rw [if_neg (show ¬ (40 : Int32) ≤ nI i from nI_ge (b := 40) hi (by omega)), gd_t (nI_inb hi (by omega)), gd_t (nI_inb (by omega) (by omega)), gd_t (nI_inb (by omega) (by omega)), nI_clamp (by omega)]
      simp only [lt_e, q_m_w_old, q_m_h_old, q_m_hedge_old, q_m_dug_old, q_m_owner_old, q_m_turn_old, q_m_made_old, q_m_players_old, q_m_kind_old, q_m_own_old, q_m_seed_old, q_m_taped_old, q_m_tape_old, q_m_from_old, q_m_to_old, q_m_token_old, q_m_value_old, q_m_holding_old, q_m_rowLength_old, q_m_rowOf_old, q_m_refusals_old, q_m_imaged_old, q_m_old_old, q_m_ahead_old, q_m_bestMove_old, ← nI_succ]
      rw [← fl_s0]
      by_cases e : m_hedge σ i = 0
      · rw [if_pos e]
        have e1 : ib (decide (m_hedge σ i ≠ 0)) = 0 := by simp [ib, e]
        rw [e1]
        rfl
      · rw [if_neg e]
        have e1 : ib (decide (m_hedge σ i ≠ 0)) = 1 := by simp [ib, e]
        rw [e1]
        rfl) (fun rec => by
      show f_X4_keep_old_L2_b k rec (nI 40) _ = _
      unfold f_X4_keep_old_L2_b
      rw [if_pos (show (40 : Int32) ≤ nI 40 by decide +kernel)]) (by omega)
  have eg : m_old' σ (m_old σ) = σ := rfl
  simp only [fl_0, eg, nI_0] at h
  unfold f_X4_keep_old_L2
  exact h
theorem kp33_old (σ : MM) (k : MM → Option MM) : f_X4_keep_old_L33 k 0 σ = k (m_old' σ (fl (fl (m_old σ) 40 16 (fun e => ib (decide (m_dug σ e ≠ 0)))) 56 16 (m_owner σ))) := by
  have h := lp_FU (fun _ _ => none) (f_X4_keep_old_L33_b k) (fun f (p : Int32 × MM) => f p.1 p.2) (fun i => (nI i, m_old' σ (fl (fl (m_old σ) 40 i (fun e => ib (decide (m_dug σ e ≠ 0)))) 56 i (m_owner σ)))) 16 (k (m_old' σ (fl (fl (m_old σ) 40 16 (fun e => ib (decide (m_dug σ e ≠ 0)))) 56 16 (m_owner σ)))) (fun i rec hi => by
      show f_X4_keep_old_L33_b k rec (nI i) _ = rec (nI (i + 1)) _
      have e40 : (40 : Int32) + nI i = nI (40 + i) := nn_add 40 i
      have e56 : (56 : Int32) + nI i = nI (56 + i) := nn_add 56 i
      unfold f_X4_keep_old_L33_b f_X4_keep_old_b58
      rw [if_neg (show ¬ (16 : Int32) ≤ nI i from nI_ge (b := 16) hi (by omega)), gd_t (nI_inb hi (by omega)), e40, e56, gd_t (nI_inb (by omega) (by omega)), gd_t (nI_inb (by omega) (by omega))]
      simp only [lt_e]
      rw [gd_t (nI_inb hi (by omega)), gd_t (nI_inb hi (by omega)), gd_t (nI_inb (by omega) (by omega)), gd_t (nI_inb (by omega) (by omega)), nI_clamp (show i < 2 ^ 31 by omega), nI_clamp (show 40 + i < 2 ^ 31 by omega), nI_clamp (show 56 + i < 2 ^ 31 by omega)]
      simp only [q_m_w_old, q_m_h_old, q_m_hedge_old, q_m_dug_old, q_m_owner_old, q_m_turn_old, q_m_made_old, q_m_players_old, q_m_kind_old, q_m_own_old, q_m_seed_old, q_m_taped_old, q_m_tape_old, q_m_from_old, q_m_to_old, q_m_token_old, q_m_value_old, q_m_holding_old, q_m_rowLength_old, q_m_rowOf_old, q_m_refusals_old, q_m_imaged_old, q_m_old_old, q_m_ahead_old, q_m_bestMove_old, ← nI_succ]
      rw [← fl_s, ← fl_s]
      by_cases e : m_dug σ i = 0
      · rw [if_pos e]
        have e1 : ib (decide (m_dug σ i ≠ 0)) = 0 := by simp [ib, e]
        rw [e1, fl_uo _ _ (by omega)]
        rfl
      · rw [if_neg e]
        have e1 : ib (decide (m_dug σ i ≠ 0)) = 1 := by simp [ib, e]
        rw [e1, fl_uo _ _ (by omega)]
        rfl) (fun rec => by
      show f_X4_keep_old_L33_b k rec (nI 16) _ = _
      unfold f_X4_keep_old_L33_b
      rw [if_pos (show (16 : Int32) ≤ nI 16 by decide +kernel)]) (by omega)
  have eg : m_old' σ (m_old σ) = σ := rfl
  simp only [fl_0, eg, nI_0] at h
  unfold f_X4_keep_old_L33
  exact h
theorem kp79_old (σ : MM) (k : MM → Option MM) : f_X4_keep_old_L79 k 0 σ = k (m_old' σ (fl (fl (m_old σ) 72 6 (m_kind σ)) 78 6 (m_own σ))) := by
  have h := lp_FU (fun _ _ => none) (f_X4_keep_old_L79_b k) (fun f (p : Int32 × MM) => f p.1 p.2) (fun i => (nI i, m_old' σ (fl (fl (m_old σ) 72 i (m_kind σ)) 78 i (m_own σ)))) 6 (k (m_old' σ (fl (fl (m_old σ) 72 6 (m_kind σ)) 78 6 (m_own σ)))) (fun i rec hi => by
      show f_X4_keep_old_L79_b k rec (nI i) _ = rec (nI (i + 1)) _
      have e40 : (72 : Int32) + nI i = nI (72 + i) := nn_add 72 i
      have e56 : (78 : Int32) + nI i = nI (78 + i) := nn_add 78 i
      unfold f_X4_keep_old_L79_b
      rw [if_neg (show ¬ (6 : Int32) ≤ nI i from nI_ge (b := 6) hi (by omega)), gd_t (nI_inb hi (by omega)), e40, e56, gd_t (nI_inb (by omega) (by omega)), lt_e, gd_t (nI_inb hi (by omega)), gd_t (nI_inb (by omega) (by omega)), nI_clamp (show i < 2 ^ 31 by omega), nI_clamp (show 72 + i < 2 ^ 31 by omega), nI_clamp (show 78 + i < 2 ^ 31 by omega)]
      simp only [lt_e, q_m_w_old, q_m_h_old, q_m_hedge_old, q_m_dug_old, q_m_owner_old, q_m_turn_old, q_m_made_old, q_m_players_old, q_m_kind_old, q_m_own_old, q_m_seed_old, q_m_taped_old, q_m_tape_old, q_m_from_old, q_m_to_old, q_m_token_old, q_m_value_old, q_m_holding_old, q_m_rowLength_old, q_m_rowOf_old, q_m_refusals_old, q_m_imaged_old, q_m_old_old, q_m_ahead_old, q_m_bestMove_old, ← nI_succ]
      rw [← fl_s, ← fl_s, fl_uo _ _ (by omega)]
      rfl) (fun rec => by
      show f_X4_keep_old_L79_b k rec (nI 6) _ = _
      unfold f_X4_keep_old_L79_b
      rw [if_pos (show (6 : Int32) ≤ nI 6 by decide +kernel)]) (by omega)
  have eg : m_old' σ (m_old σ) = σ := rfl
  simp only [fl_0, eg, nI_0] at h
  unfold f_X4_keep_old_L79
  exact h
theorem keep_old_ok (σ : MM) : ∃ K, f_X4_keep_old σ = some (m_old' σ K) ∧ kept K σ := by
  unfold f_X4_keep_old
  rw [kp2_old, kp33_old, kp79_old]
  have i1 : inb 84 90 = true := by decide +kernel
  have i2 : inb 85 90 = true := by decide +kernel
  have i3 : inb 86 90 = true := by decide +kernel
  have i4 : inb 87 90 = true := by decide +kernel
  have i5 : inb 88 90 = true := by decide +kernel
  have i6 : inb 89 90 = true := by decide +kernel
  have c1 : Int32.toNatClampNeg 84 = 84 := by decide +kernel
  have c2 : Int32.toNatClampNeg 85 = 85 := by decide +kernel
  have c3 : Int32.toNatClampNeg 86 = 86 := by decide +kernel
  have c4 : Int32.toNatClampNeg 87 = 87 := by decide +kernel
  have c5 : Int32.toNatClampNeg 88 = 88 := by decide +kernel
  have c6 : Int32.toNatClampNeg 89 = 89 := by decide +kernel
  simp only [lt_e, gd_t i1, gd_t i2, gd_t i3, gd_t i4, gd_t i5, gd_t i6, c1, c2, c3, c4, c5, c6, q_m_w_old, q_m_h_old, q_m_hedge_old, q_m_dug_old, q_m_owner_old, q_m_turn_old, q_m_made_old, q_m_players_old, q_m_kind_old, q_m_own_old, q_m_seed_old, q_m_taped_old, q_m_tape_old, q_m_from_old, q_m_to_old, q_m_token_old, q_m_value_old, q_m_holding_old, q_m_rowLength_old, q_m_rowOf_old, q_m_refusals_old, q_m_imaged_old, q_m_old_old, q_m_ahead_old, q_m_bestMove_old, q2_m_old]
  refine ⟨_, rfl, ?_, ?_, ?_, ?_, ?_, ?_, ?_, ?_, ?_⟩
  · intro e he
    simp only [upd, fl]
    repeat rw [if_neg (by omega)]
    rw [if_pos (by omega)]
    rfl
  · intro f hf
    constructor
    · simp only [upd, fl]
      repeat rw [if_neg (by omega)]
      rw [if_pos (by omega)]
      have e : 40 + f - 40 = f := by omega
      rw [e]
    · simp only [upd, fl]
      repeat rw [if_neg (by omega)]
      rw [if_pos (by omega)]
      have e : 56 + f - 56 = f := by omega
      rw [e]
  · intro p hp
    constructor
    · simp only [upd, fl]
      repeat rw [if_neg (by omega)]
      rw [if_pos (by omega)]
      have e : 72 + p - 72 = p := by omega
      rw [e]
    · simp only [upd, fl]
      repeat rw [if_neg (by omega)]
      rw [if_pos (by omega)]
      have e : 78 + p - 78 = p := by omega
      rw [e]
  all_goals simp only [upd]
  all_goals repeat rw [if_neg (by omega)]
  all_goals rw [if_pos trivial]
/-! Keeping and taking back, ahead -/
theorem q2_m_ahead (σ : MM) (a b : Nat → Int32) : m_ahead' (m_ahead' σ a) b = m_ahead' σ b := by unfold m_ahead'; exact rfl
theorem kp2_ahead (σ : MM) (k : MM → Option MM) : f_X4_keep_ahead_L2 k 0 σ = k (m_ahead' σ (fl (m_ahead σ) 0 40 (fun e => ib (decide (m_hedge σ e ≠ 0))))) := by
  have h := lp_FU (fun _ _ => none) (f_X4_keep_ahead_L2_b k) (fun f (p : Int32 × MM) => f p.1 p.2) (fun i => (nI i, m_ahead' σ (fl (m_ahead σ) 0 i (fun e => ib (decide (m_hedge σ e ≠ 0)))))) 40 (k (m_ahead' σ (fl (m_ahead σ) 0 40 (fun e => ib (decide (m_hedge σ e ≠ 0)))))) (fun i rec hi => by
      show f_X4_keep_ahead_L2_b k rec (nI i) _ = rec (nI (i + 1)) _
      unfold f_X4_keep_ahead_L2_b
      rw [if_neg (show ¬ (40 : Int32) ≤ nI i from nI_ge (b := 40) hi (by omega)), gd_t (nI_inb hi (by omega)), gd_t (nI_inb (by omega) (by omega)), gd_t (nI_inb (by omega) (by omega)), nI_clamp (by omega)]
      simp only [lt_e, q_m_w_ahead, q_m_h_ahead, q_m_hedge_ahead, q_m_dug_ahead, q_m_owner_ahead, q_m_turn_ahead, q_m_made_ahead, q_m_players_ahead, q_m_kind_ahead, q_m_own_ahead, q_m_seed_ahead, q_m_taped_ahead, q_m_tape_ahead, q_m_from_ahead, q_m_to_ahead, q_m_token_ahead, q_m_value_ahead, q_m_holding_ahead, q_m_rowLength_ahead, q_m_rowOf_ahead, q_m_refusals_ahead, q_m_imaged_ahead, q_m_old_ahead, q_m_ahead_ahead, q_m_bestMove_ahead, ← nI_succ]
      rw [← fl_s0]
      by_cases e : m_hedge σ i = 0
      · rw [if_pos e]
        have e1 : ib (decide (m_hedge σ i ≠ 0)) = 0 := by simp [ib, e]
        rw [e1]
        rfl
      · rw [if_neg e]
        have e1 : ib (decide (m_hedge σ i ≠ 0)) = 1 := by simp [ib, e]
        rw [e1]
        rfl) (fun rec => by
      show f_X4_keep_ahead_L2_b k rec (nI 40) _ = _
      unfold f_X4_keep_ahead_L2_b
      rw [if_pos (show (40 : Int32) ≤ nI 40 by decide +kernel)]) (by omega)
  have eg : m_ahead' σ (m_ahead σ) = σ := rfl
  simp only [fl_0, eg, nI_0] at h
  unfold f_X4_keep_ahead_L2
  exact h
theorem kp33_ahead (σ : MM) (k : MM → Option MM) : f_X4_keep_ahead_L33 k 0 σ = k (m_ahead' σ (fl (fl (m_ahead σ) 40 16 (fun e => ib (decide (m_dug σ e ≠ 0)))) 56 16 (m_owner σ))) := by
  have h := lp_FU (fun _ _ => none) (f_X4_keep_ahead_L33_b k) (fun f (p : Int32 × MM) => f p.1 p.2) (fun i => (nI i, m_ahead' σ (fl (fl (m_ahead σ) 40 i (fun e => ib (decide (m_dug σ e ≠ 0)))) 56 i (m_owner σ)))) 16 (k (m_ahead' σ (fl (fl (m_ahead σ) 40 16 (fun e => ib (decide (m_dug σ e ≠ 0)))) 56 16 (m_owner σ)))) (fun i rec hi => by
      show f_X4_keep_ahead_L33_b k rec (nI i) _ = rec (nI (i + 1)) _
      have e40 : (40 : Int32) + nI i = nI (40 + i) := nn_add 40 i
      have e56 : (56 : Int32) + nI i = nI (56 + i) := nn_add 56 i
      unfold f_X4_keep_ahead_L33_b f_X4_keep_ahead_b58
      rw [if_neg (show ¬ (16 : Int32) ≤ nI i from nI_ge (b := 16) hi (by omega)), gd_t (nI_inb hi (by omega)), e40, e56, gd_t (nI_inb (by omega) (by omega)), gd_t (nI_inb (by omega) (by omega))]
      simp only [lt_e]
      rw [gd_t (nI_inb hi (by omega)), gd_t (nI_inb hi (by omega)), gd_t (nI_inb (by omega) (by omega)), gd_t (nI_inb (by omega) (by omega)), nI_clamp (show i < 2 ^ 31 by omega), nI_clamp (show 40 + i < 2 ^ 31 by omega), nI_clamp (show 56 + i < 2 ^ 31 by omega)]
      simp only [q_m_w_ahead, q_m_h_ahead, q_m_hedge_ahead, q_m_dug_ahead, q_m_owner_ahead, q_m_turn_ahead, q_m_made_ahead, q_m_players_ahead, q_m_kind_ahead, q_m_own_ahead, q_m_seed_ahead, q_m_taped_ahead, q_m_tape_ahead, q_m_from_ahead, q_m_to_ahead, q_m_token_ahead, q_m_value_ahead, q_m_holding_ahead, q_m_rowLength_ahead, q_m_rowOf_ahead, q_m_refusals_ahead, q_m_imaged_ahead, q_m_old_ahead, q_m_ahead_ahead, q_m_bestMove_ahead, ← nI_succ]
      rw [← fl_s, ← fl_s]
      by_cases e : m_dug σ i = 0
      · rw [if_pos e]
        have e1 : ib (decide (m_dug σ i ≠ 0)) = 0 := by simp [ib, e]
        rw [e1, fl_uo _ _ (by omega)]
        rfl
      · rw [if_neg e]
        have e1 : ib (decide (m_dug σ i ≠ 0)) = 1 := by simp [ib, e]
        rw [e1, fl_uo _ _ (by omega)]
        rfl) (fun rec => by
      show f_X4_keep_ahead_L33_b k rec (nI 16) _ = _
      unfold f_X4_keep_ahead_L33_b
      rw [if_pos (show (16 : Int32) ≤ nI 16 by decide +kernel)]) (by omega)
  have eg : m_ahead' σ (m_ahead σ) = σ := rfl
  simp only [fl_0, eg, nI_0] at h
  unfold f_X4_keep_ahead_L33
  exact h
theorem kp79_ahead (σ : MM) (k : MM → Option MM) : f_X4_keep_ahead_L79 k 0 σ = k (m_ahead' σ (fl (fl (m_ahead σ) 72 6 (m_kind σ)) 78 6 (m_own σ))) := by
  have h := lp_FU (fun _ _ => none) (f_X4_keep_ahead_L79_b k) (fun f (p : Int32 × MM) => f p.1 p.2) (fun i => (nI i, m_ahead' σ (fl (fl (m_ahead σ) 72 i (m_kind σ)) 78 i (m_own σ)))) 6 (k (m_ahead' σ (fl (fl (m_ahead σ) 72 6 (m_kind σ)) 78 6 (m_own σ)))) (fun i rec hi => by
      show f_X4_keep_ahead_L79_b k rec (nI i) _ = rec (nI (i + 1)) _
      have e40 : (72 : Int32) + nI i = nI (72 + i) := nn_add 72 i
      have e56 : (78 : Int32) + nI i = nI (78 + i) := nn_add 78 i
      unfold f_X4_keep_ahead_L79_b
      rw [if_neg (show ¬ (6 : Int32) ≤ nI i from nI_ge (b := 6) hi (by omega)), gd_t (nI_inb hi (by omega)), e40, e56, gd_t (nI_inb (by omega) (by omega)), lt_e, gd_t (nI_inb hi (by omega)), gd_t (nI_inb (by omega) (by omega)), nI_clamp (show i < 2 ^ 31 by omega), nI_clamp (show 72 + i < 2 ^ 31 by omega), nI_clamp (show 78 + i < 2 ^ 31 by omega)]
      simp only [lt_e, q_m_w_ahead, q_m_h_ahead, q_m_hedge_ahead, q_m_dug_ahead, q_m_owner_ahead, q_m_turn_ahead, q_m_made_ahead, q_m_players_ahead, q_m_kind_ahead, q_m_own_ahead, q_m_seed_ahead, q_m_taped_ahead, q_m_tape_ahead, q_m_from_ahead, q_m_to_ahead, q_m_token_ahead, q_m_value_ahead, q_m_holding_ahead, q_m_rowLength_ahead, q_m_rowOf_ahead, q_m_refusals_ahead, q_m_imaged_ahead, q_m_old_ahead, q_m_ahead_ahead, q_m_bestMove_ahead, ← nI_succ]
      rw [← fl_s, ← fl_s, fl_uo _ _ (by omega)]
      rfl) (fun rec => by
      show f_X4_keep_ahead_L79_b k rec (nI 6) _ = _
      unfold f_X4_keep_ahead_L79_b
      rw [if_pos (show (6 : Int32) ≤ nI 6 by decide +kernel)]) (by omega)
  have eg : m_ahead' σ (m_ahead σ) = σ := rfl
  simp only [fl_0, eg, nI_0] at h
  unfold f_X4_keep_ahead_L79
  exact h
theorem keep_ahead_ok (σ : MM) : ∃ K, f_X4_keep_ahead σ = some (m_ahead' σ K) ∧ kept K σ := by
  unfold f_X4_keep_ahead
  rw [kp2_ahead, kp33_ahead, kp79_ahead]
  have i1 : inb 84 90 = true := by decide +kernel
  have i2 : inb 85 90 = true := by decide +kernel
  have i3 : inb 86 90 = true := by decide +kernel
  have i4 : inb 87 90 = true := by decide +kernel
  have i5 : inb 88 90 = true := by decide +kernel
  have i6 : inb 89 90 = true := by decide +kernel
  have c1 : Int32.toNatClampNeg 84 = 84 := by decide +kernel
  have c2 : Int32.toNatClampNeg 85 = 85 := by decide +kernel
  have c3 : Int32.toNatClampNeg 86 = 86 := by decide +kernel
  have c4 : Int32.toNatClampNeg 87 = 87 := by decide +kernel
  have c5 : Int32.toNatClampNeg 88 = 88 := by decide +kernel
  have c6 : Int32.toNatClampNeg 89 = 89 := by decide +kernel
  simp only [lt_e, gd_t i1, gd_t i2, gd_t i3, gd_t i4, gd_t i5, gd_t i6, c1, c2, c3, c4, c5, c6, q_m_w_ahead, q_m_h_ahead, q_m_hedge_ahead, q_m_dug_ahead, q_m_owner_ahead, q_m_turn_ahead, q_m_made_ahead, q_m_players_ahead, q_m_kind_ahead, q_m_own_ahead, q_m_seed_ahead, q_m_taped_ahead, q_m_tape_ahead, q_m_from_ahead, q_m_to_ahead, q_m_token_ahead, q_m_value_ahead, q_m_holding_ahead, q_m_rowLength_ahead, q_m_rowOf_ahead, q_m_refusals_ahead, q_m_imaged_ahead, q_m_old_ahead, q_m_ahead_ahead, q_m_bestMove_ahead, q2_m_ahead]
  refine ⟨_, rfl, ?_, ?_, ?_, ?_, ?_, ?_, ?_, ?_, ?_⟩
  · intro e he
    simp only [upd, fl]
    repeat rw [if_neg (by omega)]
    rw [if_pos (by omega)]
    rfl
  · intro f hf
    constructor
    · simp only [upd, fl]
      repeat rw [if_neg (by omega)]
      rw [if_pos (by omega)]
      have e : 40 + f - 40 = f := by omega
      rw [e]
    · simp only [upd, fl]
      repeat rw [if_neg (by omega)]
      rw [if_pos (by omega)]
      have e : 56 + f - 56 = f := by omega
      rw [e]
  · intro p hp
    constructor
    · simp only [upd, fl]
      repeat rw [if_neg (by omega)]
      rw [if_pos (by omega)]
      have e : 72 + p - 72 = p := by omega
      rw [e]
    · simp only [upd, fl]
      repeat rw [if_neg (by omega)]
      rw [if_pos (by omega)]
      have e : 78 + p - 78 = p := by omega
      rw [e]
  all_goals simp only [upd]
  all_goals repeat rw [if_neg (by omega)]
  all_goals rw [if_pos trivial]
