/-! A new board -/
def gWH (W H : Nat) : GG := (nI W, nI H, nI (nF W H), nI (nE W H), nI (nU W H), 0, 0, 0, 0, 0, 0, 0, 0, 0, 0, 0)
def mWH (W H : Nat) : MM := (nI W, nI H, (fun _ => 0), (fun _ => 0), (fun _ => 0), 0, 0, 0, (fun _ => 0), (fun _ => 0), 0, 0, (fun _ => 0), 0, 0, 0, 0, (fun _ => 0), (fun _ => 0), (fun _ => 0), (fun _ => 0), 0, (fun _ => 0), (fun _ => 0), 0)
def iF (f : Nat) : Int32 := if f = 99 then -1 else nI f
def SZ (W H : Nat) : Prop := (1 ≤ W ∧ W ≤ 4) ∧ (1 ≤ H ∧ H ≤ 4)
def gq (g : GG) (W H : Nat) : Prop := g_width g = nI W ∧ g_height g = nI H ∧ g_fields g = nI (nF W H) ∧ g_edges g = nI (nE W H) ∧ g_uprights g = nI (nU W H)
theorem geo_fX0 : alB (fun W H => alw (fun e => decide (f_X0_fieldAhead (gWH W H) (nI e) = some (iF (fd W H e 0))) && decide (f_X0_fieldBeyond (gWH W H) (nI e) = some (iF (fd W H e 1)))) (nE W H)) = true := by decide +kernel
theorem geo_fX {g : GG} {W H : Nat} (hz : SZ W H) (h : gq g W H) {e : Nat} (he : e < nE W H) : f_X0_fieldAhead g (nI e) = some (iF (fd W H e 0)) ∧ f_X0_fieldBeyond g (nI e) = some (iF (fd W H e 1)) := by
  have h0 := alw_all (alB_all geo_fX0 hz.1 hz.2) e he
  simp only [Bool.and_eq_true, decide_eq_true_eq] at h0
  obtain ⟨h1, h2, h3, h4, h5⟩ := h
  constructor
  · rw [← h0.1]; unfold f_X0_fieldAhead f_X0_uprightRow; rw [h1, h5]; rfl
  · rw [← h0.2]; unfold f_X0_fieldBeyond f_X0_uprightRow; rw [h1, h3, h5]; rfl
theorem geo_szs : alB (fun W H => decide (nE W H ≤ 40) && decide (nF W H ≤ 16) && decide (nU W H ≤ 20) && decide (nF W H < nU W H) && decide (nU W H < nE W H)) = true := by decide +kernel
theorem szs {W H : Nat} (hz : SZ W H) : nE W H ≤ 40 ∧ nF W H ≤ 16 ∧ nU W H ≤ 20 ∧ nF W H < nU W H ∧ nU W H < nE W H := by
  have h0 := alB_all geo_szs hz.1 hz.2
  simp only [Bool.and_eq_true, decide_eq_true_eq] at h0
  omega
theorem fd_lt0 : alB (fun W H => alw (fun e => (decide (fd W H e 0 < nF W H) || decide (fd W H e 0 = 99)) && (decide (fd W H e 1 < nF W H) || decide (fd W H e 1 = 99))) (nE W H)) = true := by decide +kernel
theorem iF_m10 : ∀ f, f < 100 → (iF f = -1 ↔ f = 99) := by decide +kernel
theorem fd_lt {W H : Nat} (hz : SZ W H) {e : Nat} (he : e < nE W H) : (fd W H e 0 < nF W H ∨ fd W H e 0 = 99) ∧ (fd W H e 1 < nF W H ∨ fd W H e 1 = 99) := by
  have h0 := alw_all (alB_all fd_lt0 hz.1 hz.2) e he
  simpa only [Bool.and_eq_true, Bool.or_eq_true, decide_eq_true_eq] using h0
theorem fd_m1 {W H : Nat} (hz : SZ W H) {e : Nat} (he : e < nE W H) : (iF (fd W H e 0) = -1 ↔ fd W H e 0 = 99) ∧ (iF (fd W H e 1) = -1 ↔ fd W H e 1 = 99) := by
  have h := fd_lt hz he
  have hs := szs hz
  exact ⟨iF_m10 _ (by omega), iF_m10 _ (by omega)⟩
def lmk (W : Nat) : Nat → Int32
  | 0 => 0
  | i + 1 => lmk W i ||| ishl 1 (nI i * nI W)
def rimk (W H : Nat) : Nat → Int64
  | 0 => 0
  | i + 1 => if fd W H i 0 = 99 ∨ fd W H i 1 = 99 then rimk W H i ||| lshl 1 (nI i) else rimk W H i
theorem rimk_s (W H i : Nat) : rimk W H (i + 1) = if fd W H i 0 = 99 ∨ fd W H i 1 = 99 then rimk W H i ||| lshl 1 (nI i) else rimk W H i := rfl
theorem geo_bits0 : alB (fun W H => alw (fun i => decide (bt (ishl 1 (nI (nF W H)) - 1) i = decide (i < nF W H)) && decide (bt (lmk W H) i = (decide (i < nF W H) && decide (i % W = 0))) && decide (bt (ishl (lmk W H) (nI W - 1)) i = (decide (i < nF W H) && decide (i % W + 1 = W)))) 32 && alw (fun e => decide (bl (rimk W H (nE W H)) e = (decide (e < nE W H) && (decide (fd W H e 0 = 99) || decide (fd W H e 1 = 99))))) 64) = true := by decide +kernel
theorem lay59 {W H : Nat} (hz : SZ W H) (σ : GG) (h0 : g_leftmost σ = 0) (k : GG → Option GG) : f_X0_lay_L59 (nI W) (nI H) k 0 σ = k (g_leftmost' σ (lmk W H)) := by
  obtain ⟨⟨w1, w2⟩, w3, w4⟩ := hz
  have h := lp_FU (fun _ _ => none) (f_X0_lay_L59_b (nI W) (nI H) k) (fun f (p : Int32 × GG) => f p.1 p.2) (fun i => (nI i, g_leftmost' σ (lmk W i))) H (k (g_leftmost' σ (lmk W H))) (fun i rec hi => by
      show f_X0_lay_L59_b (nI W) (nI H) k rec (nI i) _ = rec (nI (i + 1)) _
      unfold f_X0_lay_L59_b
      rw [if_neg (nI_ge hi (by omega)), lt_e, lt_e, nI_succ, q_g_leftmost_leftmost]
      rfl) (fun rec => by
      show f_X0_lay_L59_b (nI W) (nI H) k rec (nI H) _ = _
      unfold f_X0_lay_L59_b
      rw [if_pos (nI_le (Nat.le_refl H) (by omega))]) (by omega)
  have e0 : lmk W 0 = g_leftmost σ := h0.symm
  have eg : g_leftmost' σ (g_leftmost σ) = σ := rfl
  simp only [e0, eg, nI_0] at h
  unfold f_X0_lay_L59
  exact h
theorem lay103 {W H : Nat} (hz : SZ W H) (σ : GG) (hq : gq σ W H) (h0 : g_rimEdges σ = 0) (k : GG → Option GG) : f_X0_lay_L103 k 0 σ = k (g_rimEdges' σ (rimk W H (nE W H))) := by
  obtain ⟨s1, s2, s3, s4, s5⟩ := szs hz
  have hq' : ∀ v, gq (g_rimEdges' σ v) W H := fun v => by
    unfold gq
    simp only [q_g_width_rimEdges, q_g_height_rimEdges, q_g_fields_rimEdges, q_g_edges_rimEdges, q_g_uprights_rimEdges, q_g_all_rimEdges, q_g_leftmost_rimEdges, q_g_rightmost_rimEdges, q_g_rimEdges_rimEdges, q_g_hedges_rimEdges, q_g_dug_rimEdges, q_g_ownedBy0_rimEdges, q_g_ownedBy1_rimEdges, q_g_turn_rimEdges, q_g_made_rimEdges, q_g_seed_rimEdges]
    exact hq
  have h := lp_FU (fun _ _ => none) (f_X0_lay_L103_b k) (fun f (p : Int32 × GG) => f p.1 p.2) (fun i => (nI i, g_rimEdges' σ (rimk W H i))) (nE W H) (k (g_rimEdges' σ (rimk W H (nE W H)))) (fun i rec hi => by
      show f_X0_lay_L103_b k rec (nI i) _ = rec (nI (i + 1)) _
      obtain ⟨g1, g2⟩ := geo_fX hz (hq' (rimk W H i)) hi
      obtain ⟨m1, m2⟩ := fd_m1 hz hi
      unfold f_X0_lay_L103_b
      rw [(hq' (rimk W H i)).2.2.2.1, if_neg (nI_ge hi (by omega)), g1, g2, ob_s, ob_s]
      simp only [lt_e, q_g_rimEdges_rimEdges, ← nI_succ]
      rw [rimk_s]
      by_cases e1 : fd W H i 0 = 99
      · rw [if_pos (m1.mpr e1), if_pos (Or.inl e1)]
        rfl
      · rw [if_neg (fun hh => e1 (m1.mp hh))]
        by_cases e2 : fd W H i 1 = 99
        · rw [if_pos (m2.mpr e2), if_pos (Or.inr e2)]
          rfl
        · rw [if_neg (fun hh => e2 (m2.mp hh)), if_neg (fun hh => hh.elim e1 e2)]) (fun rec => by
      show f_X0_lay_L103_b k rec (nI (nE W H)) _ = _
      unfold f_X0_lay_L103_b
      rw [(hq' _).2.2.2.1, if_pos (nI_le (Nat.le_refl _) (by omega))]) (by omega)
  have e0 : rimk W H 0 = g_rimEdges σ := h0.symm
  have eg : g_rimEdges' σ (g_rimEdges σ) = σ := rfl
  simp only [e0, eg, nI_0] at h
  unfold f_X0_lay_L103
  exact h
/-- an empty board -/
def b0 (W H : Nat) : BD := (W, H, (fun _ => false), (fun _ => false), fun _ => 2)
theorem BOK_b0 {W H : Nat} (hz : SZ W H) : BOK (b0 W H) := by
  refine ⟨hz.1, hz.2, fun _ _ => rfl, fun _ _ => ⟨rfl, rfl⟩, fun _ => Nat.le_refl 2, fun f _ => ⟨fun h => absurd (show (2 : Nat) < 2 from h) (by decide), fun h => absurd (show (0 : Nat) = 4 from h) (by decide)⟩⟩
theorem lay_ok {W H : Nat} (hz : SZ W H) (σ : GG) : ∃ g, f_X0_lay σ (nI W) (nI H) = some g ∧ GB g (b0 W H) ∧ g_turn g = 0 ∧ g_made g = 0 ∧ g_seed g = g_seed σ ∧ g_edges g = nI (nE W H) := by
  have a1 : nI W * nI H = nI (nF W H) := nn_mul W H
  have a2 : (nI H + 1) * nI W = nI (nU W H) := by
    rw [← nI_succ, nn_mul]; unfold nU; rw [Nat.mul_comm]
  have a3 : nI (nU W H) + nI H * (nI W + 1) = nI (nE W H) := by
    rw [← nI_succ, nn_mul, nn_add]; rfl
  have gb := alB_all geo_bits0 hz.1 hz.2
  rw [Bool.and_eq_true] at gb
  have gb1 := alw_all gb.1
  have gb2 := alw_all gb.2
  unfold f_X0_lay
  simp only [lt_e, q_g_width_width, q_g_height_width, q_g_fields_width, q_g_edges_width, q_g_uprights_width, q_g_all_width, q_g_leftmost_width, q_g_rightmost_width, q_g_rimEdges_width, q_g_hedges_width, q_g_dug_width, q_g_ownedBy0_width, q_g_ownedBy1_width, q_g_turn_width, q_g_made_width, q_g_seed_width, q_g_width_height, q_g_height_height, q_g_fields_height, q_g_edges_height, q_g_uprights_height, q_g_all_height, q_g_leftmost_height, q_g_rightmost_height, q_g_rimEdges_height, q_g_hedges_height, q_g_dug_height, q_g_ownedBy0_height, q_g_ownedBy1_height, q_g_turn_height, q_g_made_height, q_g_seed_height, q_g_width_fields, q_g_height_fields, q_g_fields_fields, q_g_edges_fields, q_g_uprights_fields, q_g_all_fields, q_g_leftmost_fields, q_g_rightmost_fields, q_g_rimEdges_fields, q_g_hedges_fields, q_g_dug_fields, q_g_ownedBy0_fields, q_g_ownedBy1_fields, q_g_turn_fields, q_g_made_fields, q_g_seed_fields, q_g_width_uprights, q_g_height_uprights, q_g_fields_uprights, q_g_edges_uprights, q_g_uprights_uprights, q_g_all_uprights, q_g_leftmost_uprights, q_g_rightmost_uprights, q_g_rimEdges_uprights, q_g_hedges_uprights, q_g_dug_uprights, q_g_ownedBy0_uprights, q_g_ownedBy1_uprights, q_g_turn_uprights, q_g_made_uprights, q_g_seed_uprights, q_g_width_edges, q_g_height_edges, q_g_fields_edges, q_g_edges_edges, q_g_uprights_edges, q_g_all_edges, q_g_leftmost_edges, q_g_rightmost_edges, q_g_rimEdges_edges, q_g_hedges_edges, q_g_dug_edges, q_g_ownedBy0_edges, q_g_ownedBy1_edges, q_g_turn_edges, q_g_made_edges, q_g_seed_edges, q_g_width_all, q_g_height_all, q_g_fields_all, q_g_edges_all, q_g_uprights_all, q_g_all_all, q_g_leftmost_all, q_g_rightmost_all, q_g_rimEdges_all, q_g_hedges_all, q_g_dug_all, q_g_ownedBy0_all, q_g_ownedBy1_all, q_g_turn_all, q_g_made_all, q_g_seed_all, q_g_width_leftmost, q_g_height_leftmost, q_g_fields_leftmost, q_g_edges_leftmost, q_g_uprights_leftmost, q_g_all_leftmost, q_g_leftmost_leftmost, q_g_rightmost_leftmost, q_g_rimEdges_leftmost, q_g_hedges_leftmost, q_g_dug_leftmost, q_g_ownedBy0_leftmost, q_g_ownedBy1_leftmost, q_g_turn_leftmost, q_g_made_leftmost, q_g_seed_leftmost, a1, a2, a3]
  rw [lay59 hz _ (by simp only [q_g_width_leftmost, q_g_height_leftmost, q_g_fields_leftmost, q_g_edges_leftmost, q_g_uprights_leftmost, q_g_all_leftmost, q_g_leftmost_leftmost, q_g_rightmost_leftmost, q_g_rimEdges_leftmost, q_g_hedges_leftmost, q_g_dug_leftmost, q_g_ownedBy0_leftmost, q_g_ownedBy1_leftmost, q_g_turn_leftmost, q_g_made_leftmost, q_g_seed_leftmost])]
  simp only [q_g_width_width, q_g_height_width, q_g_fields_width, q_g_edges_width, q_g_uprights_width, q_g_all_width, q_g_leftmost_width, q_g_rightmost_width, q_g_rimEdges_width, q_g_hedges_width, q_g_dug_width, q_g_ownedBy0_width, q_g_ownedBy1_width, q_g_turn_width, q_g_made_width, q_g_seed_width, q_g_width_height, q_g_height_height, q_g_fields_height, q_g_edges_height, q_g_uprights_height, q_g_all_height, q_g_leftmost_height, q_g_rightmost_height, q_g_rimEdges_height, q_g_hedges_height, q_g_dug_height, q_g_ownedBy0_height, q_g_ownedBy1_height, q_g_turn_height, q_g_made_height, q_g_seed_height, q_g_width_fields, q_g_height_fields, q_g_fields_fields, q_g_edges_fields, q_g_uprights_fields, q_g_all_fields, q_g_leftmost_fields, q_g_rightmost_fields, q_g_rimEdges_fields, q_g_hedges_fields, q_g_dug_fields, q_g_ownedBy0_fields, q_g_ownedBy1_fields, q_g_turn_fields, q_g_made_fields, q_g_seed_fields, q_g_width_uprights, q_g_height_uprights, q_g_fields_uprights, q_g_edges_uprights, q_g_uprights_uprights, q_g_all_uprights, q_g_leftmost_uprights, q_g_rightmost_uprights, q_g_rimEdges_uprights, q_g_hedges_uprights, q_g_dug_uprights, q_g_ownedBy0_uprights, q_g_ownedBy1_uprights, q_g_turn_uprights, q_g_made_uprights, q_g_seed_uprights, q_g_width_edges, q_g_height_edges, q_g_fields_edges, q_g_edges_edges, q_g_uprights_edges, q_g_all_edges, q_g_leftmost_edges, q_g_rightmost_edges, q_g_rimEdges_edges, q_g_hedges_edges, q_g_dug_edges, q_g_ownedBy0_edges, q_g_ownedBy1_edges, q_g_turn_edges, q_g_made_edges, q_g_seed_edges, q_g_width_all, q_g_height_all, q_g_fields_all, q_g_edges_all, q_g_uprights_all, q_g_all_all, q_g_leftmost_all, q_g_rightmost_all, q_g_rimEdges_all, q_g_hedges_all, q_g_dug_all, q_g_ownedBy0_all, q_g_ownedBy1_all, q_g_turn_all, q_g_made_all, q_g_seed_all, q_g_width_leftmost, q_g_height_leftmost, q_g_fields_leftmost, q_g_edges_leftmost, q_g_uprights_leftmost, q_g_all_leftmost, q_g_leftmost_leftmost, q_g_rightmost_leftmost, q_g_rimEdges_leftmost, q_g_hedges_leftmost, q_g_dug_leftmost, q_g_ownedBy0_leftmost, q_g_ownedBy1_leftmost, q_g_turn_leftmost, q_g_made_leftmost, q_g_seed_leftmost]
  rw [lay103 hz _ (by unfold gq; simp only [q_g_width_width, q_g_height_width, q_g_fields_width, q_g_edges_width, q_g_uprights_width, q_g_all_width, q_g_leftmost_width, q_g_rightmost_width, q_g_rimEdges_width, q_g_hedges_width, q_g_dug_width, q_g_ownedBy0_width, q_g_ownedBy1_width, q_g_turn_width, q_g_made_width, q_g_seed_width, q_g_width_height, q_g_height_height, q_g_fields_height, q_g_edges_height, q_g_uprights_height, q_g_all_height, q_g_leftmost_height, q_g_rightmost_height, q_g_rimEdges_height, q_g_hedges_height, q_g_dug_height, q_g_ownedBy0_height, q_g_ownedBy1_height, q_g_turn_height, q_g_made_height, q_g_seed_height, q_g_width_fields, q_g_height_fields, q_g_fields_fields, q_g_edges_fields, q_g_uprights_fields, q_g_all_fields, q_g_leftmost_fields, q_g_rightmost_fields, q_g_rimEdges_fields, q_g_hedges_fields, q_g_dug_fields, q_g_ownedBy0_fields, q_g_ownedBy1_fields, q_g_turn_fields, q_g_made_fields, q_g_seed_fields, q_g_width_uprights, q_g_height_uprights, q_g_fields_uprights, q_g_edges_uprights, q_g_uprights_uprights, q_g_all_uprights, q_g_leftmost_uprights, q_g_rightmost_uprights, q_g_rimEdges_uprights, q_g_hedges_uprights, q_g_dug_uprights, q_g_ownedBy0_uprights, q_g_ownedBy1_uprights, q_g_turn_uprights, q_g_made_uprights, q_g_seed_uprights, q_g_width_edges, q_g_height_edges, q_g_fields_edges, q_g_edges_edges, q_g_uprights_edges, q_g_all_edges, q_g_leftmost_edges, q_g_rightmost_edges, q_g_rimEdges_edges, q_g_hedges_edges, q_g_dug_edges, q_g_ownedBy0_edges, q_g_ownedBy1_edges, q_g_turn_edges, q_g_made_edges, q_g_seed_edges, q_g_width_all, q_g_height_all, q_g_fields_all, q_g_edges_all, q_g_uprights_all, q_g_all_all, q_g_leftmost_all, q_g_rightmost_all, q_g_rimEdges_all, q_g_hedges_all, q_g_dug_all, q_g_ownedBy0_all, q_g_ownedBy1_all, q_g_turn_all, q_g_made_all, q_g_seed_all, q_g_width_leftmost, q_g_height_leftmost, q_g_fields_leftmost, q_g_edges_leftmost, q_g_uprights_leftmost, q_g_all_leftmost, q_g_leftmost_leftmost, q_g_rightmost_leftmost, q_g_rimEdges_leftmost, q_g_hedges_leftmost, q_g_dug_leftmost, q_g_ownedBy0_leftmost, q_g_ownedBy1_leftmost, q_g_turn_leftmost, q_g_made_leftmost, q_g_seed_leftmost, q_g_width_rightmost, q_g_height_rightmost, q_g_fields_rightmost, q_g_edges_rightmost, q_g_uprights_rightmost, q_g_all_rightmost, q_g_leftmost_rightmost, q_g_rightmost_rightmost, q_g_rimEdges_rightmost, q_g_hedges_rightmost, q_g_dug_rightmost, q_g_ownedBy0_rightmost, q_g_ownedBy1_rightmost, q_g_turn_rightmost, q_g_made_rightmost, q_g_seed_rightmost, q_g_width_rimEdges, q_g_height_rimEdges, q_g_fields_rimEdges, q_g_edges_rimEdges, q_g_uprights_rimEdges, q_g_all_rimEdges, q_g_leftmost_rimEdges, q_g_rightmost_rimEdges, q_g_rimEdges_rimEdges, q_g_hedges_rimEdges, q_g_dug_rimEdges, q_g_ownedBy0_rimEdges, q_g_ownedBy1_rimEdges, q_g_turn_rimEdges, q_g_made_rimEdges, q_g_seed_rimEdges, and_self]) (by simp only [q_g_width_rimEdges, q_g_height_rimEdges, q_g_fields_rimEdges, q_g_edges_rimEdges, q_g_uprights_rimEdges, q_g_all_rimEdges, q_g_leftmost_rimEdges, q_g_rightmost_rimEdges, q_g_rimEdges_rimEdges, q_g_hedges_rimEdges, q_g_dug_rimEdges, q_g_ownedBy0_rimEdges, q_g_ownedBy1_rimEdges, q_g_turn_rimEdges, q_g_made_rimEdges, q_g_seed_rimEdges])]
  unfold f_X0_clear
  simp only [lt_e, ob_s]
  refine ⟨_, rfl, ⟨⟨?_, ?_, ?_, ?_, ?_, ?_, ?_, ?_, ?_⟩, ?_, ?_, ?_, ?_⟩, ?_, ?_, ?_, ?_⟩
  all_goals simp only [q_g_width_width, q_g_height_width, q_g_fields_width, q_g_edges_width, q_g_uprights_width, q_g_all_width, q_g_leftmost_width, q_g_rightmost_width, q_g_rimEdges_width, q_g_hedges_width, q_g_dug_width, q_g_ownedBy0_width, q_g_ownedBy1_width, q_g_turn_width, q_g_made_width, q_g_seed_width, q_g_width_height, q_g_height_height, q_g_fields_height, q_g_edges_height, q_g_uprights_height, q_g_all_height, q_g_leftmost_height, q_g_rightmost_height, q_g_rimEdges_height, q_g_hedges_height, q_g_dug_height, q_g_ownedBy0_height, q_g_ownedBy1_height, q_g_turn_height, q_g_made_height, q_g_seed_height, q_g_width_fields, q_g_height_fields, q_g_fields_fields, q_g_edges_fields, q_g_uprights_fields, q_g_all_fields, q_g_leftmost_fields, q_g_rightmost_fields, q_g_rimEdges_fields, q_g_hedges_fields, q_g_dug_fields, q_g_ownedBy0_fields, q_g_ownedBy1_fields, q_g_turn_fields, q_g_made_fields, q_g_seed_fields, q_g_width_edges, q_g_height_edges, q_g_fields_edges, q_g_edges_edges, q_g_uprights_edges, q_g_all_edges, q_g_leftmost_edges, q_g_rightmost_edges, q_g_rimEdges_edges, q_g_hedges_edges, q_g_dug_edges, q_g_ownedBy0_edges, q_g_ownedBy1_edges, q_g_turn_edges, q_g_made_edges, q_g_seed_edges, q_g_width_uprights, q_g_height_uprights, q_g_fields_uprights, q_g_edges_uprights, q_g_uprights_uprights, q_g_all_uprights, q_g_leftmost_uprights, q_g_rightmost_uprights, q_g_rimEdges_uprights, q_g_hedges_uprights, q_g_dug_uprights, q_g_ownedBy0_uprights, q_g_ownedBy1_uprights, q_g_turn_uprights, q_g_made_uprights, q_g_seed_uprights, q_g_width_all, q_g_height_all, q_g_fields_all, q_g_edges_all, q_g_uprights_all, q_g_all_all, q_g_leftmost_all, q_g_rightmost_all, q_g_rimEdges_all, q_g_hedges_all, q_g_dug_all, q_g_ownedBy0_all, q_g_ownedBy1_all, q_g_turn_all, q_g_made_all, q_g_seed_all, q_g_width_leftmost, q_g_height_leftmost, q_g_fields_leftmost, q_g_edges_leftmost, q_g_uprights_leftmost, q_g_all_leftmost, q_g_leftmost_leftmost, q_g_rightmost_leftmost, q_g_rimEdges_leftmost, q_g_hedges_leftmost, q_g_dug_leftmost, q_g_ownedBy0_leftmost, q_g_ownedBy1_leftmost, q_g_turn_leftmost, q_g_made_leftmost, q_g_seed_leftmost, q_g_width_rightmost, q_g_height_rightmost, q_g_fields_rightmost, q_g_edges_rightmost, q_g_uprights_rightmost, q_g_all_rightmost, q_g_leftmost_rightmost, q_g_rightmost_rightmost, q_g_rimEdges_rightmost, q_g_hedges_rightmost, q_g_dug_rightmost, q_g_ownedBy0_rightmost, q_g_ownedBy1_rightmost, q_g_turn_rightmost, q_g_made_rightmost, q_g_seed_rightmost, q_g_width_rimEdges, q_g_height_rimEdges, q_g_fields_rimEdges, q_g_edges_rimEdges, q_g_uprights_rimEdges, q_g_all_rimEdges, q_g_leftmost_rimEdges, q_g_rightmost_rimEdges, q_g_rimEdges_rimEdges, q_g_hedges_rimEdges, q_g_dug_rimEdges, q_g_ownedBy0_rimEdges, q_g_ownedBy1_rimEdges, q_g_turn_rimEdges, q_g_made_rimEdges, q_g_seed_rimEdges, q_g_width_hedges, q_g_height_hedges, q_g_fields_hedges, q_g_edges_hedges, q_g_uprights_hedges, q_g_all_hedges, q_g_leftmost_hedges, q_g_rightmost_hedges, q_g_rimEdges_hedges, q_g_hedges_hedges, q_g_dug_hedges, q_g_ownedBy0_hedges, q_g_ownedBy1_hedges, q_g_turn_hedges, q_g_made_hedges, q_g_seed_hedges, q_g_width_dug, q_g_height_dug, q_g_fields_dug, q_g_edges_dug, q_g_uprights_dug, q_g_all_dug, q_g_leftmost_dug, q_g_rightmost_dug, q_g_rimEdges_dug, q_g_hedges_dug, q_g_dug_dug, q_g_ownedBy0_dug, q_g_ownedBy1_dug, q_g_turn_dug, q_g_made_dug, q_g_seed_dug, q_g_width_ownedBy0, q_g_height_ownedBy0, q_g_fields_ownedBy0, q_g_edges_ownedBy0, q_g_uprights_ownedBy0, q_g_all_ownedBy0, q_g_leftmost_ownedBy0, q_g_rightmost_ownedBy0, q_g_rimEdges_ownedBy0, q_g_hedges_ownedBy0, q_g_dug_ownedBy0, q_g_ownedBy0_ownedBy0, q_g_ownedBy1_ownedBy0, q_g_turn_ownedBy0, q_g_made_ownedBy0, q_g_seed_ownedBy0, q_g_width_ownedBy1, q_g_height_ownedBy1, q_g_fields_ownedBy1, q_g_edges_ownedBy1, q_g_uprights_ownedBy1, q_g_all_ownedBy1, q_g_leftmost_ownedBy1, q_g_rightmost_ownedBy1, q_g_rimEdges_ownedBy1, q_g_hedges_ownedBy1, q_g_dug_ownedBy1, q_g_ownedBy0_ownedBy1, q_g_ownedBy1_ownedBy1, q_g_turn_ownedBy1, q_g_made_ownedBy1, q_g_seed_ownedBy1, q_g_width_turn, q_g_height_turn, q_g_fields_turn, q_g_edges_turn, q_g_uprights_turn, q_g_all_turn, q_g_leftmost_turn, q_g_rightmost_turn, q_g_rimEdges_turn, q_g_hedges_turn, q_g_dug_turn, q_g_ownedBy0_turn, q_g_ownedBy1_turn, q_g_turn_turn, q_g_made_turn, q_g_seed_turn, q_g_width_made, q_g_height_made, q_g_fields_made, q_g_edges_made, q_g_uprights_made, q_g_all_made, q_g_leftmost_made, q_g_rightmost_made, q_g_rimEdges_made, q_g_hedges_made, q_g_dug_made, q_g_ownedBy0_made, q_g_ownedBy1_made, q_g_turn_made, q_g_made_made, q_g_seed_made, q_g_width_seed, q_g_height_seed, q_g_fields_seed, q_g_edges_seed, q_g_uprights_seed, q_g_all_seed, q_g_leftmost_seed, q_g_rightmost_seed, q_g_rimEdges_seed, q_g_hedges_seed, q_g_dug_seed, q_g_ownedBy0_seed, q_g_ownedBy1_seed, q_g_turn_seed, q_g_made_seed, q_g_seed_seed, b0, bW, bH, bh, bd, bo]
  · intro i hi
    have := gb1 i hi
    simp only [Bool.and_eq_true, decide_eq_true_eq] at this
    exact this.1.1
  · intro i hi
    have := gb1 i hi
    simp only [Bool.and_eq_true, decide_eq_true_eq] at this
    exact this.1.2
  · intro i hi
    have := gb1 i hi
    simp only [Bool.and_eq_true, decide_eq_true_eq] at this
    exact this.2
  · intro i hi
    have := gb2 i hi
    simp only [decide_eq_true_eq] at this
    exact this
  · intro e he; exact bl_0 e
  · intro e he; exact bt_0 e
  · intro e he; exact bt_0 e
  · intro e he; exact bt_0 e
theorem nar0 : vp_nar .boolean 0 = 0 := by decide +kernel
theorem nar1 : vp_nar .boolean 1 = 1 := by decide +kernel
theorem fill_s {c : Int32} (f : Nat → Int32) (i : Nat) : upd (fun j => if j < i then c else f j) i c = (fun j => if j < i + 1 then c else f j) := by
  funext j
  show (if j = i then c else if j < i then c else f j) = _
  by_cases h1 : j = i
  · rw [if_pos h1, if_pos (by omega)]
  · rw [if_neg h1]
    by_cases h2 : j < i
    · rw [if_pos h2, if_pos (by omega)]
    · rw [if_neg h2, if_neg (by omega)]
theorem sz12 (σ : MM) (k : MM → Option (Int32 × MM)) : f_X4_sized_L12 k 0 σ = k (m_hedge' σ (fun j => if j < 40 then 0 else m_hedge σ j)) := by
  have h := lp_FU (fun _ _ => none) (f_X4_sized_L12_b k) (fun f (p : Int32 × MM) => f p.1 p.2) (fun i => (nI i, m_hedge' σ (fun j => if j < i then 0 else m_hedge σ j))) 40 (k (m_hedge' σ (fun j => if j < 40 then 0 else m_hedge σ j))) (fun i rec hi => by
      show f_X4_sized_L12_b k rec (nI i) _ = rec (nI (i + 1)) _
      unfold f_X4_sized_L12_b
      rw [if_neg (show ¬ (40 : Int32) ≤ nI i from nI_ge (b := 40) hi (by omega)), gd_t (nI_inb hi (by omega)), nI_clamp (by omega), nar0]
      simp only [lt_e, q_m_hedge_hedge, ← nI_succ]
      rw [fill_s]
      rfl) (fun rec => by
      show f_X4_sized_L12_b k rec (nI 40) _ = _
      unfold f_X4_sized_L12_b
      rw [if_pos (show (40 : Int32) ≤ nI 40 by decide +kernel)]) (by omega)
  have ef : (fun j => if j < 0 then 0 else m_hedge σ j) = m_hedge σ := by
    funext j
    rw [if_neg (by omega)]
  have eg : m_hedge' σ (m_hedge σ) = σ := rfl
  simp only [ef, eg, nI_0] at h
  unfold f_X4_sized_L12
  exact h
theorem sz33 (σ : MM) (k : MM → Option (Int32 × MM)) : f_X4_sized_L33 k 0 σ = k (m_owner' (m_dug' σ (fun j => if j < 16 then 0 else m_dug σ j)) (fun j => if j < 16 then -1 else m_owner σ j)) := by
  have h := lp_FU (fun _ _ => none) (f_X4_sized_L33_b k) (fun f (p : Int32 × MM) => f p.1 p.2) (fun i => (nI i, m_owner' (m_dug' σ (fun j => if j < i then 0 else m_dug σ j)) (fun j => if j < i then -1 else m_owner σ j))) 16 (k (m_owner' (m_dug' σ (fun j => if j < 16 then 0 else m_dug σ j)) (fun j => if j < 16 then -1 else m_owner σ j))) (fun i rec hi => by
      show f_X4_sized_L33_b k rec (nI i) _ = rec (nI (i + 1)) _
      unfold f_X4_sized_L33_b
      rw [if_neg (show ¬ (16 : Int32) ≤ nI i from nI_ge (b := 16) hi (by omega)), gd_t (nI_inb hi (by omega)), lt_e, gd_t (nI_inb hi (by omega)), nI_clamp (by omega), nar0]
      simp only [lt_e, q_m_w_dug, q_m_h_dug, q_m_hedge_dug, q_m_dug_dug, q_m_owner_dug, q_m_turn_dug, q_m_made_dug, q_m_players_dug, q_m_kind_dug, q_m_own_dug, q_m_seed_dug, q_m_taped_dug, q_m_tape_dug, q_m_from_dug, q_m_to_dug, q_m_token_dug, q_m_value_dug, q_m_holding_dug, q_m_rowLength_dug, q_m_rowOf_dug, q_m_refusals_dug, q_m_imaged_dug, q_m_old_dug, q_m_ahead_dug, q_m_bestMove_dug, q_m_w_owner, q_m_h_owner, q_m_hedge_owner, q_m_dug_owner, q_m_owner_owner, q_m_turn_owner, q_m_made_owner, q_m_players_owner, q_m_kind_owner, q_m_own_owner, q_m_seed_owner, q_m_taped_owner, q_m_tape_owner, q_m_from_owner, q_m_to_owner, q_m_token_owner, q_m_value_owner, q_m_holding_owner, q_m_rowLength_owner, q_m_rowOf_owner, q_m_refusals_owner, q_m_imaged_owner, q_m_old_owner, q_m_ahead_owner, q_m_bestMove_owner, ← nI_succ]
      rw [fill_s, fill_s]
      rfl) (fun rec => by
      show f_X4_sized_L33_b k rec (nI 16) _ = _
      unfold f_X4_sized_L33_b
      rw [if_pos (show (16 : Int32) ≤ nI 16 by decide +kernel)]) (by omega)
  have ef : ∀ (c : Int32) (f : Nat → Int32), (fun j => if j < 0 then c else f j) = f := by
    intro c f
    funext j
    rw [if_neg (by omega)]
  have eg : m_owner' (m_dug' σ (m_dug σ)) (m_owner σ) = σ := rfl
  simp only [ef, eg, nI_0] at h
  unfold f_X4_sized_L33
  exact h
/-- the rest of a reference's state stays -/
def restM (σ σ' : MM) : Prop := m_players σ' = m_players σ ∧ m_kind σ' = m_kind σ ∧ m_own σ' = m_own σ ∧ m_seed σ' = m_seed σ ∧ m_taped σ' = m_taped σ ∧ m_tape σ' = m_tape σ ∧ m_holding σ' = m_holding σ ∧ m_rowLength σ' = m_rowLength σ ∧ m_rowOf σ' = m_rowOf σ ∧ m_refusals σ' = m_refusals σ ∧ m_imaged σ' = m_imaged σ ∧ m_old σ' = m_old σ
theorem sized_ok {W H : Nat} (σ : MM) : ∃ σ', f_X4_sized σ (nI W) (nI H) = some (nI (nE W H), σ') ∧ MB σ' (b0 W H) ∧ m_turn σ' = 0 ∧ m_made σ' = 0 ∧ restM σ σ' := by
  have a2 : nI W * (nI H + 1) = nI (nU W H) := by
    rw [← nI_succ, nn_mul]; rfl
  have a3 : nI (nU W H) + nI H * (nI W + 1) = nI (nE W H) := by
    rw [← nI_succ, nn_mul, nn_add]; rfl
  unfold f_X4_sized
  rw [lt_e, lt_e, sz12, sz33]
  unfold f_X4_edges f_X4_level
  simp only [lt_e, q_m_w_w, q_m_h_w, q_m_hedge_w, q_m_dug_w, q_m_owner_w, q_m_turn_w, q_m_made_w, q_m_players_w, q_m_kind_w, q_m_own_w, q_m_seed_w, q_m_taped_w, q_m_tape_w, q_m_from_w, q_m_to_w, q_m_token_w, q_m_value_w, q_m_holding_w, q_m_rowLength_w, q_m_rowOf_w, q_m_refusals_w, q_m_imaged_w, q_m_old_w, q_m_ahead_w, q_m_bestMove_w, q_m_w_h, q_m_h_h, q_m_hedge_h, q_m_dug_h, q_m_owner_h, q_m_turn_h, q_m_made_h, q_m_players_h, q_m_kind_h, q_m_own_h, q_m_seed_h, q_m_taped_h, q_m_tape_h, q_m_from_h, q_m_to_h, q_m_token_h, q_m_value_h, q_m_holding_h, q_m_rowLength_h, q_m_rowOf_h, q_m_refusals_h, q_m_imaged_h, q_m_old_h, q_m_ahead_h, q_m_bestMove_h, q_m_w_hedge, q_m_h_hedge, q_m_hedge_hedge, q_m_dug_hedge, q_m_owner_hedge, q_m_turn_hedge, q_m_made_hedge, q_m_players_hedge, q_m_kind_hedge, q_m_own_hedge, q_m_seed_hedge, q_m_taped_hedge, q_m_tape_hedge, q_m_from_hedge, q_m_to_hedge, q_m_token_hedge, q_m_value_hedge, q_m_holding_hedge, q_m_rowLength_hedge, q_m_rowOf_hedge, q_m_refusals_hedge, q_m_imaged_hedge, q_m_old_hedge, q_m_ahead_hedge, q_m_bestMove_hedge, q_m_w_dug, q_m_h_dug, q_m_hedge_dug, q_m_dug_dug, q_m_owner_dug, q_m_turn_dug, q_m_made_dug, q_m_players_dug, q_m_kind_dug, q_m_own_dug, q_m_seed_dug, q_m_taped_dug, q_m_tape_dug, q_m_from_dug, q_m_to_dug, q_m_token_dug, q_m_value_dug, q_m_holding_dug, q_m_rowLength_dug, q_m_rowOf_dug, q_m_refusals_dug, q_m_imaged_dug, q_m_old_dug, q_m_ahead_dug, q_m_bestMove_dug, q_m_w_owner, q_m_h_owner, q_m_hedge_owner, q_m_dug_owner, q_m_owner_owner, q_m_turn_owner, q_m_made_owner, q_m_players_owner, q_m_kind_owner, q_m_own_owner, q_m_seed_owner, q_m_taped_owner, q_m_tape_owner, q_m_from_owner, q_m_to_owner, q_m_token_owner, q_m_value_owner, q_m_holding_owner, q_m_rowLength_owner, q_m_rowOf_owner, q_m_refusals_owner, q_m_imaged_owner, q_m_old_owner, q_m_ahead_owner, q_m_bestMove_owner, q_m_w_turn, q_m_h_turn, q_m_hedge_turn, q_m_dug_turn, q_m_owner_turn, q_m_turn_turn, q_m_made_turn, q_m_players_turn, q_m_kind_turn, q_m_own_turn, q_m_seed_turn, q_m_taped_turn, q_m_tape_turn, q_m_from_turn, q_m_to_turn, q_m_token_turn, q_m_value_turn, q_m_holding_turn, q_m_rowLength_turn, q_m_rowOf_turn, q_m_refusals_turn, q_m_imaged_turn, q_m_old_turn, q_m_ahead_turn, q_m_bestMove_turn, q_m_w_made, q_m_h_made, q_m_hedge_made, q_m_dug_made, q_m_owner_made, q_m_turn_made, q_m_made_made, q_m_players_made, q_m_kind_made, q_m_own_made, q_m_seed_made, q_m_taped_made, q_m_tape_made, q_m_from_made, q_m_to_made, q_m_token_made, q_m_value_made, q_m_holding_made, q_m_rowLength_made, q_m_rowOf_made, q_m_refusals_made, q_m_imaged_made, q_m_old_made, q_m_ahead_made, q_m_bestMove_made, a2, a3]
  refine ⟨_, rfl, ⟨?_, ?_, ?_, ?_, ?_⟩, ?_, ?_, ?_⟩
  all_goals simp only [restM, q_m_w_w, q_m_h_w, q_m_hedge_w, q_m_dug_w, q_m_owner_w, q_m_turn_w, q_m_made_w, q_m_players_w, q_m_kind_w, q_m_own_w, q_m_seed_w, q_m_taped_w, q_m_tape_w, q_m_from_w, q_m_to_w, q_m_token_w, q_m_value_w, q_m_holding_w, q_m_rowLength_w, q_m_rowOf_w, q_m_refusals_w, q_m_imaged_w, q_m_old_w, q_m_ahead_w, q_m_bestMove_w, q_m_w_h, q_m_h_h, q_m_hedge_h, q_m_dug_h, q_m_owner_h, q_m_turn_h, q_m_made_h, q_m_players_h, q_m_kind_h, q_m_own_h, q_m_seed_h, q_m_taped_h, q_m_tape_h, q_m_from_h, q_m_to_h, q_m_token_h, q_m_value_h, q_m_holding_h, q_m_rowLength_h, q_m_rowOf_h, q_m_refusals_h, q_m_imaged_h, q_m_old_h, q_m_ahead_h, q_m_bestMove_h, q_m_w_hedge, q_m_h_hedge, q_m_hedge_hedge, q_m_dug_hedge, q_m_owner_hedge, q_m_turn_hedge, q_m_made_hedge, q_m_players_hedge, q_m_kind_hedge, q_m_own_hedge, q_m_seed_hedge, q_m_taped_hedge, q_m_tape_hedge, q_m_from_hedge, q_m_to_hedge, q_m_token_hedge, q_m_value_hedge, q_m_holding_hedge, q_m_rowLength_hedge, q_m_rowOf_hedge, q_m_refusals_hedge, q_m_imaged_hedge, q_m_old_hedge, q_m_ahead_hedge, q_m_bestMove_hedge, q_m_w_dug, q_m_h_dug, q_m_hedge_dug, q_m_dug_dug, q_m_owner_dug, q_m_turn_dug, q_m_made_dug, q_m_players_dug, q_m_kind_dug, q_m_own_dug, q_m_seed_dug, q_m_taped_dug, q_m_tape_dug, q_m_from_dug, q_m_to_dug, q_m_token_dug, q_m_value_dug, q_m_holding_dug, q_m_rowLength_dug, q_m_rowOf_dug, q_m_refusals_dug, q_m_imaged_dug, q_m_old_dug, q_m_ahead_dug, q_m_bestMove_dug, q_m_w_owner, q_m_h_owner, q_m_hedge_owner, q_m_dug_owner, q_m_owner_owner, q_m_turn_owner, q_m_made_owner, q_m_players_owner, q_m_kind_owner, q_m_own_owner, q_m_seed_owner, q_m_taped_owner, q_m_tape_owner, q_m_from_owner, q_m_to_owner, q_m_token_owner, q_m_value_owner, q_m_holding_owner, q_m_rowLength_owner, q_m_rowOf_owner, q_m_refusals_owner, q_m_imaged_owner, q_m_old_owner, q_m_ahead_owner, q_m_bestMove_owner, q_m_w_turn, q_m_h_turn, q_m_hedge_turn, q_m_dug_turn, q_m_owner_turn, q_m_turn_turn, q_m_made_turn, q_m_players_turn, q_m_kind_turn, q_m_own_turn, q_m_seed_turn, q_m_taped_turn, q_m_tape_turn, q_m_from_turn, q_m_to_turn, q_m_token_turn, q_m_value_turn, q_m_holding_turn, q_m_rowLength_turn, q_m_rowOf_turn, q_m_refusals_turn, q_m_imaged_turn, q_m_old_turn, q_m_ahead_turn, q_m_bestMove_turn, q_m_w_made, q_m_h_made, q_m_hedge_made, q_m_dug_made, q_m_owner_made, q_m_turn_made, q_m_made_made, q_m_players_made, q_m_kind_made, q_m_own_made, q_m_seed_made, q_m_taped_made, q_m_tape_made, q_m_from_made, q_m_to_made, q_m_token_made, q_m_value_made, q_m_holding_made, q_m_rowLength_made, q_m_rowOf_made, q_m_refusals_made, q_m_imaged_made, q_m_old_made, q_m_ahead_made, q_m_bestMove_made, b0, bW, bH, bh, bd, bo, and_self]
  · intro e he; rw [if_pos he]; rfl
  · intro f hf; rw [if_pos hf]; rfl
  · intro f hf; rw [if_pos hf]; rfl
theorem side_iff (a : Int32) : (f_X3_isSide a = false ∧ f_X4_within a 1 4 = false) ∨ ∃ k, (1 ≤ k ∧ k ≤ 4) ∧ a = nI k ∧ f_X3_isSide a = true ∧ f_X4_within a 1 4 = true := by
  unfold f_X3_isSide f_X4_within
  by_cases h1 : a < 1
  · left; rw [if_pos h1]; exact ⟨rfl, rfl⟩
  by_cases h4 : 4 < a
  · left; rw [if_neg h1, if_pos h4]; exact ⟨rfl, rfl⟩
  right
  have e1 : (1 : Int32).toInt = 1 := rfl
  have e4 : (4 : Int32).toInt = 4 := rfl
  have g1 := h1
  have g4 := h4
  rw [Int32.lt_iff_toInt_lt] at g1 g4
  refine ⟨a.toInt.toNat, by omega, ?_, ?_, ?_⟩
  · apply Int32.toInt_inj.mp
    rw [nI_toInt (by omega)]
    omega
  · rw [if_neg h1, if_neg h4]
  · rw [if_neg h1, if_neg h4]
theorem B_size {x : XX} {σ : MM} (hR : Rel x σ) (a1 : Int32) (a2 : Int32) : ∃ (r : Int32) (x' : XX) (σ' : MM), f_X3_size x a1 a2 = some (r, x') ∧ f_X4_size σ a1 a2 = some (r, σ') ∧ Rel x' σ' := by
  have hno := R_no' hR (-2) (Or.inl rfl)
  unfold f_X3_size f_X4_size
  rcases side_iff a1 with ⟨e1, e2⟩ | ⟨W, hW, rfl, e1, e2⟩
  · rw [e1, e2]; exact hno
  rw [e1, e2, if_pos rfl, if_pos rfl]
  rcases side_iff a2 with ⟨e1, e2⟩ | ⟨H, hH, rfl, e1, e2⟩
  · rw [e1, e2]; exact hno
  rw [e1, e2, if_pos rfl, if_pos rfl]
  have hz : SZ W H := ⟨hW, hH⟩
  obtain ⟨g, g1, g2, g3, g4, g5, g6⟩ := lay_ok hz (x_now x)
  obtain ⟨τ, m1, m2, m3, m4, n1, n2, n3, n4, n5, n6, n7, n8, n9, n10, n11, n12⟩ := sized_ok (W := W) (H := H) σ
  rw [g1, m1, ob_s, ob2_s, lt_e]
  refine ⟨nI (nE W H), x_now' x g, τ, ?_, rfl, ?_⟩
  · rw [q_x_now_now, g6]
  obtain ⟨⟨b, t0, mv, sd, hb, hg, hm, hgs, hms⟩, hP, hS, hT, hF, hI⟩ := hR
  refine ⟨⟨b0 W H, 0, 0, sd, BOK_b0 hz, ?_, m2, ?_, ?_⟩, PRel_c hP (by simp only [q_x_now_now, q_x_thought_now, q_x_kept_now, q_x_keptCrew_now, q_x_kinds_now, q_x_amounts_now, q_x_crew_now, q_x_crewRead_now, q_x_shelves_now, q_x_tape_now, q_x_refusals_now, and_self]) ⟨n1, n2, n3⟩, SRel_c hS (by simp only [q_x_now_now, q_x_thought_now, q_x_kept_now, q_x_keptCrew_now, q_x_kinds_now, q_x_amounts_now, q_x_crew_now, q_x_crewRead_now, q_x_shelves_now, q_x_tape_now, q_x_refusals_now]) ⟨n1, n7, n8, n9⟩, TRel_c hT (by simp only [q_x_now_now, q_x_thought_now, q_x_kept_now, q_x_keptCrew_now, q_x_kinds_now, q_x_amounts_now, q_x_crew_now, q_x_crewRead_now, q_x_shelves_now, q_x_tape_now, q_x_refusals_now]) ⟨n5, n6⟩, RRel_c hF (by simp only [q_x_now_now, q_x_thought_now, q_x_kept_now, q_x_keptCrew_now, q_x_kinds_now, q_x_amounts_now, q_x_crew_now, q_x_crewRead_now, q_x_shelves_now, q_x_tape_now, q_x_refusals_now]) n10, IRel_c hI (by simp only [q_x_now_now, q_x_thought_now, q_x_kept_now, q_x_keptCrew_now, q_x_kinds_now, q_x_amounts_now, q_x_crew_now, q_x_crewRead_now, q_x_shelves_now, q_x_tape_now, q_x_refusals_now, and_self]) ⟨n11, n12, n1⟩⟩
  · rw [q_x_now_now]; exact g2
  · rw [q_x_now_now]
    exact ⟨by omega, g3, g4, g5.trans hgs.2.2.2⟩
  · exact ⟨by omega, m3, m4, n4.trans hms.2.2.2⟩
theorem B_init : ∃ (r : Int32) (g : GG) (z : MM), f_X0_init g0 = some g ∧ f_X4_sized mI 2 2 = some (r, z) ∧ Rel (xI g) z := by
  have hz : SZ 2 2 := ⟨⟨by omega, by omega⟩, by omega, by omega⟩
  obtain ⟨g, g1, g2, g3, g4, g5, g6⟩ := lay_ok hz (g_seed' g0 1)
  obtain ⟨τ, m1, m2, m3, m4, n1, n2, n3, n4, n5, n6, n7, n8, n9, n10, n11, n12⟩ := sized_ok (W := 2) (H := 2) mI
  refine ⟨_, g, τ, ?_, m1, ?_⟩
  · unfold f_X0_init
    rw [lt_e, show (2 : Int32) = nI 2 from rfl, g1, ob_s]
  refine ⟨⟨b0 2 2, 0, 0, 1, BOK_b0 hz, g2, m2, ⟨by omega, g3, g4, g5⟩, ⟨by omega, m3, m4, n4⟩⟩, ⟨0, by omega, rfl, n1, fun p hp => absurd hp (by omega)⟩, ?_, ⟨0, by omega, rfl, n5, fun i hi => absurd hi (by omega)⟩, ?_, Or.inl ⟨n11, rfl⟩⟩
  · intro s hs
    have e : m_holding τ s = -1 := by
      rw [n7]
      exact (by decide +kernel : ∀ s, s < 8 → m_holding mI s = -1) s hs
    exact ⟨e.symm, Or.inl ⟨e, rfl⟩⟩
  · intro i hi
    rw [n10]
    rfl
