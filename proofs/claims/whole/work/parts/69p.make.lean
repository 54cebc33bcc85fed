/-! A move is made -/
/-- what a game leaves alone in the reference -/
def fz (σ σ' : MM) : Prop := m_players σ' = m_players σ ∧ m_kind σ' = m_kind σ ∧ m_own σ' = m_own σ ∧ m_taped σ' = m_taped σ ∧ m_tape σ' = m_tape σ ∧ m_from σ' = m_from σ ∧ m_to σ' = m_to σ ∧ m_token σ' = m_token σ ∧ m_value σ' = m_value σ ∧ m_holding σ' = m_holding σ ∧ m_rowLength σ' = m_rowLength σ ∧ m_rowOf σ' = m_rowOf σ ∧ m_refusals σ' = m_refusals σ ∧ m_imaged σ' = m_imaged σ ∧ m_old σ' = m_old σ ∧ m_ahead σ' = m_ahead σ
theorem fz_r (σ : MM) : fz σ σ := ⟨rfl, rfl, rfl, rfl, rfl, rfl, rfl, rfl, rfl, rfl, rfl, rfl, rfl, rfl, rfl, rfl⟩
theorem fz_t {σ τ ρ : MM} (h : fz σ τ) (k : fz τ ρ) : fz σ ρ := by
  obtain ⟨a1, a2, a3, a4, a5, a6, a7, a8, a9, a10, a11, a12, a13, a14, a15, a16⟩ := h
  obtain ⟨b1, b2, b3, b4, b5, b6, b7, b8, b9, b10, b11, b12, b13, b14, b15, b16⟩ := k
  exact ⟨b1.trans a1, b2.trans a2, b3.trans a3, b4.trans a4, b5.trans a5, b6.trans a6, b7.trans a7, b8.trans a8, b9.trans a9, b10.trans a10, b11.trans a11, b12.trans a12, b13.trans a13, b14.trans a14, b15.trans a15, b16.trans a16⟩
theorem hedges_w {σ : MM} {W H : Nat} (hz : SZ W H) {X : Nat → Bool} (h1 : m_w σ = nI W) (h2 : m_h σ = nI H) (h3 : ∀ e, e < 40 → m_hedge σ e = ib (X e)) {f : Nat} (hf : f < nF W H) : f_X4_hedges σ (nI f) = some (nI (ct W H X f)) := by
  have sz := szs hz
  have hc : cn (fun s => X (eg W H f s)) 4 = ct W H X f := cn_ct W H X f
  rw [← hc]
  unfold f_X4_hedges f_X4_hedges_L4
  refine lp_cnt _ (f_X4_hedges_L4_b σ (nI f)) (fun s => X (eg W H f s)) 4 0 _ (by omega) (fun i rec y hi => ?_) (fun rec => ?_)
  · have he := eg_lt hz hf hi
    unfold f_X4_hedges_L4_b
    rw [if_neg (show ¬ (4 : Int32) ≤ nI i from nI_ge (b := 4) hi (by omega)), geo_me hz h1 h2 hf hi, ob_s, gd_t (nI_inb (by omega) (by omega)), nI_clamp (by omega), h3 _ (by omega)]
    simp only [lt_e, ← nI_succ]
    cases X (eg W H f i) with
    | false => rfl
    | true => rfl
  · unfold f_X4_hedges_L4_b
    rw [if_pos (show (4 : Int32) ≤ nI 4 by decide +kernel), Nat.zero_add]
-- the board behind a move
def shE (b : BD) (e f : Nat) : Bool := decide (f < bn b) && (isf (bW b) (bH b) e f && decide (ct (bW b) (bH b) (hp (bh b) e) f = 4))
def mkE (b : BD) (t e : Nat) : BD := (bW b, bH b, hp (bh b) e, bd b, fun f => if shE b e f = true then t else bo b f)
def mkD (b : BD) (d : Nat) : BD := (bW b, bH b, bh b, (fun f => bd b f || decide (f = d)), bo b)
/-- the board behind the move of a slot -/
def mk (b : BD) (t s : Nat) : BD := if s < 40 then mkE b t s else mkD b (s - 40)
theorem mk_e {b : BD} {t s : Nat} (h : s < 40) : mk b t s = mkE b t s := if_pos h
theorem mk_d {b : BD} {t s : Nat} (h : 40 ≤ s) : mk b t s = mkD b (s - 40) := if_neg (by omega)
theorem mk_W (b : BD) (t s : Nat) : bW (mk b t s) = bW b := by unfold mk; split <;> rfl
theorem mk_H (b : BD) (t s : Nat) : bH (mk b t s) = bH b := by unfold mk; split <;> rfl
theorem BOK_mkE {b : BD} (hb : BOK b) {t e : Nat} (ht : t < 2) (he : e < be b) (h0 : bh b e = false) : BOK (mkE b t e) := by
  have hz : SZ (bW b) (bH b) := ⟨hb.1, hb.2.1⟩
  refine ⟨hb.1, hb.2.1, fun k hk => ?_, fun f hf => ⟨(hb.2.2.2.1 f hf).1, ?_⟩, fun f => ?_, fun f hf => ?_⟩
  · show (bh b k || decide (k = e)) = false
    rw [hb.2.2.1 k hk, decide_eq_false (show ¬ k = e by have : be b ≤ k := hk; omega)]; rfl
  · show (if shE b e f = true then t else bo b f) = 2
    have : shE b e f = false := by unfold shE; rw [decide_eq_false (show ¬ f < bn b from Nat.not_lt.mpr hf)]; rfl
    rw [this, if_neg Bool.false_ne_true]
    exact (hb.2.2.2.1 f hf).2
  · show (if shE b e f = true then t else bo b f) ≤ 2
    have := hb.2.2.2.2.1 f
    split <;> omega
  · have hf2 : f < bn b := hf
    show (if shE b e f = true then t else bo b f) < 2 ↔ ct (bW b) (bH b) (hp (bh b) e) f = 4
    have hc := ct_hp hz he hf2 h0
    have ho := hb.2.2.2.2.2 f hf2
    have h1 := cnt_le b f
    have e1 : ct (bW b) (bH b) (bh b) f = cnt b f := rfl
    unfold shE
    rw [decide_eq_true hf2, Bool.true_and]
    cases hi : isf (bW b) (bH b) e f with
    | true =>
      rw [hi, e1] at hc
      rw [Bool.true_and]
      by_cases c : ct (bW b) (bH b) (hp (bh b) e) f = 4
      · rw [if_pos (decide_eq_true c)]
        exact ⟨fun _ => c, fun _ => ht⟩
      · have cbt : cb true = 1 := rfl
        have hl : ct (bW b) (bH b) (hp (bh b) e) f ≤ 4 := cnt_le (mkE b t e) f
        rw [if_neg (by rw [decide_eq_false c]; exact Bool.false_ne_true), ho]
        constructor
        · intro h; omega
        · intro h; exact absurd h c
    | false =>
      rw [hi, e1] at hc
      have cbf : cb false = 0 := rfl
      rw [Bool.false_and, if_neg Bool.false_ne_true, ho]
      omega
theorem BOK_mkD {b : BD} (hb : BOK b) {d : Nat} (hd : d < bn b) : BOK (mkD b d) := by
  refine ⟨hb.1, hb.2.1, hb.2.2.1, fun f hf => ⟨?_, (hb.2.2.2.1 f hf).2⟩, hb.2.2.2.2.1, hb.2.2.2.2.2⟩
  show (bd b f || decide (f = d)) = false
  have : bn b ≤ f := hf
  rw [(hb.2.2.2.1 f hf).1, decide_eq_false (show ¬ f = d by omega)]; rfl
theorem BOK_mk {b : BD} (hb : BOK b) {t s : Nat} (ht : t < 2) (ho : os b s = true) : BOK (mk b t s) := by
  have hz : SZ (bW b) (bH b) := ⟨hb.1, hb.2.1⟩
  obtain ⟨h1, h2, h3⟩ := os_lt hz ho
  by_cases c : s < 40
  · rw [mk_e c]; exact BOK_mkE hb ht (h2 c).1 (h2 c).2
  · rw [mk_d (by omega)]; exact BOK_mkD hb (h3 (by omega)).1
-- the class
theorem shE_bits {b : BD} (hb : BOK b) {e : Nat} (he : e < be b) (h0 : bh b e = false) (i : Nat) : (decide (i < bn b) && decide (ct (bW b) (bH b) (hp (bh b) e) i = 4) && !(decide (i < bn b) && decide (cnt b i = 4))) = shE b e i := by
  have hz : SZ (bW b) (bH b) := ⟨hb.1, hb.2.1⟩
  unfold shE
  by_cases c : i < bn b
  · rw [decide_eq_true c, Bool.true_and, Bool.true_and, Bool.true_and]
    have hc := ct_hp hz he c h0
    have e1 : ct (bW b) (bH b) (bh b) i = cnt b i := rfl
    rw [e1] at hc
    have h1 := cnt_le b i
    have hl : ct (bW b) (bH b) (hp (bh b) e) i ≤ 4 := cnt_le (mkE b 0 e) i
    cases hi : isf (bW b) (bH b) e i with
    | true =>
      rw [hi] at hc
      have cbt : cb true = 1 := rfl
      rw [decide_eq_false (show ¬ cnt b i = 4 by omega)]
      cases decide (ct (bW b) (bH b) (hp (bh b) e) i = 4) <;> rfl
    | false =>
      rw [hi] at hc
      have cbf : cb false = 0 := rfl
      rw [hc, cbf, Nat.add_zero]
      cases decide (cnt b i = 4) <;> rfl
  · rw [decide_eq_false c]; rfl
theorem shE_bo {b : BD} (hb : BOK b) {e : Nat} (he : e < be b) (h0 : bh b e = false) {i : Nat} (h : shE b e i = true) : bo b i = 2 := by
  have h2 := shE_bits hb he h0 i
  rw [h] at h2
  rw [Bool.and_eq_true, Bool.and_eq_true, Bool.not_eq_true', Bool.and_eq_false_iff] at h2
  obtain ⟨⟨c, -⟩, d⟩ := h2
  rw [decide_eq_true_eq] at c
  have ho := hb.2.2.2.2.2 i c
  have := hb.2.2.2.2.1 i
  rcases d with d | d
  · exact absurd c (of_decide_eq_false d)
  · have := of_decide_eq_false d
    by_cases q : bo b i < 2
    · exact absurd (ho.mp q) this
    · omega
theorem makeX_ok {g : GG} {b : BD} (hb : BOK b) (hg : GB g b) {t s : Nat} {mv0 sd : Int32} (hs : GS g t mv0 sd) (ho : os b s = true) : ∃ g', f_X0_make g (nI s) = some g' ∧ GB g' (mk b t s) ∧ GS g' (1 - t) (mv0 + 1) sd := by
  have hz : SZ (bW b) (bH b) := ⟨hb.1, hb.2.1⟩
  have sz := szs hz
  have hn : bn b ≤ 16 := sz.2.1
  obtain ⟨ht, s1, s2, s3⟩ := hs
  obtain ⟨h1, h2, h3⟩ := os_lt hz ho
  have e1t : (1 : Int32) - nI t = nI (1 - t) := one_sub t ht
  unfold f_X0_make
  by_cases c : s < 40
  · obtain ⟨he, h0⟩ := h2 c
    have hX := hp_bits hg.2.1 (show s < 64 by omega)
    rw [if_neg (show ¬ (40 : Int32) ≤ nI s from nI_ge (b := 40) c (by omega)), lt_e, mk_e c]
    have hgeo : ∀ v, GGeo (g_hedges' g v) (bW b) (bH b) := fun v => by
      unfold GGeo
      simp only [q_g_width_hedges, q_g_height_hedges, q_g_fields_hedges, q_g_edges_hedges, q_g_uprights_hedges, q_g_all_hedges, q_g_leftmost_hedges, q_g_rightmost_hedges, q_g_rimEdges_hedges, q_g_hedges_hedges, q_g_dug_hedges, q_g_ownedBy0_hedges, q_g_ownedBy1_hedges, q_g_turn_hedges, q_g_made_hedges, q_g_seed_hedges]
      exact hg.1
    obtain ⟨r, r1, r2⟩ := closed_ok hz (hgeo ((g_hedges g) ||| (lshl 1 (nI s)))) (x := (g_hedges g) ||| (lshl 1 (nI s))) (X := hp (bh b) s) hX
    have hx7 : ∀ i, i < 32 → bt (r &&& ((f_X0_shutFields g) ^^^ (-1))) i = shE b s i := fun i hi => by
      rw [bt_and, bt_not hi, r2 i hi, shut_bits hb hg hi]
      exact shE_bits hb he h0 i
    have esh : f_X0_shutFields (g_hedges' g ((g_hedges g) ||| (lshl 1 (nI s)))) = f_X0_shutFields g := by
      unfold f_X0_shutFields
      simp only [q_g_width_hedges, q_g_height_hedges, q_g_fields_hedges, q_g_edges_hedges, q_g_uprights_hedges, q_g_all_hedges, q_g_leftmost_hedges, q_g_rightmost_hedges, q_g_rimEdges_hedges, q_g_hedges_hedges, q_g_dug_hedges, q_g_ownedBy0_hedges, q_g_ownedBy1_hedges, q_g_turn_hedges, q_g_made_hedges, q_g_seed_hedges]
    have eh : g_hedges (g_hedges' g ((g_hedges g) ||| (lshl 1 (nI s)))) = (g_hedges g) ||| (lshl 1 (nI s)) := q_g_hedges_hedges _ _
    have et : g_turn (g_hedges' g ((g_hedges g) ||| (lshl 1 (nI s)))) = nI t := by rw [q_g_turn_hedges]; exact s1
    rw [eh, r1, ob_s, lt_e, esh, et]
    unfold f_X0_make_b64 f_X0_make_b82
    simp only [lt_e]
    have own : ∀ p, p < 2 → ∀ i, ((decide (bo b i = p)) || (shE b s i && decide (t = p))) = decide ((mkE b t s).2.2.2.2 i = p) := fun p hp i => by
      show _ = decide ((if shE b s i = true then t else bo b i) = p)
      cases hse : shE b s i with
      | false => rw [if_neg Bool.false_ne_true, Bool.false_and, Bool.or_false]
      | true =>
        rw [if_pos rfl, Bool.true_and, shE_bo hb he h0 hse, decide_eq_false (show ¬ 2 = p by omega), Bool.false_or]
    rcases (by omega : t = 0 ∨ t = 1) with rfl | rfl
    · rw [if_pos (show nI 0 = 0 from rfl)]
      refine ⟨_, rfl, ⟨?_, ?_, ?_, ?_, ?_⟩, by omega, ?_, ?_, ?_⟩
      · unfold GGeo
        simp only [q_g_width_hedges, q_g_height_hedges, q_g_fields_hedges, q_g_edges_hedges, q_g_uprights_hedges, q_g_all_hedges, q_g_leftmost_hedges, q_g_rightmost_hedges, q_g_rimEdges_hedges, q_g_hedges_hedges, q_g_dug_hedges, q_g_ownedBy0_hedges, q_g_ownedBy1_hedges, q_g_turn_hedges, q_g_made_hedges, q_g_seed_hedges, q_g_width_ownedBy0, q_g_height_ownedBy0, q_g_fields_ownedBy0, q_g_edges_ownedBy0, q_g_uprights_ownedBy0, q_g_all_ownedBy0, q_g_leftmost_ownedBy0, q_g_rightmost_ownedBy0, q_g_rimEdges_ownedBy0, q_g_hedges_ownedBy0, q_g_dug_ownedBy0, q_g_ownedBy0_ownedBy0, q_g_ownedBy1_ownedBy0, q_g_turn_ownedBy0, q_g_made_ownedBy0, q_g_seed_ownedBy0, q_g_width_turn, q_g_height_turn, q_g_fields_turn, q_g_edges_turn, q_g_uprights_turn, q_g_all_turn, q_g_leftmost_turn, q_g_rightmost_turn, q_g_rimEdges_turn, q_g_hedges_turn, q_g_dug_turn, q_g_ownedBy0_turn, q_g_ownedBy1_turn, q_g_turn_turn, q_g_made_turn, q_g_seed_turn, q_g_width_made, q_g_height_made, q_g_fields_made, q_g_edges_made, q_g_uprights_made, q_g_all_made, q_g_leftmost_made, q_g_rightmost_made, q_g_rimEdges_made, q_g_hedges_made, q_g_dug_made, q_g_ownedBy0_made, q_g_ownedBy1_made, q_g_turn_made, q_g_made_made, q_g_seed_made]
        exact hg.1
      · simp only [q_g_width_hedges, q_g_height_hedges, q_g_fields_hedges, q_g_edges_hedges, q_g_uprights_hedges, q_g_all_hedges, q_g_leftmost_hedges, q_g_rightmost_hedges, q_g_rimEdges_hedges, q_g_hedges_hedges, q_g_dug_hedges, q_g_ownedBy0_hedges, q_g_ownedBy1_hedges, q_g_turn_hedges, q_g_made_hedges, q_g_seed_hedges, q_g_width_ownedBy0, q_g_height_ownedBy0, q_g_fields_ownedBy0, q_g_edges_ownedBy0, q_g_uprights_ownedBy0, q_g_all_ownedBy0, q_g_leftmost_ownedBy0, q_g_rightmost_ownedBy0, q_g_rimEdges_ownedBy0, q_g_hedges_ownedBy0, q_g_dug_ownedBy0, q_g_ownedBy0_ownedBy0, q_g_ownedBy1_ownedBy0, q_g_turn_ownedBy0, q_g_made_ownedBy0, q_g_seed_ownedBy0, q_g_width_turn, q_g_height_turn, q_g_fields_turn, q_g_edges_turn, q_g_uprights_turn, q_g_all_turn, q_g_leftmost_turn, q_g_rightmost_turn, q_g_rimEdges_turn, q_g_hedges_turn, q_g_dug_turn, q_g_ownedBy0_turn, q_g_ownedBy1_turn, q_g_turn_turn, q_g_made_turn, q_g_seed_turn, q_g_width_made, q_g_height_made, q_g_fields_made, q_g_edges_made, q_g_uprights_made, q_g_all_made, q_g_leftmost_made, q_g_rightmost_made, q_g_rimEdges_made, q_g_hedges_made, q_g_dug_made, q_g_ownedBy0_made, q_g_ownedBy1_made, q_g_turn_made, q_g_made_made, q_g_seed_made]
        exact hX
      · simp only [q_g_width_hedges, q_g_height_hedges, q_g_fields_hedges, q_g_edges_hedges, q_g_uprights_hedges, q_g_all_hedges, q_g_leftmost_hedges, q_g_rightmost_hedges, q_g_rimEdges_hedges, q_g_hedges_hedges, q_g_dug_hedges, q_g_ownedBy0_hedges, q_g_ownedBy1_hedges, q_g_turn_hedges, q_g_made_hedges, q_g_seed_hedges, q_g_width_ownedBy0, q_g_height_ownedBy0, q_g_fields_ownedBy0, q_g_edges_ownedBy0, q_g_uprights_ownedBy0, q_g_all_ownedBy0, q_g_leftmost_ownedBy0, q_g_rightmost_ownedBy0, q_g_rimEdges_ownedBy0, q_g_hedges_ownedBy0, q_g_dug_ownedBy0, q_g_ownedBy0_ownedBy0, q_g_ownedBy1_ownedBy0, q_g_turn_ownedBy0, q_g_made_ownedBy0, q_g_seed_ownedBy0, q_g_width_turn, q_g_height_turn, q_g_fields_turn, q_g_edges_turn, q_g_uprights_turn, q_g_all_turn, q_g_leftmost_turn, q_g_rightmost_turn, q_g_rimEdges_turn, q_g_hedges_turn, q_g_dug_turn, q_g_ownedBy0_turn, q_g_ownedBy1_turn, q_g_turn_turn, q_g_made_turn, q_g_seed_turn, q_g_width_made, q_g_height_made, q_g_fields_made, q_g_edges_made, q_g_uprights_made, q_g_all_made, q_g_leftmost_made, q_g_rightmost_made, q_g_rimEdges_made, q_g_hedges_made, q_g_dug_made, q_g_ownedBy0_made, q_g_ownedBy1_made, q_g_turn_made, q_g_made_made, q_g_seed_made]
        exact hg.2.2.1
      · intro i hi
        simp only [q_g_width_hedges, q_g_height_hedges, q_g_fields_hedges, q_g_edges_hedges, q_g_uprights_hedges, q_g_all_hedges, q_g_leftmost_hedges, q_g_rightmost_hedges, q_g_rimEdges_hedges, q_g_hedges_hedges, q_g_dug_hedges, q_g_ownedBy0_hedges, q_g_ownedBy1_hedges, q_g_turn_hedges, q_g_made_hedges, q_g_seed_hedges, q_g_width_ownedBy0, q_g_height_ownedBy0, q_g_fields_ownedBy0, q_g_edges_ownedBy0, q_g_uprights_ownedBy0, q_g_all_ownedBy0, q_g_leftmost_ownedBy0, q_g_rightmost_ownedBy0, q_g_rimEdges_ownedBy0, q_g_hedges_ownedBy0, q_g_dug_ownedBy0, q_g_ownedBy0_ownedBy0, q_g_ownedBy1_ownedBy0, q_g_turn_ownedBy0, q_g_made_ownedBy0, q_g_seed_ownedBy0, q_g_width_turn, q_g_height_turn, q_g_fields_turn, q_g_edges_turn, q_g_uprights_turn, q_g_all_turn, q_g_leftmost_turn, q_g_rightmost_turn, q_g_rimEdges_turn, q_g_hedges_turn, q_g_dug_turn, q_g_ownedBy0_turn, q_g_ownedBy1_turn, q_g_turn_turn, q_g_made_turn, q_g_seed_turn, q_g_width_made, q_g_height_made, q_g_fields_made, q_g_edges_made, q_g_uprights_made, q_g_all_made, q_g_leftmost_made, q_g_rightmost_made, q_g_rimEdges_made, q_g_hedges_made, q_g_dug_made, q_g_ownedBy0_made, q_g_ownedBy1_made, q_g_turn_made, q_g_made_made, q_g_seed_made]
        rw [bt_or, hx7 i hi, hg.2.2.2.1 i hi]
        have := own 0 (by omega) i
        rw [decide_eq_true rfl, Bool.and_true] at this
        exact this
      · intro i hi
        simp only [q_g_width_hedges, q_g_height_hedges, q_g_fields_hedges, q_g_edges_hedges, q_g_uprights_hedges, q_g_all_hedges, q_g_leftmost_hedges, q_g_rightmost_hedges, q_g_rimEdges_hedges, q_g_hedges_hedges, q_g_dug_hedges, q_g_ownedBy0_hedges, q_g_ownedBy1_hedges, q_g_turn_hedges, q_g_made_hedges, q_g_seed_hedges, q_g_width_ownedBy0, q_g_height_ownedBy0, q_g_fields_ownedBy0, q_g_edges_ownedBy0, q_g_uprights_ownedBy0, q_g_all_ownedBy0, q_g_leftmost_ownedBy0, q_g_rightmost_ownedBy0, q_g_rimEdges_ownedBy0, q_g_hedges_ownedBy0, q_g_dug_ownedBy0, q_g_ownedBy0_ownedBy0, q_g_ownedBy1_ownedBy0, q_g_turn_ownedBy0, q_g_made_ownedBy0, q_g_seed_ownedBy0, q_g_width_turn, q_g_height_turn, q_g_fields_turn, q_g_edges_turn, q_g_uprights_turn, q_g_all_turn, q_g_leftmost_turn, q_g_rightmost_turn, q_g_rimEdges_turn, q_g_hedges_turn, q_g_dug_turn, q_g_ownedBy0_turn, q_g_ownedBy1_turn, q_g_turn_turn, q_g_made_turn, q_g_seed_turn, q_g_width_made, q_g_height_made, q_g_fields_made, q_g_edges_made, q_g_uprights_made, q_g_all_made, q_g_leftmost_made, q_g_rightmost_made, q_g_rimEdges_made, q_g_hedges_made, q_g_dug_made, q_g_ownedBy0_made, q_g_ownedBy1_made, q_g_turn_made, q_g_made_made, q_g_seed_made]
        rw [hg.2.2.2.2 i hi]
        have := own 1 (by omega) i
        rw [decide_eq_false (show ¬ 0 = 1 by omega), Bool.and_false, Bool.or_false] at this
        exact this
      · simp only [q_g_width_hedges, q_g_height_hedges, q_g_fields_hedges, q_g_edges_hedges, q_g_uprights_hedges, q_g_all_hedges, q_g_leftmost_hedges, q_g_rightmost_hedges, q_g_rimEdges_hedges, q_g_hedges_hedges, q_g_dug_hedges, q_g_ownedBy0_hedges, q_g_ownedBy1_hedges, q_g_turn_hedges, q_g_made_hedges, q_g_seed_hedges, q_g_width_ownedBy0, q_g_height_ownedBy0, q_g_fields_ownedBy0, q_g_edges_ownedBy0, q_g_uprights_ownedBy0, q_g_all_ownedBy0, q_g_leftmost_ownedBy0, q_g_rightmost_ownedBy0, q_g_rimEdges_ownedBy0, q_g_hedges_ownedBy0, q_g_dug_ownedBy0, q_g_ownedBy0_ownedBy0, q_g_ownedBy1_ownedBy0, q_g_turn_ownedBy0, q_g_made_ownedBy0, q_g_seed_ownedBy0, q_g_width_turn, q_g_height_turn, q_g_fields_turn, q_g_edges_turn, q_g_uprights_turn, q_g_all_turn, q_g_leftmost_turn, q_g_rightmost_turn, q_g_rimEdges_turn, q_g_hedges_turn, q_g_dug_turn, q_g_ownedBy0_turn, q_g_ownedBy1_turn, q_g_turn_turn, q_g_made_turn, q_g_seed_turn, q_g_width_made, q_g_height_made, q_g_fields_made, q_g_edges_made, q_g_uprights_made, q_g_all_made, q_g_leftmost_made, q_g_rightmost_made, q_g_rimEdges_made, q_g_hedges_made, q_g_dug_made, q_g_ownedBy0_made, q_g_ownedBy1_made, q_g_turn_made, q_g_made_made, q_g_seed_made]
        rw [s1]; exact e1t
      · simp only [q_g_width_hedges, q_g_height_hedges, q_g_fields_hedges, q_g_edges_hedges, q_g_uprights_hedges, q_g_all_hedges, q_g_leftmost_hedges, q_g_rightmost_hedges, q_g_rimEdges_hedges, q_g_hedges_hedges, q_g_dug_hedges, q_g_ownedBy0_hedges, q_g_ownedBy1_hedges, q_g_turn_hedges, q_g_made_hedges, q_g_seed_hedges, q_g_width_ownedBy0, q_g_height_ownedBy0, q_g_fields_ownedBy0, q_g_edges_ownedBy0, q_g_uprights_ownedBy0, q_g_all_ownedBy0, q_g_leftmost_ownedBy0, q_g_rightmost_ownedBy0, q_g_rimEdges_ownedBy0, q_g_hedges_ownedBy0, q_g_dug_ownedBy0, q_g_ownedBy0_ownedBy0, q_g_ownedBy1_ownedBy0, q_g_turn_ownedBy0, q_g_made_ownedBy0, q_g_seed_ownedBy0, q_g_width_turn, q_g_height_turn, q_g_fields_turn, q_g_edges_turn, q_g_uprights_turn, q_g_all_turn, q_g_leftmost_turn, q_g_rightmost_turn, q_g_rimEdges_turn, q_g_hedges_turn, q_g_dug_turn, q_g_ownedBy0_turn, q_g_ownedBy1_turn, q_g_turn_turn, q_g_made_turn, q_g_seed_turn, q_g_width_made, q_g_height_made, q_g_fields_made, q_g_edges_made, q_g_uprights_made, q_g_all_made, q_g_leftmost_made, q_g_rightmost_made, q_g_rimEdges_made, q_g_hedges_made, q_g_dug_made, q_g_ownedBy0_made, q_g_ownedBy1_made, q_g_turn_made, q_g_made_made, q_g_seed_made]
        rw [s2]
      · simp only [q_g_width_hedges, q_g_height_hedges, q_g_fields_hedges, q_g_edges_hedges, q_g_uprights_hedges, q_g_all_hedges, q_g_leftmost_hedges, q_g_rightmost_hedges, q_g_rimEdges_hedges, q_g_hedges_hedges, q_g_dug_hedges, q_g_ownedBy0_hedges, q_g_ownedBy1_hedges, q_g_turn_hedges, q_g_made_hedges, q_g_seed_hedges, q_g_width_ownedBy0, q_g_height_ownedBy0, q_g_fields_ownedBy0, q_g_edges_ownedBy0, q_g_uprights_ownedBy0, q_g_all_ownedBy0, q_g_leftmost_ownedBy0, q_g_rightmost_ownedBy0, q_g_rimEdges_ownedBy0, q_g_hedges_ownedBy0, q_g_dug_ownedBy0, q_g_ownedBy0_ownedBy0, q_g_ownedBy1_ownedBy0, q_g_turn_ownedBy0, q_g_made_ownedBy0, q_g_seed_ownedBy0, q_g_width_turn, q_g_height_turn, q_g_fields_turn, q_g_edges_turn, q_g_uprights_turn, q_g_all_turn, q_g_leftmost_turn, q_g_rightmost_turn, q_g_rimEdges_turn, q_g_hedges_turn, q_g_dug_turn, q_g_ownedBy0_turn, q_g_ownedBy1_turn, q_g_turn_turn, q_g_made_turn, q_g_seed_turn, q_g_width_made, q_g_height_made, q_g_fields_made, q_g_edges_made, q_g_uprights_made, q_g_all_made, q_g_leftmost_made, q_g_rightmost_made, q_g_rimEdges_made, q_g_hedges_made, q_g_dug_made, q_g_ownedBy0_made, q_g_ownedBy1_made, q_g_turn_made, q_g_made_made, q_g_seed_made]
        exact s3
    · rw [if_neg (show ¬ nI 1 = 0 by decide +kernel)]
      refine ⟨_, rfl, ⟨?_, ?_, ?_, ?_, ?_⟩, by omega, ?_, ?_, ?_⟩
      · unfold GGeo
        simp only [q_g_width_hedges, q_g_height_hedges, q_g_fields_hedges, q_g_edges_hedges, q_g_uprights_hedges, q_g_all_hedges, q_g_leftmost_hedges, q_g_rightmost_hedges, q_g_rimEdges_hedges, q_g_hedges_hedges, q_g_dug_hedges, q_g_ownedBy0_hedges, q_g_ownedBy1_hedges, q_g_turn_hedges, q_g_made_hedges, q_g_seed_hedges, q_g_width_ownedBy1, q_g_height_ownedBy1, q_g_fields_ownedBy1, q_g_edges_ownedBy1, q_g_uprights_ownedBy1, q_g_all_ownedBy1, q_g_leftmost_ownedBy1, q_g_rightmost_ownedBy1, q_g_rimEdges_ownedBy1, q_g_hedges_ownedBy1, q_g_dug_ownedBy1, q_g_ownedBy0_ownedBy1, q_g_ownedBy1_ownedBy1, q_g_turn_ownedBy1, q_g_made_ownedBy1, q_g_seed_ownedBy1, q_g_width_turn, q_g_height_turn, q_g_fields_turn, q_g_edges_turn, q_g_uprights_turn, q_g_all_turn, q_g_leftmost_turn, q_g_rightmost_turn, q_g_rimEdges_turn, q_g_hedges_turn, q_g_dug_turn, q_g_ownedBy0_turn, q_g_ownedBy1_turn, q_g_turn_turn, q_g_made_turn, q_g_seed_turn, q_g_width_made, q_g_height_made, q_g_fields_made, q_g_edges_made, q_g_uprights_made, q_g_all_made, q_g_leftmost_made, q_g_rightmost_made, q_g_rimEdges_made, q_g_hedges_made, q_g_dug_made, q_g_ownedBy0_made, q_g_ownedBy1_made, q_g_turn_made, q_g_made_made, q_g_seed_made]
        exact hg.1
      · simp only [q_g_width_hedges, q_g_height_hedges, q_g_fields_hedges, q_g_edges_hedges, q_g_uprights_hedges, q_g_all_hedges, q_g_leftmost_hedges, q_g_rightmost_hedges, q_g_rimEdges_hedges, q_g_hedges_hedges, q_g_dug_hedges, q_g_ownedBy0_hedges, q_g_ownedBy1_hedges, q_g_turn_hedges, q_g_made_hedges, q_g_seed_hedges, q_g_width_ownedBy1, q_g_height_ownedBy1, q_g_fields_ownedBy1, q_g_edges_ownedBy1, q_g_uprights_ownedBy1, q_g_all_ownedBy1, q_g_leftmost_ownedBy1, q_g_rightmost_ownedBy1, q_g_rimEdges_ownedBy1, q_g_hedges_ownedBy1, q_g_dug_ownedBy1, q_g_ownedBy0_ownedBy1, q_g_ownedBy1_ownedBy1, q_g_turn_ownedBy1, q_g_made_ownedBy1, q_g_seed_ownedBy1, q_g_width_turn, q_g_height_turn, q_g_fields_turn, q_g_edges_turn, q_g_uprights_turn, q_g_all_turn, q_g_leftmost_turn, q_g_rightmost_turn, q_g_rimEdges_turn, q_g_hedges_turn, q_g_dug_turn, q_g_ownedBy0_turn, q_g_ownedBy1_turn, q_g_turn_turn, q_g_made_turn, q_g_seed_turn, q_g_width_made, q_g_height_made, q_g_fields_made, q_g_edges_made, q_g_uprights_made, q_g_all_made, q_g_leftmost_made, q_g_rightmost_made, q_g_rimEdges_made, q_g_hedges_made, q_g_dug_made, q_g_ownedBy0_made, q_g_ownedBy1_made, q_g_turn_made, q_g_made_made, q_g_seed_made]
        exact hX
      · simp only [q_g_width_hedges, q_g_height_hedges, q_g_fields_hedges, q_g_edges_hedges, q_g_uprights_hedges, q_g_all_hedges, q_g_leftmost_hedges, q_g_rightmost_hedges, q_g_rimEdges_hedges, q_g_hedges_hedges, q_g_dug_hedges, q_g_ownedBy0_hedges, q_g_ownedBy1_hedges, q_g_turn_hedges, q_g_made_hedges, q_g_seed_hedges, q_g_width_ownedBy1, q_g_height_ownedBy1, q_g_fields_ownedBy1, q_g_edges_ownedBy1, q_g_uprights_ownedBy1, q_g_all_ownedBy1, q_g_leftmost_ownedBy1, q_g_rightmost_ownedBy1, q_g_rimEdges_ownedBy1, q_g_hedges_ownedBy1, q_g_dug_ownedBy1, q_g_ownedBy0_ownedBy1, q_g_ownedBy1_ownedBy1, q_g_turn_ownedBy1, q_g_made_ownedBy1, q_g_seed_ownedBy1, q_g_width_turn, q_g_height_turn, q_g_fields_turn, q_g_edges_turn, q_g_uprights_turn, q_g_all_turn, q_g_leftmost_turn, q_g_rightmost_turn, q_g_rimEdges_turn, q_g_hedges_turn, q_g_dug_turn, q_g_ownedBy0_turn, q_g_ownedBy1_turn, q_g_turn_turn, q_g_made_turn, q_g_seed_turn, q_g_width_made, q_g_height_made, q_g_fields_made, q_g_edges_made, q_g_uprights_made, q_g_all_made, q_g_leftmost_made, q_g_rightmost_made, q_g_rimEdges_made, q_g_hedges_made, q_g_dug_made, q_g_ownedBy0_made, q_g_ownedBy1_made, q_g_turn_made, q_g_made_made, q_g_seed_made]
        exact hg.2.2.1
      · intro i hi
        simp only [q_g_width_hedges, q_g_height_hedges, q_g_fields_hedges, q_g_edges_hedges, q_g_uprights_hedges, q_g_all_hedges, q_g_leftmost_hedges, q_g_rightmost_hedges, q_g_rimEdges_hedges, q_g_hedges_hedges, q_g_dug_hedges, q_g_ownedBy0_hedges, q_g_ownedBy1_hedges, q_g_turn_hedges, q_g_made_hedges, q_g_seed_hedges, q_g_width_ownedBy1, q_g_height_ownedBy1, q_g_fields_ownedBy1, q_g_edges_ownedBy1, q_g_uprights_ownedBy1, q_g_all_ownedBy1, q_g_leftmost_ownedBy1, q_g_rightmost_ownedBy1, q_g_rimEdges_ownedBy1, q_g_hedges_ownedBy1, q_g_dug_ownedBy1, q_g_ownedBy0_ownedBy1, q_g_ownedBy1_ownedBy1, q_g_turn_ownedBy1, q_g_made_ownedBy1, q_g_seed_ownedBy1, q_g_width_turn, q_g_height_turn, q_g_fields_turn, q_g_edges_turn, q_g_uprights_turn, q_g_all_turn, q_g_leftmost_turn, q_g_rightmost_turn, q_g_rimEdges_turn, q_g_hedges_turn, q_g_dug_turn, q_g_ownedBy0_turn, q_g_ownedBy1_turn, q_g_turn_turn, q_g_made_turn, q_g_seed_turn, q_g_width_made, q_g_height_made, q_g_fields_made, q_g_edges_made, q_g_uprights_made, q_g_all_made, q_g_leftmost_made, q_g_rightmost_made, q_g_rimEdges_made, q_g_hedges_made, q_g_dug_made, q_g_ownedBy0_made, q_g_ownedBy1_made, q_g_turn_made, q_g_made_made, q_g_seed_made]
        rw [hg.2.2.2.1 i hi]
        have := own 0 (by omega) i
        rw [decide_eq_false (show ¬ 1 = 0 by omega), Bool.and_false, Bool.or_false] at this
        exact this
      · intro i hi
        simp only [q_g_width_hedges, q_g_height_hedges, q_g_fields_hedges, q_g_edges_hedges, q_g_uprights_hedges, q_g_all_hedges, q_g_leftmost_hedges, q_g_rightmost_hedges, q_g_rimEdges_hedges, q_g_hedges_hedges, q_g_dug_hedges, q_g_ownedBy0_hedges, q_g_ownedBy1_hedges, q_g_turn_hedges, q_g_made_hedges, q_g_seed_hedges, q_g_width_ownedBy1, q_g_height_ownedBy1, q_g_fields_ownedBy1, q_g_edges_ownedBy1, q_g_uprights_ownedBy1, q_g_all_ownedBy1, q_g_leftmost_ownedBy1, q_g_rightmost_ownedBy1, q_g_rimEdges_ownedBy1, q_g_hedges_ownedBy1, q_g_dug_ownedBy1, q_g_ownedBy0_ownedBy1, q_g_ownedBy1_ownedBy1, q_g_turn_ownedBy1, q_g_made_ownedBy1, q_g_seed_ownedBy1, q_g_width_turn, q_g_height_turn, q_g_fields_turn, q_g_edges_turn, q_g_uprights_turn, q_g_all_turn, q_g_leftmost_turn, q_g_rightmost_turn, q_g_rimEdges_turn, q_g_hedges_turn, q_g_dug_turn, q_g_ownedBy0_turn, q_g_ownedBy1_turn, q_g_turn_turn, q_g_made_turn, q_g_seed_turn, q_g_width_made, q_g_height_made, q_g_fields_made, q_g_edges_made, q_g_uprights_made, q_g_all_made, q_g_leftmost_made, q_g_rightmost_made, q_g_rimEdges_made, q_g_hedges_made, q_g_dug_made, q_g_ownedBy0_made, q_g_ownedBy1_made, q_g_turn_made, q_g_made_made, q_g_seed_made]
        rw [bt_or, hx7 i hi, hg.2.2.2.2 i hi]
        have := own 1 (by omega) i
        rw [decide_eq_true rfl, Bool.and_true] at this
        exact this
      · simp only [q_g_width_hedges, q_g_height_hedges, q_g_fields_hedges, q_g_edges_hedges, q_g_uprights_hedges, q_g_all_hedges, q_g_leftmost_hedges, q_g_rightmost_hedges, q_g_rimEdges_hedges, q_g_hedges_hedges, q_g_dug_hedges, q_g_ownedBy0_hedges, q_g_ownedBy1_hedges, q_g_turn_hedges, q_g_made_hedges, q_g_seed_hedges, q_g_width_ownedBy1, q_g_height_ownedBy1, q_g_fields_ownedBy1, q_g_edges_ownedBy1, q_g_uprights_ownedBy1, q_g_all_ownedBy1, q_g_leftmost_ownedBy1, q_g_rightmost_ownedBy1, q_g_rimEdges_ownedBy1, q_g_hedges_ownedBy1, q_g_dug_ownedBy1, q_g_ownedBy0_ownedBy1, q_g_ownedBy1_ownedBy1, q_g_turn_ownedBy1, q_g_made_ownedBy1, q_g_seed_ownedBy1, q_g_width_turn, q_g_height_turn, q_g_fields_turn, q_g_edges_turn, q_g_uprights_turn, q_g_all_turn, q_g_leftmost_turn, q_g_rightmost_turn, q_g_rimEdges_turn, q_g_hedges_turn, q_g_dug_turn, q_g_ownedBy0_turn, q_g_ownedBy1_turn, q_g_turn_turn, q_g_made_turn, q_g_seed_turn, q_g_width_made, q_g_height_made, q_g_fields_made, q_g_edges_made, q_g_uprights_made, q_g_all_made, q_g_leftmost_made, q_g_rightmost_made, q_g_rimEdges_made, q_g_hedges_made, q_g_dug_made, q_g_ownedBy0_made, q_g_ownedBy1_made, q_g_turn_made, q_g_made_made, q_g_seed_made]
        rw [s1]; exact e1t
      · simp only [q_g_width_hedges, q_g_height_hedges, q_g_fields_hedges, q_g_edges_hedges, q_g_uprights_hedges, q_g_all_hedges, q_g_leftmost_hedges, q_g_rightmost_hedges, q_g_rimEdges_hedges, q_g_hedges_hedges, q_g_dug_hedges, q_g_ownedBy0_hedges, q_g_ownedBy1_hedges, q_g_turn_hedges, q_g_made_hedges, q_g_seed_hedges, q_g_width_ownedBy1, q_g_height_ownedBy1, q_g_fields_ownedBy1, q_g_edges_ownedBy1, q_g_uprights_ownedBy1, q_g_all_ownedBy1, q_g_leftmost_ownedBy1, q_g_rightmost_ownedBy1, q_g_rimEdges_ownedBy1, q_g_hedges_ownedBy1, q_g_dug_ownedBy1, q_g_ownedBy0_ownedBy1, q_g_ownedBy1_ownedBy1, q_g_turn_ownedBy1, q_g_made_ownedBy1, q_g_seed_ownedBy1, q_g_width_turn, q_g_height_turn, q_g_fields_turn, q_g_edges_turn, q_g_uprights_turn, q_g_all_turn, q_g_leftmost_turn, q_g_rightmost_turn, q_g_rimEdges_turn, q_g_hedges_turn, q_g_dug_turn, q_g_ownedBy0_turn, q_g_ownedBy1_turn, q_g_turn_turn, q_g_made_turn, q_g_seed_turn, q_g_width_made, q_g_height_made, q_g_fields_made, q_g_edges_made, q_g_uprights_made, q_g_all_made, q_g_leftmost_made, q_g_rightmost_made, q_g_rimEdges_made, q_g_hedges_made, q_g_dug_made, q_g_ownedBy0_made, q_g_ownedBy1_made, q_g_turn_made, q_g_made_made, q_g_seed_made]
        rw [s2]
      · simp only [q_g_width_hedges, q_g_height_hedges, q_g_fields_hedges, q_g_edges_hedges, q_g_uprights_hedges, q_g_all_hedges, q_g_leftmost_hedges, q_g_rightmost_hedges, q_g_rimEdges_hedges, q_g_hedges_hedges, q_g_dug_hedges, q_g_ownedBy0_hedges, q_g_ownedBy1_hedges, q_g_turn_hedges, q_g_made_hedges, q_g_seed_hedges, q_g_width_ownedBy1, q_g_height_ownedBy1, q_g_fields_ownedBy1, q_g_edges_ownedBy1, q_g_uprights_ownedBy1, q_g_all_ownedBy1, q_g_leftmost_ownedBy1, q_g_rightmost_ownedBy1, q_g_rimEdges_ownedBy1, q_g_hedges_ownedBy1, q_g_dug_ownedBy1, q_g_ownedBy0_ownedBy1, q_g_ownedBy1_ownedBy1, q_g_turn_ownedBy1, q_g_made_ownedBy1, q_g_seed_ownedBy1, q_g_width_turn, q_g_height_turn, q_g_fields_turn, q_g_edges_turn, q_g_uprights_turn, q_g_all_turn, q_g_leftmost_turn, q_g_rightmost_turn, q_g_rimEdges_turn, q_g_hedges_turn, q_g_dug_turn, q_g_ownedBy0_turn, q_g_ownedBy1_turn, q_g_turn_turn, q_g_made_turn, q_g_seed_turn, q_g_width_made, q_g_height_made, q_g_fields_made, q_g_edges_made, q_g_uprights_made, q_g_all_made, q_g_leftmost_made, q_g_rightmost_made, q_g_rimEdges_made, q_g_hedges_made, q_g_dug_made, q_g_ownedBy0_made, q_g_ownedBy1_made, q_g_turn_made, q_g_made_made, q_g_seed_made]
        exact s3
  · obtain ⟨hf, hsf⟩ := h3 (by omega)
    have e40 : nI s - 40 = nI (s - 40) := nn_sub (a := s) (b := 40) (by omega)
    rw [if_pos (show (40 : Int32) ≤ nI s from nI_le (a := 40) (by omega) (by omega)), lt_e, mk_d (by omega), e40]
    unfold f_X0_make_b82
    simp only [lt_e]
    refine ⟨_, rfl, ⟨?_, ?_, ?_, ?_, ?_⟩, by omega, ?_, ?_, ?_⟩
    · unfold GGeo
      simp only [q_g_width_dug, q_g_height_dug, q_g_fields_dug, q_g_edges_dug, q_g_uprights_dug, q_g_all_dug, q_g_leftmost_dug, q_g_rightmost_dug, q_g_rimEdges_dug, q_g_hedges_dug, q_g_dug_dug, q_g_ownedBy0_dug, q_g_ownedBy1_dug, q_g_turn_dug, q_g_made_dug, q_g_seed_dug, q_g_width_turn, q_g_height_turn, q_g_fields_turn, q_g_edges_turn, q_g_uprights_turn, q_g_all_turn, q_g_leftmost_turn, q_g_rightmost_turn, q_g_rimEdges_turn, q_g_hedges_turn, q_g_dug_turn, q_g_ownedBy0_turn, q_g_ownedBy1_turn, q_g_turn_turn, q_g_made_turn, q_g_seed_turn, q_g_width_made, q_g_height_made, q_g_fields_made, q_g_edges_made, q_g_uprights_made, q_g_all_made, q_g_leftmost_made, q_g_rightmost_made, q_g_rimEdges_made, q_g_hedges_made, q_g_dug_made, q_g_ownedBy0_made, q_g_ownedBy1_made, q_g_turn_made, q_g_made_made, q_g_seed_made]
      exact hg.1
    · simp only [q_g_width_dug, q_g_height_dug, q_g_fields_dug, q_g_edges_dug, q_g_uprights_dug, q_g_all_dug, q_g_leftmost_dug, q_g_rightmost_dug, q_g_rimEdges_dug, q_g_hedges_dug, q_g_dug_dug, q_g_ownedBy0_dug, q_g_ownedBy1_dug, q_g_turn_dug, q_g_made_dug, q_g_seed_dug, q_g_width_turn, q_g_height_turn, q_g_fields_turn, q_g_edges_turn, q_g_uprights_turn, q_g_all_turn, q_g_leftmost_turn, q_g_rightmost_turn, q_g_rimEdges_turn, q_g_hedges_turn, q_g_dug_turn, q_g_ownedBy0_turn, q_g_ownedBy1_turn, q_g_turn_turn, q_g_made_turn, q_g_seed_turn, q_g_width_made, q_g_height_made, q_g_fields_made, q_g_edges_made, q_g_uprights_made, q_g_all_made, q_g_leftmost_made, q_g_rightmost_made, q_g_rimEdges_made, q_g_hedges_made, q_g_dug_made, q_g_ownedBy0_made, q_g_ownedBy1_made, q_g_turn_made, q_g_made_made, q_g_seed_made]
      exact hg.2.1
    · intro i hi
      simp only [q_g_width_dug, q_g_height_dug, q_g_fields_dug, q_g_edges_dug, q_g_uprights_dug, q_g_all_dug, q_g_leftmost_dug, q_g_rightmost_dug, q_g_rimEdges_dug, q_g_hedges_dug, q_g_dug_dug, q_g_ownedBy0_dug, q_g_ownedBy1_dug, q_g_turn_dug, q_g_made_dug, q_g_seed_dug, q_g_width_turn, q_g_height_turn, q_g_fields_turn, q_g_edges_turn, q_g_uprights_turn, q_g_all_turn, q_g_leftmost_turn, q_g_rightmost_turn, q_g_rimEdges_turn, q_g_hedges_turn, q_g_dug_turn, q_g_ownedBy0_turn, q_g_ownedBy1_turn, q_g_turn_turn, q_g_made_turn, q_g_seed_turn, q_g_width_made, q_g_height_made, q_g_fields_made, q_g_edges_made, q_g_uprights_made, q_g_all_made, q_g_leftmost_made, q_g_rightmost_made, q_g_rimEdges_made, q_g_hedges_made, q_g_dug_made, q_g_ownedBy0_made, q_g_ownedBy1_made, q_g_turn_made, q_g_made_made, q_g_seed_made]
      rw [bt_or, hg.2.2.1 i hi, bt_ishl1 (by omega)]
      rfl
    · simp only [q_g_width_dug, q_g_height_dug, q_g_fields_dug, q_g_edges_dug, q_g_uprights_dug, q_g_all_dug, q_g_leftmost_dug, q_g_rightmost_dug, q_g_rimEdges_dug, q_g_hedges_dug, q_g_dug_dug, q_g_ownedBy0_dug, q_g_ownedBy1_dug, q_g_turn_dug, q_g_made_dug, q_g_seed_dug, q_g_width_turn, q_g_height_turn, q_g_fields_turn, q_g_edges_turn, q_g_uprights_turn, q_g_all_turn, q_g_leftmost_turn, q_g_rightmost_turn, q_g_rimEdges_turn, q_g_hedges_turn, q_g_dug_turn, q_g_ownedBy0_turn, q_g_ownedBy1_turn, q_g_turn_turn, q_g_made_turn, q_g_seed_turn, q_g_width_made, q_g_height_made, q_g_fields_made, q_g_edges_made, q_g_uprights_made, q_g_all_made, q_g_leftmost_made, q_g_rightmost_made, q_g_rimEdges_made, q_g_hedges_made, q_g_dug_made, q_g_ownedBy0_made, q_g_ownedBy1_made, q_g_turn_made, q_g_made_made, q_g_seed_made]
      exact hg.2.2.2.1
    · simp only [q_g_width_dug, q_g_height_dug, q_g_fields_dug, q_g_edges_dug, q_g_uprights_dug, q_g_all_dug, q_g_leftmost_dug, q_g_rightmost_dug, q_g_rimEdges_dug, q_g_hedges_dug, q_g_dug_dug, q_g_ownedBy0_dug, q_g_ownedBy1_dug, q_g_turn_dug, q_g_made_dug, q_g_seed_dug, q_g_width_turn, q_g_height_turn, q_g_fields_turn, q_g_edges_turn, q_g_uprights_turn, q_g_all_turn, q_g_leftmost_turn, q_g_rightmost_turn, q_g_rimEdges_turn, q_g_hedges_turn, q_g_dug_turn, q_g_ownedBy0_turn, q_g_ownedBy1_turn, q_g_turn_turn, q_g_made_turn, q_g_seed_turn, q_g_width_made, q_g_height_made, q_g_fields_made, q_g_edges_made, q_g_uprights_made, q_g_all_made, q_g_leftmost_made, q_g_rightmost_made, q_g_rimEdges_made, q_g_hedges_made, q_g_dug_made, q_g_ownedBy0_made, q_g_ownedBy1_made, q_g_turn_made, q_g_made_made, q_g_seed_made]
      exact hg.2.2.2.2
    · simp only [q_g_width_dug, q_g_height_dug, q_g_fields_dug, q_g_edges_dug, q_g_uprights_dug, q_g_all_dug, q_g_leftmost_dug, q_g_rightmost_dug, q_g_rimEdges_dug, q_g_hedges_dug, q_g_dug_dug, q_g_ownedBy0_dug, q_g_ownedBy1_dug, q_g_turn_dug, q_g_made_dug, q_g_seed_dug, q_g_width_turn, q_g_height_turn, q_g_fields_turn, q_g_edges_turn, q_g_uprights_turn, q_g_all_turn, q_g_leftmost_turn, q_g_rightmost_turn, q_g_rimEdges_turn, q_g_hedges_turn, q_g_dug_turn, q_g_ownedBy0_turn, q_g_ownedBy1_turn, q_g_turn_turn, q_g_made_turn, q_g_seed_turn, q_g_width_made, q_g_height_made, q_g_fields_made, q_g_edges_made, q_g_uprights_made, q_g_all_made, q_g_leftmost_made, q_g_rightmost_made, q_g_rimEdges_made, q_g_hedges_made, q_g_dug_made, q_g_ownedBy0_made, q_g_ownedBy1_made, q_g_turn_made, q_g_made_made, q_g_seed_made]
      rw [s1]; exact e1t
    · simp only [q_g_width_dug, q_g_height_dug, q_g_fields_dug, q_g_edges_dug, q_g_uprights_dug, q_g_all_dug, q_g_leftmost_dug, q_g_rightmost_dug, q_g_rimEdges_dug, q_g_hedges_dug, q_g_dug_dug, q_g_ownedBy0_dug, q_g_ownedBy1_dug, q_g_turn_dug, q_g_made_dug, q_g_seed_dug, q_g_width_turn, q_g_height_turn, q_g_fields_turn, q_g_edges_turn, q_g_uprights_turn, q_g_all_turn, q_g_leftmost_turn, q_g_rightmost_turn, q_g_rimEdges_turn, q_g_hedges_turn, q_g_dug_turn, q_g_ownedBy0_turn, q_g_ownedBy1_turn, q_g_turn_turn, q_g_made_turn, q_g_seed_turn, q_g_width_made, q_g_height_made, q_g_fields_made, q_g_edges_made, q_g_uprights_made, q_g_all_made, q_g_leftmost_made, q_g_rightmost_made, q_g_rimEdges_made, q_g_hedges_made, q_g_dug_made, q_g_ownedBy0_made, q_g_ownedBy1_made, q_g_turn_made, q_g_made_made, q_g_seed_made]
      rw [s2]
    · simp only [q_g_width_dug, q_g_height_dug, q_g_fields_dug, q_g_edges_dug, q_g_uprights_dug, q_g_all_dug, q_g_leftmost_dug, q_g_rightmost_dug, q_g_rimEdges_dug, q_g_hedges_dug, q_g_dug_dug, q_g_ownedBy0_dug, q_g_ownedBy1_dug, q_g_turn_dug, q_g_made_dug, q_g_seed_dug, q_g_width_turn, q_g_height_turn, q_g_fields_turn, q_g_edges_turn, q_g_uprights_turn, q_g_all_turn, q_g_leftmost_turn, q_g_rightmost_turn, q_g_rimEdges_turn, q_g_hedges_turn, q_g_dug_turn, q_g_ownedBy0_turn, q_g_ownedBy1_turn, q_g_turn_turn, q_g_made_turn, q_g_seed_turn, q_g_width_made, q_g_height_made, q_g_fields_made, q_g_edges_made, q_g_uprights_made, q_g_all_made, q_g_leftmost_made, q_g_rightmost_made, q_g_rimEdges_made, q_g_hedges_made, q_g_dug_made, q_g_ownedBy0_made, q_g_ownedBy1_made, q_g_turn_made, q_g_made_made, q_g_seed_made]
      exact s3
-- the reference
def owm (b : BD) (t e : Nat) (o : Nat → Int32) (j : Nat) : Nat → Int32 := fun k => if (decide (k < bn b) && (an (fun s => decide (fd (bW b) (bH b) e s = k)) j && decide (ct (bW b) (bH b) (hp (bh b) e) k = 4))) = true then nI t else o k
theorem makes17 {σ : MM} {b : BD} (hb : BOK b) {t e : Nat} (he : e < be b) (h1 : m_w σ = nI (bW b)) (h2 : m_h σ = nI (bH b)) (h3 : ∀ k, k < 40 → m_hedge σ k = ib (hp (bh b) e k)) (h4 : m_turn σ = nI t) (k : Int32 → MM → Option (Int32 × MM)) : f_X4_makes_L17 (nI e) k 0 0 σ = k (nI (cn (fun s => decide (fd (bW b) (bH b) e s < bn b) && decide (ct (bW b) (bH b) (hp (bh b) e) (fd (bW b) (bH b) e s) = 4)) 2)) (m_owner' σ (owm b t e (m_owner σ) 2)) := by
  have hz : SZ (bW b) (bH b) := ⟨hb.1, hb.2.1⟩
  have sz := szs hz
  have hn : bn b ≤ 16 := sz.2.1
  have fs : ∀ s, s < 2 → fd (bW b) (bH b) e s < bn b ∨ fd (bW b) (bH b) e s = 99 := fun s hs => by
    rcases (by omega : s = 0 ∨ s = 1) with rfl | rfl
    · exact (fd_lt hz he).1
    · exact (fd_lt hz he).2
  have h := lp_FU (fun _ _ _ => none) (f_X4_makes_L17_b (nI e) k) (fun f (p : Int32 × Int32 × MM) => f p.1 p.2.1 p.2.2) (fun j => (nI (cn (fun s => decide (fd (bW b) (bH b) e s < bn b) && decide (ct (bW b) (bH b) (hp (bh b) e) (fd (bW b) (bH b) e s) = 4)) j), nI j, m_owner' σ (owm b t e (m_owner σ) j))) 2 (k (nI (cn (fun s => decide (fd (bW b) (bH b) e s < bn b) && decide (ct (bW b) (bH b) (hp (bh b) e) (fd (bW b) (bH b) e s) = 4)) 2)) (m_owner' σ (owm b t e (m_owner σ) 2))) (fun j rec hj => by
      show f_X4_makes_L17_b (nI e) k rec (nI (cn (fun s => decide (fd (bW b) (bH b) e s < bn b) && decide (ct (bW b) (bH b) (hp (bh b) e) (fd (bW b) (bH b) e s) = 4)) j)) (nI j) (m_owner' σ (owm b t e (m_owner σ) j)) = rec (nI (cn (fun s => decide (fd (bW b) (bH b) e s < bn b) && decide (ct (bW b) (bH b) (hp (bh b) e) (fd (bW b) (bH b) e s) = 4)) (j + 1))) (nI (j + 1)) (m_owner' σ (owm b t e (m_owner σ) (j + 1)))
      have w1 : m_w (m_owner' σ (owm b t e (m_owner σ) j)) = nI (bW b) := by rw [q_m_w_owner]; exact h1
      have w2 : m_h (m_owner' σ (owm b t e (m_owner σ) j)) = nI (bH b) := by rw [q_m_h_owner]; exact h2
      have w3 : ∀ k, k < 40 → m_hedge (m_owner' σ (owm b t e (m_owner σ) j)) k = ib (hp (bh b) e k) := by rw [q_m_hedge_owner]; exact h3
      unfold f_X4_makes_L17_b
      rw [if_neg (show ¬ (2 : Int32) ≤ nI j from nI_ge (b := 2) hj (by omega)), geo_mf hz w1 w2 he hj, ob_s, cn_s]
      simp only [lt_e, ← nI_succ]
      rcases fs j hj with hlt | h99
      · rw [show iF (fd (bW b) (bH b) e j) = nI (fd (bW b) (bH b) e j) from if_neg (by omega), if_neg (show ¬ nI (fd (bW b) (bH b) e j) = -1 from (by decide +kernel : ∀ m, m < 200 → ¬ nI m = -1) _ (by omega)), hedges_w hz w1 w2 w3 hlt, ob_s, decide_eq_true hlt, Bool.true_and]
        have hl : ct (bW b) (bH b) (hp (bh b) e) (fd (bW b) (bH b) e j) ≤ 4 := cnt_le (mkE b 0 e) _
        by_cases c : ct (bW b) (bH b) (hp (bh b) e) (fd (bW b) (bH b) e j) = 4
        · rw [c, if_pos (show (4 : Int32) ≤ nI 4 by decide +kernel), gd_t (nI_inb (show fd (bW b) (bH b) e j < 16 by omega) (by omega)), nI_clamp (by omega), decide_eq_true rfl, cb_t rfl]
          congr 1
          rw [show m_owner' (m_owner' σ (owm b t e (m_owner σ) j)) (upd (m_owner (m_owner' σ (owm b t e (m_owner σ) j))) (fd (bW b) (bH b) e j) (m_turn (m_owner' σ (owm b t e (m_owner σ) j)))) = m_owner' σ (upd (m_owner (m_owner' σ (owm b t e (m_owner σ) j))) (fd (bW b) (bH b) e j) (m_turn (m_owner' σ (owm b t e (m_owner σ) j)))) from by unfold m_owner'; exact rfl, q_m_owner_owner, q_m_turn_owner, h4]
          congr 1
          funext q
          show (if q = fd (bW b) (bH b) e j then nI t else owm b t e (m_owner σ) j q) = owm b t e (m_owner σ) (j + 1) q
          unfold owm
          by_cases d : q = fd (bW b) (bH b) e j
          · rw [if_pos d, if_pos]
            rw [d, decide_eq_true hlt, c, an_s, decide_eq_true rfl, decide_eq_true rfl, Bool.or_true]; rfl
          · rw [if_neg d, an_s, decide_eq_false (show ¬ fd (bW b) (bH b) e j = q from fun h => d h.symm), Bool.or_false]
        · rw [if_neg (show ¬ (4 : Int32) ≤ nI (ct (bW b) (bH b) (hp (bh b) e) (fd (bW b) (bH b) e j)) from nI_ge (b := 4) (by omega) (by omega)), decide_eq_false c, cb_f rfl, Nat.add_zero]
          congr 2
          funext q
          unfold owm
          rw [an_s]
          by_cases d : fd (bW b) (bH b) e j = q
          · rw [← d, decide_eq_false c]; simp
          · rw [decide_eq_false d, Bool.or_false]
      · rw [h99, if_pos (show iF 99 = -1 by decide +kernel), decide_eq_false (show ¬ 99 < bn b by omega), Bool.false_and, cb_f rfl, Nat.add_zero]
        congr 2
        funext q
        unfold owm
        rw [an_s]
        by_cases d : fd (bW b) (bH b) e j = q
        · rw [← d, h99, decide_eq_false (show ¬ 99 < bn b by omega)]; rfl
        · rw [decide_eq_false d, Bool.or_false]) (fun rec => by
      show f_X4_makes_L17_b (nI e) k rec _ (nI 2) _ = _
      unfold f_X4_makes_L17_b
      rw [if_pos (show (2 : Int32) ≤ nI 2 by decide +kernel)]) (by omega)
  have e0 : owm b t e (m_owner σ) 0 = m_owner σ := by
    funext q
    unfold owm
    rw [show an (fun s => decide (fd (bW b) (bH b) e s = q)) 0 = false from rfl, Bool.false_and, Bool.and_false, if_neg Bool.false_ne_true]
  have e1 : m_owner' σ (m_owner σ) = σ := rfl
  simp only [e0, e1, nI_0] at h
  unfold f_X4_makes_L17
  exact h
/-- how many fields a move shuts -/
def shn (b : BD) (s : Nat) : Nat := if s < 40 then fc b s (fun f => decide (cnt b f = 3)) else 0
theorem makesM_ok {σ : MM} {b : BD} (hb : BOK b) (hm : MB σ b) {t s : Nat} {mv0 sd : Int32} (hs : MS σ t mv0 sd) (ho : os b s = true) : ∃ σ', f_X4_makes σ (nI (mv s)) = some (nI (shn b s), σ') ∧ MB σ' (mk b t s) ∧ MS σ' (1 - t) (mv0 + 1) sd ∧ fz σ σ' ∧ m_bestMove σ' = m_bestMove σ := by
  have hz : SZ (bW b) (bH b) := ⟨hb.1, hb.2.1⟩
  have sz := szs hz
  have hn : bn b ≤ 16 := sz.2.1
  obtain ⟨ht, s1, s2, s3⟩ := hs
  obtain ⟨h1, h2, h3⟩ := os_lt hz ho
  have e1t : (1 : Int32) - nI t = nI (1 - t) := one_sub t ht
  unfold f_X4_makes mv shn
  by_cases c : s < 40
  · obtain ⟨he, h0⟩ := h2 c
    rw [if_pos c, if_pos c, if_neg (show ¬ (100 : Int32) ≤ nI s from nI_ge (b := 100) (by omega) (by omega)), gd_t (nI_inb c (by omega)), nI_clamp (by omega), lt_e, nar1, mk_e c]
    have w3 : ∀ k, k < 40 → m_hedge (m_hedge' σ (upd (m_hedge σ) s 1)) k = ib (hp (bh b) s k) := fun k hk => by
      rw [q_m_hedge_hedge]
      show (if k = s then 1 else m_hedge σ k) = ib (bh b k || decide (k = s))
      by_cases d : k = s
      · rw [if_pos d, decide_eq_true d, Bool.or_true]; rfl
      · rw [if_neg d, decide_eq_false d, Bool.or_false]; exact hm.2.2.1 k hk
    rw [makes17 hb he (by rw [q_m_w_hedge]; exact hm.1) (by rw [q_m_h_hedge]; exact hm.2.1) w3 (by rw [q_m_turn_hedge]; exact s1)]
    have hk : cn (fun s' => decide (fd (bW b) (bH b) s s' < bn b) && decide (ct (bW b) (bH b) (hp (bh b) s) (fd (bW b) (bH b) s s') = 4)) 2 = fc b s (fun f => decide (cnt b f = 3)) := by
      rw [fc_sum hz he, cn_s, cn_s]
      show 0 + _ + _ = _
      rw [Nat.zero_add]
      have one : ∀ q, (q = 0 ∨ q = 1) → cb (decide (fd (bW b) (bH b) s q < bn b) && decide (ct (bW b) (bH b) (hp (bh b) s) (fd (bW b) (bH b) s q) = 4)) = if fd (bW b) (bH b) s q = 99 then 0 else cb (decide (cnt b (fd (bW b) (bH b) s q) = 3)) := fun q hq => by
        have hlt : fd (bW b) (bH b) s q < bn b ∨ fd (bW b) (bH b) s q = 99 := by
          rcases hq with rfl | rfl
          · exact (fd_lt hz he).1
          · exact (fd_lt hz he).2
        rcases hlt with h | h
        · have hi : isf (bW b) (bH b) s (fd (bW b) (bH b) s q) = true := by
            unfold isf
            rcases hq with rfl | rfl
            · rw [decide_eq_true rfl]; rfl
            · rw [decide_eq_true (show fd (bW b) (bH b) s 1 = fd (bW b) (bH b) s 1 from rfl), Bool.or_true]
          have hc := ct_hp hz he h h0
          have e1 : ct (bW b) (bH b) (bh b) (fd (bW b) (bH b) s q) = cnt b (fd (bW b) (bH b) s q) := rfl
          have cbt : cb true = 1 := rfl
          rw [hi, e1, cbt] at hc
          rw [if_neg (by omega), decide_eq_true h, Bool.true_and, hc]
          congr 1
          by_cases d : cnt b (fd (bW b) (bH b) s q) = 3
          · rw [decide_eq_true d, decide_eq_true (by omega)]
          · rw [decide_eq_false d, decide_eq_false (by omega)]
        · rw [if_pos h, h, decide_eq_false (show ¬ 99 < bn b by omega)]; rfl
      rw [one 0 (Or.inl rfl), one 1 (Or.inr rfl)]
    rw [hk]
    unfold f_X4_makes_b82
    simp only [lt_e]
    refine ⟨_, rfl, ⟨?_, ?_, ?_, ?_, ?_⟩, ⟨by omega, ?_, ?_, ?_⟩, ?_, ?_⟩
    · simp only [q_m_w_hedge, q_m_h_hedge, q_m_hedge_hedge, q_m_dug_hedge, q_m_owner_hedge, q_m_turn_hedge, q_m_made_hedge, q_m_players_hedge, q_m_kind_hedge, q_m_own_hedge, q_m_seed_hedge, q_m_taped_hedge, q_m_tape_hedge, q_m_from_hedge, q_m_to_hedge, q_m_token_hedge, q_m_value_hedge, q_m_holding_hedge, q_m_rowLength_hedge, q_m_rowOf_hedge, q_m_refusals_hedge, q_m_imaged_hedge, q_m_old_hedge, q_m_ahead_hedge, q_m_bestMove_hedge, q_m_w_owner, q_m_h_owner, q_m_hedge_owner, q_m_dug_owner, q_m_owner_owner, q_m_turn_owner, q_m_made_owner, q_m_players_owner, q_m_kind_owner, q_m_own_owner, q_m_seed_owner, q_m_taped_owner, q_m_tape_owner, q_m_from_owner, q_m_to_owner, q_m_token_owner, q_m_value_owner, q_m_holding_owner, q_m_rowLength_owner, q_m_rowOf_owner, q_m_refusals_owner, q_m_imaged_owner, q_m_old_owner, q_m_ahead_owner, q_m_bestMove_owner, q_m_w_turn, q_m_h_turn, q_m_hedge_turn, q_m_dug_turn, q_m_owner_turn, q_m_turn_turn, q_m_made_turn, q_m_players_turn, q_m_kind_turn, q_m_own_turn, q_m_seed_turn, q_m_taped_turn, q_m_tape_turn, q_m_from_turn, q_m_to_turn, q_m_token_turn, q_m_value_turn, q_m_holding_turn, q_m_rowLength_turn, q_m_rowOf_turn, q_m_refusals_turn, q_m_imaged_turn, q_m_old_turn, q_m_ahead_turn, q_m_bestMove_turn, q_m_w_made, q_m_h_made, q_m_hedge_made, q_m_dug_made, q_m_owner_made, q_m_turn_made, q_m_made_made, q_m_players_made, q_m_kind_made, q_m_own_made, q_m_seed_made, q_m_taped_made, q_m_tape_made, q_m_from_made, q_m_to_made, q_m_token_made, q_m_value_made, q_m_holding_made, q_m_rowLength_made, q_m_rowOf_made, q_m_refusals_made, q_m_imaged_made, q_m_old_made, q_m_ahead_made, q_m_bestMove_made]; exact hm.1
    · simp only [q_m_w_hedge, q_m_h_hedge, q_m_hedge_hedge, q_m_dug_hedge, q_m_owner_hedge, q_m_turn_hedge, q_m_made_hedge, q_m_players_hedge, q_m_kind_hedge, q_m_own_hedge, q_m_seed_hedge, q_m_taped_hedge, q_m_tape_hedge, q_m_from_hedge, q_m_to_hedge, q_m_token_hedge, q_m_value_hedge, q_m_holding_hedge, q_m_rowLength_hedge, q_m_rowOf_hedge, q_m_refusals_hedge, q_m_imaged_hedge, q_m_old_hedge, q_m_ahead_hedge, q_m_bestMove_hedge, q_m_w_owner, q_m_h_owner, q_m_hedge_owner, q_m_dug_owner, q_m_owner_owner, q_m_turn_owner, q_m_made_owner, q_m_players_owner, q_m_kind_owner, q_m_own_owner, q_m_seed_owner, q_m_taped_owner, q_m_tape_owner, q_m_from_owner, q_m_to_owner, q_m_token_owner, q_m_value_owner, q_m_holding_owner, q_m_rowLength_owner, q_m_rowOf_owner, q_m_refusals_owner, q_m_imaged_owner, q_m_old_owner, q_m_ahead_owner, q_m_bestMove_owner, q_m_w_turn, q_m_h_turn, q_m_hedge_turn, q_m_dug_turn, q_m_owner_turn, q_m_turn_turn, q_m_made_turn, q_m_players_turn, q_m_kind_turn, q_m_own_turn, q_m_seed_turn, q_m_taped_turn, q_m_tape_turn, q_m_from_turn, q_m_to_turn, q_m_token_turn, q_m_value_turn, q_m_holding_turn, q_m_rowLength_turn, q_m_rowOf_turn, q_m_refusals_turn, q_m_imaged_turn, q_m_old_turn, q_m_ahead_turn, q_m_bestMove_turn, q_m_w_made, q_m_h_made, q_m_hedge_made, q_m_dug_made, q_m_owner_made, q_m_turn_made, q_m_made_made, q_m_players_made, q_m_kind_made, q_m_own_made, q_m_seed_made, q_m_taped_made, q_m_tape_made, q_m_from_made, q_m_to_made, q_m_token_made, q_m_value_made, q_m_holding_made, q_m_rowLength_made, q_m_rowOf_made, q_m_refusals_made, q_m_imaged_made, q_m_old_made, q_m_ahead_made, q_m_bestMove_made]; exact hm.2.1
    · simp only [q_m_w_hedge, q_m_h_hedge, q_m_hedge_hedge, q_m_dug_hedge, q_m_owner_hedge, q_m_turn_hedge, q_m_made_hedge, q_m_players_hedge, q_m_kind_hedge, q_m_own_hedge, q_m_seed_hedge, q_m_taped_hedge, q_m_tape_hedge, q_m_from_hedge, q_m_to_hedge, q_m_token_hedge, q_m_value_hedge, q_m_holding_hedge, q_m_rowLength_hedge, q_m_rowOf_hedge, q_m_refusals_hedge, q_m_imaged_hedge, q_m_old_hedge, q_m_ahead_hedge, q_m_bestMove_hedge, q_m_w_owner, q_m_h_owner, q_m_hedge_owner, q_m_dug_owner, q_m_owner_owner, q_m_turn_owner, q_m_made_owner, q_m_players_owner, q_m_kind_owner, q_m_own_owner, q_m_seed_owner, q_m_taped_owner, q_m_tape_owner, q_m_from_owner, q_m_to_owner, q_m_token_owner, q_m_value_owner, q_m_holding_owner, q_m_rowLength_owner, q_m_rowOf_owner, q_m_refusals_owner, q_m_imaged_owner, q_m_old_owner, q_m_ahead_owner, q_m_bestMove_owner, q_m_w_turn, q_m_h_turn, q_m_hedge_turn, q_m_dug_turn, q_m_owner_turn, q_m_turn_turn, q_m_made_turn, q_m_players_turn, q_m_kind_turn, q_m_own_turn, q_m_seed_turn, q_m_taped_turn, q_m_tape_turn, q_m_from_turn, q_m_to_turn, q_m_token_turn, q_m_value_turn, q_m_holding_turn, q_m_rowLength_turn, q_m_rowOf_turn, q_m_refusals_turn, q_m_imaged_turn, q_m_old_turn, q_m_ahead_turn, q_m_bestMove_turn, q_m_w_made, q_m_h_made, q_m_hedge_made, q_m_dug_made, q_m_owner_made, q_m_turn_made, q_m_made_made, q_m_players_made, q_m_kind_made, q_m_own_made, q_m_seed_made, q_m_taped_made, q_m_tape_made, q_m_from_made, q_m_to_made, q_m_token_made, q_m_value_made, q_m_holding_made, q_m_rowLength_made, q_m_rowOf_made, q_m_refusals_made, q_m_imaged_made, q_m_old_made, q_m_ahead_made, q_m_bestMove_made]
      intro k hk
      have := w3 k hk
      rw [q_m_hedge_hedge] at this
      exact this
    · simp only [q_m_w_hedge, q_m_h_hedge, q_m_hedge_hedge, q_m_dug_hedge, q_m_owner_hedge, q_m_turn_hedge, q_m_made_hedge, q_m_players_hedge, q_m_kind_hedge, q_m_own_hedge, q_m_seed_hedge, q_m_taped_hedge, q_m_tape_hedge, q_m_from_hedge, q_m_to_hedge, q_m_token_hedge, q_m_value_hedge, q_m_holding_hedge, q_m_rowLength_hedge, q_m_rowOf_hedge, q_m_refusals_hedge, q_m_imaged_hedge, q_m_old_hedge, q_m_ahead_hedge, q_m_bestMove_hedge, q_m_w_owner, q_m_h_owner, q_m_hedge_owner, q_m_dug_owner, q_m_owner_owner, q_m_turn_owner, q_m_made_owner, q_m_players_owner, q_m_kind_owner, q_m_own_owner, q_m_seed_owner, q_m_taped_owner, q_m_tape_owner, q_m_from_owner, q_m_to_owner, q_m_token_owner, q_m_value_owner, q_m_holding_owner, q_m_rowLength_owner, q_m_rowOf_owner, q_m_refusals_owner, q_m_imaged_owner, q_m_old_owner, q_m_ahead_owner, q_m_bestMove_owner, q_m_w_turn, q_m_h_turn, q_m_hedge_turn, q_m_dug_turn, q_m_owner_turn, q_m_turn_turn, q_m_made_turn, q_m_players_turn, q_m_kind_turn, q_m_own_turn, q_m_seed_turn, q_m_taped_turn, q_m_tape_turn, q_m_from_turn, q_m_to_turn, q_m_token_turn, q_m_value_turn, q_m_holding_turn, q_m_rowLength_turn, q_m_rowOf_turn, q_m_refusals_turn, q_m_imaged_turn, q_m_old_turn, q_m_ahead_turn, q_m_bestMove_turn, q_m_w_made, q_m_h_made, q_m_hedge_made, q_m_dug_made, q_m_owner_made, q_m_turn_made, q_m_made_made, q_m_players_made, q_m_kind_made, q_m_own_made, q_m_seed_made, q_m_taped_made, q_m_tape_made, q_m_from_made, q_m_to_made, q_m_token_made, q_m_value_made, q_m_holding_made, q_m_rowLength_made, q_m_rowOf_made, q_m_refusals_made, q_m_imaged_made, q_m_old_made, q_m_ahead_made, q_m_bestMove_made]; exact hm.2.2.2.1
    · simp only [q_m_w_hedge, q_m_h_hedge, q_m_hedge_hedge, q_m_dug_hedge, q_m_owner_hedge, q_m_turn_hedge, q_m_made_hedge, q_m_players_hedge, q_m_kind_hedge, q_m_own_hedge, q_m_seed_hedge, q_m_taped_hedge, q_m_tape_hedge, q_m_from_hedge, q_m_to_hedge, q_m_token_hedge, q_m_value_hedge, q_m_holding_hedge, q_m_rowLength_hedge, q_m_rowOf_hedge, q_m_refusals_hedge, q_m_imaged_hedge, q_m_old_hedge, q_m_ahead_hedge, q_m_bestMove_hedge, q_m_w_owner, q_m_h_owner, q_m_hedge_owner, q_m_dug_owner, q_m_owner_owner, q_m_turn_owner, q_m_made_owner, q_m_players_owner, q_m_kind_owner, q_m_own_owner, q_m_seed_owner, q_m_taped_owner, q_m_tape_owner, q_m_from_owner, q_m_to_owner, q_m_token_owner, q_m_value_owner, q_m_holding_owner, q_m_rowLength_owner, q_m_rowOf_owner, q_m_refusals_owner, q_m_imaged_owner, q_m_old_owner, q_m_ahead_owner, q_m_bestMove_owner, q_m_w_turn, q_m_h_turn, q_m_hedge_turn, q_m_dug_turn, q_m_owner_turn, q_m_turn_turn, q_m_made_turn, q_m_players_turn, q_m_kind_turn, q_m_own_turn, q_m_seed_turn, q_m_taped_turn, q_m_tape_turn, q_m_from_turn, q_m_to_turn, q_m_token_turn, q_m_value_turn, q_m_holding_turn, q_m_rowLength_turn, q_m_rowOf_turn, q_m_refusals_turn, q_m_imaged_turn, q_m_old_turn, q_m_ahead_turn, q_m_bestMove_turn, q_m_w_made, q_m_h_made, q_m_hedge_made, q_m_dug_made, q_m_owner_made, q_m_turn_made, q_m_made_made, q_m_players_made, q_m_kind_made, q_m_own_made, q_m_seed_made, q_m_taped_made, q_m_tape_made, q_m_from_made, q_m_to_made, q_m_token_made, q_m_value_made, q_m_holding_made, q_m_rowLength_made, q_m_rowOf_made, q_m_refusals_made, q_m_imaged_made, q_m_old_made, q_m_ahead_made, q_m_bestMove_made]
      intro f hf
      show owm b t s (m_owner σ) 2 f = io (if shE b s f = true then t else bo b f)
      unfold owm shE
      have e2 : an (fun s' => decide (fd (bW b) (bH b) s s' = f)) 2 = isf (bW b) (bH b) s f := by
        rw [an_s, an_s]
        show ((false || decide (fd (bW b) (bH b) s 0 = f)) || decide (fd (bW b) (bH b) s 1 = f)) = (decide (f = fd (bW b) (bH b) s 0) || decide (f = fd (bW b) (bH b) s 1))
        rw [Bool.false_or]
        congr 1
        · exact decide_eq_decide.mpr ⟨Eq.symm, Eq.symm⟩
        · exact decide_eq_decide.mpr ⟨Eq.symm, Eq.symm⟩
      rw [e2]
      split
      · exact (by decide +kernel : ∀ t, t < 2 → nI t = io t) t ht
      · exact hm.2.2.2.2 f hf
    · simp only [q_m_w_hedge, q_m_h_hedge, q_m_hedge_hedge, q_m_dug_hedge, q_m_owner_hedge, q_m_turn_hedge, q_m_made_hedge, q_m_players_hedge, q_m_kind_hedge, q_m_own_hedge, q_m_seed_hedge, q_m_taped_hedge, q_m_tape_hedge, q_m_from_hedge, q_m_to_hedge, q_m_token_hedge, q_m_value_hedge, q_m_holding_hedge, q_m_rowLength_hedge, q_m_rowOf_hedge, q_m_refusals_hedge, q_m_imaged_hedge, q_m_old_hedge, q_m_ahead_hedge, q_m_bestMove_hedge, q_m_w_owner, q_m_h_owner, q_m_hedge_owner, q_m_dug_owner, q_m_owner_owner, q_m_turn_owner, q_m_made_owner, q_m_players_owner, q_m_kind_owner, q_m_own_owner, q_m_seed_owner, q_m_taped_owner, q_m_tape_owner, q_m_from_owner, q_m_to_owner, q_m_token_owner, q_m_value_owner, q_m_holding_owner, q_m_rowLength_owner, q_m_rowOf_owner, q_m_refusals_owner, q_m_imaged_owner, q_m_old_owner, q_m_ahead_owner, q_m_bestMove_owner, q_m_w_turn, q_m_h_turn, q_m_hedge_turn, q_m_dug_turn, q_m_owner_turn, q_m_turn_turn, q_m_made_turn, q_m_players_turn, q_m_kind_turn, q_m_own_turn, q_m_seed_turn, q_m_taped_turn, q_m_tape_turn, q_m_from_turn, q_m_to_turn, q_m_token_turn, q_m_value_turn, q_m_holding_turn, q_m_rowLength_turn, q_m_rowOf_turn, q_m_refusals_turn, q_m_imaged_turn, q_m_old_turn, q_m_ahead_turn, q_m_bestMove_turn, q_m_w_made, q_m_h_made, q_m_hedge_made, q_m_dug_made, q_m_owner_made, q_m_turn_made, q_m_made_made, q_m_players_made, q_m_kind_made, q_m_own_made, q_m_seed_made, q_m_taped_made, q_m_tape_made, q_m_from_made, q_m_to_made, q_m_token_made, q_m_value_made, q_m_holding_made, q_m_rowLength_made, q_m_rowOf_made, q_m_refusals_made, q_m_imaged_made, q_m_old_made, q_m_ahead_made, q_m_bestMove_made]
      rw [s1]; exact e1t
    · simp only [q_m_w_hedge, q_m_h_hedge, q_m_hedge_hedge, q_m_dug_hedge, q_m_owner_hedge, q_m_turn_hedge, q_m_made_hedge, q_m_players_hedge, q_m_kind_hedge, q_m_own_hedge, q_m_seed_hedge, q_m_taped_hedge, q_m_tape_hedge, q_m_from_hedge, q_m_to_hedge, q_m_token_hedge, q_m_value_hedge, q_m_holding_hedge, q_m_rowLength_hedge, q_m_rowOf_hedge, q_m_refusals_hedge, q_m_imaged_hedge, q_m_old_hedge, q_m_ahead_hedge, q_m_bestMove_hedge, q_m_w_owner, q_m_h_owner, q_m_hedge_owner, q_m_dug_owner, q_m_owner_owner, q_m_turn_owner, q_m_made_owner, q_m_players_owner, q_m_kind_owner, q_m_own_owner, q_m_seed_owner, q_m_taped_owner, q_m_tape_owner, q_m_from_owner, q_m_to_owner, q_m_token_owner, q_m_value_owner, q_m_holding_owner, q_m_rowLength_owner, q_m_rowOf_owner, q_m_refusals_owner, q_m_imaged_owner, q_m_old_owner, q_m_ahead_owner, q_m_bestMove_owner, q_m_w_turn, q_m_h_turn, q_m_hedge_turn, q_m_dug_turn, q_m_owner_turn, q_m_turn_turn, q_m_made_turn, q_m_players_turn, q_m_kind_turn, q_m_own_turn, q_m_seed_turn, q_m_taped_turn, q_m_tape_turn, q_m_from_turn, q_m_to_turn, q_m_token_turn, q_m_value_turn, q_m_holding_turn, q_m_rowLength_turn, q_m_rowOf_turn, q_m_refusals_turn, q_m_imaged_turn, q_m_old_turn, q_m_ahead_turn, q_m_bestMove_turn, q_m_w_made, q_m_h_made, q_m_hedge_made, q_m_dug_made, q_m_owner_made, q_m_turn_made, q_m_made_made, q_m_players_made, q_m_kind_made, q_m_own_made, q_m_seed_made, q_m_taped_made, q_m_tape_made, q_m_from_made, q_m_to_made, q_m_token_made, q_m_value_made, q_m_holding_made, q_m_rowLength_made, q_m_rowOf_made, q_m_refusals_made, q_m_imaged_made, q_m_old_made, q_m_ahead_made, q_m_bestMove_made]
      rw [s2]
    · simp only [q_m_w_hedge, q_m_h_hedge, q_m_hedge_hedge, q_m_dug_hedge, q_m_owner_hedge, q_m_turn_hedge, q_m_made_hedge, q_m_players_hedge, q_m_kind_hedge, q_m_own_hedge, q_m_seed_hedge, q_m_taped_hedge, q_m_tape_hedge, q_m_from_hedge, q_m_to_hedge, q_m_token_hedge, q_m_value_hedge, q_m_holding_hedge, q_m_rowLength_hedge, q_m_rowOf_hedge, q_m_refusals_hedge, q_m_imaged_hedge, q_m_old_hedge, q_m_ahead_hedge, q_m_bestMove_hedge, q_m_w_owner, q_m_h_owner, q_m_hedge_owner, q_m_dug_owner, q_m_owner_owner, q_m_turn_owner, q_m_made_owner, q_m_players_owner, q_m_kind_owner, q_m_own_owner, q_m_seed_owner, q_m_taped_owner, q_m_tape_owner, q_m_from_owner, q_m_to_owner, q_m_token_owner, q_m_value_owner, q_m_holding_owner, q_m_rowLength_owner, q_m_rowOf_owner, q_m_refusals_owner, q_m_imaged_owner, q_m_old_owner, q_m_ahead_owner, q_m_bestMove_owner, q_m_w_turn, q_m_h_turn, q_m_hedge_turn, q_m_dug_turn, q_m_owner_turn, q_m_turn_turn, q_m_made_turn, q_m_players_turn, q_m_kind_turn, q_m_own_turn, q_m_seed_turn, q_m_taped_turn, q_m_tape_turn, q_m_from_turn, q_m_to_turn, q_m_token_turn, q_m_value_turn, q_m_holding_turn, q_m_rowLength_turn, q_m_rowOf_turn, q_m_refusals_turn, q_m_imaged_turn, q_m_old_turn, q_m_ahead_turn, q_m_bestMove_turn, q_m_w_made, q_m_h_made, q_m_hedge_made, q_m_dug_made, q_m_owner_made, q_m_turn_made, q_m_made_made, q_m_players_made, q_m_kind_made, q_m_own_made, q_m_seed_made, q_m_taped_made, q_m_tape_made, q_m_from_made, q_m_to_made, q_m_token_made, q_m_value_made, q_m_holding_made, q_m_rowLength_made, q_m_rowOf_made, q_m_refusals_made, q_m_imaged_made, q_m_old_made, q_m_ahead_made, q_m_bestMove_made]; exact s3
    · unfold fz
      simp only [q_m_w_hedge, q_m_h_hedge, q_m_hedge_hedge, q_m_dug_hedge, q_m_owner_hedge, q_m_turn_hedge, q_m_made_hedge, q_m_players_hedge, q_m_kind_hedge, q_m_own_hedge, q_m_seed_hedge, q_m_taped_hedge, q_m_tape_hedge, q_m_from_hedge, q_m_to_hedge, q_m_token_hedge, q_m_value_hedge, q_m_holding_hedge, q_m_rowLength_hedge, q_m_rowOf_hedge, q_m_refusals_hedge, q_m_imaged_hedge, q_m_old_hedge, q_m_ahead_hedge, q_m_bestMove_hedge, q_m_w_owner, q_m_h_owner, q_m_hedge_owner, q_m_dug_owner, q_m_owner_owner, q_m_turn_owner, q_m_made_owner, q_m_players_owner, q_m_kind_owner, q_m_own_owner, q_m_seed_owner, q_m_taped_owner, q_m_tape_owner, q_m_from_owner, q_m_to_owner, q_m_token_owner, q_m_value_owner, q_m_holding_owner, q_m_rowLength_owner, q_m_rowOf_owner, q_m_refusals_owner, q_m_imaged_owner, q_m_old_owner, q_m_ahead_owner, q_m_bestMove_owner, q_m_w_turn, q_m_h_turn, q_m_hedge_turn, q_m_dug_turn, q_m_owner_turn, q_m_turn_turn, q_m_made_turn, q_m_players_turn, q_m_kind_turn, q_m_own_turn, q_m_seed_turn, q_m_taped_turn, q_m_tape_turn, q_m_from_turn, q_m_to_turn, q_m_token_turn, q_m_value_turn, q_m_holding_turn, q_m_rowLength_turn, q_m_rowOf_turn, q_m_refusals_turn, q_m_imaged_turn, q_m_old_turn, q_m_ahead_turn, q_m_bestMove_turn, q_m_w_made, q_m_h_made, q_m_hedge_made, q_m_dug_made, q_m_owner_made, q_m_turn_made, q_m_made_made, q_m_players_made, q_m_kind_made, q_m_own_made, q_m_seed_made, q_m_taped_made, q_m_tape_made, q_m_from_made, q_m_to_made, q_m_token_made, q_m_value_made, q_m_holding_made, q_m_rowLength_made, q_m_rowOf_made, q_m_refusals_made, q_m_imaged_made, q_m_old_made, q_m_ahead_made, q_m_bestMove_made, and_self]
    · simp only [q_m_w_hedge, q_m_h_hedge, q_m_hedge_hedge, q_m_dug_hedge, q_m_owner_hedge, q_m_turn_hedge, q_m_made_hedge, q_m_players_hedge, q_m_kind_hedge, q_m_own_hedge, q_m_seed_hedge, q_m_taped_hedge, q_m_tape_hedge, q_m_from_hedge, q_m_to_hedge, q_m_token_hedge, q_m_value_hedge, q_m_holding_hedge, q_m_rowLength_hedge, q_m_rowOf_hedge, q_m_refusals_hedge, q_m_imaged_hedge, q_m_old_hedge, q_m_ahead_hedge, q_m_bestMove_hedge, q_m_w_owner, q_m_h_owner, q_m_hedge_owner, q_m_dug_owner, q_m_owner_owner, q_m_turn_owner, q_m_made_owner, q_m_players_owner, q_m_kind_owner, q_m_own_owner, q_m_seed_owner, q_m_taped_owner, q_m_tape_owner, q_m_from_owner, q_m_to_owner, q_m_token_owner, q_m_value_owner, q_m_holding_owner, q_m_rowLength_owner, q_m_rowOf_owner, q_m_refusals_owner, q_m_imaged_owner, q_m_old_owner, q_m_ahead_owner, q_m_bestMove_owner, q_m_w_turn, q_m_h_turn, q_m_hedge_turn, q_m_dug_turn, q_m_owner_turn, q_m_turn_turn, q_m_made_turn, q_m_players_turn, q_m_kind_turn, q_m_own_turn, q_m_seed_turn, q_m_taped_turn, q_m_tape_turn, q_m_from_turn, q_m_to_turn, q_m_token_turn, q_m_value_turn, q_m_holding_turn, q_m_rowLength_turn, q_m_rowOf_turn, q_m_refusals_turn, q_m_imaged_turn, q_m_old_turn, q_m_ahead_turn, q_m_bestMove_turn, q_m_w_made, q_m_h_made, q_m_hedge_made, q_m_dug_made, q_m_owner_made, q_m_turn_made, q_m_made_made, q_m_players_made, q_m_kind_made, q_m_own_made, q_m_seed_made, q_m_taped_made, q_m_tape_made, q_m_from_made, q_m_to_made, q_m_token_made, q_m_value_made, q_m_holding_made, q_m_rowLength_made, q_m_rowOf_made, q_m_refusals_made, q_m_imaged_made, q_m_old_made, q_m_ahead_made, q_m_bestMove_made]
  · obtain ⟨hf, hsf⟩ := h3 (by omega)
    have e100 : nI (s + 60) - 100 = nI (s - 40) := by
      have := nn_sub (a := s + 60) (b := 100) (by omega)
      rw [show s + 60 - 100 = s - 40 by omega] at this
      exact this
    rw [if_neg c, if_neg c, if_pos (show (100 : Int32) ≤ nI (s + 60) from nI_le (a := 100) (by omega) (by omega)), e100, gd_t (nI_inb (by omega) (by omega)), nI_clamp (by omega), lt_e, nar1, mk_d (by omega)]
    unfold f_X4_makes_b82
    simp only [lt_e]
    refine ⟨_, rfl, ⟨?_, ?_, ?_, ?_, ?_⟩, ⟨by omega, ?_, ?_, ?_⟩, ?_, ?_⟩
    · simp only [q_m_w_dug, q_m_h_dug, q_m_hedge_dug, q_m_dug_dug, q_m_owner_dug, q_m_turn_dug, q_m_made_dug, q_m_players_dug, q_m_kind_dug, q_m_own_dug, q_m_seed_dug, q_m_taped_dug, q_m_tape_dug, q_m_from_dug, q_m_to_dug, q_m_token_dug, q_m_value_dug, q_m_holding_dug, q_m_rowLength_dug, q_m_rowOf_dug, q_m_refusals_dug, q_m_imaged_dug, q_m_old_dug, q_m_ahead_dug, q_m_bestMove_dug, q_m_w_turn, q_m_h_turn, q_m_hedge_turn, q_m_dug_turn, q_m_owner_turn, q_m_turn_turn, q_m_made_turn, q_m_players_turn, q_m_kind_turn, q_m_own_turn, q_m_seed_turn, q_m_taped_turn, q_m_tape_turn, q_m_from_turn, q_m_to_turn, q_m_token_turn, q_m_value_turn, q_m_holding_turn, q_m_rowLength_turn, q_m_rowOf_turn, q_m_refusals_turn, q_m_imaged_turn, q_m_old_turn, q_m_ahead_turn, q_m_bestMove_turn, q_m_w_made, q_m_h_made, q_m_hedge_made, q_m_dug_made, q_m_owner_made, q_m_turn_made, q_m_made_made, q_m_players_made, q_m_kind_made, q_m_own_made, q_m_seed_made, q_m_taped_made, q_m_tape_made, q_m_from_made, q_m_to_made, q_m_token_made, q_m_value_made, q_m_holding_made, q_m_rowLength_made, q_m_rowOf_made, q_m_refusals_made, q_m_imaged_made, q_m_old_made, q_m_ahead_made, q_m_bestMove_made]; exact hm.1
    · simp only [q_m_w_dug, q_m_h_dug, q_m_hedge_dug, q_m_dug_dug, q_m_owner_dug, q_m_turn_dug, q_m_made_dug, q_m_players_dug, q_m_kind_dug, q_m_own_dug, q_m_seed_dug, q_m_taped_dug, q_m_tape_dug, q_m_from_dug, q_m_to_dug, q_m_token_dug, q_m_value_dug, q_m_holding_dug, q_m_rowLength_dug, q_m_rowOf_dug, q_m_refusals_dug, q_m_imaged_dug, q_m_old_dug, q_m_ahead_dug, q_m_bestMove_dug, q_m_w_turn, q_m_h_turn, q_m_hedge_turn, q_m_dug_turn, q_m_owner_turn, q_m_turn_turn, q_m_made_turn, q_m_players_turn, q_m_kind_turn, q_m_own_turn, q_m_seed_turn, q_m_taped_turn, q_m_tape_turn, q_m_from_turn, q_m_to_turn, q_m_token_turn, q_m_value_turn, q_m_holding_turn, q_m_rowLength_turn, q_m_rowOf_turn, q_m_refusals_turn, q_m_imaged_turn, q_m_old_turn, q_m_ahead_turn, q_m_bestMove_turn, q_m_w_made, q_m_h_made, q_m_hedge_made, q_m_dug_made, q_m_owner_made, q_m_turn_made, q_m_made_made, q_m_players_made, q_m_kind_made, q_m_own_made, q_m_seed_made, q_m_taped_made, q_m_tape_made, q_m_from_made, q_m_to_made, q_m_token_made, q_m_value_made, q_m_holding_made, q_m_rowLength_made, q_m_rowOf_made, q_m_refusals_made, q_m_imaged_made, q_m_old_made, q_m_ahead_made, q_m_bestMove_made]; exact hm.2.1
    · simp only [q_m_w_dug, q_m_h_dug, q_m_hedge_dug, q_m_dug_dug, q_m_owner_dug, q_m_turn_dug, q_m_made_dug, q_m_players_dug, q_m_kind_dug, q_m_own_dug, q_m_seed_dug, q_m_taped_dug, q_m_tape_dug, q_m_from_dug, q_m_to_dug, q_m_token_dug, q_m_value_dug, q_m_holding_dug, q_m_rowLength_dug, q_m_rowOf_dug, q_m_refusals_dug, q_m_imaged_dug, q_m_old_dug, q_m_ahead_dug, q_m_bestMove_dug, q_m_w_turn, q_m_h_turn, q_m_hedge_turn, q_m_dug_turn, q_m_owner_turn, q_m_turn_turn, q_m_made_turn, q_m_players_turn, q_m_kind_turn, q_m_own_turn, q_m_seed_turn, q_m_taped_turn, q_m_tape_turn, q_m_from_turn, q_m_to_turn, q_m_token_turn, q_m_value_turn, q_m_holding_turn, q_m_rowLength_turn, q_m_rowOf_turn, q_m_refusals_turn, q_m_imaged_turn, q_m_old_turn, q_m_ahead_turn, q_m_bestMove_turn, q_m_w_made, q_m_h_made, q_m_hedge_made, q_m_dug_made, q_m_owner_made, q_m_turn_made, q_m_made_made, q_m_players_made, q_m_kind_made, q_m_own_made, q_m_seed_made, q_m_taped_made, q_m_tape_made, q_m_from_made, q_m_to_made, q_m_token_made, q_m_value_made, q_m_holding_made, q_m_rowLength_made, q_m_rowOf_made, q_m_refusals_made, q_m_imaged_made, q_m_old_made, q_m_ahead_made, q_m_bestMove_made]; exact hm.2.2.1
    · simp only [q_m_w_dug, q_m_h_dug, q_m_hedge_dug, q_m_dug_dug, q_m_owner_dug, q_m_turn_dug, q_m_made_dug, q_m_players_dug, q_m_kind_dug, q_m_own_dug, q_m_seed_dug, q_m_taped_dug, q_m_tape_dug, q_m_from_dug, q_m_to_dug, q_m_token_dug, q_m_value_dug, q_m_holding_dug, q_m_rowLength_dug, q_m_rowOf_dug, q_m_refusals_dug, q_m_imaged_dug, q_m_old_dug, q_m_ahead_dug, q_m_bestMove_dug, q_m_w_turn, q_m_h_turn, q_m_hedge_turn, q_m_dug_turn, q_m_owner_turn, q_m_turn_turn, q_m_made_turn, q_m_players_turn, q_m_kind_turn, q_m_own_turn, q_m_seed_turn, q_m_taped_turn, q_m_tape_turn, q_m_from_turn, q_m_to_turn, q_m_token_turn, q_m_value_turn, q_m_holding_turn, q_m_rowLength_turn, q_m_rowOf_turn, q_m_refusals_turn, q_m_imaged_turn, q_m_old_turn, q_m_ahead_turn, q_m_bestMove_turn, q_m_w_made, q_m_h_made, q_m_hedge_made, q_m_dug_made, q_m_owner_made, q_m_turn_made, q_m_made_made, q_m_players_made, q_m_kind_made, q_m_own_made, q_m_seed_made, q_m_taped_made, q_m_tape_made, q_m_from_made, q_m_to_made, q_m_token_made, q_m_value_made, q_m_holding_made, q_m_rowLength_made, q_m_rowOf_made, q_m_refusals_made, q_m_imaged_made, q_m_old_made, q_m_ahead_made, q_m_bestMove_made]
      intro k hk
      show (if k = s - 40 then 1 else m_dug σ k) = ib (bd b k || decide (k = s - 40))
      by_cases d : k = s - 40
      · rw [if_pos d, decide_eq_true d, Bool.or_true]; rfl
      · rw [if_neg d, decide_eq_false d, Bool.or_false]; exact hm.2.2.2.1 k hk
    · simp only [q_m_w_dug, q_m_h_dug, q_m_hedge_dug, q_m_dug_dug, q_m_owner_dug, q_m_turn_dug, q_m_made_dug, q_m_players_dug, q_m_kind_dug, q_m_own_dug, q_m_seed_dug, q_m_taped_dug, q_m_tape_dug, q_m_from_dug, q_m_to_dug, q_m_token_dug, q_m_value_dug, q_m_holding_dug, q_m_rowLength_dug, q_m_rowOf_dug, q_m_refusals_dug, q_m_imaged_dug, q_m_old_dug, q_m_ahead_dug, q_m_bestMove_dug, q_m_w_turn, q_m_h_turn, q_m_hedge_turn, q_m_dug_turn, q_m_owner_turn, q_m_turn_turn, q_m_made_turn, q_m_players_turn, q_m_kind_turn, q_m_own_turn, q_m_seed_turn, q_m_taped_turn, q_m_tape_turn, q_m_from_turn, q_m_to_turn, q_m_token_turn, q_m_value_turn, q_m_holding_turn, q_m_rowLength_turn, q_m_rowOf_turn, q_m_refusals_turn, q_m_imaged_turn, q_m_old_turn, q_m_ahead_turn, q_m_bestMove_turn, q_m_w_made, q_m_h_made, q_m_hedge_made, q_m_dug_made, q_m_owner_made, q_m_turn_made, q_m_made_made, q_m_players_made, q_m_kind_made, q_m_own_made, q_m_seed_made, q_m_taped_made, q_m_tape_made, q_m_from_made, q_m_to_made, q_m_token_made, q_m_value_made, q_m_holding_made, q_m_rowLength_made, q_m_rowOf_made, q_m_refusals_made, q_m_imaged_made, q_m_old_made, q_m_ahead_made, q_m_bestMove_made]; exact hm.2.2.2.2
    · simp only [q_m_w_dug, q_m_h_dug, q_m_hedge_dug, q_m_dug_dug, q_m_owner_dug, q_m_turn_dug, q_m_made_dug, q_m_players_dug, q_m_kind_dug, q_m_own_dug, q_m_seed_dug, q_m_taped_dug, q_m_tape_dug, q_m_from_dug, q_m_to_dug, q_m_token_dug, q_m_value_dug, q_m_holding_dug, q_m_rowLength_dug, q_m_rowOf_dug, q_m_refusals_dug, q_m_imaged_dug, q_m_old_dug, q_m_ahead_dug, q_m_bestMove_dug, q_m_w_turn, q_m_h_turn, q_m_hedge_turn, q_m_dug_turn, q_m_owner_turn, q_m_turn_turn, q_m_made_turn, q_m_players_turn, q_m_kind_turn, q_m_own_turn, q_m_seed_turn, q_m_taped_turn, q_m_tape_turn, q_m_from_turn, q_m_to_turn, q_m_token_turn, q_m_value_turn, q_m_holding_turn, q_m_rowLength_turn, q_m_rowOf_turn, q_m_refusals_turn, q_m_imaged_turn, q_m_old_turn, q_m_ahead_turn, q_m_bestMove_turn, q_m_w_made, q_m_h_made, q_m_hedge_made, q_m_dug_made, q_m_owner_made, q_m_turn_made, q_m_made_made, q_m_players_made, q_m_kind_made, q_m_own_made, q_m_seed_made, q_m_taped_made, q_m_tape_made, q_m_from_made, q_m_to_made, q_m_token_made, q_m_value_made, q_m_holding_made, q_m_rowLength_made, q_m_rowOf_made, q_m_refusals_made, q_m_imaged_made, q_m_old_made, q_m_ahead_made, q_m_bestMove_made]
      rw [s1]; exact e1t
    · simp only [q_m_w_dug, q_m_h_dug, q_m_hedge_dug, q_m_dug_dug, q_m_owner_dug, q_m_turn_dug, q_m_made_dug, q_m_players_dug, q_m_kind_dug, q_m_own_dug, q_m_seed_dug, q_m_taped_dug, q_m_tape_dug, q_m_from_dug, q_m_to_dug, q_m_token_dug, q_m_value_dug, q_m_holding_dug, q_m_rowLength_dug, q_m_rowOf_dug, q_m_refusals_dug, q_m_imaged_dug, q_m_old_dug, q_m_ahead_dug, q_m_bestMove_dug, q_m_w_turn, q_m_h_turn, q_m_hedge_turn, q_m_dug_turn, q_m_owner_turn, q_m_turn_turn, q_m_made_turn, q_m_players_turn, q_m_kind_turn, q_m_own_turn, q_m_seed_turn, q_m_taped_turn, q_m_tape_turn, q_m_from_turn, q_m_to_turn, q_m_token_turn, q_m_value_turn, q_m_holding_turn, q_m_rowLength_turn, q_m_rowOf_turn, q_m_refusals_turn, q_m_imaged_turn, q_m_old_turn, q_m_ahead_turn, q_m_bestMove_turn, q_m_w_made, q_m_h_made, q_m_hedge_made, q_m_dug_made, q_m_owner_made, q_m_turn_made, q_m_made_made, q_m_players_made, q_m_kind_made, q_m_own_made, q_m_seed_made, q_m_taped_made, q_m_tape_made, q_m_from_made, q_m_to_made, q_m_token_made, q_m_value_made, q_m_holding_made, q_m_rowLength_made, q_m_rowOf_made, q_m_refusals_made, q_m_imaged_made, q_m_old_made, q_m_ahead_made, q_m_bestMove_made]
      rw [s2]
    · simp only [q_m_w_dug, q_m_h_dug, q_m_hedge_dug, q_m_dug_dug, q_m_owner_dug, q_m_turn_dug, q_m_made_dug, q_m_players_dug, q_m_kind_dug, q_m_own_dug, q_m_seed_dug, q_m_taped_dug, q_m_tape_dug, q_m_from_dug, q_m_to_dug, q_m_token_dug, q_m_value_dug, q_m_holding_dug, q_m_rowLength_dug, q_m_rowOf_dug, q_m_refusals_dug, q_m_imaged_dug, q_m_old_dug, q_m_ahead_dug, q_m_bestMove_dug, q_m_w_turn, q_m_h_turn, q_m_hedge_turn, q_m_dug_turn, q_m_owner_turn, q_m_turn_turn, q_m_made_turn, q_m_players_turn, q_m_kind_turn, q_m_own_turn, q_m_seed_turn, q_m_taped_turn, q_m_tape_turn, q_m_from_turn, q_m_to_turn, q_m_token_turn, q_m_value_turn, q_m_holding_turn, q_m_rowLength_turn, q_m_rowOf_turn, q_m_refusals_turn, q_m_imaged_turn, q_m_old_turn, q_m_ahead_turn, q_m_bestMove_turn, q_m_w_made, q_m_h_made, q_m_hedge_made, q_m_dug_made, q_m_owner_made, q_m_turn_made, q_m_made_made, q_m_players_made, q_m_kind_made, q_m_own_made, q_m_seed_made, q_m_taped_made, q_m_tape_made, q_m_from_made, q_m_to_made, q_m_token_made, q_m_value_made, q_m_holding_made, q_m_rowLength_made, q_m_rowOf_made, q_m_refusals_made, q_m_imaged_made, q_m_old_made, q_m_ahead_made, q_m_bestMove_made]; exact s3
    · unfold fz
      simp only [q_m_w_dug, q_m_h_dug, q_m_hedge_dug, q_m_dug_dug, q_m_owner_dug, q_m_turn_dug, q_m_made_dug, q_m_players_dug, q_m_kind_dug, q_m_own_dug, q_m_seed_dug, q_m_taped_dug, q_m_tape_dug, q_m_from_dug, q_m_to_dug, q_m_token_dug, q_m_value_dug, q_m_holding_dug, q_m_rowLength_dug, q_m_rowOf_dug, q_m_refusals_dug, q_m_imaged_dug, q_m_old_dug, q_m_ahead_dug, q_m_bestMove_dug, q_m_w_turn, q_m_h_turn, q_m_hedge_turn, q_m_dug_turn, q_m_owner_turn, q_m_turn_turn, q_m_made_turn, q_m_players_turn, q_m_kind_turn, q_m_own_turn, q_m_seed_turn, q_m_taped_turn, q_m_tape_turn, q_m_from_turn, q_m_to_turn, q_m_token_turn, q_m_value_turn, q_m_holding_turn, q_m_rowLength_turn, q_m_rowOf_turn, q_m_refusals_turn, q_m_imaged_turn, q_m_old_turn, q_m_ahead_turn, q_m_bestMove_turn, q_m_w_made, q_m_h_made, q_m_hedge_made, q_m_dug_made, q_m_owner_made, q_m_turn_made, q_m_made_made, q_m_players_made, q_m_kind_made, q_m_own_made, q_m_seed_made, q_m_taped_made, q_m_tape_made, q_m_from_made, q_m_to_made, q_m_token_made, q_m_value_made, q_m_holding_made, q_m_rowLength_made, q_m_rowOf_made, q_m_refusals_made, q_m_imaged_made, q_m_old_made, q_m_ahead_made, q_m_bestMove_made, and_self]
    · simp only [q_m_w_dug, q_m_h_dug, q_m_hedge_dug, q_m_dug_dug, q_m_owner_dug, q_m_turn_dug, q_m_made_dug, q_m_players_dug, q_m_kind_dug, q_m_own_dug, q_m_seed_dug, q_m_taped_dug, q_m_tape_dug, q_m_from_dug, q_m_to_dug, q_m_token_dug, q_m_value_dug, q_m_holding_dug, q_m_rowLength_dug, q_m_rowOf_dug, q_m_refusals_dug, q_m_imaged_dug, q_m_old_dug, q_m_ahead_dug, q_m_bestMove_dug, q_m_w_turn, q_m_h_turn, q_m_hedge_turn, q_m_dug_turn, q_m_owner_turn, q_m_turn_turn, q_m_made_turn, q_m_players_turn, q_m_kind_turn, q_m_own_turn, q_m_seed_turn, q_m_taped_turn, q_m_tape_turn, q_m_from_turn, q_m_to_turn, q_m_token_turn, q_m_value_turn, q_m_holding_turn, q_m_rowLength_turn, q_m_rowOf_turn, q_m_refusals_turn, q_m_imaged_turn, q_m_old_turn, q_m_ahead_turn, q_m_bestMove_turn, q_m_w_made, q_m_h_made, q_m_hedge_made, q_m_dug_made, q_m_owner_made, q_m_turn_made, q_m_made_made, q_m_players_made, q_m_kind_made, q_m_own_made, q_m_seed_made, q_m_taped_made, q_m_tape_made, q_m_from_made, q_m_to_made, q_m_token_made, q_m_value_made, q_m_holding_made, q_m_rowLength_made, q_m_rowOf_made, q_m_refusals_made, q_m_imaged_made, q_m_old_made, q_m_ahead_made, q_m_bestMove_made]
