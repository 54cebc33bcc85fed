/-! Games played to their ends -/
theorem mk_bE (b : BD) (t s : Nat) : be (mk b t s) = be b := by unfold be; rw [mk_W, mk_H]
theorem mk_bn (b : BD) (t s : Nat) : bn (mk b t s) = bn b := by unfold bn; rw [mk_W, mk_H]
theorem os_mk {b : BD} (hb : BOK b) {t s : Nat} (ho : os b s = true) : os (mk b t s) s = false ∧ ∀ i, os (mk b t s) i = true → os b i = true := by
  have hz : SZ (bW b) (bH b) := ⟨hb.1, hb.2.1⟩
  obtain ⟨h1, h2, h3⟩ := os_lt hz ho
  have hE : be b ≤ 40 := (szs hz).1
  by_cases c : s < 40
  · obtain ⟨he, h0⟩ := h2 c
    rw [mk_e c]
    have hh : ∀ k, bh (mkE b t s) k = (bh b k || decide (k = s)) := fun k => rfl
    have hbe : be (mkE b t s) = be b := rfl
    have hbn : bn (mkE b t s) = bn b := rfl
    constructor
    · unfold os
      rw [hh, decide_eq_true rfl, Bool.or_true, Bool.not_true, Bool.and_false, decide_eq_false (show ¬ 40 ≤ s by omega)]; rfl
    · intro i hi
      unfold os at hi ⊢
      rw [hbe, hbn, hh] at hi
      rw [Bool.or_eq_true] at hi ⊢
      rcases hi with hi | hi
      · left
        rw [Bool.and_eq_true, Bool.not_eq_true', Bool.or_eq_false_iff] at hi
        rw [hi.1, hi.2.1]; rfl
      · right
        rw [Bool.and_eq_true, Bool.and_eq_true, decide_eq_true_eq, decide_eq_true_eq] at hi
        rw [decide_eq_true hi.1, decide_eq_true hi.2.1, Bool.true_and, Bool.true_and]
        have h4 := hi.2.2
        unfold sf at h4 ⊢
        rw [Bool.and_eq_true] at h4 ⊢
        refine ⟨h4.1, ?_⟩
        have h5 := h4.2
        rw [Bool.not_eq_true'] at h5 ⊢
        have h6 := of_decide_eq_false h5
        refine decide_eq_false (fun hh4 => h6 ?_)
        have hc := ct_hp hz he hi.2.1 h0
        have e1 : ct (bW b) (bH b) (bh b) (i - 40) = cnt b (i - 40) := rfl
        have e2 : cnt (mkE b t s) (i - 40) = ct (bW b) (bH b) (hp (bh b) s) (i - 40) := rfl
        have hl := cnt_le (mkE b t s) (i - 40)
        rw [e1] at hc
        omega
  · rw [mk_d (by omega)]
    have hd : ∀ k, bd (mkD b (s - 40)) k = (bd b k || decide (k = s - 40)) := fun k => rfl
    have hc : ∀ k, cnt (mkD b (s - 40)) k = cnt b k := fun k => rfl
    have hbe : be (mkD b (s - 40)) = be b := rfl
    have hbn : bn (mkD b (s - 40)) = bn b := rfl
    have hh : ∀ k, bh (mkD b (s - 40)) k = bh b k := fun k => rfl
    constructor
    · unfold os sf
      rw [hd, decide_eq_true rfl, Bool.or_true, hbe, decide_eq_false (show ¬ s < be b by omega)]
      simp
    · intro i hi
      unfold os sf at hi ⊢
      rw [hbe, hbn, hh, hd, hc] at hi
      rw [Bool.or_eq_true] at hi ⊢
      rcases hi with hi | hi
      · exact Or.inl hi
      · right
        simp only [Bool.and_eq_true, Bool.not_eq_true', Bool.or_eq_false_iff] at hi ⊢
        exact ⟨hi.1, hi.2.1, hi.2.2.1.1, hi.2.2.2⟩
theorem os_less {b : BD} (hb : BOK b) {t s : Nat} (ho : os b s = true) : cn (os (mk b t s)) 64 < cn (os b) 64 := by
  have hz : SZ (bW b) (bH b) := ⟨hb.1, hb.2.1⟩
  obtain ⟨h1, h2⟩ := os_mk (t := t) hb ho
  exact cn_less 64 (by have := (os_lt hz ho).1; omega) h1 ho (fun i _ h => h2 i h)
theorem irem2' : ∀ i, i < 100 → irem (nI i) 2 = nI (i % 2) := by decide +kernel
theorem play_run {x0 : XX} {σ0 : MM} {p q t0 : Nat} (kp : KP x0 σ0 p) (kq : KP x0 σ0 q) (h0 : g_turn (x_now x0) = nI t0) (ht0 : t0 < 2) (fc F : Int32) : ∀ (k N1 N2 i : Nat) (g : GG) (σ : MM) (b : BD) (t : Nat) (mv0 sd : Int32), i + k = 56 → 1 ≤ i → cn (os b) 64 ≤ k → k < N1 → k < N2 → t = (if i % 2 = 0 then t0 else 1 - t0) → GRb g σ b t mv0 sd → fz σ0 σ →
    ∃ (g' : GG) (σ' : MM) (b' : BD) (t' : Nat) (mv' sd' : Int32), lp (fun _ _ _ => none) (f_X3_playOut_L16_b (nI p) (nI q)) N1 fc (nI i) (x_thought' x0 g) = some (fc, x_thought' x0 g') ∧
      ob2 (f_X4_chosen σ (if i % 2 = 0 then nI p else nI q)) (fun m τ => lp (fun _ _ _ => none) (f_X4_plays_L12_b (nI p) (nI q) F) N2 m (nI (i + 1)) τ) = some (F, σ') ∧ GRb g' σ' b' t' mv' sd' ∧ fz σ0 σ' := by
  intro k
  induction k with
  | zero =>
    intro N1 N2 i g σ b t mv0 sd hi h1i hc hN1 hN2 ht hG hF
    obtain ⟨m1, rfl⟩ : ∃ m, N1 = m + 1 := ⟨N1 - 1, by omega⟩
    obtain ⟨m2, rfl⟩ : ∃ m, N2 = m + 1 := ⟨N2 - 1, by omega⟩
    obtain rfl : i = 56 := by omega
    have hno : ∀ s, os b s = false := fun s => by
      cases ho : os b s with
      | false => rfl
      | true =>
        have h2 := (os_lt ⟨hG.1.1, hG.1.2.1⟩ ho).1
        have := cn_lt (P := os b) (show s < 64 by omega) ho
        omega
    obtain ⟨o, sd', c1, c2, c3, c4, c5, c6⟩ := step_th hG hF kp
    have ho : o = none := by
      cases o with
      | none => rfl
      | some s => have := c1 s rfl; rw [hno s] at this; cases this
    subst ho
    obtain ⟨-, e⟩ := c2 rfl
    subst e
    refine ⟨g, m_seed' σ sd', b, t, mv0, sd', ?_, ?_, ?_, c6⟩
    · rw [lp_s]
      unfold f_X3_playOut_L16_b
      rw [if_pos (show (56 : Int32) ≤ nI 56 by decide +kernel)]
    · rw [if_pos (show 56 % 2 = 0 from rfl), c4, ob2_s, lp_s]
      unfold f_X4_plays_L12_b
      rw [if_pos (show emv none = -1 from rfl)]
    · have e : g_seed' g sd' = g := by rw [← hG.2.2.2.1.2.2.2]; exact rfl
      rw [e] at c5
      exact c5
  | succ k ih =>
    intro N1 N2 i g σ b t mv0 sd hi h1i hc hN1 hN2 ht hG hF
    obtain ⟨m1, rfl⟩ : ∃ m, N1 = m + 1 := ⟨N1 - 1, by omega⟩
    obtain ⟨m2, rfl⟩ : ∃ m, N2 = m + 1 := ⟨N2 - 1, by omega⟩
    have tg : g_turn g = nI t := hG.2.2.2.1.2.1
    have hti : ¬ nI i = 0 := nI_ne0 (by omega) (by omega)
    -- one side's choice
    have one : ∀ w, KP x0 σ0 w → (if i % 2 = 0 then nI p else nI q) = nI w → (∀ rec, f_X3_playOut_L16_b (nI p) (nI q) rec fc (nI i) (x_thought' x0 g) = f_X3_playOut_b50 rec fc (nI i) (nI w) (x_thought' x0 g)) → ∃ (g' : GG) (σ' : MM) (b' : BD) (t' : Nat) (mv' sd' : Int32), lp (fun _ _ _ => none) (f_X3_playOut_L16_b (nI p) (nI q)) (m1 + 1) fc (nI i) (x_thought' x0 g) = some (fc, x_thought' x0 g') ∧
      ob2 (f_X4_chosen σ (if i % 2 = 0 then nI p else nI q)) (fun m τ => lp (fun _ _ _ => none) (f_X4_plays_L12_b (nI p) (nI q) F) (m2 + 1) m (nI (i + 1)) τ) = some (F, σ') ∧ GRb g' σ' b' t' mv' sd' ∧ fz σ0 σ' := by
      intro w kw ew hcl
      obtain ⟨o, sd', c1, c2, c3, c4, c5, c6⟩ := step_th hG hF kw
      rw [lp_s, hcl, ew, c4, ob2_s, lp_s]
      unfold f_X3_playOut_b50
      rw [c3, ob2_s]
      cases o with
      | none =>
        refine ⟨g_seed' g sd', m_seed' σ sd', b, t, mv0, sd', ?_, ?_, c5, c6⟩
        · rw [if_pos (show eo none = -1 from rfl)]
        · unfold f_X4_plays_L12_b
          rw [if_pos (show emv none = -1 from rfl)]
      | some s =>
        have ho := c1 s rfl
        have h56 := (os_lt ⟨hG.1.1, hG.1.2.1⟩ ho).1
        obtain ⟨g', σ', z1, z2, z3, z4, z5⟩ := GRb_make c5 ho
        have hless := os_less (t := t) hG.1 ho
        rw [if_neg (eo_some h56), if_neg hti, q_x_thought_thought, show eo (some s) = nI s from rfl, z1, ob_s, lt_e, lt_e, ← nI_succ, q2_x_thought]
        obtain ⟨g2, σ2, b2, t2, mv2, sd2, y1, y2, y3, y4⟩ := ih m1 m2 (i + 1) g' σ' (mk b t s) (1 - t) (mv0 + 1) sd' (by omega) (by omega) (by omega) (by omega) (by omega) (by
          rw [ht]
          rcases Nat.mod_two_eq_zero_or_one i with e | e
          · rw [if_pos e, if_neg (by omega)]
          · rw [if_neg (by omega), if_pos (by omega)]; omega) z3 (fz_t c6 z4)
        refine ⟨g2, σ2, b2, t2, mv2, sd2, y1, ?_, y3, y4⟩
        unfold f_X4_plays_L12_b
        rw [if_neg (emv_some h56), show emv (some s) = nI (mv s) from rfl, z2, ob2_s, gd_t nz2, irem2' (i + 1) (by omega)]
        simp only [lt_e, ← nI_succ]
        rcases Nat.mod_two_eq_zero_or_one (i + 1) with e | e
        · rw [if_pos e] at y2
          rw [e, if_pos (show nI 0 = 0 from rfl)]
          exact y2
        · rw [if_neg (by omega)] at y2
          rw [e, if_neg (show ¬ nI 1 = 0 by decide +kernel)]
          exact y2
    have tc : ∀ rec, f_X3_playOut_L16_b (nI p) (nI q) rec fc (nI i) (x_thought' x0 g) = if i % 2 = 0 then f_X3_playOut_b50 rec fc (nI i) (nI p) (x_thought' x0 g) else f_X3_playOut_b50 rec fc (nI i) (nI q) (x_thought' x0 g) := fun rec => by
      unfold f_X3_playOut_L16_b
      rw [if_neg (show ¬ (56 : Int32) ≤ nI i from nI_ge (b := 56) (by omega) (by omega)), q_x_thought_thought, q_x_now_thought, tg, h0, ht]
      by_cases c : i % 2 = 0
      · rw [if_pos c, if_pos c, if_pos rfl]
      · rw [if_neg c, if_neg c, if_neg (fun hh => by have := nI_inj (by omega) (by omega) hh; omega)]
    by_cases c : i % 2 = 0
    · exact one p kp (if_pos c) (fun rec => by rw [tc, if_pos c])
    · exact one q kq (if_neg c) (fun rec => by rw [tc, if_neg c])
/-- a game of two in thought and in the reference -/
theorem play_ok {x : XX} {σ : MM} {b : BD} {t p q : Nat} {mv0 sd : Int32} (hG : GRb (x_now x) σ b t mv0 sd) (kp : KP x σ p) (kq : KP x σ q) : ∃ (f : Option Nat) (g' : GG) (σ' : MM) (b' : BD) (t' : Nat) (mv' sd' : Int32), (∀ s, f = some s → s < 56) ∧ f_X3_playOut x (nI p) (nI q) = some (eo f, x_thought' x g') ∧ f_X4_plays σ (nI p) (nI q) = some (emv f, σ') ∧ GRb g' σ' b' t' mv' sd' ∧ fz σ σ' := by
  have hz : SZ (bW b) (bH b) := ⟨hG.1.1, hG.1.2.1⟩
  obtain ⟨o, sd', c1, c2, c3, c4, c5, c6⟩ := step_th (x0 := x) hG (fz_r σ) kp
  have tg : g_turn (x_now x) = nI t := hG.2.2.2.1.2.1
  have hFU : FU = 599 + 1 := rfl
  unfold f_X3_playOut f_X4_plays
  rw [become_eq, ob_s, lt_e, c4, ob2_s]
  unfold f_X3_playOut_L16 f_X4_plays_L12
  rw [hFU, lp_s (fun _ _ _ => none) (f_X3_playOut_L16_b (nI p) (nI q)) 599, lp_s (fun _ _ _ => none) (f_X4_plays_L12_b (nI p) (nI q) (emv o)) 599]
  have hcl : ∀ rec, f_X3_playOut_L16_b (nI p) (nI q) rec (-1) 0 (x_thought' x (x_now x)) = f_X3_playOut_b50 rec (-1) 0 (nI p) (x_thought' x (x_now x)) := fun rec => by
    unfold f_X3_playOut_L16_b
    rw [if_neg (show ¬ (56 : Int32) ≤ 0 by decide +kernel), q_x_thought_thought, q_x_now_thought, if_pos rfl]
  rw [hcl]
  unfold f_X3_playOut_b50
  rw [c3, ob2_s]
  cases o with
  | none =>
    refine ⟨none, g_seed' (x_now x) sd', m_seed' σ sd', b, t, mv0, sd', fun s h => (by cases h), ?_, ?_, c5, c6⟩
    · rw [if_pos (show eo none = -1 from rfl)]; rfl
    · unfold f_X4_plays_L12_b
      rw [if_pos (show emv none = -1 from rfl)]
  | some s =>
    have ho := c1 s rfl
    have h56 := (os_lt hz ho).1
    obtain ⟨g', σ', z1, z2, z3, z4, z5⟩ := GRb_make c5 ho
    have hless := os_less (t := t) hG.1 ho
    have hle : cn (os b) 64 ≤ 56 := by rw [cn_os hz]; exact cn_le _ _
    rw [if_neg (eo_some h56), if_pos rfl, q_x_thought_thought, show eo (some s) = nI s from rfl, z1, ob_s, lt_e, lt_e, q2_x_thought]
    obtain ⟨g2, σ2, b2, t2, mv2, sd2, y1, y2, y3, y4⟩ := play_run (x0 := x) (σ0 := σ) kp kq tg hG.2.2.2.1.1 (nI s) (emv (some s)) 55 599 599 1 g' σ' (mk b t s) (1 - t) (mv0 + 1) sd' rfl (Nat.le_refl 1) (by omega) (by omega) (by omega) (by rw [if_neg (by omega)]) z3 (fz_t c6 z4)
    refine ⟨some s, g2, σ2, b2, t2, mv2, sd2, fun q h => (by rw [← Option.some.inj h]; exact h56), y1, ?_, y3, y4⟩
    unfold f_X4_plays_L12_b
    rw [if_neg (emv_some h56), show emv (some s) = nI (mv s) from rfl, z2, ob2_s, gd_t nz2, if_neg (show ¬ irem 1 2 = 0 by decide +kernel)]
    simp only [lt_e]
    rw [if_neg (by omega)] at y2
    exact y2
theorem leadPlayed_ok {x : XX} {σ : MM} (hR : Rel x σ) {p q : Nat} (hp : KP x σ p) (hq : KP x σ q) : ∃ (f : Option Nat) (g' : GG) (σ' : MM) (b' : BD), BOK b' ∧ GB g' b' ∧ (∀ s, f = some s → s < 56) ∧ f_X3_playOut x (nI p) (nI q) = some (eo f, x_thought' x g') ∧ f_X4_leadPlayed σ (nI p) (nI q) = some (led b' 0, σ') ∧ Rel x σ' := by
  obtain ⟨b, t, mv0, sd, h⟩ := hR.1
  obtain ⟨K, k1, k2⟩ := keep_ahead_ok σ
  have h2 := GRb_ah (h : GRb (x_now x) σ b t mv0 sd) K
  have kpa : ∀ p, KP x σ p → KP x (m_ahead' σ K) p := fun p h => by
    unfold KP at h ⊢
    rw [q_m_kind_ahead, q_m_own_ahead]
    exact h
  obtain ⟨f, g', σ2, b', t', mv', sd', f1, z1, z2, z3, z4⟩ := play_ok h2 (kpa p hp) (kpa q hq)
  obtain ⟨σ3, a1, a3, a4⟩ := again_ahead_ok σ2
  refine ⟨f, g', σ3, b', z3.1, z3.2.1, f1, z1, ?_, Rel_back hR k2 z4 a3 a4⟩
  unfold f_X4_leadPlayed
  rw [k1, ob_s, z2, ob2_s, show (0 : Int32) = nI 0 from rfl, leadM_ok z3.1 z3.2.2.1 (p := 0) (by omega), ob_s, a1, ob_s]
theorem B_played {x : XX} {σ : MM} (hR : Rel x σ) (a1 : Int32) (a2 : Int32) (a3 : Int32) : ∃ (r : Int32) (x' : XX) (σ' : MM), f_X3_played x a1 a2 a3 = some (r, x') ∧ f_X4_played σ a1 a2 a3 = some (r, σ') ∧ Rel x' σ' := by
  have hno := R_noL hR (-2) (Or.inl rfl)
  unfold f_X3_played f_X4_played
  rcases player_iff hR a1 with ⟨e1, e2⟩ | ⟨p, hp, rfl, hpp, e1, e2⟩
  · rw [e1, e2]; exact hno
  rw [e1, e2, if_pos rfl, if_pos rfl]
  rcases player_iff hR a2 with ⟨e1, e2⟩ | ⟨q, hq, rfl, hqq, e1, e2⟩
  · rw [e1, e2]; exact hno
  rw [e1, e2, if_pos rfl, if_pos rfl]
  rcases n4_iff (n := 2) (by omega) a3 with ⟨q1, q2⟩ | ⟨n, hn, rfl, q1⟩
  · rw [show f_X4_within a3 0 2 = false from q1, if_neg Bool.false_ne_true]
    rcases q2 with q2 | ⟨q2, q3⟩
    · rw [if_pos q2]; exact hno
    · rw [if_neg q2, if_neg (show ¬ a3 ≤ 2 from q3)]; exact hno
  rw [show f_X4_within (nI n) 0 2 = true from q1, if_pos rfl, if_neg (nI_pos (by omega)), if_pos (show nI n ≤ 2 from nI_le (b := 2) hn (by omega))]
  obtain ⟨b, t, mv0, sd, h⟩ := hR.1
  obtain ⟨K, k1, k2⟩ := keep_ahead_ok σ
  have h2 := GRb_ah (h : GRb (x_now x) σ b t mv0 sd) K
  have kpa : ∀ p, KP x σ p → KP x (m_ahead' σ K) p := fun p h => by
    unfold KP at h ⊢
    rw [q_m_kind_ahead, q_m_own_ahead]
    exact h
  obtain ⟨f, g', σ2, b', t', mv', sd', f1, z1, z2, z3, z4⟩ := play_ok h2 (kpa p (KP_of hR hp hpp)) (kpa q (KP_of hR hq hqq))
  obtain ⟨σ3, a1, a3, a4⟩ := again_ahead_ok σ2
  have hR3 := Rel_th (Rel_back hR k2 z4 a3 a4) g'
  rw [z1, ob2_s, k1, ob_s, lt_e, z2, ob2_s, lt_e, show f_X4_leadOf σ2 0 = some (led b' 0) from leadM_ok z3.1 z3.2.2.1 (p := 0) (by omega), ob_s, a1, ob_s, q_x_thought_thought, q_x_now_thought, show f_X0_leadOf g' 0 = some (led b' 0) from leadX_ok z3.1 z3.2.1 (p := 0) (by omega), ob_s]
  by_cases c0 : nI n = 0
  · rw [if_pos c0, if_pos c0, z3.2.2.2.1.2.2.1, z3.2.2.2.2.2.2.1, h.2.2.2.1.2.2.1, h2.2.2.2.2.2.2.1]
    exact ⟨_, _, _, rfl, rfl, hR3⟩
  rw [if_neg c0, if_neg c0]
  by_cases c1 : nI n = 1
  · rw [if_pos c1, if_pos c1]
    exact ⟨_, _, _, rfl, rfl, hR3⟩
  rw [if_neg c1, if_neg c1]
  have em : f_X3_moveOf (eo f) = emv f := by
    cases f with
    | none => exact moveOf_m1
    | some s => exact moveOf_ok s (by have := f1 s rfl; omega)
  rw [em]
  exact ⟨_, _, _, rfl, rfl, hR3⟩
-- wins
theorem led_neg (b : BD) : led b 1 = - led b 0 := by
  unfold led
  rw [Int32.neg_sub]
theorem playOut_th (x : XX) (g : GG) (a c : Int32) : f_X3_playOut (x_thought' x g) a c = f_X3_playOut x a c := by
  unfold f_X3_playOut
  rw [become_eq, become_eq, ob_s, ob_s, lt_e, lt_e, q2_x_thought, q_x_now_thought]
theorem w_ar1 (a u v : Int32) : a + u + -v = a + 1 * (u - v) := by
  rw [Int32.one_mul, Int32.sub_eq_add_neg, Int32.add_assoc]
theorem w_ar2 (a u v : Int32) : a + -u + v = a + -1 * (u - v) := by
  rw [show (-1 : Int32) * (u - v) = -(u - v) by rw [Int32.neg_mul, Int32.one_mul], Int32.neg_sub, Int32.add_assoc, Int32.sub_eq_add_neg, Int32.add_comm v]
theorem wins_run {P p : Nat} (hP : P ≤ 6) (hp : p < P) {t : Nat} (ht : t < 2) : ∀ (k N1 N2 i : Nat) (x : XX) (σ : MM) (a : Int32), i + k = P → k < N1 → k < N2 → Rel x σ → m_players σ = nI P → g_turn (x_now x) = nI t →
    ∃ (r : Int32) (g' : GG) (σ' : MM), lp (fun _ _ _ => none) (f_X3_winnings_L4_b (nI p)) N1 a (nI i) x = some (r, x_thought' x g') ∧ lp (fun _ _ _ => none) (f_X4_winsOf_L18_b (nI p) (if t = 0 then 1 else -1)) N2 a (nI i) σ = some (r, σ') ∧ Rel x σ' ∧ m_players σ' = nI P := by
  intro k
  induction k with
  | zero =>
    intro N1 N2 i x σ a hi h1 h2 hR hpl hgt
    obtain ⟨m1, rfl⟩ : ∃ m, N1 = m + 1 := ⟨N1 - 1, by omega⟩
    obtain ⟨m2, rfl⟩ : ∃ m, N2 = m + 1 := ⟨N2 - 1, by omega⟩
    obtain ⟨P', p1, p2, p3, -⟩ := hR.2.1
    have : P' = P := by rw [p3] at hpl; exact nI_inj (by omega) (by omega) hpl
    subst this
    rw [lp_s, lp_s]
    unfold f_X3_winnings_L4_b f_X4_winsOf_L18_b
    rw [p2, p3, if_pos (nI_le (by omega) (by omega)), if_pos (nI_le (by omega) (by omega))]
    exact ⟨a, x_thought x, σ, rfl, rfl, hR, hpl⟩
  | succ k ih =>
    intro N1 N2 i x σ a hi h1 h2 hR hpl hgt
    obtain ⟨m1, rfl⟩ : ∃ m, N1 = m + 1 := ⟨N1 - 1, by omega⟩
    obtain ⟨m2, rfl⟩ : ∃ m, N2 = m + 1 := ⟨N2 - 1, by omega⟩
    obtain ⟨P', p1, p2, p3, -⟩ := hR.2.1
    have : P' = P := by rw [p3] at hpl; exact nI_inj (by omega) (by omega) hpl
    subst this
    rw [lp_s, lp_s]
    unfold f_X3_winnings_L4_b f_X4_winsOf_L18_b
    rw [p2, p3, if_neg (nI_ge (by omega) (by omega)), if_neg (nI_ge (by omega) (by omega))]
    by_cases c : nI i = nI p
    · rw [if_pos c, if_pos c, lt_e, lt_e, ← nI_succ]
      exact ih m1 m2 (i + 1) x σ a (by omega) (by omega) (by omega) hR hpl hgt
    · rw [if_neg c, if_neg c]
      have hKp := KP_of hR (show p < 6 by omega) (by rw [p3]; exact nI_lt hp (by omega))
      have hKi := KP_of hR (show i < 6 by omega) (by rw [p3]; exact nI_lt (by omega) (by omega))
      obtain ⟨f1, g1, σ1, b1, y1, y2, y3, y4, y5, y6⟩ := leadPlayed_ok hR hKp hKi
      have hpl1 : m_players σ1 = nI P' := by
        obtain ⟨Q, o1, o2, o3, -⟩ := y6.2.1
        rw [o3, ← o2, p2]
      have hKp1 := KP_of y6 (show p < 6 by omega) (by rw [hpl1]; exact nI_lt hp (by omega))
      have hKi1 := KP_of y6 (show i < 6 by omega) (by rw [hpl1]; exact nI_lt (by omega) (by omega))
      obtain ⟨f2, g2, σ2, b2, w1, w2, w3, w4, w5, w6⟩ := leadPlayed_ok y6 hKi1 hKp1
      have hpl2 : m_players σ2 = nI P' := by
        obtain ⟨Q, o1, o2, o3, -⟩ := w6.2.1
        rw [o3, ← o2, p2]
      rw [y4, y5, ob2_s, ob2_s, q_x_thought_thought, q_x_now_thought, hgt, leadX_ok y1 y2 ht, ob_s, lt_e, playOut_th, w4, w5, ob2_s, ob2_s, q_x_thought_thought, q_x_now_thought, hgt, one_sub t ht, leadX_ok w1 w2 (show 1 - t < 2 by omega), ob_s, lt_e, lt_e, lt_e, lt_e, ← nI_succ]
      have ear : a + led b1 t + led b2 (1 - t) = a + (if t = 0 then 1 else -1) * (led b1 0 - led b2 0) := by
        rcases (by omega : t = 0 ∨ t = 1) with rfl | rfl
        · rw [if_pos rfl, show 1 - 0 = 1 from rfl, led_neg b2, w_ar1]
        · rw [if_neg (by omega), show 1 - 1 = 0 from rfl, led_neg b1, w_ar2]
      rw [ear]
      obtain ⟨r, g', σ', u1, u2, u3, u4⟩ := ih m1 m2 (i + 1) (x_thought' x g2) σ2 (a + (if t = 0 then 1 else -1) * (led b1 0 - led b2 0)) (by omega) (by omega) (by omega) (Rel_th w6 g2) hpl2 (by rw [q_x_now_thought]; exact hgt)
      refine ⟨r, g', σ', ?_, u2, ?_, u4⟩
      · rw [q2_x_thought] at u1
        exact u1
      · have := Rel_th u3 (x_thought x)
        rw [q2_x_thought] at this
        exact this
theorem wins_ok {x : XX} {σ : MM} (hR : Rel x σ) {p : Nat} (hp : p < 6) (hpp : nI p < m_players σ) : ∃ (r : Int32) (g' : GG) (σ' : MM), f_X3_winnings x (nI p) = some (r, x_thought' x g') ∧ f_X4_winsOf σ (nI p) = some (r, σ') ∧ Rel x σ' ∧ m_players σ' = m_players σ := by
  obtain ⟨P, p1, p2, p3, -⟩ := hR.2.1
  obtain ⟨b, t, mv0, sd, h⟩ := hR.1
  have hpP : p < P := by rw [p3, lt_iff (by omega) (by omega)] at hpp; exact hpp
  obtain ⟨r, g', σ', u1, u2, u3, u4⟩ := wins_run p1 hpP h.2.2.2.1.1 P FU FU 0 x σ 0 (by omega) (by unfold FU; omega) (by unfold FU; omega) hR p3 h.2.2.2.1.2.1
  refine ⟨r, g', σ', ?_, ?_, u3, u4.trans p3.symm⟩
  · unfold f_X3_winnings f_X3_winnings_L4
    exact u1
  · unfold f_X4_winsOf f_X4_winsOf_b14 f_X4_winsOf_L18
    rw [h.2.2.2.2.2.1]
    rcases (show t = 0 ∨ t = 1 by have := h.2.2.2.1.1; omega) with rfl | rfl
    · rw [if_pos (show nI 0 = 0 from rfl)]
      rw [if_pos rfl] at u2
      exact u2
    · rw [if_neg (show ¬ nI 1 = 0 by decide +kernel)]
      rw [if_neg (by omega)] at u2
      exact u2
theorem B_wins {x : XX} {σ : MM} (hR : Rel x σ) (a1 : Int32) : ∃ (r : Int32) (x' : XX) (σ' : MM), f_X3_wins x a1 = some (r, x') ∧ f_X4_wins σ a1 = some (r, σ') ∧ Rel x' σ' := by
  have hno := R_noL hR (-2) (Or.inl rfl)
  unfold f_X3_wins f_X4_wins
  rcases player_iff hR a1 with ⟨e1, e2⟩ | ⟨p, hp, rfl, hpp, e1, e2⟩
  · rw [e1, e2]; exact hno
  obtain ⟨r, g', σ', u1, u2, u3, u4⟩ := wins_ok hR hp hpp
  rw [e1, e2, if_pos rfl, if_pos rfl, u1, u2, ob2_s, ob2_s]
  exact ⟨_, _, _, rfl, rfl, Rel_th u3 g'⟩
/-- what is won does not hang on what stood in thought -/
theorem win_th {x : XX} (g : GG) (p : Int32) : ∀ (N : Nat) (a i : Int32), (lp (fun _ _ _ => none) (f_X3_winnings_L4_b p) N a i (x_thought' x g)).map Prod.fst = (lp (fun _ _ _ => none) (f_X3_winnings_L4_b p) N a i x).map Prod.fst := by
  intro N
  induction N with
  | zero => intro a i; rfl
  | succ N ih =>
    intro a i
    rw [lp_s]
    unfold f_X3_winnings_L4_b
    rw [q_x_crew_thought, playOut_th]
    by_cases c : (x_crew x) ≤ i
    · rw [if_pos c, if_pos c]; rfl
    · rw [if_neg c, if_neg c]
      by_cases d : i = p
      · rw [if_pos d, if_pos d, lt_e, lt_e]
        exact ih a (i + 1)
      · rw [if_neg d, if_neg d]
theorem win_same {x : XX} {g : GG} {p r s : Int32} {x1 x2 : XX} (h1 : f_X3_winnings (x_thought' x g) p = some (r, x1)) (h2 : f_X3_winnings x p = some (s, x2)) : r = s := by
  have h := win_th (x := x) g p FU 0 0
  unfold f_X3_winnings f_X3_winnings_L4 at h1 h2
  rw [h1, h2] at h
  exact Option.some.inj h
theorem champ_run {P : Nat} {x0 : XX} (hP : P ≤ 6) : ∀ (k N1 N2 i f : Nat) (most : Int32) (g : GG) (σ : MM), i + k = P → f < i → 1 ≤ i → k < N1 → k < N2 → Rel (x_thought' x0 g) σ → m_players σ = nI P → (∃ y, f_X3_winnings x0 (nI f) = some (most, y)) →
    ∃ (r : Int32) (x' : XX) (σ' : MM), lp (fun _ _ _ _ => none) f_X3_champion_L24_b N1 (nI f) most (nI i) (x_thought' x0 g) = some (r, x') ∧ lp (fun _ _ _ => none) f_X4_champion_L18_b N2 (nI f) (nI i) σ = some (r, σ') ∧ Rel x' σ' := by
  intro k
  induction k with
  | zero =>
    intro N1 N2 i f most g σ hi hf h1i h1 h2 hR hpl hw
    obtain ⟨m1, rfl⟩ : ∃ m, N1 = m + 1 := ⟨N1 - 1, by omega⟩
    obtain ⟨m2, rfl⟩ : ∃ m, N2 = m + 1 := ⟨N2 - 1, by omega⟩
    obtain ⟨P', p1, p2, p3, -⟩ := hR.2.1
    have : P' = P := by rw [p3] at hpl; exact nI_inj (by omega) (by omega) hpl
    subst this
    rw [lp_s, lp_s]
    unfold f_X3_champion_L24_b f_X4_champion_L18_b
    rw [p2, p3, if_pos (nI_le (by omega) (by omega)), if_pos (nI_le (by omega) (by omega))]
    exact ⟨_, _, _, rfl, rfl, hR⟩
  | succ k ih =>
    intro N1 N2 i f most g σ hi hf h1i h1 h2 hR hpl hw
    obtain ⟨m1, rfl⟩ : ∃ m, N1 = m + 1 := ⟨N1 - 1, by omega⟩
    obtain ⟨m2, rfl⟩ : ∃ m, N2 = m + 1 := ⟨N2 - 1, by omega⟩
    obtain ⟨P', p1, p2, p3, -⟩ := hR.2.1
    have : P' = P := by rw [p3] at hpl; exact nI_inj (by omega) (by omega) hpl
    subst this
    obtain ⟨y, hy⟩ := hw
    obtain ⟨v, g1, σ1, u1, u2, u3, u4⟩ := wins_ok hR (show i < 6 by omega) (by rw [p3]; exact nI_lt (by omega) (by omega))
    obtain ⟨w, g2, σ2, w1, w2, w3, w4⟩ := wins_ok u3 (show f < 6 by omega) (by rw [u4, p3]; exact nI_lt (by omega) (by omega))
    have hwm : w = most := win_same w1 hy
    subst hwm
    rw [lp_s, lp_s]
    unfold f_X3_champion_L24_b f_X4_champion_L18_b
    rw [p2, p3, if_neg (nI_ge (by omega) (by omega)), if_neg (nI_ge (by omega) (by omega)), u1, u2, ob2_s, ob2_s, w2, ob2_s, q2_x_thought]
    have hR2 : Rel (x_thought' x0 g1) σ2 := by
      have := Rel_th w3 g1
      rw [q2_x_thought] at this
      exact this
    by_cases c : v ≤ w
    · rw [if_pos c, if_pos c, lt_e, lt_e, ← nI_succ]
      exact ih m1 m2 (i + 1) f w g1 σ2 (by omega) (by omega) (by omega) (by omega) (by omega) hR2 (by rw [w4, u4]; exact hpl) ⟨y, hy⟩
    · rw [if_neg c, if_neg c, lt_e, lt_e, ← nI_succ]
      refine ih m1 m2 (i + 1) i v g1 σ2 (by omega) (by omega) (by omega) (by omega) (by omega) hR2 (by rw [w4, u4]; exact hpl) ?_
      have h9 := win_th (x := x0) g (nI i) FU 0 0
      have u9 := u1
      unfold f_X3_winnings f_X3_winnings_L4 at u9
      rw [u9] at h9
      unfold f_X3_winnings f_X3_winnings_L4
      cases hq : lp (fun _ _ _ => none) (f_X3_winnings_L4_b (nI i)) FU 0 0 x0 with
      | none => rw [hq] at h9; cases h9
      | some z =>
        rw [hq] at h9
        have := Option.some.inj h9
        exact ⟨z.2, by rw [show v = z.1 from this]⟩
theorem B_champion {x : XX} {σ : MM} (hR : Rel x σ)  : ∃ (r : Int32) (x' : XX) (σ' : MM), f_X3_champion x  = some (r, x') ∧ f_X4_champion σ  = some (r, σ') ∧ Rel x' σ' := by
  have hno5 := R_no' hR (-5) (by decide +kernel)
  obtain ⟨P, p1, p2, p3, -⟩ := hR.2.1
  unfold f_X3_champion f_X4_champion
  rcases Nat.eq_zero_or_pos P with h | h
  · subst h
    rw [p2, p3, if_neg (show ¬ 0 < nI 0 by decide +kernel), if_pos (show nI 0 = 0 from rfl)]
    exact hno5
  · obtain ⟨v, g1, σ1, u1, u2, u3, u4⟩ := wins_ok hR (p := 0) (by omega) (by rw [p3]; exact nI_lt h (by omega))
    rw [p2, p3, if_pos (show 0 < nI P from nI_lt (a := 0) h (by omega)), if_neg (nI_ne0 h (by omega)), show f_X3_winnings x 0 = some (v, x_thought' x g1) from u1, ob2_s]
    unfold f_X3_champion_L24 f_X4_champion_L18
    exact champ_run p1 (P - 1) FU FU 1 0 v g1 σ (by omega) (by omega) (by omega) (by unfold FU; omega) (by unfold FU; omega) (Rel_th hR g1) p3 ⟨_, u1⟩
