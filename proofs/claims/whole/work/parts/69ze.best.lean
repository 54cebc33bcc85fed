/-! Best, worth, after -/
theorem near_ok {x : XX} {b : BD} (hb : BOK b) (hg : GB (x_now x) b) : f_X3_isNearEnd x = decide (cn (os b) 64 ≤ 7) := by
  have hcl := cn_le (os b) 64
  unfold f_X3_isNearEnd
  rw [cnt64, cn_bl hb hg]
  by_cases c : cn (os b) 64 ≤ 7
  · rw [if_neg (show ¬ (7 : Int32) < nI (cn (os b) 64) from nI_nlt (a := 7) (by omega) (by omega)), decide_eq_true c]
  · rw [if_pos (show (7 : Int32) < nI (cn (os b) 64) from nI_lt (a := 7) (by omega) (by omega)), decide_eq_false c]
theorem B_worth {x : XX} {σ : MM} (hR : Rel x σ)  : ∃ (r : Int32) (x' : XX) (σ' : MM), f_X3_worth x  = some (r, x') ∧ f_X4_worth σ  = some (r, σ') ∧ Rel x' σ' := by
  have hno := R_noL hR (-5) (by decide +kernel)
  obtain ⟨b, t, mv0, sd, hb, hg, hm, hgs, hms⟩ := hR.1
  have hz : SZ (bW b) (bH b) := ⟨hb.1, hb.2.1⟩
  have hcl := cn_le (os b) 64
  unfold f_X3_worth f_X4_worth
  rw [near_ok hb hg, howMany_ok hz hm, ob_s]
  by_cases c : cn (os b) 64 ≤ 7
  · obtain ⟨g', z1, z2, z3⟩ := out_val (dep := 7) hb hg hgs c (by omega)
    obtain ⟨σ', w1, w2, w3, w4, w5⟩ := search_ok 10 σ b t mv0 sd hb hm hms (by omega)
    rw [decide_eq_true c, if_pos rfl, if_pos (show nI (cn (os b) 64) ≤ 7 from nI_le (b := 7) c (by omega)), become_eq, ob_s, lt_e, q_x_thought_thought, show f_X3_outcome 10 (x_now x) (-100) 100 7 = some (iN (Vv b t), g') from z1, ob2_s, lt_e, w1, ob2_s, q2_x_thought]
    refine ⟨_, _, _, rfl, rfl, Rel_th (Rel_m hR ⟨b, t, mv0, sd, hb, hg, w2, hgs, w3⟩ w4) g'⟩
  · rw [decide_eq_false c, if_neg Bool.false_ne_true, if_neg (show ¬ nI (cn (os b) 64) ≤ 7 from nI_ge (a := 7) (by omega) (by omega))]
    exact hno
theorem B_after {x : XX} {σ : MM} (hR : Rel x σ) (a1 : Int32) : ∃ (r : Int32) (x' : XX) (σ' : MM), f_X3_after x a1 = some (r, x') ∧ f_X4_after σ a1 = some (r, σ') ∧ Rel x' σ' := by
  have hno := R_noL hR (-2) (Or.inl rfl)
  have hno5 := R_noL hR (-5) (by decide +kernel)
  obtain ⟨b, t, mv0, sd, hb, hg, hm, hgs, hms⟩ := hR.1
  have hz : SZ (bW b) (bH b) := ⟨hb.1, hb.2.1⟩
  have hcl := cn_le (os b) 64
  unfold f_X3_after f_X4_after
  rcases slot_iff hb hg hm a1 with ⟨e1, e2⟩ | ⟨s, hs, ha, e1, e2, e3, e4⟩
  · rw [e1, e2, lt_e, if_pos rfl, if_neg Bool.false_ne_true]; exact hno
  rw [e1, e2, e3, lt_e, if_neg (nI_ne1 (by omega)), if_pos rfl, ob_s, e4]
  cases ho : os b s with
  | false => rw [if_neg Bool.false_ne_true, if_neg Bool.false_ne_true]; exact hno5
  | true =>
    rw [if_pos rfl, if_pos rfl, near_ok hb hg, howMany_ok hz hm, ob_s]
    by_cases c : cn (os b) 64 ≤ 7
    · obtain ⟨g1, σ1, z1, z2, z3, z4, z5⟩ := GRb_make (⟨hb, hg, hm, hgs, hms⟩ : GRb (x_now x) σ b t mv0 sd) ho
      have hless := os_less (t := t) hb ho
      obtain ⟨g2, u1, u2, u3⟩ := out_val (dep := 6) z3.1 z3.2.1 z3.2.2.2.1 (by omega) (by omega)
      obtain ⟨σ2, w1, w2, w3, w4, w5⟩ := search_ok 10 σ1 _ _ _ _ z3.1 z3.2.2.1 z3.2.2.2.2 (by omega)
      obtain ⟨σ3, y1, y2, y3, y4, y5⟩ := takes_ok hb hgs.1 ho w2 w3
      rw [decide_eq_true c, if_pos rfl, if_pos (show nI (cn (os b) 64) ≤ 7 from nI_le (b := 7) c (by omega)), become_eq, ob_s, lt_e, q_x_thought_thought, z1, ob_s, lt_e, q_x_thought_thought, show f_X3_outcome 10 g1 (-100) 100 6 = some (iN (Vv (mk b t s) (1 - t)), g2) from u1, ob2_s, lt_e, ha, z2, ob2_s, w1, ob2_s, lt_e, y1, ob_s, q2_x_thought, q2_x_thought]
      refine ⟨_, _, _, rfl, rfl, Rel_th (Rel_m hR ⟨b, t, mv0, sd, hb, hg, y2, hgs, y3⟩ (fz_t z4 (fz_t w4 y4))) g2⟩
    · rw [decide_eq_false c, if_neg Bool.false_ne_true, if_neg (show ¬ nI (cn (os b) 64) ≤ 7 from nI_ge (a := 7) (by omega) (by omega))]
      exact hno5
theorem bf_skip {P : Nat → Bool} {F : Nat → Int} {n : Nat} : ∀ m, n ≤ m → (∀ s, n ≤ s → s < m → P s = false) → bf P F m = bf P F n := by
  intro m
  induction m with
  | zero => intro h _; rw [show n = 0 by omega]
  | succ m ih =>
    intro h hz
    by_cases e : n = m + 1
    · rw [e]
    · rw [bf_s, if_neg (by rw [hz m (by omega) (by omega)]; exact Bool.false_ne_true), ih (by omega) (fun s h1 h2 => hz s h1 (by omega))]
theorem best_run {x0 : XX} {b : BD} {t : Nat} {mv0 sd : Int32} (hb : BOK b) (hg : GB (x_now x0) b) (hs : GS (x_now x0) t mv0 sd) (k113 : Int32 → XX → Option (Int32 × XX)) :
    ∀ (k N n i : Nat) (y : Int64) (g : GG), (∀ e, e < 64 → bl y e = (os b e && decide (n ≤ e))) → cn (fun e => os b e && decide (n ≤ e)) 64 = k → cn (os b) 64 ≤ 7 → i + k ≤ 7 → n ≤ 56 → k < N →
      ∃ g', lp (fun _ _ _ _ _ => none) (f_X3_best_L31_b k113) N y (eo (bf (os b) (bv b t) n).1) (iN (bf (os b) (bv b t) n).2) (nI i) (x_thought' x0 g) = k113 (eo (bf (os b) (bv b t) 56).1) (x_thought' x0 g') := by
  have hz : SZ (bW b) (bH b) := ⟨hb.1, hb.2.1⟩
  have ht := hs.1
  intro k
  induction k with
  | zero =>
    intro N n i y g hy hc hc7 hi hn hN
    obtain ⟨M, rfl⟩ : ∃ q, N = q + 1 := ⟨N - 1, by omega⟩
    have h0 : ∀ e, e < 64 → (os b e && decide (n ≤ e)) = false := fun e he => by
      cases hr : (os b e && decide (n ≤ e)) with
      | false => rfl
      | true => have := cn_lt (P := fun e => os b e && decide (n ≤ e)) he hr; omega
    refine ⟨g, ?_⟩
    rw [bf_skip (n := n) 56 hn (fun s h1 h2 => by have := h0 s (by omega); rw [decide_eq_true h1, Bool.and_true] at this; exact this), lp_s, f_X3_best_L31_b]
    by_cases c : (7 : Int32) ≤ nI i
    · rw [if_pos c]
    · rw [if_neg c, if_pos ((lg0_fo hy).mpr (fo_zero h0))]
  | succ k ih =>
    intro N n i y g hy hc hc7 hi hn hN
    obtain ⟨M, rfl⟩ : ∃ q, N = q + 1 := ⟨N - 1, by omega⟩
    obtain ⟨j, hj, hRj⟩ := cn_ex (P := fun e => os b e && decide (n ≤ e)) 64 (by omega)
    have hl64 : ff (fun e => os b e && decide (n ≤ e)) 64 < 64 := Nat.lt_of_le_of_lt (ff_at hj hRj) hj
    have hRl := ff_yes (P := fun e => os b e && decide (n ≤ e)) _ hl64
    have hno := ff_no (P := fun e => os b e && decide (n ≤ e)) 64
    generalize hlq : ff (fun e => os b e && decide (n ≤ e)) 64 = l at hl64 hRl hno
    have hRl2 : (os b l && decide (n ≤ l)) = true := hRl
    have hol := hRl2
    rw [Bool.and_eq_true, decide_eq_true_eq] at hol
    obtain ⟨ho, hnl⟩ := hol
    have h56 := (os_lt hz ho).1
    have hfo : fo (fun e => os b e && decide (n ≤ e)) = some l := by unfold fo; rw [(an_iff 64).mpr ⟨l, hl64, hRl⟩, if_pos rfl, hlq]
    have hsk : bf (os b) (bv b t) l = bf (os b) (bv b t) n := bf_skip l hnl (fun s h1 h2 => by
      have := hno s h2
      have h3 : (os b s && decide (n ≤ s)) = false := this
      rw [decide_eq_true h1, Bool.and_true] at h3
      exact h3)
    have hmx := bf_mx (os b) (bv b t) n
    have hmlo := mx_lo (P := os b) (F := bv b t) n
    have hmhi := mx_le (P := os b) (F := bv b t) (c := 48) (by omega) n (fun q _ hq => (bv_lo hb ht hq).2)
    have hbv := bv_lo hb ht ho
    have hless := os_less (t := t) hb ho
    obtain ⟨g1, e1, e2, e3⟩ := makeX_ok hb hg hs ho
    obtain ⟨r, g2, w1, w2, w3, w4, w5, w6⟩ := out_ok 10 g1 (mk b t l) (1 - t) (mv0 + 1) sd (-100) (-(bf (os b) (bv b t) n).2) 6 (BOK_mk hb ht ho) e2 e3 (by omega) (by omega) (by omega) (by omega) (by rw [hmx]; omega) (by rw [hmx]; omega)
    have hdrop := drop_bits hy hl64 hRl2 hno
    have hR' : (fun e => (os b e && decide (n ≤ e)) && !decide (e = l)) = fun e => os b e && decide (l + 1 ≤ e) := by
      funext e
      by_cases c : e = l
      · subst c
        rw [decide_eq_true rfl, decide_eq_false (show ¬ e + 1 ≤ e by omega)]; simp
      · rw [decide_eq_false c]
        by_cases d : l + 1 ≤ e
        · rw [decide_eq_true d, decide_eq_true (show n ≤ e by omega)]; simp
        · have := hno e (by omega)
          have h3 : (os b e && decide (n ≤ e)) = false := this
          rw [h3, decide_eq_false d]; simp
    have hc' := cn_rm (R := fun e => os b e && decide (n ≤ e)) hl64 hRl hc
    have hc' : cn (fun e => os b e && decide (l + 1 ≤ e)) 64 = k := by
      rw [← hR']; exact hc'
    have hy' : ∀ e, e < 64 → bl (y &&& (y - 1)) e = (os b e && decide (l + 1 ≤ e)) := fun e he => by
      rw [hdrop e he]
      exact congrFun hR' e
    rw [lp_s, f_X3_best_L31_b, if_neg (show ¬ (7 : Int32) ≤ nI i from nI_ge (b := 7) (by omega) (by omega)), if_neg (fun h => by have := (lg0_fo hy).mp h; rw [hfo] at this; cases this), firstSlot_fo hy, hfo, lt_e, lt_e, become_eq, ob_s, lt_e, q_x_thought_thought, q_x_now_thought, q2_x_thought, show eo (some l) = nI l from rfl, e1, ob_s, lt_e, q_x_thought_thought, q2_x_thought, iN_neg, show f_X3_outcome 10 g1 (-100) (iN (-(bf (os b) (bv b t) n).2)) 6 = some (iN r, g2) from w1, ob2_s, lt_e, lt_e, iN_neg, q2_x_thought]
    simp only [lt_e, ← nI_succ]
    have hcmp : iN (-r) ≤ iN (bf (os b) (bv b t) n).2 ↔ -r ≤ (bf (os b) (bv b t) n).2 := iN_le (by omega) (by rw [hmx]; omega)
    obtain ⟨a1, a2, a3⟩ := w6
    have hvb : bv b t l = -(Vv (mk b t l) (1 - t)) := rfl
    have hbs : bf (os b) (bv b t) (l + 1) = if (bf (os b) (bv b t) n).2 < bv b t l then (some l, bv b t l) else bf (os b) (bv b t) n := by rw [bf_s, if_pos ho, hsk]
    have hr1 : -100 < r := by
      rcases Int.lt_or_le (-100) r with h | h
      · exact h
      · have := a1 h; omega
    by_cases c : -r ≤ (bf (os b) (bv b t) n).2
    · rw [if_pos (hcmp.mpr c)]
      have hnot : ¬ (bf (os b) (bv b t) n).2 < bv b t l := by
        have := a3 (by omega)
        omega
      have := ih M (l + 1) (i + 1) (y &&& (y - 1)) g2 hy' hc' hc7 (by omega) (by omega) (by omega)
      rw [hbs, if_neg hnot] at this
      exact this
    · rw [if_neg (fun h => c (hcmp.mp h))]
      have hrv := a2 hr1 (by omega)
      have hyes : (bf (os b) (bv b t) n).2 < bv b t l := by omega
      have := ih M (l + 1) (i + 1) (y &&& (y - 1)) g2 hy' hc' hc7 (by omega) (by omega) (by omega)
      rw [hbs, if_pos hyes] at this
      rw [hrv]
      exact this
theorem B_best {x : XX} {σ : MM} (hR : Rel x σ)  : ∃ (r : Int32) (x' : XX) (σ' : MM), f_X3_best x  = some (r, x') ∧ f_X4_best σ  = some (r, σ') ∧ Rel x' σ' := by
  have hno := R_no' hR (-5) (by decide +kernel)
  obtain ⟨b, t, mv0, sd, hb, hg, hm, hgs, hms⟩ := hR.1
  have hz : SZ (bW b) (bH b) := ⟨hb.1, hb.2.1⟩
  have hcl := cn_le (os b) 64
  have hop := fun i hi => open_bits hb hg (i := i) hi
  unfold f_X3_best f_X4_best
  rw [near_ok hb hg, howMany_ok hz hm, ob_s]
  by_cases c : cn (os b) 64 ≤ 7
  · obtain ⟨σ', w1, w2, w3, w4, w5⟩ := search_ok 10 σ b t mv0 sd hb hm hms (by omega)
    have h0 : (fun e => os b e && decide (0 ≤ e)) = os b := by
      funext e
      rw [decide_eq_true (Nat.zero_le e), Bool.and_true]
    obtain ⟨g', z1⟩ := best_run (x0 := x) hb hg hgs (fun x20 σ21 => some ((f_X3_moveOf x20), σ21)) (cn (os b) 64) FU 0 0 (f_X0_openSlots (x_now x)) (x_thought x) (fun e he => by rw [hop e he, decide_eq_true (Nat.zero_le e), Bool.and_true]) (by rw [h0]) c (by omega) (by omega) (by unfold FU; omega)
    rw [decide_eq_true c, if_pos rfl, if_pos (show nI (cn (os b) 64) ≤ 7 from nI_le (b := 7) c (by omega)), lt_e, w1, ob2_s, w5]
    have hmo : f_X3_moveOf (eo (bf (os b) (bv b t) 56).1) = emv (bf (os b) (bv b t) 56).1 := by
      cases hf : (bf (os b) (bv b t) 56).1 with
      | none => exact moveOf_m1
      | some s => exact moveOf_ok s (by have := bf_in 56 s hf; omega)
    rw [← hmo]
    refine ⟨_, _, _, ?_, rfl, Rel_th (Rel_m hR ⟨b, t, mv0, sd, hb, hg, w2, hgs, w3⟩ w4) g'⟩
    unfold f_X3_best_L31
    exact z1
  · rw [decide_eq_false c, if_neg Bool.false_ne_true, if_neg (show ¬ nI (cn (os b) 64) ≤ 7 from nI_ge (a := 7) (by omega) (by omega))]
    exact hno
