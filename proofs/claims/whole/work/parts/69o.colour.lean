/-! Colours, lanes, scores -/
def wet (b : BD) (f : Nat) : Bool := drn b f || an (fun s => drn b (nb (bW b) (bH b) f s)) 4
def tin (b : BD) (p f : Nat) : Bool := decide (bo b f = p) && !wet b f
theorem drn_lt {b : BD} (hb : BOK b) (i : Nat) (h : drn b i = true) : i < bn b := by
  unfold drn at h
  rw [Bool.and_eq_true] at h
  rcases Nat.lt_or_ge i (bn b) with h1 | h1
  · exact h1
  · rw [(hb.2.2.2.1 i h1).1] at h; cases h.1
theorem dry_ok {g : GG} {b : BD} (hb : BOK b) (hg : GB g b) : ∃ r, f_X0_dryFields g = some r ∧ ∀ i, i < 32 → bt r i = (decide (i < bn b) && !wet b i) := by
  have hz : SZ (bW b) (bH b) := ⟨hb.1, hb.2.1⟩
  have sz := szs hz
  have hn : bn b ≤ 16 := sz.2.1
  have hT := bt_mskT (P := drn b) (n := bn b) (by omega) (drn_lt hb)
  obtain ⟨r, r1, r2⟩ := beside_ok hz hg.1 (x := 0) (X := fun _ => false) (fun e _ => bl_0 e) hT (drn_lt hb)
  unfold f_X0_dryFields
  rw [drainX_ok hb hg, ob_s, r1, ob_s]
  refine ⟨_, rfl, fun i hi => ?_⟩
  have e4 : an (fun s => drn b (nb (bW b) (bH b) i s)) 4 = (((drn b (nb (bW b) (bH b) i 0) && !false) || (drn b (nb (bW b) (bH b) i 1) && !false)) || (drn b (nb (bW b) (bH b) i 2) && !false) || (drn b (nb (bW b) (bH b) i 3) && !false)) := by
    rw [an_s, an_s, an_s, an_s]
    show (((false || _) || _) || _ || _) = _
    simp
  unfold wet
  rw [bt_and, bt_not hi, bt_or, all_bits hg.1 i hi, hT i hi, r2 i hi, e4]
  show (decide (i < bn b) && !(drn b i || (decide (i < bn b) && _))) = _
  cases decide (i < bn b) with
  | false => rfl
  | true => rw [Bool.true_and, Bool.true_and, Bool.true_and]
theorem tin_ok {g : GG} {b : BD} (hb : BOK b) (hg : GB g b) {p : Nat} (hp : p < 2) : ∃ r, f_X0_tinted g (nI p) = some r ∧ ∀ i, i < 32 → bt r i = (decide (i < bn b) && tin b p i) := by
  obtain ⟨r, r1, r2⟩ := dry_ok hb hg
  unfold f_X0_tinted
  rw [r1, ob_s]
  refine ⟨_, rfl, fun i hi => ?_⟩
  rw [bt_and, own_bits hb hg hp hi, r2 i hi]
  exact (by decide : ∀ p q r : Bool, ((p && q) && (p && r)) = (p && (q && r))) _ _ _
/-- the reference's colour -/
def coI (b : BD) (f : Nat) : Int32 := if wet b f = true then -1 else io (bo b f)
theorem coI_iff {b : BD} (hb : BOK b) (f : Nat) {p : Nat} (hp : p < 2) : coI b f = nI p ↔ tin b p f = true := by
  unfold coI tin
  have := io_eq (bo b f) (by have := hb.2.2.2.2.1 f; omega) p hp
  cases wet b f with
  | true =>
    rw [if_pos rfl, Bool.not_true, Bool.and_false]
    exact ⟨fun h => absurd h (by rcases (by omega : p = 0 ∨ p = 1) with rfl | rfl <;> decide +kernel), fun h => by cases h⟩
  | false =>
    rw [if_neg Bool.false_ne_true, Bool.not_false, Bool.and_true, decide_eq_true_eq]
    exact this
theorem colour_ok {σ : MM} {b : BD} (hb : BOK b) (hm : MB σ b) {f : Nat} (hf : f < bn b) : f_X4_colour σ (nI f) (msk (drn b) (bn b)) = some (coI b f) := by
  have hz : SZ (bW b) (bH b) := ⟨hb.1, hb.2.1⟩
  have sz := szs hz
  have hn : bn b ≤ 16 := sz.2.1
  have hT := bt_mskT (P := drn b) (n := bn b) (by omega) (drn_lt hb)
  have h99 : drn b 99 = false := S_off (drn_lt hb) (by omega)
  unfold f_X4_colour coI wet
  cases hd : drn b f with
  | true => rw [if_pos ((bit_r1 _ (by omega)).mpr (by rw [hT f (by omega)]; exact hd)), Bool.true_or, if_pos rfl]
  | false =>
    rw [if_neg (fun hh => by rw [bit_r1 _ (by omega), hT f (by omega), hd] at hh; cases hh), Bool.false_or]
    have hst : ∀ s, s < 4 → ∀ rec : Int32 → Option Int32, f_X4_colour_L13_b σ (nI f) (msk (drn b) (bn b)) rec (nI s) = if drn b (nb (bW b) (bH b) f s) = true then some (-1) else rec (nI (s + 1)) := fun s hs rec => by
      unfold f_X4_colour_L13_b
      rw [if_neg (show ¬ (4 : Int32) ≤ nI s from nI_ge (b := 4) hs (by omega)), mbeside_ok hz hm.1 hm.2.1 hf hs, ob_s]
      simp only [lt_e, ← nI_succ]
      rcases nb_lt hz hf hs with c | c
      · rw [c, if_pos (show iF 99 = -1 by decide +kernel), h99, if_neg Bool.false_ne_true]
      · have c2 : nb (bW b) (bH b) f s < bn b := c
        rw [show iF (nb (bW b) (bH b) f s) = nI (nb (bW b) (bH b) f s) from if_neg (by omega), if_neg (show ¬ nI (nb (bW b) (bH b) f s) = -1 from (by decide +kernel : ∀ m, m < 200 → ¬ nI m = -1) _ (by omega))]
        cases hq : drn b (nb (bW b) (bH b) f s) with
        | true => rw [if_pos ((bit_r1 _ (by omega)).mpr (by rw [hT _ (by omega)]; exact hq)), if_pos rfl]
        | false => rw [if_neg (fun hh => by rw [bit_r1 _ (by omega), hT _ (by omega), hq] at hh; cases hh), if_neg Bool.false_ne_true]
    have hl := ff_le (fun s => drn b (nb (bW b) (bH b) f s)) 4
    unfold f_X4_colour_L13
    refine lp_find _ (f_X4_colour_L13_b σ (nI f) (msk (drn b) (bn b))) (fun s => drn b (nb (bW b) (bH b) f s)) 4 _ (by omega) (fun i rec hi => ?_) (fun rec => ?_)
    · have hno := ff_no (P := fun s => drn b (nb (bW b) (bH b) f s)) 4 i hi
      rw [hst i (by omega), if_neg (by rw [show drn b (nb (bW b) (bH b) f i) = false from hno]; exact Bool.false_ne_true)]
    · by_cases c : ff (fun s => drn b (nb (bW b) (bH b) f s)) 4 < 4
      · have hy := ff_yes (P := fun s => drn b (nb (bW b) (bH b) f s)) 4 c
        rw [hst _ c, if_pos hy, if_pos ((an_iff 4).mpr ⟨_, c, hy⟩)]
      · have e : ff (fun s => drn b (nb (bW b) (bH b) f s)) 4 = 4 := by omega
        rw [an_f (fun i hi => ff_no (P := fun s => drn b (nb (bW b) (bH b) f s)) 4 i (by omega)), if_neg Bool.false_ne_true, e]
        unfold f_X4_colour_L13_b
        rw [if_pos (show (4 : Int32) ≤ nI 4 by decide +kernel), gd_t (nI_inb (by omega) (by omega)), nI_clamp (by omega), hm.2.2.2.2 f (by omega)]
theorem B_coloured {x : XX} {σ : MM} (hR : Rel x σ) (a1 : Int32) : ∃ (r : Int32) (x' : XX) (σ' : MM), f_X3_coloured x a1 = some (r, x') ∧ f_X4_coloured σ a1 = some (r, σ') ∧ Rel x' σ' := by
  have hno := R_no' hR (-2) (Or.inl rfl)
  obtain ⟨b, t, mv0, sd, hb, hg, hm, hgs, hms⟩ := hR.1
  have hz : SZ (bW b) (bH b) := ⟨hb.1, hb.2.1⟩
  have sz := szs hz
  have hn : bn b ≤ 16 := sz.2.1
  unfold f_X3_coloured f_X4_coloured
  rcases seat_iff a1 with ⟨e1, e2⟩ | ⟨p, hp, rfl, e1, e2⟩
  · rw [e1, e2]; exact hno
  obtain ⟨r, r1, r2⟩ := tin_ok hb hg hp
  rw [e1, e2, if_pos rfl, if_pos rfl, r1, ob_s, drains_ok hz hm, ob_s]
  refine ⟨_, _, _, rfl, ?_, hR⟩
  rw [msk_eq hn r2]
  unfold f_X4_coloured_L26
  refine lp_msk _ (f_X4_coloured_L26_b σ (nI p) (msk (drn b) (bn b))) (tin b p) (bn b) _ (by omega) (fun i rec y hi => ?_) (fun rec => ?_)
  · unfold f_X4_coloured_L26_b
    rw [wh_ok hm, if_neg (nI_ge hi (by omega)), colour_ok hb hm hi, ob_s]
    simp only [lt_e, ← nI_succ, coI_iff hb i hp]
  · unfold f_X4_coloured_L26_b
    rw [wh_ok hm, if_pos (nI_le (Nat.le_refl _) (by omega))]
-- lanes
def ln1 (b : BD) (p f : Nat) : Bool := tin b p f && (decide (f % bW b + 2 < bW b) && (tin b p (f + 1) && tin b p (f + 2)))
def ln2 (b : BD) (p f : Nat) : Bool := tin b p f && (decide (f / bW b + 2 < bH b) && (tin b p (f + bW b) && tin b p (f + 2 * bW b)))
def ln (b : BD) (p : Nat) : Nat := cn (ln1 b p) (bn b) + cn (ln2 b p) (bn b)
theorem row_end {W i : Nat} (hW : 1 ≤ W ∧ W ≤ 4) : (i % W + 2 < W) ↔ (¬ i % W + 1 = W ∧ ¬ (i + 1) % W + 1 = W) := by
  rcases w4 hW with rfl | rfl | rfl | rfl <;> omega
theorem col_end {W H i : Nat} (hW : 1 ≤ W ∧ W ≤ 4) : (i / W + 2 < H) ↔ i + 2 * W < W * H := by
  rcases w4 hW with rfl | rfl | rfl | rfl <;> omega
theorem row_in {W H i : Nat} (hW : 1 ≤ W ∧ W ≤ 4) (h : i < W * H) (h2 : i % W + 2 < W) : i + 2 < W * H := by
  rcases w4 hW with rfl | rfl | rfl | rfl <;> omega
theorem lanesX_ok {g : GG} {b : BD} (hz : SZ (bW b) (bH b)) (hg : GB g b) {p : Nat} {a : Int32} (ha : ∀ i, i < 32 → bt a i = (decide (i < bn b) && tin b p i)) : f_X0_lanesAmong g a = nI (ln b p) := by
  have sz := szs hz
  have hn : bn b ≤ 16 := sz.2.1
  have hW := hz.1
  generalize hS : (fun i => decide (i < bn b) && tin b p i) = S
  have hSe : ∀ i, S i = (decide (i < bn b) && tin b p i) := fun i => by rw [← hS]
  have hA : ∀ i, bt a i = S i := bt_all hn (fun i hi => by rw [ha i hi, hSe]) (fun i h => by rw [hSe, Bool.and_eq_true, decide_eq_true_eq] at h; exact h.1)
  have hr : ∀ j, bt (g_rightmost g) j = (decide (j < bn b) && decide (j % bW b + 1 = bW b)) := bt_all hn (fun j hj => hg.1.2.2.2.2.2.2.2.1 j hj) (fun i h => by rw [Bool.and_eq_true, decide_eq_true_eq] at h; exact h.1)
  have l1 : ∀ i, i < 32 → bt ((((a &&& (iushr a 1)) &&& (iushr a 2)) &&& ((g_rightmost g) ^^^ (-1))) &&& ((iushr (g_rightmost g) 1) ^^^ (-1))) i = (decide (i < bn b) && ln1 b p i) := fun i hi => by
    rw [bt_and, bt_and, bt_and, bt_and, bt_not hi, bt_not hi, bt_iushr1, bt_iushr1, show bt (iushr a 2) i = bt a (i + 2) from bt_iushr a (k := 2) (by omega) i, hA, hA, hA, hr, hr, hSe, hSe, hSe]
    unfold ln1
    by_cases c : i < bn b
    · rw [decide_eq_true c]
      by_cases d : i % bW b + 2 < bW b
      · have d2 := (row_end hW).mp d
        have d3 : i + 2 < bn b := row_in hW c d
        rw [decide_eq_true d, decide_eq_false d2.1, decide_eq_false d2.2, decide_eq_true d3, decide_eq_true (show i + 1 < bn b by omega)]
        simp [Bool.and_assoc]
      · rw [decide_eq_false d]
        by_cases d4 : i % bW b + 1 = bW b
        · rw [decide_eq_true d4]; simp
        · have d5 : (i + 1) % bW b + 1 = bW b := Classical.byContradiction (fun hh => d ((row_end hW).mpr ⟨d4, hh⟩))
          rw [decide_eq_true d5]
          by_cases d6 : i + 1 < bn b
          · rw [decide_eq_true d6]; simp
          · rw [decide_eq_false d6]; simp
    · rw [decide_eq_false c]; simp
  have l2 : ∀ i, i < 32 → bt ((a &&& (iushr a (g_width g))) &&& (iushr a (2 * (g_width g)))) i = (decide (i < bn b) && ln2 b p i) := fun i hi => by
    have e2 : (2 : Int32) * nI (bW b) = nI (2 * bW b) := nn_mul 2 (bW b)
    rw [bt_and, bt_and, hg.1.1, e2, bt_iushr _ (by omega), bt_iushr _ (by omega), hA, hA, hA, hSe, hSe, hSe]
    unfold ln2
    have hc := col_end (W := bW b) (H := bH b) (i := i) hW
    have hbn : bn b = bW b * bH b := rfl
    by_cases c : i < bn b
    · rw [decide_eq_true c]
      by_cases d : i / bW b + 2 < bH b
      · have d2 := hc.mp d
        rw [decide_eq_true d, decide_eq_true (show i + 2 * bW b < bn b by omega), decide_eq_true (show i + bW b < bn b by omega)]
        simp [Bool.and_assoc]
      · have d2 : ¬ i + 2 * bW b < bn b := fun hh => d (hc.mpr (by omega))
        rw [decide_eq_false d, decide_eq_false d2]; simp
    · rw [decide_eq_false c]; simp
  unfold f_X0_lanesAmong ln
  rw [lt_e, lt_e, cnt_f hn l1, cnt_f hn l2, nn_add]
theorem idiv_ok : ∀ W, W < 5 → 0 < W → ∀ i, i < 20 → idiv (nI i) (nI W) = nI (i / W) ∧ irem (nI i) (nI W) = nI (i % W) ∧ nz (nI W) = true := by decide +kernel
theorem lanesM_ok {σ : MM} {b : BD} (hb : BOK b) (hm : MB σ b) {p : Nat} (hp : p < 2) : f_X4_lanesOf σ (nI p) = some (nI (ln b p)) := by
  have hz : SZ (bW b) (bH b) := ⟨hb.1, hb.2.1⟩
  have sz := szs hz
  have hn : bn b ≤ 16 := sz.2.1
  have hW := hz.1
  have hH := hz.2
  have hbn : bn b = bW b * bH b := rfl
  unfold f_X4_lanesOf
  rw [drains_ok hz hm, ob_s]
  have h83 : ∀ (rec : Int32 → Int32 → Option Int32) (c i : Nat), i < bn b → tin b p i = true → f_X4_lanesOf_b83 σ (nI p) (msk (drn b) (bn b)) rec (nI c) (nI i) = rec (nI (c + cb (ln2 b p i))) (nI (i + 1)) := fun rec c i hi ht => by
    have q := idiv_ok (bW b) (by omega) (by omega) i (by omega)
    have hc := col_end (W := bW b) (H := bH b) (i := i) hW
    have e2 : (2 : Int32) * nI (bW b) = nI (2 * bW b) := nn_mul 2 (bW b)
    have ediv : nI (i / bW b) + 2 = nI (i / bW b + 2) := nn_add _ 2
    have hd : i / bW b ≤ i := Nat.div_le_self i (bW b)
    unfold f_X4_lanesOf_b83 ln2
    rw [hm.1, hm.2.1, gd_t q.2.2, q.1, ht, Bool.true_and, ediv, e2, nn_add, nn_add]
    simp only [lt_e, ← nI_succ]
    by_cases d : i / bW b + 2 < bH b
    · have d2 := hc.mp d
      rw [if_neg (nI_ge d (by omega)), colour_ok hb hm (show i + bW b < bn b by omega), ob_s, colour_ok hb hm (show i + 2 * bW b < bn b by omega), ob_s, decide_eq_true d, Bool.true_and]
      simp only [coI_iff hb _ hp]
      cases tin b p (i + bW b) with
      | false => rfl
      | true =>
        cases tin b p (i + 2 * bW b) with
        | false => rfl
        | true => rfl
    · rw [if_pos (nI_le (by omega) (by omega)), decide_eq_false d]; rfl
  have h := lp_FU (fun _ _ => none) (f_X4_lanesOf_L10_b σ (nI p) (msk (drn b) (bn b))) (fun f (q : Int32 × Int32) => f q.1 q.2) (fun i => (nI (cn (ln1 b p) i + cn (ln2 b p) i), nI i)) (bn b) (some (nI (ln b p))) (fun i rec hi => by
      show f_X4_lanesOf_L10_b σ (nI p) (msk (drn b) (bn b)) rec (nI (cn (ln1 b p) i + cn (ln2 b p) i)) (nI i) = rec (nI (cn (ln1 b p) (i + 1) + cn (ln2 b p) (i + 1))) (nI (i + 1))
      have q := idiv_ok (bW b) (by omega) (by omega) i (by omega)
      have hmod : i % bW b < bW b := Nat.mod_lt i (by omega)
      rw [cn_s, cn_s]
      unfold f_X4_lanesOf_L10_b
      rw [wh_ok hm, if_neg (nI_ge hi (by omega)), colour_ok hb hm hi, ob_s]
      simp only [coI_iff hb _ hp]
      cases ht : tin b p i with
      | false =>
        have z1 : ln1 b p i = false := by unfold ln1; rw [ht]; rfl
        have z2 : ln2 b p i = false := by unfold ln2; rw [ht]; rfl
        rw [z1, z2, if_neg Bool.false_ne_true, lt_e, ← nI_succ]
        rfl
      | true =>
        have erem : nI (i % bW b) + 2 = nI (i % bW b + 2) := nn_add _ 2
        have e1 : nI i + 1 = nI (i + 1) := nn_add i 1
        have e2 : nI i + 2 = nI (i + 2) := nn_add i 2
        rw [if_pos rfl, hm.1, gd_t q.2.2, q.2.1, erem, e1, e2, h83 rec _ i hi ht, show cn (ln1 b p) i + cb (ln1 b p i) + (cn (ln2 b p) i + cb (ln2 b p i)) = cn (ln1 b p) i + cn (ln2 b p) i + cb (ln1 b p i) + cb (ln2 b p i) by omega]
        by_cases d : i % bW b + 2 < bW b
        · have d3 := row_in (H := bH b) hW (show i < bW b * bH b by omega) d
          rw [if_neg (nI_ge d (by omega)), colour_ok hb hm (show i + 1 < bn b by omega), ob_s, colour_ok hb hm (show i + 2 < bn b by omega), ob_s]
          have z : ln1 b p i = (tin b p (i + 1) && tin b p (i + 2)) := by unfold ln1; rw [ht, decide_eq_true d]; rfl
          rw [z]
          simp only [coI_iff hb _ hp, lt_e, ← nI_succ]
          cases tin b p (i + 1) with
          | false => rfl
          | true =>
            cases tin b p (i + 2) with
            | false => rfl
            | true => rw [if_pos rfl, if_pos rfl, h83 rec _ i hi ht]; rfl
        · have z : ln1 b p i = false := by unfold ln1; rw [decide_eq_false d, Bool.false_and, Bool.and_false]
          rw [if_pos (nI_le (by omega) (by omega)), z]; rfl) (fun rec => by
      show f_X4_lanesOf_L10_b σ (nI p) (msk (drn b) (bn b)) rec _ (nI (bn b)) = _
      unfold f_X4_lanesOf_L10_b
      rw [wh_ok hm, if_pos (nI_le (Nat.le_refl _) (by omega))]
      rfl) (by omega)
  unfold f_X4_lanesOf_L10
  exact h
def sco (b : BD) (p : Nat) : Nat := cn (tin b p) (bn b) + ln b (1 - p)
theorem one_sub : ∀ p, p < 2 → (1 : Int32) - nI p = nI (1 - p) := by decide +kernel
theorem scoreM_ok {σ : MM} {b : BD} (hb : BOK b) (hm : MB σ b) {p : Nat} (hp : p < 2) : f_X4_scoreOf σ (nI p) = some (nI (sco b p)) := by
  have hz : SZ (bW b) (bH b) := ⟨hb.1, hb.2.1⟩
  have sz := szs hz
  have hn : bn b ≤ 16 := sz.2.1
  unfold f_X4_scoreOf f_X4_scoreOf_L16
  rw [drains_ok hz hm, ob_s, one_sub p hp, lanesM_ok hb hm (show 1 - p < 2 by omega), ob_s]
  refine lp_cnt _ (f_X4_scoreOf_L16_b σ (nI p) (msk (drn b) (bn b))) (tin b p) (bn b) (ln b (1 - p)) _ (by omega) (fun i rec y hi => ?_) (fun rec => ?_)
  · unfold f_X4_scoreOf_L16_b
    rw [wh_ok hm, if_neg (nI_ge hi (by omega)), colour_ok hb hm hi, ob_s]
    simp only [lt_e, ← nI_succ, coI_iff hb i hp]
  · unfold f_X4_scoreOf_L16_b
    rw [wh_ok hm, if_pos (nI_le (Nat.le_refl _) (by omega))]
    unfold sco
    rw [Nat.add_comm]
theorem scoreX_ok {g : GG} {b : BD} (hb : BOK b) (hg : GB g b) {p : Nat} (hp : p < 2) : f_X0_scoreOf g (nI p) = some (nI (sco b p)) := by
  have hz : SZ (bW b) (bH b) := ⟨hb.1, hb.2.1⟩
  have hn : bn b ≤ 16 := (szs hz).2.1
  obtain ⟨r, r1, r2⟩ := tin_ok hb hg hp
  obtain ⟨q, q1, q2⟩ := tin_ok hb hg (show 1 - p < 2 by omega)
  unfold f_X0_scoreOf sco
  rw [one_sub p hp, r1, ob_s, q1, ob_s, cnt_f hn r2, lanesX_ok hz hg q2, nn_add]
def led (b : BD) (p : Nat) : Int32 := nI (sco b p) - nI (sco b (1 - p))
theorem leadM_ok {σ : MM} {b : BD} (hb : BOK b) (hm : MB σ b) {p : Nat} (hp : p < 2) : f_X4_leadOf σ (nI p) = some (led b p) := by
  unfold f_X4_leadOf led
  rw [one_sub p hp, scoreM_ok hb hm hp, ob_s, scoreM_ok hb hm (show 1 - p < 2 by omega), ob_s]
theorem i4 (a b c d : Int32) : a + b - c - d = a + b - (c + d) := by
  rw [Int32.sub_eq_add_neg, Int32.sub_eq_add_neg, Int32.sub_eq_add_neg, Int32.neg_add, Int32.sub_eq_add_neg, Int32.add_assoc (a + b)]
theorem leadX_ok {g : GG} {b : BD} (hb : BOK b) (hg : GB g b) {p : Nat} (hp : p < 2) : f_X0_leadOf g (nI p) = some (led b p) := by
  have hz : SZ (bW b) (bH b) := ⟨hb.1, hb.2.1⟩
  have hn : bn b ≤ 16 := (szs hz).2.1
  obtain ⟨r, r1, r2⟩ := dry_ok hb hg
  have ht : ∀ p, p < 2 → ∀ i, i < 32 → bt ((f_X0_ownedBy g (nI p)) &&& r) i = (decide (i < bn b) && tin b p i) := fun p hp i hi => by
    rw [bt_and, own_bits hb hg hp hi, r2 i hi]
    exact (by decide : ∀ p q r : Bool, ((p && q) && (p && r)) = (p && (q && r))) _ _ _
  have h1 := ht p hp
  have h2 := ht (1 - p) (by omega)
  unfold f_X0_leadOf led sco
  rw [r1, ob_s, lt_e, lt_e, one_sub p hp, cnt_f hn h1, cnt_f hn h2, lanesX_ok hz hg h1, lanesX_ok hz hg h2, i4, nn_add, nn_add, show 1 - (1 - p) = p by omega]
theorem B_score {x : XX} {σ : MM} (hR : Rel x σ) (a1 : Int32) : ∃ (r : Int32) (x' : XX) (σ' : MM), f_X3_score x a1 = some (r, x') ∧ f_X4_score σ a1 = some (r, σ') ∧ Rel x' σ' := by
  have hno := R_no' hR (-2) (Or.inl rfl)
  obtain ⟨b, t, mv0, sd, hb, hg, hm, hgs, hms⟩ := hR.1
  unfold f_X3_score f_X4_score
  rcases seat_iff a1 with ⟨e1, e2⟩ | ⟨p, hp, rfl, e1, e2⟩
  · rw [e1, e2]; exact hno
  rw [e1, e2, if_pos rfl, if_pos rfl, scoreX_ok hb hg hp, scoreM_ok hb hm hp, ob_s, ob_s]
  exact ⟨_, _, _, rfl, rfl, hR⟩
theorem R_noL {x : XX} {σ : MM} (hR : Rel x σ) (c : Int32) (hc : c = -2 ∨ c = -3 ∨ c = -4 ∨ c = -5 ∨ c = -6) : ∃ r x' σ', ob2 (f_X3_refuseLead x c) (fun a s => some (a, s)) = some (r, x') ∧ ob2 (f_X4_noLead σ c) (fun a s => some (a, s)) = some (r, σ') ∧ Rel x' σ' := by
  obtain ⟨x', σ', h1, h2, h3⟩ := R_no hR c hc
  refine ⟨c - 1000, x', σ', ?_, ?_, h3⟩
  · unfold f_X3_refuseLead
    rw [h1, ob2_s, ob2_s, show (-1000 : Int32) + c = c - 1000 by rw [Int32.sub_eq_add_neg, Int32.add_comm]]
  · unfold f_X4_noLead
    rw [h2, ob2_s, ob2_s]
theorem B_lead {x : XX} {σ : MM} (hR : Rel x σ) (a1 : Int32) : ∃ (r : Int32) (x' : XX) (σ' : MM), f_X3_lead x a1 = some (r, x') ∧ f_X4_lead σ a1 = some (r, σ') ∧ Rel x' σ' := by
  have hno := R_noL hR (-2) (Or.inl rfl)
  obtain ⟨b, t, mv0, sd, hb, hg, hm, hgs, hms⟩ := hR.1
  unfold f_X3_lead f_X4_lead
  rcases seat_iff a1 with ⟨e1, e2⟩ | ⟨p, hp, rfl, e1, e2⟩
  · rw [e1, e2]; exact hno
  rw [e1, e2, if_pos rfl, if_pos rfl, leadX_ok hb hg hp, leadM_ok hb hm hp, ob_s, ob_s]
  exact ⟨_, _, _, rfl, rfl, hR⟩
theorem B_lanes {x : XX} {σ : MM} (hR : Rel x σ) (a1 : Int32) : ∃ (r : Int32) (x' : XX) (σ' : MM), f_X3_lanes x a1 = some (r, x') ∧ f_X4_lanes σ a1 = some (r, σ') ∧ Rel x' σ' := by
  have hno := R_no' hR (-2) (Or.inl rfl)
  obtain ⟨b, t, mv0, sd, hb, hg, hm, hgs, hms⟩ := hR.1
  have hz : SZ (bW b) (bH b) := ⟨hb.1, hb.2.1⟩
  unfold f_X3_lanes f_X4_lanes
  rcases seat_iff a1 with ⟨e1, e2⟩ | ⟨p, hp, rfl, e1, e2⟩
  · rw [e1, e2]; exact hno
  obtain ⟨r, r1, r2⟩ := tin_ok hb hg hp
  rw [e1, e2, if_pos rfl, if_pos rfl, r1, ob_s, lanesX_ok hz hg r2, lanesM_ok hb hm hp, ob_s]
  exact ⟨_, _, _, rfl, rfl, hR⟩
theorem B_leader {x : XX} {σ : MM} (hR : Rel x σ)  : ∃ (r : Int32), f_X3_leader x  = some r ∧ f_X4_leader σ  = some r ∧ Rel x σ := by
  obtain ⟨b, t, mv0, sd, hb, hg, hm, hgs, hms⟩ := hR.1
  unfold f_X3_leader f_X4_leader
  rw [show (0 : Int32) = nI 0 from rfl, leadX_ok hb hg (p := 0) (by omega), leadM_ok hb hm (p := 0) (by omega), ob_s, ob_s, show nI 0 = (0 : Int32) from rfl]
  generalize led b 0 = v
  by_cases c : v = 0
  · subst c
    exact ⟨-1, rfl, rfl, hR⟩
  · rw [if_neg c]
    by_cases d : v ≤ 0
    · rw [if_pos d, if_pos d, if_neg (fun h => c (Int32.le_antisymm d h))]
      exact ⟨_, rfl, rfl, hR⟩
    · rw [if_neg d, if_neg d]
      exact ⟨_, rfl, rfl, hR⟩
