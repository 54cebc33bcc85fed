/-! The move a player makes -/
def fo (U : Nat → Bool) : Option Nat := if an U 64 = true then some (ff U 64) else none
def eo : Option Nat → Int32
  | none => -1
  | some s => nI s
def emv : Option Nat → Int32
  | none => -1
  | some s => nI (mv s)
theorem fo_some {U : Nat → Bool} {s : Nat} (h : fo U = some s) : s < 64 ∧ U s = true ∧ ∀ i, i < s → U i = false := by
  unfold fo at h
  by_cases c : an U 64 = true
  · rw [if_pos c] at h
    rw [an_ff, decide_eq_true_eq] at c
    rw [← Option.some.inj h]
    exact ⟨c, ff_yes 64 c, ff_no 64⟩
  · rw [if_neg c] at h; cases h
theorem fo_none {U : Nat → Bool} (h : fo U = none) : ∀ i, i < 64 → U i = false := by
  intro i hi
  unfold fo at h
  by_cases c : an U 64 = true
  · rw [if_pos c] at h; cases h
  · cases hu : U i with
    | false => rfl
    | true => exact absurd ((an_iff 64).mpr ⟨i, hi, hu⟩) c
theorem fo_zero {U : Nat → Bool} (h : ∀ i, i < 64 → U i = false) : fo U = none := by
  unfold fo
  rw [an_f h, if_neg Bool.false_ne_true]
theorem fo_of {U : Nat → Bool} {n : Nat} (hn : n ≤ 64) (h : ∀ i, n ≤ i → i < 64 → U i = false) : fo U = if ff U n < n then some (ff U n) else none := by
  unfold fo
  rw [an_up hn h, an_ff]
  by_cases c : ff U n < n
  · rw [if_pos c, if_pos (decide_eq_true c), ff_up hn c]
  · rw [if_neg c, if_neg (by rw [decide_eq_false c]; exact Bool.false_ne_true)]
theorem firstSlot_fo {y : Int64} {U : Nat → Bool} (h : ∀ i, i < 64 → bl y i = U i) : f_X3_firstSlot y = eo (fo U) := by
  cases hf : fo U with
  | none =>
    have : y = 0 := bl_eq0.mpr (fun i hi => by rw [h i hi]; exact fo_none hf i hi)
    rw [this]; exact firstSlot_0
  | some s =>
    obtain ⟨h1, h2, h3⟩ := fo_some hf
    exact firstSlot_at h1 (by rw [h s h1]; exact h2) (fun i hi => by rw [h i (by omega)]; exact h3 i hi)
theorem lg0_fo {y : Int64} {U : Nat → Bool} (h : ∀ i, i < 64 → bl y i = U i) : (lg_cmp y 0) = 0 ↔ fo U = none := by
  rw [lg_cmp_eq, bl_eq0]
  constructor
  · intro hh; exact fo_zero (fun i hi => by rw [← h i hi]; exact hh i hi)
  · intro hh i hi; rw [h i hi]; exact fo_none hh i hi
theorem moveOf_eo (U : Nat → Bool) : f_X3_moveOf (eo (fo U)) = emv (fo U) := by
  cases hf : fo U with
  | none => exact moveOf_m1
  | some s => exact moveOf_ok s (fo_some hf).1
/-- slots to dig -/
def uD (b : BD) (a r s : Nat) : Bool := decide (40 ≤ s) && (decide (s - 40 < bn b) && ((sf b (s - 40) && (decide (r = 0) || rf (bW b) (bH b) (s - 40))) && decide (cn (bd b) (bn b) < a)))
theorem uS_os {b : BD} {s : Nat} (h : uS b s = true) : os b s = true ∧ s < be b := by
  unfold uS at h
  rw [Bool.and_eq_true, Bool.and_eq_true, decide_eq_true_eq] at h
  unfold os
  rw [decide_eq_true h.1.1, h.2]
  exact ⟨rfl, h.1.1⟩
theorem uC_os {b : BD} {s : Nat} (h : uC b s = true) : os b s = true ∧ s < be b := by
  unfold uC at h
  rw [Bool.and_eq_true, Bool.and_eq_true, decide_eq_true_eq] at h
  unfold os
  rw [decide_eq_true h.1, h.2.1]
  exact ⟨rfl, h.1⟩
theorem uD_os {b : BD} {a r s : Nat} (h : uD b a r s = true) : os b s = true := by
  unfold uD at h
  simp only [Bool.and_eq_true] at h
  unfold os
  rw [h.1, h.2.1, h.2.2.1.1, Bool.true_and, Bool.true_and, Bool.or_true]
theorem ith0_ok {σ : MM} {b : BD} (hz : SZ (bW b) (bH b)) (hm : MB σ b) : f_X4_ith σ 0 = some (emv (fo (os b))) := by
  rw [show (0 : Int32) = nI 0 from rfl]
  cases hf : fo (os b) with
  | none => exact ith_none hz hm (by omega) (by rw [cn_pm hz, cn_zero (fun i hi => fo_none hf i hi)]; exact Nat.le_refl 0)
  | some s =>
    obtain ⟨h1, h2, h3⟩ := fo_some hf
    exact ith_ok hz hm (mv_lt (os_lt hz h2).1) (by rw [pm_mv hz]; exact h2) (by rw [cn_mv hz]; exact cn_zero h3)
theorem shuts24 {σ : MM} {b : BD} (hz : SZ (bW b) (bH b)) (hm : MB σ b) {e : Nat} (he : e < be b) (k : Option Int32) : f_X4_shuts_L24 σ (nI e) k 0 = if (th3 b (fd (bW b) (bH b) e 0) || th3 b (fd (bW b) (bH b) e 1)) = true then some (nI e) else k := by
  have sz := szs hz
  have hn : bn b ≤ 16 := sz.2.1
  have fs : ∀ s, s < 2 → fd (bW b) (bH b) e s < bn b ∨ fd (bW b) (bH b) e s = 99 := fun s hs => by
    rcases (by omega : s = 0 ∨ s = 1) with rfl | rfl
    · exact (fd_lt hz he).1
    · exact (fd_lt hz he).2
  have hst : ∀ s, s < 2 → ∀ rec : Int32 → Option Int32, f_X4_shuts_L24_b σ (nI e) k rec (nI s) = if th3 b (fd (bW b) (bH b) e s) = true then some (nI e) else rec (nI (s + 1)) := fun s hs rec => by
    unfold f_X4_shuts_L24_b
    rw [if_neg (show ¬ (2 : Int32) ≤ nI s from nI_ge (b := 2) hs (by omega)), geo_mf hz hm.1 hm.2.1 he hs, ob_s, ob_s]
    simp only [lt_e, ← nI_succ]
    unfold th3
    rcases fs s hs with c | c
    · rw [show iF (fd (bW b) (bH b) e s) = nI (fd (bW b) (bH b) e s) from if_neg (by omega), if_neg (nI_ne1 (by omega)), hedges_ok hz hm c, ob_s, decide_eq_true c, Bool.true_and]
      have hc := cnt_le b (fd (bW b) (bH b) e s)
      by_cases d : cnt b (fd (bW b) (bH b) e s) = 3
      · rw [if_pos (show nI (cnt b (fd (bW b) (bH b) e s)) = 3 by rw [d]; rfl), if_pos (decide_eq_true d)]
      · rw [if_neg (show ¬ nI (cnt b (fd (bW b) (bH b) e s)) = 3 from fun h => d (nI_inj (b := 3) (by omega) (by omega) h)), if_neg (by rw [decide_eq_false d]; exact Bool.false_ne_true)]
    · rw [c, if_pos (show iF 99 = -1 by decide +kernel), decide_eq_false (show ¬ 99 < bn b by omega), Bool.false_and, if_neg Bool.false_ne_true]
  have ea : (th3 b (fd (bW b) (bH b) e 0) || th3 b (fd (bW b) (bH b) e 1)) = an (fun s => th3 b (fd (bW b) (bH b) e s)) 2 := by
    rw [an_s, an_s]
    show _ = ((false || th3 b (fd (bW b) (bH b) e 0)) || th3 b (fd (bW b) (bH b) e 1))
    rw [Bool.false_or]
  have hl := ff_le (fun s => th3 b (fd (bW b) (bH b) e s)) 2
  rw [ea, an_ff]
  unfold f_X4_shuts_L24
  refine lp_find _ (f_X4_shuts_L24_b σ (nI e) k) (fun s => th3 b (fd (bW b) (bH b) e s)) 2 _ (by omega) (fun i rec hi => ?_) (fun rec => ?_)
  · have hno := ff_no (P := fun s => th3 b (fd (bW b) (bH b) e s)) 2 i hi
    rw [hst i (by omega), if_neg (by rw [show th3 b (fd (bW b) (bH b) e i) = false from hno]; exact Bool.false_ne_true)]
  · by_cases c : ff (fun s => th3 b (fd (bW b) (bH b) e s)) 2 < 2
    · rw [hst _ c, if_pos (ff_yes (P := fun s => th3 b (fd (bW b) (bH b) e s)) 2 c), if_pos (decide_eq_true c)]
    · rw [if_neg (by rw [decide_eq_false c]; exact Bool.false_ne_true)]
      unfold f_X4_shuts_L24_b
      rw [if_pos (show (2 : Int32) ≤ nI _ from nI_le (a := 2) (by omega) (by omega))]
theorem emv_lo {b : BD} {U : Nat → Bool} (hE : be b ≤ 40) (h : ∀ i, U i = true → i < be b) : emv (fo U) = if ff U (be b) < be b then nI (ff U (be b)) else -1 := by
  rw [fo_of (n := be b) (by omega) (fun i h1 _ => S_off h h1)]
  by_cases c : ff U (be b) < be b
  · rw [if_pos c, if_pos c]
    show nI (mv (ff U (be b))) = _
    unfold mv
    rw [if_pos (by omega)]
  · rw [if_neg c, if_neg c]; rfl
theorem shutsM_ok {σ : MM} {b : BD} (hz : SZ (bW b) (bH b)) (hm : MB σ b) : f_X4_shuts σ = some (emv (fo (uS b))) := by
  have sz := szs hz
  have hE : be b ≤ 40 := sz.1
  rw [emv_lo hE (fun i h => (uS_os h).2)]
  have hst : ∀ e, e < be b → ∀ rec : Int32 → Option Int32, f_X4_shuts_L2_b σ rec (nI e) = if uS b e = true then some (nI e) else rec (nI (e + 1)) := fun e he rec => by
    unfold f_X4_shuts_L2_b uS
    rw [ed_ok hm, if_neg (nI_ge he (by omega)), gd_t (nI_inb (show e < 40 by omega) (by omega)), nI_clamp (by omega), hm.2.2.1 e (by omega), shuts24 hz hm he, decide_eq_true he, Bool.true_and]
    simp only [lt_e, ← nI_succ]
    cases bh b e with
    | true => rw [if_neg (show ¬ ib true = 0 by decide +kernel), Bool.not_true, Bool.and_false, if_neg Bool.false_ne_true]
    | false => rw [if_pos (show ib false = 0 by decide +kernel), Bool.not_false, Bool.and_true]
  have hl := ff_le (uS b) (be b)
  unfold f_X4_shuts f_X4_shuts_L2
  refine lp_find _ (f_X4_shuts_L2_b σ) (uS b) (be b) _ (by omega) (fun i rec hi => ?_) (fun rec => ?_)
  · rw [hst i (by omega), if_neg (by rw [ff_no (P := uS b) (be b) i hi]; exact Bool.false_ne_true)]
  · by_cases c : ff (uS b) (be b) < be b
    · rw [hst _ c, if_pos (ff_yes (P := uS b) _ c), if_pos c]
    · rw [if_neg c]
      unfold f_X4_shuts_L2_b
      rw [ed_ok hm, if_pos (nI_le (by omega) (by omega))]
theorem careful_ok {σ : MM} {b : BD} (hz : SZ (bW b) (bH b)) (hm : MB σ b) : f_X4_careful σ = some (emv (fo (uC b)), σ) := by
  have sz := szs hz
  have hE : be b ≤ 40 := sz.1
  rw [emv_lo hE (fun i h => (uC_os h).2)]
  have hst : ∀ e, e < be b → ∀ rec : Int32 → MM → Option (Int32 × MM), f_X4_careful_L2_b rec (nI e) σ = if uC b e = true then some (nI e, σ) else rec (nI (e + 1)) σ := fun e he rec => by
    unfold f_X4_careful_L2_b uC
    rw [ed_ok hm, if_neg (nI_ge he (by omega)), isCalm_ok hz hm he, ob2_s, decide_eq_true he, Bool.true_and]
    simp only [lt_e, ← nI_succ]
  have hl := ff_le (uC b) (be b)
  have h := lp_FU (fun _ _ => none) f_X4_careful_L2_b (fun f (p : Int32 × MM) => f p.1 p.2) (fun i => (nI i, σ)) (ff (uC b) (be b)) (some ((if ff (uC b) (be b) < be b then nI (ff (uC b) (be b)) else -1), σ)) (fun i rec hi => by
      show f_X4_careful_L2_b rec (nI i) σ = rec (nI (i + 1)) σ
      rw [hst i (by omega), if_neg (by rw [ff_no (P := uC b) (be b) i hi]; exact Bool.false_ne_true)]) (fun rec => by
      show f_X4_careful_L2_b rec (nI (ff (uC b) (be b))) σ = _
      by_cases c : ff (uC b) (be b) < be b
      · rw [hst _ c, if_pos (ff_yes (P := uC b) _ c), if_pos c]
      · rw [if_neg c]
        unfold f_X4_careful_L2_b
        rw [ed_ok hm, if_pos (nI_le (by omega) (by omega))]) (by omega)
  unfold f_X4_careful f_X4_careful_L2
  exact h
theorem digs_ok {σ : MM} {b : BD} (hz : SZ (bW b) (bH b)) (hm : MB σ b) {a r : Nat} (ha : a < 10) (hr : r < 2) : f_X4_digs σ (nI a) (nI r) = some (emv (fo (uD b a r))) := by
  have sz := szs hz
  have hn : bn b ≤ 16 := sz.2.1
  have hcd := cn_le (bd b) (bn b)
  have hD : fo (uD b a r) = if cn (bd b) (bn b) < a then (if ff (fun f => sf b f && (decide (r = 0) || rf (bW b) (bH b) f)) (bn b) < bn b then some (40 + ff (fun f => sf b f && (decide (r = 0) || rf (bW b) (bH b) f)) (bn b)) else none) else none := by
    generalize hD0 : (fun f => sf b f && (decide (r = 0) || rf (bW b) (bH b) f)) = D
    have hu : ∀ s, uD b a r s = (decide (40 ≤ s) && (decide (s - 40 < bn b) && (D (s - 40) && decide (cn (bd b) (bn b) < a)))) := fun s => by rw [← hD0]; rfl
    by_cases c : cn (bd b) (bn b) < a
    · rw [if_pos c]
      by_cases d : ff D (bn b) < bn b
      · rw [if_pos d]
        have h1 : uD b a r (40 + ff D (bn b)) = true := by
          rw [hu, decide_eq_true (show 40 ≤ 40 + ff D (bn b) by omega), show 40 + ff D (bn b) - 40 = ff D (bn b) by omega, decide_eq_true d, ff_yes (P := D) _ d, decide_eq_true c]; rfl
        have h2 : ff (uD b a r) 64 = 40 + ff D (bn b) := ff_eq (by omega) h1 (fun i hi => by
          rw [hu]
          by_cases e : 40 ≤ i
          · rw [ff_no (P := D) (bn b) (i - 40) (by omega)]; simp
          · rw [decide_eq_false e]; rfl)
        unfold fo
        rw [(an_iff 64).mpr ⟨_, by omega, h1⟩, if_pos rfl, h2]
      · rw [if_neg d]
        have hl := ff_le D (bn b)
        exact fo_zero (fun i hi => by
          rw [hu]
          by_cases e : i - 40 < bn b
          · rw [ff_no (P := D) (bn b) (i - 40) (by omega)]; simp
          · rw [decide_eq_false e]; simp)
    · rw [if_neg c]
      exact fo_zero (fun i hi => by rw [hu, decide_eq_false c]; simp)
  rw [hD]
  unfold f_X4_digs f_X4_digs_L5
  refine lp_cnt _ (f_X4_digs_L5_b σ (fun x7 => f_X4_digs_L41 σ (nI a) (nI r) x7 0)) (bd b) (bn b) 0 _ (by omega) (fun i rec y hi => ?_) (fun rec => ?_)
  · unfold f_X4_digs_L5_b
    rw [wh_ok hm, if_neg (nI_ge hi (by omega)), gd_t (nI_inb (show i < 16 by omega) (by omega)), nI_clamp (by omega), hm.2.2.2.1 i (by omega)]
    simp only [lt_e, ← nI_succ]
    cases bd b i with
    | true => rfl
    | false => rfl
  · unfold f_X4_digs_L5_b
    rw [wh_ok hm, if_pos (nI_le (Nat.le_refl _) (by omega)), Nat.zero_add]
    generalize hD0 : (fun f => sf b f && (decide (r = 0) || rf (bW b) (bH b) f)) = D
    unfold f_X4_digs_L41
    by_cases c : cn (bd b) (bn b) < a
    · rw [if_pos c]
      have hst : ∀ f, f < bn b → ∀ rec : Int32 → Option Int32, f_X4_digs_L41_b σ (nI a) (nI r) (nI (cn (bd b) (bn b))) rec (nI f) = if D f = true then some (nI (f + 100)) else rec (nI (f + 1)) := fun f hf rec => by
        have e100 : (100 : Int32) + nI f = nI (f + 100) := by rw [show (100 : Int32) = nI 100 from rfl, nn_add, Nat.add_comm]
        unfold f_X4_digs_L41_b
        rw [wh_ok hm, if_neg (nI_ge hf (by omega)), if_neg (nI_ge c (by omega)), e100, mayF hz hm hf, ob_s, hasRim_ok hz hm.1 hm.2.1 hf, ob_s, ← hD0]
        simp only [lt_e, ← nI_succ]
        show (if sf b f = true then _ else _) = if (sf b f && (decide (r = 0) || rf (bW b) (bH b) f)) = true then _ else _
        cases sf b f with
        | false => rfl
        | true =>
          rcases (by omega : r = 0 ∨ r = 1) with rfl | rfl
          · rfl
          · rw [if_pos rfl, if_neg (show ¬ nI 1 = 0 by decide +kernel), decide_eq_false (show ¬ 1 = 0 by omega), Bool.true_and, Bool.false_or]
      have hl := ff_le D (bn b)
      refine lp_find _ (f_X4_digs_L41_b σ (nI a) (nI r) (nI (cn (bd b) (bn b)))) D (bn b) _ (by omega) (fun i rec hi => ?_) (fun rec => ?_)
      · rw [hst i (by omega), if_neg (by rw [ff_no (P := D) (bn b) i hi]; exact Bool.false_ne_true)]
      · by_cases d : ff D (bn b) < bn b
        · rw [hst _ d, if_pos (ff_yes (P := D) _ d), if_pos d]
          show _ = some (nI (mv (40 + ff D (bn b))))
          unfold mv
          rw [if_neg (by omega), show 40 + ff D (bn b) + 60 = ff D (bn b) + 100 by omega]
        · rw [if_neg d]
          unfold f_X4_digs_L41_b
          rw [wh_ok hm, if_pos (nI_le (by omega) (by omega))]
          rfl
    · rw [if_neg c]
      refine lp_find _ (f_X4_digs_L41_b σ (nI a) (nI r) (nI (cn (bd b) (bn b)))) (fun _ => true) 0 _ (by omega) (fun i rec hi => absurd hi (Nat.not_lt_zero i)) (fun rec => ?_)
      unfold f_X4_digs_L41_b
      rw [wh_ok hm]
      by_cases d : nI (bn b) ≤ nI (ff (fun _ => true) 0)
      · rw [if_pos d]; rfl
      · rw [if_neg d, if_pos (nI_le (by omega) (by omega))]; rfl
theorem digsX_ok {g : GG} {b : BD} (hb : BOK b) (hg : GB g b) {a r : Nat} {m : Int32} (ha : a < 10) (hmk : ∀ i, i < 32 → bt m i = (decide (i < bn b) && (decide (r = 0) || rf (bW b) (bH b) i))) : ∀ i, i < 64 → bl (f_X0_digsBelow g (nI a) m) i = uD b a r i := by
  have hz : SZ (bW b) (bH b) := ⟨hb.1, hb.2.1⟩
  have sz := szs hz
  have hn : bn b ≤ 16 := sz.2.1
  have hcd := cn_le (bd b) (bn b)
  intro i hi
  unfold f_X0_digsBelow uD
  rw [cnt_f (P := bd b) hn (fun i hi => by
      rw [hg.2.2.1 i hi]
      by_cases h : i < bn b
      · rw [decide_eq_true h]; rfl
      · rw [decide_eq_false h, (hb.2.2.2.1 i (by omega)).1]; rfl)]
  by_cases c : cn (bd b) (bn b) < a
  · rw [if_neg (nI_ge c (by omega)), decide_eq_true c, Bool.and_true, show (40 : Int32) = nI 40 from rfl, bl_lshl _ (by omega), decide_eq_true hi, Bool.true_and]
    by_cases d : 40 ≤ i
    · rw [decide_eq_true d, Bool.true_and, Bool.true_and, bl_toInt64, decide_eq_true (show i - 40 < 64 by omega), Bool.true_and, if_pos (show i - 40 < 32 by omega), bt_and, soft_bits hb hg (by omega), hmk _ (by omega)]
      exact (by decide : ∀ p q r : Bool, ((p && q) && (p && r)) = (p && (q && r))) _ _ _
    · rw [decide_eq_false d]; rfl
  · rw [if_pos (nI_le (by omega) (by omega)), bl_0, decide_eq_false c]; simp
theorem kind_ok {x : XX} {p : Nat} (hp : p < 6) : f_X3_kindOf x (nI p) = some (x_kinds x p) ∧ f_X3_amountOf x (nI p) = some (x_amounts x p) := by
  have c6 : ¬ (6 : Int32) ≤ nI p := nI_ge (b := 6) hp (by omega)
  unfold f_X3_kindOf f_X3_amountOf
  rw [if_neg (nI_pos (by omega)), if_neg (nI_pos (by omega)), if_neg c6, if_neg c6, gd_t (nI_inb hp (by omega)), gd_t (nI_inb hp (by omega)), nI_clamp (by omega)]
  exact ⟨rfl, rfl⟩
theorem iush16 (x : Int32) : ∃ v, v < 65536 ∧ iushr x 16 = nI v := by
  refine ⟨NI x / 65536, by have := NI_lt x; omega, ?_⟩
  apply NI_inj
  have := NI_lt x
  rw [NI_nI (by omega)]
  exact NI_shr x (k := 16) (by omega)
theorem kind_cases {k : Nat} (hk : k < 6) : k = 0 ∨ k = 1 ∨ k = 2 ∨ k = 3 ∨ k = 4 ∨ k = 5 := by omega
/-- of whom the choice is spoken -/
def KP (x : XX) (σ : MM) (p : Nat) : Prop := p < 6 ∧ x_kinds x p = m_kind σ p ∧ x_amounts x p = m_own σ p ∧ (∃ k, k < 6 ∧ m_kind σ p = nI k) ∧ ∃ a, a < 10 ∧ m_own σ p = nI a
theorem or_pick {U V : Nat → Bool} (o : Option Nat) (h : o = (fo U).or (fo V)) : o = if an U 64 = true then fo U else fo V := by
  rw [h]
  unfold fo
  by_cases c : an U 64 = true
  · rw [if_pos c, if_pos c]; rfl
  · rw [if_neg c, if_neg c]; rfl
theorem pick2 {y4 y5 : Int64} {U : Nat → Bool} {b : BD} (h4 : ∀ i, i < 64 → bl y4 i = os b i) (h5 : ∀ i, i < 64 → bl y5 i = U i) (x : XX) : f_X3_chosenSlot_thought_b125 y4 y5 x = some (eo ((fo U).or (fo (os b))), x) ∧ f_X3_chosenSlot_now_b125 y4 y5 x = some (eo ((fo U).or (fo (os b))), x) := by
  have hz := lg0_fo h5
  unfold f_X3_chosenSlot_thought_b125 f_X3_chosenSlot_now_b125
  cases hf : fo U with
  | none =>
    rw [if_pos (hz.mpr hf), firstSlot_fo h4]
    exact ⟨rfl, rfl⟩
  | some s =>
    rw [if_neg (fun hh => by rw [hz.mp hh] at hf; cases hf), firstSlot_fo h5, hf]
    exact ⟨rfl, rfl⟩
theorem emv_if {U : Nat → Bool} {b : BD} (hz : SZ (bW b) (bH b)) (hU : ∀ i, U i = true → os b i = true) {σ : MM} (hm : MB σ b) : (if emv (fo U) = -1 then ob (f_X4_ith σ 0) (fun v => some (v, σ)) else some (emv (fo U), σ)) = some (emv ((fo U).or (fo (os b))), σ) := by
  cases hf : fo U with
  | none =>
    rw [if_pos (show emv none = -1 from rfl), ith0_ok hz hm, ob_s]
    rfl
  | some s =>
    have := (os_lt hz (hU s (fo_some hf).2.1)).1
    have := mv_lt this
    rw [if_neg (show ¬ emv (some s) = -1 from nI_ne1 (by omega))]
    rfl
