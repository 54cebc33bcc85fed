/-! What may be played -/
theorem mk_l : ∀ n, n < 41 → ∀ i, i < 64 → bl (lshl 1 (nI n) - 1) i = decide (i < n) := by decide +kernel
theorem isOpen_bit (g : GG) {i : Nat} (hi : i < 64) : f_X0_isOpen g (nI i) = bl (f_X0_openSlots g) i := by
  unfold f_X0_isOpen
  by_cases hb : bl (f_X0_openSlots g) i = true
  · rw [if_neg (fun hh => by have := (bit_l hi).mp hh; rw [hb] at this; cases this), hb]
  · have hb' : bl (f_X0_openSlots g) i = false := by simpa using hb
    rw [if_pos ((bit_l hi).mpr hb'), hb']
theorem soft_bit {g : GG} {b : BD} (hg : GB g b) {i : Nat} (hi : i < 32) : bt (f_X0_softFields g) i = (decide (i < bn b) && !bd b i && !(decide (bo b i = 0) || decide (bo b i = 1))) := by
  unfold f_X0_softFields f_X0_shutFields
  rw [bt_and, bt_and, bt_not hi, bt_not hi, bt_or, hg.1.2.2.2.2.2.1 i hi, hg.2.2.1 i hi, hg.2.2.2.1 i hi, hg.2.2.2.2 i hi]
  rfl
theorem free_bit {g : GG} {b : BD} (hz : SZ (bW b) (bH b)) (hg : GB g b) {i : Nat} (hi : i < 64) : bl (f_X0_freeEdges g) i = (!bh b i && decide (i < be b)) := by
  have sz := szs hz
  unfold f_X0_freeEdges
  rw [bl_and, bl_not hi, hg.1.2.2.2.1, mk_l _ (by omega) i hi, hg.2.1 i hi]
  rfl
theorem open_bit {g : GG} {b : BD} (hz : SZ (bW b) (bH b)) (hg : GB g b) {i : Nat} (hi : i < 64) : bl (f_X0_openSlots g) i = ((!bh b i && decide (i < be b)) || (decide (40 ≤ i) && bt (f_X0_softFields g) (i - 40))) := by
  unfold f_X0_openSlots
  rw [bl_or, free_bit hz hg hi, show (40 : Int32) = nI 40 from rfl, bl_lshl _ (by omega) i, bl_toInt64, decide_eq_true hi, decide_eq_true (show i - 40 < 64 by omega), if_pos (show i - 40 < 32 by omega), Bool.true_and, Bool.true_and]
theorem cnt_le (b : BD) (f : Nat) : cnt b f ≤ 4 := by
  unfold cnt ct
  have h0 := cb_le (bh b (eg (bW b) (bH b) f 0))
  have h1 := cb_le (bh b (eg (bW b) (bH b) f 1))
  have h2 := cb_le (bh b (eg (bW b) (bH b) f 2))
  have h3 := cb_le (bh b (eg (bW b) (bH b) f 3))
  omega
theorem B_may {x : XX} {σ : MM} (hR : Rel x σ) (a1 : Int32) : ∃ (r : Int32) (x' : XX) (σ' : MM), f_X3_may x a1 = some (r, x') ∧ f_X4_may σ a1 = some (r, σ') ∧ Rel x' σ' := by
  have hno := R_no' hR (-2) (Or.inl rfl)
  obtain ⟨b, t, mv, sd, hb, hg, hm, hgs, hms⟩ := hR.1
  have hz : SZ (bW b) (bH b) := ⟨hb.1, hb.2.1⟩
  have sz := szs hz
  have tr : f_X3_truth (bi true) = 1 := by decide +kernel
  have tf : f_X3_truth (bi false) = 0 := by decide +kernel
  unfold f_X3_may f_X4_may f_X0_slotOf f_X4_isMove f_X4_mayBe
  rcases edge_iff hz hg.1.2.2.2.1 hm.1 hm.2.1 a1 with ⟨e1, e2⟩ | ⟨e, he, rfl, e1, e2⟩
  · rw [e1, e2, if_neg Bool.false_ne_true, if_neg Bool.false_ne_true]
    rcases field_iff hz hg.1.2.2.1 hm.1 hm.2.1 (a1 - 100) with ⟨e3, e4⟩ | ⟨f, hf, hfa, e3, e4⟩
    · rw [e3, e4, lt_e]
      by_cases h : a1 < 100
      · rw [if_pos h, if_pos rfl]; exact hno
      · rw [if_neg h, if_neg Bool.false_ne_true, if_pos rfl]; exact hno
    · have ea : a1 = nI (f + 100) := by
        have : a1 = a1 - 100 + 100 := by simp
        rw [this, hfa]; exact nn_add f 100
      rw [e3, e4, if_pos rfl, if_pos rfl, hfa, ea, if_neg (show ¬ nI (f + 100) < 100 from nI_nlt (b := 100) (by omega) (by omega)), if_pos rfl, if_pos (show (100 : Int32) ≤ nI (f + 100) from nI_le (a := 100) (by omega) (by omega)), show nI f + 40 = nI (f + 40) from nn_add f 40, lt_e, if_neg (show ¬ nI (f + 40) = -1 from (by decide +kernel : ∀ f, f < 16 → ¬ nI (f + 40) = -1) f (by omega)), isOpen_bit _ (by omega), open_bit hz hg (by omega), gd_t (nI_inb (by omega) (by omega)), nI_clamp (by omega), hm.2.2.2.1 f (by omega), hedges_ok hz hm hf, ob_s, show f + 40 - 40 = f by omega, soft_bit hg (by omega)]
      have n1 : decide (f + 40 < be b) = false := decide_eq_false (by unfold be; omega)
      have n2 : decide (40 ≤ f + 40) = true := decide_eq_true (by omega)
      have n3 : decide (f < bn b) = true := decide_eq_true hf
      rw [n1, n2, n3, Bool.and_false, Bool.false_or, Bool.true_and, Bool.true_and]
      have ho := hb.2.2.2.2.2 f hf
      have hc := cnt_le b f
      cases hd : bd b f
      · rw [if_pos (show ib false = 0 by decide +kernel)]
        by_cases h4 : cnt b f = 4
        · have h2 : bo b f < 2 := ho.mpr h4
          have : (decide (bo b f = 0) || decide (bo b f = 1)) = true := by
            rw [Bool.or_eq_true, decide_eq_true_eq, decide_eq_true_eq]; omega
          rw [this, if_pos (show (4 : Int32) ≤ nI (cnt b f) by rw [h4]; decide +kernel), ob_s, if_neg Bool.false_ne_true]
          exact ⟨_, _, _, rfl, by rw [← tf]; rfl, hR⟩
        · have h2 : ¬ bo b f < 2 := fun h => h4 (ho.mp h)
          have : (decide (bo b f = 0) || decide (bo b f = 1)) = false := by
            rw [decide_eq_false (by omega), decide_eq_false (by omega)]; rfl
          rw [this, if_neg (show ¬ (4 : Int32) ≤ nI (cnt b f) from nI_ge (b := 4) (by omega) (by omega)), ob_s, if_pos rfl]
          exact ⟨_, _, _, rfl, by rw [← tr]; rfl, hR⟩
      · rw [if_neg (show ¬ ib true = 0 by decide +kernel), ob_s, if_neg Bool.false_ne_true]
        exact ⟨_, _, _, rfl, by rw [← tf]; rfl, hR⟩
  · have hne : ¬ nI e = -1 := (by decide +kernel : ∀ e, e < 40 → ¬ nI e = -1) e (by omega)
    rw [e1, e2, if_pos rfl, if_pos rfl, if_pos rfl, if_neg (show ¬ (100 : Int32) ≤ nI e from nI_ge (b := 100) (by omega) (by omega)), lt_e, if_neg hne, isOpen_bit _ (by omega), open_bit hz hg (by omega), gd_t (nI_inb (by omega) (by omega)), nI_clamp (by omega), hm.2.2.1 e (by omega)]
    have n1 : decide (e < be b) = true := decide_eq_true he
    have n2 : decide (40 ≤ e) = false := decide_eq_false (by omega)
    rw [n1, n2, Bool.and_true, Bool.false_and, Bool.or_false]
    cases hh : bh b e
    · rw [if_pos (show ib false = 0 by decide +kernel), ob_s, if_pos rfl]
      exact ⟨_, _, _, rfl, by rw [← tr]; rfl, hR⟩
    · rw [if_neg (show ¬ ib true = 0 by decide +kernel), ob_s, if_neg Bool.false_ne_true]
      exact ⟨_, _, _, rfl, by rw [← tf]; rfl, hR⟩
