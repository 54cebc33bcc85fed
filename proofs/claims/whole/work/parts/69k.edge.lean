/-! A hedge more; shuts, gives, status -/
theorem geo_add0 : alB (fun W H => alw (fun e => alw (fun f => decide (cb (decide (eg W H f 0 = e)) + cb (decide (eg W H f 1 = e)) + cb (decide (eg W H f 2 = e)) + cb (decide (eg W H f 3 = e)) = cb (decide (f = fd W H e 0) || decide (f = fd W H e 1)))) (nF W H)) (nE W H)) = true := by decide +kernel
theorem geo_ne0 : alB (fun W H => alw (fun e => !decide (fd W H e 0 = fd W H e 1)) (nE W H)) = true := by decide +kernel
theorem fd_ne {W H : Nat} (hz : SZ W H) {e : Nat} (he : e < nE W H) : fd W H e 0 ≠ fd W H e 1 := by
  have h0 := alw_all (alB_all geo_ne0 hz.1 hz.2) e he
  intro h
  rw [decide_eq_true h] at h0
  cases h0
/-- edges and one more -/
def hp (hs : Nat → Bool) (e : Nat) : Nat → Bool := fun k => hs k || decide (k = e)
/-- f is a field of edge e -/
def isf (W H e f : Nat) : Bool := decide (f = fd W H e 0) || decide (f = fd W H e 1)
theorem ct_hp {W H : Nat} (hz : SZ W H) {hs : Nat → Bool} {e f : Nat} (he : e < nE W H) (hf : f < nF W H) (h0 : hs e = false) : ct W H (hp hs e) f = ct W H hs f + cb (isf W H e f) := by
  have g := alw_all (alw_all (alB_all geo_add0 hz.1 hz.2) e he) f hf
  rw [decide_eq_true_eq] at g
  have s1 : ∀ k, cb (hp hs e k) = cb (hs k) + cb (decide (k = e)) := fun k => by
    unfold hp
    by_cases c : k = e
    · rw [c, h0, decide_eq_true rfl]; rfl
    · rw [decide_eq_false c, Bool.or_false]; rfl
  unfold ct isf
  rw [s1, s1, s1, s1, ← g]
  omega
theorem hp_bits {x : Int64} {X : Nat → Bool} (hX : ∀ e, e < 64 → bl x e = X e) {e : Nat} (he : e < 64) : ∀ k, k < 64 → bl (x ||| lshl 1 (nI e)) k = hp X e k := fun k hk => by
  rw [bl_or, hX k hk, bl_lshl1 he]; rfl
theorem cn_one (R : Nat → Bool) (a : Nat) : ∀ n, cn (fun i => decide (i = a) && R i) n = if a < n then cb (R a) else 0 := by
  intro n
  induction n with
  | zero => rfl
  | succ n ih =>
    rw [cn_s, ih]
    by_cases c : n = a
    · subst c
      rw [if_neg (Nat.lt_irrefl n), if_pos (Nat.lt_succ_self n), decide_eq_true rfl, Bool.true_and, Nat.zero_add]
    · rw [decide_eq_false c, Bool.false_and]
      by_cases d : a < n
      · rw [if_pos d, if_pos (by omega)]; rfl
      · rw [if_neg d, if_neg (by omega)]; rfl
theorem cn_two {R : Nat → Bool} {a c n : Nat} (h : a ≠ c) : cn (fun i => (decide (i = a) || decide (i = c)) && R i) n = (if a < n then cb (R a) else 0) + (if c < n then cb (R c) else 0) := by
  rw [← cn_one, ← cn_one, ← cn_or n (fun i _ hh => by
    rw [Bool.and_eq_true, Bool.and_eq_true, decide_eq_true_eq, decide_eq_true_eq] at hh
    exact h (hh.1.1.symm.trans hh.2.1))]
  exact cn_cong n (fun i _ => by
    show ((decide (i = a) || decide (i = c)) && R i) = ((decide (i = a) && R i) || (decide (i = c) && R i))
    cases decide (i = a) <;> cases decide (i = c) <;> cases R i <;> rfl)
/-- how many fields of an edge satisfy R -/
def fc (b : BD) (e : Nat) (R : Nat → Bool) : Nat := cn (fun i => isf (bW b) (bH b) e i && R i) (bn b)
theorem fc_sum {b : BD} (hz : SZ (bW b) (bH b)) {e : Nat} (he : e < be b) (R : Nat → Bool) : fc b e R = (if fd (bW b) (bH b) e 0 = 99 then 0 else cb (R (fd (bW b) (bH b) e 0))) + (if fd (bW b) (bH b) e 1 = 99 then 0 else cb (R (fd (bW b) (bH b) e 1))) := by
  have sz := szs hz
  have hn : bn b ≤ 16 := sz.2.1
  obtain ⟨l0, l1⟩ : (fd (bW b) (bH b) e 0 < bn b ∨ fd (bW b) (bH b) e 0 = 99) ∧ (fd (bW b) (bH b) e 1 < bn b ∨ fd (bW b) (bH b) e 1 = 99) := fd_lt hz he
  unfold fc isf
  rw [cn_two (fd_ne hz he)]
  congr 1
  · rcases l0 with l0 | l0
    · rw [if_pos l0, if_neg (show ¬ fd (bW b) (bH b) e 0 = 99 by omega)]
    · rw [if_pos l0, if_neg (show ¬ fd (bW b) (bH b) e 0 < bn b by omega)]
  · rcases l1 with l1 | l1
    · rw [if_pos l1, if_neg (show ¬ fd (bW b) (bH b) e 1 = 99 by omega)]
    · rw [if_pos l1, if_neg (show ¬ fd (bW b) (bH b) e 1 < bn b by omega)]
theorem withHedges_ok {σ : MM} {b : BD} (hz : SZ (bW b) (bH b)) (hm : MB σ b) {e k : Nat} (he : e < be b) (hk : k < 5) : f_X4_withHedges σ (nI e) (nI k) = some (nI (fc b e (fun f => decide (cnt b f = k)))) := by
  have sz := szs hz
  have hn : bn b ≤ 16 := sz.2.1
  have fs : ∀ s, s < 2 → fd (bW b) (bH b) e s < nF (bW b) (bH b) ∨ fd (bW b) (bH b) e s = 99 := fun s hs => by
    rcases (by omega : s = 0 ∨ s = 1) with rfl | rfl
    · exact (fd_lt hz he).1
    · exact (fd_lt hz he).2
  have hP : cn (fun s => !decide (fd (bW b) (bH b) e s = 99) && decide (cnt b (fd (bW b) (bH b) e s) = k)) 2 = fc b e (fun f => decide (cnt b f = k)) := by
    rw [fc_sum hz he, cn_s, cn_s]
    show 0 + _ + _ = _
    rw [Nat.zero_add]
    congr 1
    · by_cases c : fd (bW b) (bH b) e 0 = 99
      · rw [if_pos c, decide_eq_true c]; rfl
      · rw [if_neg c, decide_eq_false c]; rfl
    · by_cases c : fd (bW b) (bH b) e 1 = 99
      · rw [if_pos c, decide_eq_true c]; rfl
      · rw [if_neg c, decide_eq_false c]; rfl
  rw [← hP]
  unfold f_X4_withHedges f_X4_withHedges_L5
  refine lp_cnt _ (f_X4_withHedges_L5_b σ (nI e) (nI k)) (fun s => !decide (fd (bW b) (bH b) e s = 99) && decide (cnt b (fd (bW b) (bH b) e s) = k)) 2 0 _ (by omega) (fun i rec y hi => ?_) (fun rec => ?_)
  · have hf := fs i hi
    have m1 := iF_m10 (fd (bW b) (bH b) e i) (by omega)
    unfold f_X4_withHedges_L5_b
    rw [if_neg (show ¬ (2 : Int32) ≤ nI i from nI_ge (b := 2) hi (by omega)), geo_mf hz hm.1 hm.2.1 he hi, ob_s]
    simp only [lt_e, ← nI_succ]
    by_cases c : fd (bW b) (bH b) e i = 99
    · rw [if_pos (m1.mpr c), decide_eq_true c]; rfl
    · have hlt : fd (bW b) (bH b) e i < bn b := by
        rcases hf with h | h
        · exact h
        · exact absurd h c
      have hc := cnt_le b (fd (bW b) (bH b) e i)
      rw [if_neg (fun h => c (m1.mp h)), decide_eq_false c, ob_s, show iF (fd (bW b) (bH b) e i) = nI (fd (bW b) (bH b) e i) from if_neg c, hedges_ok hz hm hlt, ob_s]
      by_cases d : cnt b (fd (bW b) (bH b) e i) = k
      · rw [if_pos (by rw [d]), decide_eq_true d]; rfl
      · rw [if_neg (fun h => d (nI_inj (by omega) (by omega) h)), decide_eq_false d]; rfl
  · unfold f_X4_withHedges_L5_b
    rw [if_pos (show (2 : Int32) ≤ nI 2 by decide +kernel), Nat.zero_add]
/-- bits of a set of fields, counted -/
theorem cnt_f {x : Int32} {n : Nat} {P : Nat → Bool} (hn : n ≤ 16) (h : ∀ i, i < 32 → bt x i = (decide (i < n) && P i)) : f_J6_bitCount_0f7a4 x = nI (cn P n) := by
  rw [cnt32, cn_cong 32 h, cn_ext 32 (show n ≤ 32 by omega) (fun i h1 h2 => by rw [decide_eq_false (show ¬ i < n by omega)]; rfl), cn_cong (Q := P) n (fun i hi => by rw [decide_eq_true hi]; rfl)]
theorem cnt_l {x : Int64} {n : Nat} {P : Nat → Bool} (hn : n ≤ 64) (h : ∀ i, i < 64 → bl x i = (decide (i < n) && P i)) : f_J13_bitCount_95d88 x = nI (cn P n) := by
  rw [cnt64, cn_cong 64 h, cn_ext 64 hn (fun i h1 h2 => by rw [decide_eq_false (show ¬ i < n by omega)]; rfl), cn_cong (Q := P) n (fun i hi => by rw [decide_eq_true hi]; rfl)]
theorem fc_shut {b : BD} (hz : SZ (bW b) (bH b)) {e : Nat} (he : e < be b) (h0 : bh b e = false) : cn (fun i => decide (ct (bW b) (bH b) (hp (bh b) e) i = 4) && !decide (cnt b i = 4)) (bn b) = fc b e (fun f => decide (cnt b f = 3)) := by
  unfold fc
  refine cn_cong _ (fun i hi => ?_)
  have h1 := ct_hp hz he hi h0
  have h2 : ct (bW b) (bH b) (hp (bh b) e) i = cnt b i + cb (isf (bW b) (bH b) e i) := h1
  have hc := cnt_le b i
  show _ = (isf (bW b) (bH b) e i && decide (cnt b i = 3))
  rw [h2]
  cases isf (bW b) (bH b) e i with
  | true =>
    by_cases c : cnt b i = 3
    · rw [c]; rfl
    · rw [decide_eq_false (show ¬ cnt b i + cb true = 4 by show ¬ cnt b i + 1 = 4; omega), decide_eq_false c]; rfl
  | false =>
    show (decide (cnt b i + 0 = 4) && _) = _
    by_cases c : cnt b i = 4
    · rw [c]; rfl
    · rw [decide_eq_false (show ¬ cnt b i + 0 = 4 by omega)]; rfl
theorem fc_three {b : BD} (hz : SZ (bW b) (bH b)) {e : Nat} (he : e < be b) (h0 : bh b e = false) : cn (fun i => decide (ct (bW b) (bH b) (hp (bh b) e) i = 3) && !decide (cnt b i = 3)) (bn b) = fc b e (fun f => decide (cnt b f = 2)) := by
  unfold fc
  refine cn_cong _ (fun i hi => ?_)
  have h1 := ct_hp hz he hi h0
  have h2 : ct (bW b) (bH b) (hp (bh b) e) i = cnt b i + cb (isf (bW b) (bH b) e i) := h1
  show _ = (isf (bW b) (bH b) e i && decide (cnt b i = 2))
  rw [h2]
  cases isf (bW b) (bH b) e i with
  | true =>
    by_cases c : cnt b i = 2
    · rw [c]; rfl
    · rw [decide_eq_false (show ¬ cnt b i + cb true = 3 by show ¬ cnt b i + 1 = 3; omega), decide_eq_false c]; rfl
  | false =>
    show (decide (cnt b i + 0 = 3) && _) = _
    by_cases c : cnt b i = 3
    · rw [c]; rfl
    · rw [decide_eq_false (show ¬ cnt b i + 0 = 3 by omega)]; rfl
theorem B_shuts {x : XX} {σ : MM} (hR : Rel x σ) (a1 : Int32) : ∃ (r : Int32) (x' : XX) (σ' : MM), f_X3_shuts x a1 = some (r, x') ∧ f_X4_shuts_ σ a1 = some (r, σ') ∧ Rel x' σ' := by
  have hno := R_no' hR (-2) (Or.inl rfl)
  have hno5 := R_no' hR (-5) (by decide +kernel)
  obtain ⟨b, t, mv0, sd, hb, hg, hm, hgs, hms⟩ := hR.1
  have hz : SZ (bW b) (bH b) := ⟨hb.1, hb.2.1⟩
  have sz := szs hz
  have hn : bn b ≤ 16 := sz.2.1
  unfold f_X3_shuts f_X4_shuts_
  rcases edge_iff hz hg.1.2.2.2.1 hm.1 hm.2.1 a1 with ⟨e1, e2⟩ | ⟨e, he, rfl, e1, e2⟩
  · rw [e1, e2]; exact hno
  rw [e1, e2, if_pos rfl, if_pos rfl, hedged_ok hg.2.1 (by omega), gd_t (nI_inb (by omega) (by omega)), nI_clamp (by omega), hm.2.2.1 e (by omega)]
  cases h0 : bh b e with
  | true => rw [if_pos rfl, if_neg (show ¬ ib true = 0 by decide +kernel)]; exact hno5
  | false =>
    obtain ⟨r, r1, r2⟩ := closed_ok hz hg.1 (hp_bits hg.2.1 (show e < 64 by omega))
    rw [if_neg Bool.false_ne_true, if_pos (show ib false = 0 by decide +kernel), r1, ob_s, show (3 : Int32) = nI 3 from rfl, withHedges_ok hz hm he (by omega), ob_s, ← fc_shut hz he h0]
    refine ⟨_, _, _, ?_, rfl, hR⟩
    rw [cnt_f (P := fun i => decide (ct (bW b) (bH b) (hp (bh b) e) i = 4) && !decide (cnt b i = 4)) hn (fun i hi => by
      rw [bt_and, bt_not hi, r2 i hi, shut_bits hb hg hi]
      exact (by decide : ∀ p q r : Bool, ((p && q) && !(p && r)) = (p && (q && !r))) _ _ _)]
theorem B_gives {x : XX} {σ : MM} (hR : Rel x σ) (a1 : Int32) : ∃ (r : Int32) (x' : XX) (σ' : MM), f_X3_gives x a1 = some (r, x') ∧ f_X4_gives σ a1 = some (r, σ') ∧ Rel x' σ' := by
  have hno := R_no' hR (-2) (Or.inl rfl)
  have hno5 := R_no' hR (-5) (by decide +kernel)
  obtain ⟨b, t, mv0, sd, hb, hg, hm, hgs, hms⟩ := hR.1
  have hz : SZ (bW b) (bH b) := ⟨hb.1, hb.2.1⟩
  have sz := szs hz
  have hn : bn b ≤ 16 := sz.2.1
  unfold f_X3_gives f_X4_gives
  rcases edge_iff hz hg.1.2.2.2.1 hm.1 hm.2.1 a1 with ⟨e1, e2⟩ | ⟨e, he, rfl, e1, e2⟩
  · rw [e1, e2]; exact hno
  rw [e1, e2, if_pos rfl, if_pos rfl, hedged_ok hg.2.1 (by omega), gd_t (nI_inb (by omega) (by omega)), nI_clamp (by omega), hm.2.2.1 e (by omega)]
  cases h0 : bh b e with
  | true => rw [if_pos rfl, if_neg (show ¬ ib true = 0 by decide +kernel)]; exact hno5
  | false =>
    obtain ⟨r, r1, r2⟩ := three_ok hz hg.1 (hp_bits hg.2.1 (show e < 64 by omega))
    obtain ⟨q, q1, q2⟩ := three_ok hz hg.1 hg.2.1
    rw [if_neg Bool.false_ne_true, if_pos (show ib false = 0 by decide +kernel), r1, ob_s, q1, ob_s, show (2 : Int32) = nI 2 from rfl, withHedges_ok hz hm he (by omega), ob_s, ← fc_three hz he h0]
    refine ⟨_, _, _, ?_, rfl, hR⟩
    rw [cnt_f (P := fun i => decide (ct (bW b) (bH b) (hp (bh b) e) i = 3) && !decide (cnt b i = 3)) hn (fun i hi => by
      rw [bt_and, bt_not hi, r2 i hi, q2 i hi]
      exact (by decide : ∀ p q r : Bool, ((p && q) && !(p && r)) = (p && (q && !r))) _ _ _)]
theorem full_ok {x : XX} {σ : MM} (hR : Rel x σ) : f_X3_fullShelves x = some (nI (cn (fun s => !decide (m_holding σ s = -1)) 8)) := by
  unfold f_X3_fullShelves f_X3_fullShelves_L4
  refine lp_cnt _ (f_X3_fullShelves_L4_b x) (fun s => !decide (m_holding σ s = -1)) 8 0 _ (by omega) (fun i rec y hi => ?_) (fun rec => ?_)
  · obtain ⟨r, h1, h2, -⟩ := B_holds hR (nI i)
    have h3 : f_X4_holds σ (nI i) = some (m_holding σ i) := by
      unfold f_X4_holds f_X4_isShelf
      rw [within_t (nI_pos (by omega)) (show ¬ (7 : Int32) < nI i from nI_nlt (a := 7) (by omega) (by omega)), if_pos rfl, gd_t (nI_inb hi (by omega)), nI_clamp (by omega)]
    rw [h3] at h2
    cases h2
    unfold f_X3_fullShelves_L4_b
    rw [if_neg (show ¬ (8 : Int32) ≤ nI i from nI_ge (b := 8) hi (by omega)), h1, ob_s]
    simp only [lt_e, ← nI_succ]
    by_cases c : m_holding σ i = -1
    · rw [if_pos c, decide_eq_true c, show f_X3_truth 0 = 0 by decide +kernel, Int32.add_zero]; rfl
    · rw [if_neg c, decide_eq_false c, show f_X3_truth 1 = 1 by decide +kernel, ← nI_succ]; rfl
  · unfold f_X3_fullShelves_L4_b
    rw [if_pos (show (8 : Int32) ≤ nI 8 by decide +kernel), Nat.zero_add]
theorem B_status {x : XX} {σ : MM} (hR : Rel x σ) (a1 : Int32) : ∃ (r : Int32), f_X3_status x a1 = some r ∧ f_X4_status σ a1 = some r ∧ Rel x σ := by
  obtain ⟨b, t, mv0, sd, hb, hg, hm, hgs, hms⟩ := hR.1
  have hz : SZ (bW b) (bH b) := ⟨hb.1, hb.2.1⟩
  have sz := szs hz
  have hn : bn b ≤ 16 := sz.2.1
  have hE : be b ≤ 40 := sz.1
  have hr : ∀ {o p : Option Int32} {v : Int32}, o = some v → p = some v → ∃ (r : Int32), o = some r ∧ p = some r ∧ Rel x σ := fun h1 h2 => ⟨_, h1, h2, hR⟩
  unfold f_X3_status f_X4_status
  by_cases c0 : a1 = 0
  · rw [if_pos c0, if_pos c0, hg.1.1, hm.1]; exact hr rfl rfl
  rw [if_neg c0, if_neg c0]
  by_cases c1 : a1 = 1
  · rw [if_pos c1, if_pos c1, hg.1.2.1, hm.2.1]; exact hr rfl rfl
  rw [if_neg c1, if_neg c1]
  by_cases c2 : a1 = 2
  · rw [if_pos c2, if_pos c2, cnt_l (n := be b) (P := bh b) (by omega) (fun i hi => by
      rw [hg.2.1 i hi]
      by_cases h : i < be b
      · rw [decide_eq_true h]; rfl
      · rw [decide_eq_false h, hb.2.2.1 i (by omega)]; rfl)]
    refine hr rfl ?_
    unfold f_X4_status_L76
    refine lp_cnt _ (f_X4_status_L76_b σ) (bh b) (be b) 0 _ (by omega) (fun i rec y hi => ?_) (fun rec => ?_)
    · unfold f_X4_status_L76_b
      rw [ed_ok hm, if_neg (nI_ge hi (by omega)), gd_t (nI_inb (show i < 40 by omega) (by omega)), nI_clamp (by omega), hm.2.2.1 i (by omega)]
      simp only [lt_e, ← nI_succ]
      cases bh b i with
      | true => rfl
      | false => rfl
    · unfold f_X4_status_L76_b
      rw [ed_ok hm, if_pos (nI_le (Nat.le_refl _) (by omega)), Nat.zero_add]
  rw [if_neg c2, if_neg c2]
  by_cases c3 : a1 = 3
  · rw [if_pos c3, if_pos c3, cnt_f (P := bd b) hn (fun i hi => by
      rw [hg.2.2.1 i hi]
      by_cases h : i < bn b
      · rw [decide_eq_true h]; rfl
      · rw [decide_eq_false h, (hb.2.2.2.1 i (by omega)).1]; rfl)]
    refine hr rfl ?_
    unfold f_X4_status_L106
    refine lp_cnt _ (f_X4_status_L106_b σ) (bd b) (bn b) 0 _ (by omega) (fun i rec y hi => ?_) (fun rec => ?_)
    · unfold f_X4_status_L106_b
      rw [wh_ok hm, if_neg (nI_ge hi (by omega)), gd_t (nI_inb (show i < 16 by omega) (by omega)), nI_clamp (by omega), hm.2.2.2.1 i (by omega)]
      simp only [lt_e, ← nI_succ]
      cases bd b i with
      | true => rfl
      | false => rfl
    · unfold f_X4_status_L106_b
      rw [wh_ok hm, if_pos (nI_le (Nat.le_refl _) (by omega)), Nat.zero_add]
  rw [if_neg c3, if_neg c3]
  by_cases c4 : a1 = 4
  · rw [if_pos c4, if_pos c4, cnt_f (P := fun i => decide (cnt b i = 4)) hn (fun i hi => shut_bits hb hg hi)]
    refine hr rfl ?_
    unfold f_X4_status_L141
    refine lp_cnt _ (f_X4_status_L141_b σ) (fun i => decide (cnt b i = 4)) (bn b) 0 _ (by omega) (fun i rec y hi => ?_) (fun rec => ?_)
    · have hc := cnt_le b i
      unfold f_X4_status_L141_b
      rw [wh_ok hm, if_neg (nI_ge hi (by omega)), hedges_ok hz hm hi, ob_s]
      simp only [lt_e, ← nI_succ]
      by_cases c : cnt b i = 4
      · rw [if_pos (show nI (cnt b i) = 4 by rw [c]; rfl), if_pos (decide_eq_true c)]
      · rw [if_neg (show ¬ nI (cnt b i) = 4 from fun h => c (nI_inj (b := 4) (by omega) (by omega) h)), if_neg (by rw [decide_eq_false c]; exact Bool.false_ne_true)]
    · unfold f_X4_status_L141_b
      rw [wh_ok hm, if_pos (nI_le (Nat.le_refl _) (by omega)), Nat.zero_add]
  rw [if_neg c4, if_neg c4]
  by_cases c5 : a1 = 5
  · rw [if_pos c5, if_pos c5, hgs.2.1, hms.2.1]; exact hr rfl rfl
  rw [if_neg c5, if_neg c5]
  by_cases c6 : a1 = 6
  · rw [if_pos c6, if_pos c6, hgs.2.2.1, hms.2.2.1]; exact hr rfl rfl
  rw [if_neg c6, if_neg c6]
  by_cases c7 : a1 = 7
  · obtain ⟨P, p1, p2, p3, p4⟩ := hR.2.1
    rw [if_pos c7, if_pos c7, p2, p3]; exact hr rfl rfl
  rw [if_neg c7, if_neg c7]
  by_cases c8 : a1 = 8
  · obtain ⟨P, p1, p2, p3, p4⟩ := hR.2.2.2.1
    rw [if_pos c8, if_pos c8, p2, p3]; exact hr rfl rfl
  rw [if_neg c8, if_neg c8]
  by_cases c9 : a1 = 9
  · rw [if_pos c9, if_pos c9, hgs.2.2.2, hms.2.2.2]; exact hr rfl rfl
  rw [if_neg c9, if_neg c9]
  by_cases c10 : a1 = 10
  · rw [if_pos c10, if_pos c10, full_ok hR, ob_s]
    refine hr rfl ?_
    unfold f_X4_status_L201
    refine lp_cnt _ (f_X4_status_L201_b σ) (fun s => !decide (m_holding σ s = -1)) 8 0 _ (by omega) (fun i rec y hi => ?_) (fun rec => ?_)
    · unfold f_X4_status_L201_b
      rw [if_neg (show ¬ (8 : Int32) ≤ nI i from nI_ge (b := 8) hi (by omega)), gd_t (nI_inb hi (by omega)), nI_clamp (by omega)]
      simp only [lt_e, ← nI_succ]
      by_cases c : m_holding σ i = -1
      · rw [if_pos c, decide_eq_true c]; rfl
      · rw [if_neg c, decide_eq_false c]; rfl
    · unfold f_X4_status_L201_b
      rw [if_pos (show (8 : Int32) ≤ nI 8 by decide +kernel), Nat.zero_add]
  rw [if_neg c10, if_neg c10]
  by_cases c11 : a1 = 11
  · rw [if_pos c11, if_pos c11, ed_ok hm, hg.1.2.2.2.1]; exact hr rfl rfl
  rw [if_neg c11, if_neg c11]
  unfold f_X3_refusalCount
  by_cases h1 : a1 < 12
  · rw [if_pos h1, ob_s, within_f (Or.inl h1), if_neg Bool.false_ne_true]; exact hr rfl rfl
  rw [if_neg h1]
  have e12 : (12 : Int32).toInt = 12 := by decide +kernel
  have h0 : ¬ a1 < 0 := by
    intro hh
    rw [Int32.lt_iff_toInt_lt] at h1 hh
    rw [e12] at h1
    rw [Int32.toInt_zero] at hh
    omega
  obtain ⟨k, hk, rfl⟩ := nI_of h0
  have h12 : 12 ≤ k := by
    rcases Nat.lt_or_ge k 12 with h | h
    · exact absurd (show nI k < 12 from nI_lt (b := 12) h (by omega)) h1
    · exact h
  have e1 : nI k - 12 = nI (k - 12) := nn_sub (a := k) (b := 12) h12
  have e2 : nI k - 10 = nI (k - 10) := nn_sub (a := k) (b := 10) (by omega)
  rw [e1, e2]
  by_cases h3 : k < 17
  · rw [if_pos (show nI (k - 12) < 5 from nI_lt (b := 5) (by omega) (by omega)), within_t h1 (show ¬ (16 : Int32) < nI k from nI_nlt (a := 16) (by omega) (by omega)), if_pos rfl, gd_t (nI_inb (by omega) (by omega)), gd_t (nI_inb (by omega) (by omega)), nI_clamp (by omega), nI_clamp (by omega), ob_s, hR.2.2.2.2.1 (k - 12) (by omega), show k - 12 + 2 = k - 10 by omega]
    exact hr rfl rfl
  · rw [if_neg (show ¬ nI (k - 12) < 5 from nI_nlt (a := k - 12) (b := 5) (by omega) (by omega)), within_f (Or.inr (show (16 : Int32) < nI k from nI_lt (a := 16) (by omega) (by omega))), ob_s, if_neg Bool.false_ne_true]
    exact hr rfl rfl
