/-! What is looked at: rim, gaps, thirds, bare, soft, owned, status .. -/
theorem cn_ct (W H : Nat) (hs : Nat → Bool) (f : Nat) : cn (fun s => hs (eg W H f s)) 4 = ct W H hs f := by
  unfold ct
  rw [cn_s, cn_s, cn_s, cn_s]
  show 0 + _ + _ + _ + _ = _
  omega
theorem ff_cn {P : Nat → Bool} {n : Nat} : ff P n < n ↔ 0 < cn P n := by
  constructor
  · intro h
    have := cn_lt h (ff_yes n h)
    omega
  · intro h
    obtain ⟨i, hi, h1⟩ := cn_ex n h
    have := ff_at hi h1
    omega
/-- an edge at the rim -/
def rp (W H e : Nat) : Bool := decide (fd W H e 0 = 99) || decide (fd W H e 1 = 99)
theorem isRim_ok {σ : MM} {W H : Nat} (hz : SZ W H) (h1 : m_w σ = nI W) (h2 : m_h σ = nI H) {e : Nat} (he : e < nE W H) : f_X4_isRim σ (nI e) = some (rp W H e) := by
  obtain ⟨m0, m1⟩ := fd_m1 hz he
  have g0 : f_X4_field σ (nI e) 0 = _ := geo_mf hz h1 h2 he (s := 0) (by omega)
  have g1 : f_X4_field σ (nI e) 1 = _ := geo_mf hz h1 h2 he (s := 1) (by omega)
  unfold f_X4_isRim rp
  rw [g0, g1, ob_s, ob_s]
  by_cases c0 : fd W H e 0 = 99
  · rw [if_pos (m0.mpr c0), decide_eq_true c0]; rfl
  · rw [if_neg (fun h => c0 (m0.mp h)), decide_eq_false c0]
    by_cases c1 : fd W H e 1 = 99
    · rw [if_pos (m1.mpr c1), decide_eq_true c1]; rfl
    · rw [if_neg (fun h => c1 (m1.mp h)), decide_eq_false c1]; rfl
/-- a field at the rim -/
def rf (W H f : Nat) : Bool := !decide (ct W H (rp W H) f = 0)
theorem hasRim_ok {σ : MM} {W H : Nat} (hz : SZ W H) (h1 : m_w σ = nI W) (h2 : m_h σ = nI H) {f : Nat} (hf : f < nF W H) : f_X4_hasRim σ (nI f) = some (rf W H f) := by
  unfold f_X4_hasRim f_X4_hasRim_L2
  refine lp_find _ (f_X4_hasRim_L2_b σ (nI f)) (fun s => rp W H (eg W H f s)) 4 _ (by omega) (fun i rec hi => ?_) (fun rec => ?_)
  · have hl := ff_le (fun s => rp W H (eg W H f s)) 4
    have hn := ff_no (P := fun s => rp W H (eg W H f s)) 4 i hi
    unfold f_X4_hasRim_L2_b
    rw [if_neg (show ¬ (4 : Int32) ≤ nI i from nI_ge (b := 4) (by omega) (by omega)), geo_me hz h1 h2 hf (by omega), ob_s, isRim_ok hz h1 h2 (eg_lt hz hf (by omega)), ob_s, if_neg (by rw [show rp W H (eg W H f i) = false from hn]; exact Bool.false_ne_true), lt_e, ← nI_succ]
  · have hl := ff_le (fun s => rp W H (eg W H f s)) 4
    have hc := cn_ct W H (rp W H) f
    unfold f_X4_hasRim_L2_b rf
    by_cases h : ff (fun s => rp W H (eg W H f s)) 4 < 4
    · have hy := ff_yes (P := fun s => rp W H (eg W H f s)) 4 h
      have hp := ff_cn.mp h
      rw [if_neg (show ¬ (4 : Int32) ≤ nI _ from nI_ge (b := 4) h (by omega)), geo_me hz h1 h2 hf h, ob_s, isRim_ok hz h1 h2 (eg_lt hz hf h), ob_s, if_pos hy, decide_eq_false (by omega)]
      rfl
    · have hp : ¬ 0 < cn (fun s => rp W H (eg W H f s)) 4 := fun hh => h (ff_cn.mpr hh)
      rw [if_pos (show (4 : Int32) ≤ nI _ from nI_le (a := 4) (by omega) (by omega)), decide_eq_true (by omega)]
      rfl
theorem ed_ok {σ : MM} {b : BD} (hm : MB σ b) : f_X4_edges σ = nI (be b) := edges_m hm.1 hm.2.1
theorem wh_ok {σ : MM} {b : BD} (hm : MB σ b) : m_w σ * m_h σ = nI (bn b) := by rw [hm.1, hm.2.1, nn_mul]; rfl
/-- the class's rim -/
theorem rim_bits {g : GG} {W H : Nat} (hg : GGeo g W H) : ∀ e, e < 64 → bl (g_rimEdges g) e = (decide (e < nE W H) && rp W H e) := hg.2.2.2.2.2.2.2.2
theorem ct_cong {W H : Nat} (hz : SZ W H) {p q : Nat → Bool} (h : ∀ e, e < nE W H → p e = q e) {f : Nat} (hf : f < nF W H) : ct W H p f = ct W H q f := by
  unfold ct
  rw [h _ (eg_lt hz hf (s := 0) (by omega)), h _ (eg_lt hz hf (s := 1) (by omega)), h _ (eg_lt hz hf (s := 2) (by omega)), h _ (eg_lt hz hf (s := 3) (by omega))]
theorem rimf_ok {g : GG} {W H : Nat} (hz : SZ W H) (hg : GGeo g W H) : ∃ r, f_X0_touched g (g_rimEdges g) = some r ∧ ∀ i, i < 32 → bt r i = (decide (i < nF W H) && rf W H i) := by
  obtain ⟨r, e1, h1⟩ := touched_ok hz hg (rim_bits hg)
  refine ⟨r, e1, fun i hi => ?_⟩
  rw [h1 i hi]
  by_cases h : i < nF W H
  · rw [ct_cong hz (q := rp W H) (fun e he => by rw [decide_eq_true he]; rfl) h]; rfl
  · rw [decide_eq_false h]; rfl
theorem mayF {σ : MM} {b : BD} (hz : SZ (bW b) (bH b)) (hm : MB σ b) {f : Nat} (hf : f < bn b) : f_X4_mayBe σ (nI (f + 100)) = some (!bd b f && !decide (cnt b f = 4)) := by
  have sz := szs hz
  have hf2 : f < 16 := Nat.lt_of_lt_of_le hf sz.2.1
  have e1 : nI (f + 100) - 100 = nI f := nn_sub (a := f + 100) (b := 100) (by omega) |>.trans (by rw [Nat.add_sub_cancel])
  have hc := cnt_le b f
  unfold f_X4_mayBe
  rw [if_pos (show (100 : Int32) ≤ nI (f + 100) from nI_le (a := 100) (by omega) (by omega)), e1, gd_t (nI_inb hf2 (by omega)), nI_clamp (by omega), hm.2.2.2.1 f hf2, hedges_ok hz hm hf, ob_s]
  cases bd b f with
  | true => rw [if_neg (show ¬ ib true = 0 by decide +kernel)]; rfl
  | false =>
    rw [if_pos (show ib false = 0 by decide +kernel)]
    by_cases h : cnt b f = 4
    · rw [if_pos (show (4 : Int32) ≤ nI (cnt b f) by rw [h]; decide +kernel), decide_eq_true h]; rfl
    · rw [if_neg (show ¬ (4 : Int32) ≤ nI (cnt b f) from nI_ge (b := 4) (by omega) (by omega)), decide_eq_false h]; rfl
theorem mayE {σ : MM} {b : BD} (hz : SZ (bW b) (bH b)) (hm : MB σ b) {e : Nat} (he : e < be b) : f_X4_mayBe σ (nI e) = some (!bh b e) := by
  have sz := szs hz
  have he2 : e < 40 := Nat.lt_of_lt_of_le he sz.1
  unfold f_X4_mayBe
  rw [if_neg (show ¬ (100 : Int32) ≤ nI e from nI_ge (b := 100) (by omega) (by omega)), gd_t (nI_inb he2 (by omega)), nI_clamp (by omega), hm.2.2.1 e he2]
  cases bh b e with
  | true => rw [if_neg (show ¬ ib true = 0 by decide +kernel)]; rfl
  | false => rw [if_pos (show ib false = 0 by decide +kernel)]; rfl
/-- may be dug -/
def sf (b : BD) (f : Nat) : Bool := !bd b f && !decide (cnt b f = 4)
theorem shut_o {b : BD} (hb : BOK b) {f : Nat} (hf : f < bn b) : (decide (bo b f = 0) || decide (bo b f = 1)) = decide (cnt b f = 4) := by
  have h := hb.2.2.2.2.2 f hf
  by_cases c : cnt b f = 4
  · have := h.mpr c
    rw [decide_eq_true c, Bool.or_eq_true, decide_eq_true_eq, decide_eq_true_eq]; omega
  · have : ¬ bo b f < 2 := fun hh => c (h.mp hh)
    rw [decide_eq_false c, decide_eq_false (by omega), decide_eq_false (by omega)]; rfl
theorem soft_bits {g : GG} {b : BD} (hb : BOK b) (hg : GB g b) {i : Nat} (hi : i < 32) : bt (f_X0_softFields g) i = (decide (i < bn b) && sf b i) := by
  rw [soft_bit hg hi]
  by_cases h : i < bn b
  · rw [shut_o hb h, decide_eq_true h]; rfl
  · rw [decide_eq_false h]; rfl
theorem shut_bits {g : GG} {b : BD} (hb : BOK b) (hg : GB g b) {i : Nat} (hi : i < 32) : bt (f_X0_shutFields g) i = (decide (i < bn b) && decide (cnt b i = 4)) := by
  unfold f_X0_shutFields
  rw [bt_or, hg.2.2.2.1 i hi, hg.2.2.2.2 i hi]
  by_cases h : i < bn b
  · rw [shut_o hb h, decide_eq_true h]; rfl
  · have := (hb.2.2.2.1 i (by omega)).2
    rw [decide_eq_false h, this]; rfl
/-- a loop over fields that gathers -/
theorem msk_eq {n : Nat} {P : Nat → Bool} (hn : n ≤ 16) {r : Int32} (h : ∀ i, i < 32 → bt r i = (decide (i < n) && P i)) : r = msk P n := msk_of (by omega) h
theorem thirds_ok {σ : MM} {b : BD} (hz : SZ (bW b) (bH b)) (hm : MB σ b) : f_X4_thirds σ = some (msk (fun f => decide (cnt b f = 3)) (bn b)) := by
  have sz := szs hz
  have hn : bn b ≤ 16 := sz.2.1
  unfold f_X4_thirds f_X4_thirds_L4
  refine lp_msk _ (f_X4_thirds_L4_b σ) (fun f => decide (cnt b f = 3)) (bn b) _ (by omega) (fun i rec y hi => ?_) (fun rec => ?_)
  · have hc := cnt_le b i
    unfold f_X4_thirds_L4_b
    rw [wh_ok hm, if_neg (nI_ge hi (by omega)), hedges_ok hz hm hi, ob_s, lt_e, lt_e, lt_e, ← nI_succ]
    by_cases c : cnt b i = 3
    · rw [if_pos (show nI (cnt b i) = 3 by rw [c]; rfl), if_pos (decide_eq_true c)]
    · rw [if_neg (show ¬ nI (cnt b i) = 3 from fun h => c (nI_inj (b := 3) (by omega) (by omega) h)), if_neg (by rw [decide_eq_false c]; exact Bool.false_ne_true)]
  · unfold f_X4_thirds_L4_b
    rw [wh_ok hm, if_pos (nI_le (Nat.le_refl _) (by omega))]
theorem B_rim {x : XX} {σ : MM} (hR : Rel x σ)  : ∃ (r : Int32), f_X3_rim x  = some r ∧ f_X4_rim σ  = some r ∧ Rel x σ := by
  obtain ⟨b, t, mv, sd, hb, hg, hm, hgs, hms⟩ := hR.1
  have hz : SZ (bW b) (bH b) := ⟨hb.1, hb.2.1⟩
  have sz := szs hz
  obtain ⟨r, e1, h1⟩ := rimf_ok hz hg.1
  have hn : bn b ≤ 16 := sz.2.1
  refine ⟨r, ?_, ?_, hR⟩
  · unfold f_X3_rim; rw [e1, ob_s]
  · rw [msk_eq sz.2.1 h1]
    unfold f_X4_rim f_X4_rim_L4
    refine lp_msk _ (f_X4_rim_L4_b σ) (rf (bW b) (bH b)) (bn b) _ (by omega) (fun i rec y hi => ?_) (fun rec => ?_)
    · unfold f_X4_rim_L4_b
      rw [wh_ok hm, if_neg (nI_ge hi (by omega)), hasRim_ok hz hm.1 hm.2.1 hi, ob_s, lt_e, lt_e, lt_e, ← nI_succ]
    · unfold f_X4_rim_L4_b
      rw [wh_ok hm, if_pos (nI_le (Nat.le_refl _) (by omega))]
      rfl
theorem B_soft {x : XX} {σ : MM} (hR : Rel x σ)  : ∃ (r : Int32), f_X3_soft x  = r ∧ f_X4_soft σ  = some r ∧ Rel x σ := by
  obtain ⟨b, t, mv, sd, hb, hg, hm, hgs, hms⟩ := hR.1
  have hz : SZ (bW b) (bH b) := ⟨hb.1, hb.2.1⟩
  have sz := szs hz
  have hn : bn b ≤ 16 := sz.2.1
  refine ⟨f_X0_softFields (x_now x), rfl, ?_, hR⟩
  rw [msk_eq hn (fun i hi => soft_bits hb hg hi)]
  unfold f_X4_soft f_X4_soft_L4
  refine lp_msk _ (f_X4_soft_L4_b σ) (sf b) (bn b) _ (by omega) (fun i rec y hi => ?_) (fun rec => ?_)
  · unfold f_X4_soft_L4_b
    rw [wh_ok hm, if_neg (nI_ge hi (by omega)), show (100 : Int32) + nI i = nI (i + 100) by rw [show (100 : Int32) = nI 100 from rfl, nn_add, Nat.add_comm], mayF hz hm hi, ob_s, lt_e, lt_e, lt_e, ← nI_succ]
    rfl
  · unfold f_X4_soft_L4_b
    rw [wh_ok hm, if_pos (nI_le (Nat.le_refl _) (by omega))]
theorem B_thirds {x : XX} {σ : MM} (hR : Rel x σ)  : ∃ (r : Int32), f_X3_thirds x  = some r ∧ f_X4_thirds σ  = some r ∧ Rel x σ := by
  obtain ⟨b, t, mv, sd, hb, hg, hm, hgs, hms⟩ := hR.1
  have hz : SZ (bW b) (bH b) := ⟨hb.1, hb.2.1⟩
  have sz := szs hz
  have hn : bn b ≤ 16 := sz.2.1
  obtain ⟨r, e1, h1⟩ := three_ok hz hg.1 hg.2.1
  refine ⟨r, ?_, ?_, hR⟩
  · unfold f_X3_thirds; rw [e1, ob_s]
  · rw [msk_eq (P := fun f => decide (cnt b f = 3)) sz.2.1 h1]
    exact thirds_ok hz hm
theorem B_bare {x : XX} {σ : MM} (hR : Rel x σ)  : ∃ (r : Int32), f_X3_bare x  = some r ∧ f_X4_bare σ  = some r ∧ Rel x σ := by
  obtain ⟨b, t, mv, sd, hb, hg, hm, hgs, hms⟩ := hR.1
  have hz : SZ (bW b) (bH b) := ⟨hb.1, hb.2.1⟩
  have sz := szs hz
  have hn : bn b ≤ 16 := sz.2.1
  obtain ⟨r, e1, h1⟩ := touched_ok hz hg.1 hg.2.1
  have h2 : ∀ i, i < 32 → bt ((g_all (x_now x)) &&& (r ^^^ (-1))) i = (decide (i < bn b) && decide (cnt b i = 0)) := fun i hi => by
    rw [bt_and, bt_not hi, h1 i hi, hg.1.2.2.2.2.2.1 i hi]
    exact (by decide : ∀ p q : Bool, (p && !(p && !q)) = (p && q)) _ _
  refine ⟨(g_all (x_now x)) &&& (r ^^^ (-1)), ?_, ?_, hR⟩
  · unfold f_X3_bare; rw [e1, ob_s]
  · rw [msk_eq hn h2]
    unfold f_X4_bare f_X4_bare_L4
    refine lp_msk _ (f_X4_bare_L4_b σ) (fun f => decide (cnt b f = 0)) (bn b) _ (by omega) (fun i rec y hi => ?_) (fun rec => ?_)
    · have hc := cnt_le b i
      unfold f_X4_bare_L4_b
      rw [wh_ok hm, if_neg (nI_ge hi (by omega)), hedges_ok hz hm hi, ob_s, lt_e, lt_e, lt_e, ← nI_succ]
      by_cases c : cnt b i = 0
      · rw [if_pos (show nI (cnt b i) = 0 by rw [c]; rfl), if_pos (decide_eq_true c)]
      · rw [if_neg (show ¬ nI (cnt b i) = 0 from nI_ne0 (by omega) (by omega)), if_neg (by rw [decide_eq_false c]; exact Bool.false_ne_true)]
    · unfold f_X4_bare_L4_b
      rw [wh_ok hm, if_pos (nI_le (Nat.le_refl _) (by omega))]
theorem io_eq : ∀ o, o < 3 → ∀ p, p < 2 → (io o = nI p ↔ o = p) := by decide +kernel
theorem own_bits {g : GG} {b : BD} (hb : BOK b) (hg : GB g b) {p : Nat} (hp : p < 2) {i : Nat} (hi : i < 32) : bt (f_X0_ownedBy g (nI p)) i = (decide (i < bn b) && decide (bo b i = p)) := by
  unfold f_X0_ownedBy
  have q : ∀ v, v = decide (bo b i = p) → v = (decide (i < bn b) && decide (bo b i = p)) := fun v hv => by
    rw [hv]
    by_cases h : i < bn b
    · rw [decide_eq_true h]; rfl
    · rw [(hb.2.2.2.1 i (by omega)).2, decide_eq_false (show ¬ 2 = p by omega), Bool.and_false]
  rcases (by omega : p = 0 ∨ p = 1) with rfl | rfl
  · rw [if_pos (show nI 0 = 0 from rfl)]
    exact q _ (hg.2.2.2.1 i hi)
  · rw [if_neg (show ¬ nI 1 = 0 by decide +kernel)]
    exact q _ (hg.2.2.2.2 i hi)
theorem B_owned {x : XX} {σ : MM} (hR : Rel x σ) (a1 : Int32) : ∃ (r : Int32) (x' : XX) (σ' : MM), f_X3_owned x a1 = some (r, x') ∧ f_X4_owned σ a1 = some (r, σ') ∧ Rel x' σ' := by
  have hno := R_no' hR (-2) (Or.inl rfl)
  obtain ⟨b, t, mv, sd, hb, hg, hm, hgs, hms⟩ := hR.1
  have hz : SZ (bW b) (bH b) := ⟨hb.1, hb.2.1⟩
  have sz := szs hz
  have hn : bn b ≤ 16 := sz.2.1
  unfold f_X3_owned f_X4_owned
  rcases seat_iff a1 with ⟨e1, e2⟩ | ⟨p, hp, rfl, e1, e2⟩
  · rw [e1, e2]; exact hno
  rw [e1, e2, if_pos rfl, if_pos rfl]
  refine ⟨_, _, _, rfl, ?_, hR⟩
  rw [msk_eq hn (fun i hi => own_bits hb hg hp hi)]
  unfold f_X4_owned_L20
  refine lp_msk _ (f_X4_owned_L20_b σ (nI p)) (fun f => decide (bo b f = p)) (bn b) _ (by omega) (fun i rec y hi => ?_) (fun rec => ?_)
  · have ho := hb.2.2.2.2.1 i
    unfold f_X4_owned_L20_b
    rw [wh_ok hm, if_neg (nI_ge hi (by omega)), gd_t (nI_inb (show i < 16 by omega) (by omega)), nI_clamp (by omega), hm.2.2.2.2 i (by omega), lt_e, lt_e, lt_e, ← nI_succ]
    have := io_eq (bo b i) (by omega) p hp
    by_cases c : bo b i = p
    · rw [if_pos (this.mpr c), if_pos (decide_eq_true c)]
    · rw [if_neg (fun hh => c (this.mp hh)), if_neg (by rw [decide_eq_false c]; exact Bool.false_ne_true)]
  · unfold f_X4_owned_L20_b
    rw [wh_ok hm, if_pos (nI_le (Nat.le_refl _) (by omega))]
theorem B_gaps {x : XX} {σ : MM} (hR : Rel x σ)  : ∃ (r : Int32), f_X3_gaps x  = r ∧ f_X4_gaps σ  = some r ∧ Rel x σ := by
  obtain ⟨b, t, mv, sd, hb, hg, hm, hgs, hms⟩ := hR.1
  have hz : SZ (bW b) (bH b) := ⟨hb.1, hb.2.1⟩
  have sz := szs hz
  have hn : be b ≤ 40 := sz.1
  refine ⟨_, rfl, ?_, hR⟩
  unfold f_X3_gaps
  have hbits : ∀ i, i < 64 → bl ((g_rimEdges (x_now x)) &&& ((g_hedges (x_now x)) ^^^ (-1))) i = ((decide (i < be b) && rp (bW b) (bH b) i) && !bh b i) := fun i hi => by
    rw [bl_and, bl_not hi, rim_bits hg.1 i hi, hg.2.1 i hi]; rfl
  rw [cnt64, cn_cong 64 hbits, cn_ext 64 (show be b ≤ 64 by omega) (fun i h1 h2 => by rw [decide_eq_false (show ¬ i < be b by omega)]; rfl), cn_cong (Q := fun i => rp (bW b) (bH b) i && !bh b i) (be b) (fun i hi => by rw [decide_eq_true hi]; rfl)]
  unfold f_X4_gaps f_X4_gaps_L4
  refine lp_cnt _ (f_X4_gaps_L4_b σ) (fun i => rp (bW b) (bH b) i && !bh b i) (be b) 0 _ (by omega) (fun i rec y hi => ?_) (fun rec => ?_)
  · unfold f_X4_gaps_L4_b
    rw [ed_ok hm, if_neg (show ¬ nI (be b) ≤ nI i from nI_ge hi (by omega)), isRim_ok hz hm.1 hm.2.1 hi, ob_s, gd_t (nI_inb (show i < 40 by omega) (by omega)), nI_clamp (by omega), hm.2.2.1 i (by omega)]
    simp only [lt_e, ← nI_succ]
    cases rp (bW b) (bH b) i with
    | false => rfl
    | true =>
      cases bh b i with
      | false => rfl
      | true => rfl
  · unfold f_X4_gaps_L4_b
    rw [ed_ok hm, if_pos (show nI (be b) ≤ nI (be b) from nI_le (Nat.le_refl _) (by omega)), Nat.zero_add]
