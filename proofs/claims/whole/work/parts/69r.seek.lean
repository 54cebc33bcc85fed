/-! What players look for -/
theorem ff_up {P : Nat → Bool} {n m : Nat} (hnm : n ≤ m) (h : ff P n < n) : ff P m = ff P n := ff_eq (by omega) (ff_yes n h) (fun i hi => ff_no n i hi)
theorem an_ff {P : Nat → Bool} {n : Nat} : an P n = decide (ff P n < n) := by
  by_cases c : ff P n < n
  · rw [decide_eq_true c]; exact (an_iff n).mpr ⟨_, c, ff_yes n c⟩
  · rw [decide_eq_false c]
    have := ff_le P n
    exact an_f (fun i hi => ff_no n i (by omega))
theorem an_up {P : Nat → Bool} {n m : Nat} (hnm : n ≤ m) (h : ∀ i, n ≤ i → i < m → P i = false) : an P m = an P n := by
  apply b_iff
  constructor
  · intro hh
    obtain ⟨i, hi, h1⟩ := (an_iff m).mp hh
    refine (an_iff n).mpr ⟨i, ?_, h1⟩
    rcases Nat.lt_or_ge i n with h2 | h2
    · exact h2
    · rw [h i h2 hi] at h1; cases h1
  · intro hh
    obtain ⟨i, hi, h1⟩ := (an_iff n).mp hh
    exact (an_iff m).mpr ⟨i, by omega, h1⟩
def th3 (b : BD) (f : Nat) : Bool := decide (f < bn b) && decide (cnt b f = 3)
def tw2 (b : BD) (f : Nat) : Bool := decide (f < bn b) && decide (cnt b f = 2)
/-- edges that shut -/
def uS (b : BD) (e : Nat) : Bool := (decide (e < be b) && (th3 b (fd (bW b) (bH b) e 0) || th3 b (fd (bW b) (bH b) e 1))) && !bh b e
theorem th3_lt (b : BD) (i : Nat) (h : th3 b i = true) : i < nF (bW b) (bH b) := by
  unfold th3 at h; rw [Bool.and_eq_true, decide_eq_true_eq] at h; exact h.1
theorem tw2_lt (b : BD) (i : Nat) (h : tw2 b i = true) : i < nF (bW b) (bH b) := by
  unfold tw2 at h; rw [Bool.and_eq_true, decide_eq_true_eq] at h; exact h.1
theorem free_bits {g : GG} {b : BD} (hz : SZ (bW b) (bH b)) (hg : GB g b) {i : Nat} (hi : i < 64) : bl (f_X0_freeEdges g) i = (decide (i < be b) && !bh b i) := by
  rw [free_bit hz hg hi, Bool.and_comm]
theorem shutting_ok {g : GG} {b : BD} (hb : BOK b) (hg : GB g b) : ∃ y, f_X0_shuttingEdges g = some y ∧ ∀ e, e < 64 → bl y e = uS b e := by
  have hz : SZ (bW b) (bH b) := ⟨hb.1, hb.2.1⟩
  obtain ⟨r, r1, r2⟩ := three_ok hz hg.1 hg.2.1
  obtain ⟨y, y1, y2⟩ := around_ok hz hg.1 (a := r) (S := th3 b) r2 (th3_lt b)
  unfold f_X0_shuttingEdges
  rw [r1, ob_s, y1, ob_s]
  refine ⟨_, rfl, fun e he => ?_⟩
  rw [bl_and, y2 e he, free_bits hz hg he]
  unfold uS
  show ((decide (e < be b) && _) && (decide (e < be b) && _)) = _
  cases decide (e < be b) with
  | false => rfl
  | true => rfl
/-- edges that leave no field with three -/
def cm (b : BD) (e : Nat) : Bool := !an (fun f => decide (ct (bW b) (bH b) (hp (bh b) e) f = 3)) (bn b)
def uC (b : BD) (e : Nat) : Bool := decide (e < be b) && (!bh b e && cm b e)
theorem calm_run {g : GG} {W H : Nat} (hz : SZ W H) (hg : GGeo g W H) : ∀ (k N : Nat) (y : Int64) (R : Nat → Bool) (i : Nat), cn R (nF W H) = k → k < N → i + k ≤ 16 → ∃ y', lp (fun _ _ _ => none) (f_X0_calmEdges_L34_b g) N y (msk R (nF W H)) (nI i) = some y' ∧ ∀ e, e < nE W H → bl y' e = (bl y e && !an (fun f => R f && !isf W H e f) (nF W H)) ∧ ∀ e, e < 64 → bl y e = false → bl y' e = false := by
  have sz := szs hz
  have hn : nF W H ≤ 16 := sz.2.1
  intro k
  induction k with
  | zero =>
    intro N y R i hc hN hi
    obtain ⟨m, rfl⟩ : ∃ m, N = m + 1 := ⟨N - 1, by omega⟩
    have hR : ∀ f, f < nF W H → R f = false := fun f hf => by
      cases hr : R f with
      | false => rfl
      | true => have := cn_lt hf hr; omega
    rw [lp_s]
    unfold f_X0_calmEdges_L34_b
    rw [(msk_eq0 (by omega)).mpr hR]
    refine ⟨y, ?_, fun e he => ⟨?_, fun e _ h => h⟩⟩
    · by_cases c : (16 : Int32) ≤ nI i
      · rw [if_pos c]
      · rw [if_neg c, if_pos rfl]
    · rw [an_f (fun f hf => by rw [hR f hf]; rfl)]; simp
  | succ k ih =>
    intro N y R i hc hN hi
    obtain ⟨m, rfl⟩ : ∃ m, N = m + 1 := ⟨N - 1, by omega⟩
    obtain ⟨j, hj, hRj⟩ := cn_ex (P := R) (nF W H) (by omega)
    have hl : ff R (nF W H) < nF W H := Nat.lt_of_le_of_lt (ff_at hj hRj) hj
    have hRl := ff_yes (P := R) _ hl
    have hno := ff_no (P := R) (nF W H)
    generalize ff R (nF W H) = l at hl hRl hno
    have hb1 : bt (msk R (nF W H)) l = true := by rw [bt_msk _ _ (by omega), decide_eq_true hl, hRl]; rfl
    have hb0 : ∀ q, q < l → bt (msk R (nF W H)) q = false := fun q hq => by rw [bt_msk _ _ (by omega), hno q hq, Bool.and_false]
    obtain ⟨a, a1, a2⟩ := around_ok hz hg (a := ishl 1 (nI l)) (S := fun o => decide (o = l)) (fun q hq => bt_ishl1 (by omega) q) (fun q h => by rw [decide_eq_true_eq] at h; omega)
    have hx : msk R (nF W H) ^^^ ishl 1 (nI l) = msk (fun f => R f && !decide (f = l)) (nF W H) := bt_ext (fun q hq => by
      rw [bt_xor, bt_msk _ _ (by omega), bt_msk _ _ (by omega), bt_ishl1 (by omega)]
      by_cases c : q = l
      · rw [c, decide_eq_true hl, hRl, decide_eq_true rfl]; rfl
      · rw [decide_eq_false c]; simp)
    have hcn : cn (fun f => R f && !decide (f = l)) (nF W H) = k := by
      have h1 : cn R (nF W H) = cn (fun f => R f && !decide (f = l)) (nF W H) + cn (fun f => decide (f = l) && true) (nF W H) := by
        rw [← cn_or _ (fun f _ hh => by
          simp only [Bool.and_eq_true, Bool.not_eq_true', decide_eq_true_eq] at hh
          exact of_decide_eq_false hh.1.2 hh.2.1)]
        refine cn_cong _ (fun f _ => ?_)
        by_cases c : f = l
        · rw [c, hRl, decide_eq_true rfl]; rfl
        · rw [decide_eq_false c]; simp
      rw [cn_one, if_pos hl] at h1
      have e1 : cb true = 1 := rfl
      omega
    obtain ⟨y', z1, z2⟩ := ih m (y &&& a) (fun f => R f && !decide (f = l)) (i + 1) hcn (by omega) (by omega)
    refine ⟨y', ?_, fun e he => ⟨?_, fun e he2 h => ?_⟩⟩
    · rw [lp_s]
      unfold f_X0_calmEdges_L34_b
      rw [if_neg (show ¬ (16 : Int32) ≤ nI i from nI_ge (b := 16) (by omega) (by omega)), if_neg (fun hh => by rw [hh, bt_0] at hb1; cases hb1), bt_lowest (by omega) hb1 hb0]
      simp only [lt_e, ← nI_succ]
      rw [a1, ob_s, hx]
      exact z1
    · rw [(z2 e he).1, bl_and, a2 e (by omega), decide_eq_true he, Bool.true_and]
      have hi2 : (decide (fd W H e 0 = l) || decide (fd W H e 1 = l)) = isf W H e l := by
        unfold isf
        congr 1
        · exact decide_eq_decide.mpr ⟨Eq.symm, Eq.symm⟩
        · exact decide_eq_decide.mpr ⟨Eq.symm, Eq.symm⟩
      rw [hi2, Bool.and_assoc]
      congr 1
      apply b_iff
      rw [Bool.and_eq_true, Bool.not_eq_true', Bool.not_eq_true']
      constructor
      · rintro ⟨h1, h2⟩
        refine an_f (fun f hf => ?_)
        by_cases c : f = l
        · rw [c, h1]; simp
        · cases hv : (R f && !isf W H e f) with
          | false => rfl
          | true =>
            rw [Bool.and_eq_true] at hv
            have : an (fun f => (R f && !decide (f = l)) && !isf W H e f) (nF W H) = true := (an_iff _).mpr ⟨f, hf, by rw [hv.1, hv.2, decide_eq_false c]; rfl⟩
            rw [h2] at this; cases this
      · intro h
        constructor
        · cases hv : isf W H e l with
          | true => rfl
          | false =>
            have : an (fun f => R f && !isf W H e f) (nF W H) = true := (an_iff _).mpr ⟨l, hl, by rw [hRl, hv]; rfl⟩
            rw [h] at this; cases this
        · refine an_f (fun f hf => ?_)
          cases hv : ((R f && !decide (f = l)) && !isf W H e f) with
          | false => rfl
          | true =>
            rw [Bool.and_eq_true, Bool.and_eq_true] at hv
            have : an (fun f => R f && !isf W H e f) (nF W H) = true := (an_iff _).mpr ⟨f, hf, by rw [hv.1.1, hv.2]; rfl⟩
            rw [h] at this; cases this
    · exact (z2 0 (by omega)).2 e he2 (by rw [bl_and, h]; rfl)
theorem cm_iff {b : BD} (hz : SZ (bW b) (bH b)) {e : Nat} (he : e < be b) (h0 : bh b e = false) : cm b e = true ↔ ∀ f, f < bn b → (isf (bW b) (bH b) e f = true → cnt b f ≠ 2) ∧ (isf (bW b) (bH b) e f = false → cnt b f ≠ 3) := by
  unfold cm
  rw [Bool.not_eq_true']
  have hc : ∀ f, f < bn b → ct (bW b) (bH b) (hp (bh b) e) f = cnt b f + cb (isf (bW b) (bH b) e f) := fun f hf => ct_hp hz he hf h0
  constructor
  · intro h f hf
    have h1 : ¬ ct (bW b) (bH b) (hp (bh b) e) f = 3 := fun hh => by
      have : an (fun f => decide (ct (bW b) (bH b) (hp (bh b) e) f = 3)) (bn b) = true := (an_iff _).mpr ⟨f, hf, decide_eq_true hh⟩
      rw [h] at this; cases this
    rw [hc f hf] at h1
    constructor
    · intro hi; rw [hi] at h1; have e1 : cb true = 1 := rfl; omega
    · intro hi; rw [hi] at h1; have e1 : cb false = 0 := rfl; omega
  · intro h
    refine an_f (fun f hf => decide_eq_false (fun hh => ?_))
    rw [hc f hf] at hh
    obtain ⟨h1, h2⟩ := h f hf
    cases hi : isf (bW b) (bH b) e f with
    | true => have := h1 hi; rw [hi] at hh; have e1 : cb true = 1 := rfl; omega
    | false => have := h2 hi; rw [hi] at hh; have e1 : cb false = 0 := rfl; omega
theorem calmX_ok {g : GG} {b : BD} (hb : BOK b) (hg : GB g b) : ∃ y, f_X0_calmEdges g = some y ∧ ∀ e, e < 64 → bl y e = uC b e := by
  have hz : SZ (bW b) (bH b) := ⟨hb.1, hb.2.1⟩
  have sz := szs hz
  have hn : bn b ≤ 16 := sz.2.1
  obtain ⟨r, r1, r2⟩ := two_ok hz hg.1 hg.2.1
  obtain ⟨q, q1, q2⟩ := three_ok hz hg.1 hg.2.1
  obtain ⟨y, y1, y2⟩ := around_ok hz hg.1 (a := r) (S := tw2 b) r2 (tw2_lt b)
  have hq : q = msk (fun f => decide (cnt b f = 3)) (bn b) := msk_eq hn q2
  obtain ⟨y', z1, z2⟩ := calm_run hz hg.1 (cn (fun f => decide (cnt b f = 3)) (bn b)) FU ((f_X0_freeEdges g) &&& (y ^^^ (-1))) (fun f => decide (cnt b f = 3)) 0 rfl (by have := cn_le (fun f => decide (cnt b f = 3)) (bn b); unfold FU; omega) (by have := cn_le (fun f => decide (cnt b f = 3)) (bn b); omega)
  unfold f_X0_calmEdges
  rw [r1, ob_s, y1, ob_s, lt_e, q1, ob_s, hq]
  unfold f_X0_calmEdges_L34
  refine ⟨y', z1, fun e he => ?_⟩
  have hy : bl ((f_X0_freeEdges g) &&& (y ^^^ (-1))) e = ((decide (e < be b) && !bh b e) && !(decide (e < be b) && (tw2 b (fd (bW b) (bH b) e 0) || tw2 b (fd (bW b) (bH b) e 1)))) := by
    rw [bl_and, bl_not he, free_bits hz hg he, y2 e he]; rfl
  unfold uC
  by_cases c : e < be b
  · rw [(z2 e c).1, hy, decide_eq_true c, Bool.true_and, Bool.true_and, Bool.true_and]
    cases h0 : bh b e with
    | true => rfl
    | false =>
      rw [Bool.not_false, Bool.true_and, Bool.true_and]
      apply b_iff
      rw [cm_iff hz c h0, Bool.and_eq_true, Bool.not_eq_true', Bool.not_eq_true', Bool.or_eq_false_iff]
      have hisf : ∀ f, isf (bW b) (bH b) e f = true ↔ f = fd (bW b) (bH b) e 0 ∨ f = fd (bW b) (bH b) e 1 := fun f => by
        unfold isf; rw [Bool.or_eq_true, decide_eq_true_eq, decide_eq_true_eq]
      constructor
      · rintro ⟨⟨h1, h2⟩, h3⟩ f hf
        constructor
        · intro hi hc
          have tf : tw2 b f = true := by unfold tw2; rw [decide_eq_true hf, decide_eq_true hc]; rfl
          rcases (hisf f).mp hi with e1 | e1
          · rw [← e1, tf] at h1; cases h1
          · rw [← e1, tf] at h2; cases h2
        · intro hi hc
          have : an (fun f => decide (cnt b f = 3) && !isf (bW b) (bH b) e f) (nF (bW b) (bH b)) = true := (an_iff _).mpr ⟨f, hf, by rw [decide_eq_true hc, hi]; rfl⟩
          rw [h3] at this; cases this
      · intro h
        have tz : ∀ f, isf (bW b) (bH b) e f = true → tw2 b f = false := fun f hi => by
          cases ht : tw2 b f with
          | false => rfl
          | true =>
            have hf := tw2_lt b f ht
            unfold tw2 at ht
            rw [Bool.and_eq_true, decide_eq_true_eq, decide_eq_true_eq] at ht
            exact absurd ht.2 ((h f hf).1 hi)
        refine ⟨⟨tz _ ((hisf _).mpr (Or.inl rfl)), tz _ ((hisf _).mpr (Or.inr rfl))⟩, an_f (fun f hf => ?_)⟩
        cases hi : isf (bW b) (bH b) e f with
        | true => rw [Bool.not_true, Bool.and_false]
        | false => rw [decide_eq_false ((h f hf).2 hi)]; rfl
  · rw [decide_eq_false c, Bool.false_and]
    exact (z2 0 (by omega)).2 e he (by rw [hy, decide_eq_false c]; rfl)
-- the reference
theorem isCalm_ok {σ : MM} {b : BD} (hz : SZ (bW b) (bH b)) (hm : MB σ b) {e : Nat} (he : e < be b) : f_X4_isCalm σ (nI e) = some (!bh b e && cm b e, σ) := by
  have sz := szs hz
  have hn : bn b ≤ 16 := sz.2.1
  have hE : be b ≤ 40 := sz.1
  unfold f_X4_isCalm
  rw [gd_t (nI_inb (show e < 40 by omega) (by omega)), nI_clamp (by omega), gd_t (nI_inb (show e < 40 by omega) (by omega))]
  have h3 := hm.2.2.1 e (by omega)
  cases h0 : bh b e with
  | true => rw [h3, h0, if_neg (show ¬ ib true = 0 by decide +kernel)]; rfl
  | false =>
    rw [h3, h0, if_pos (show ib false = 0 by decide +kernel), lt_e, nar1, nar0]
    have hm1 : MB (m_hedge' σ (upd (m_hedge σ) e 1)) (bW b, bH b, hp (bh b) e, bd b, bo b) := by
      refine ⟨by rw [q_m_w_hedge]; exact hm.1, by rw [q_m_h_hedge]; exact hm.2.1, fun k hk => ?_, by rw [q_m_dug_hedge]; exact hm.2.2.2.1, by rw [q_m_owner_hedge]; exact hm.2.2.2.2⟩
      rw [q_m_hedge_hedge]
      show (if k = e then 1 else m_hedge σ k) = ib (bh b k || decide (k = e))
      by_cases d : k = e
      · rw [if_pos d, decide_eq_true d, Bool.or_true]; rfl
      · rw [if_neg d, decide_eq_false d, Bool.or_false]; exact hm.2.2.1 k hk
    have ht := thirds_ok (b := (bW b, bH b, hp (bh b) e, bd b, bo b)) hz hm1
    have back : m_hedge' (m_hedge' σ (upd (m_hedge σ) e 1)) (upd (m_hedge (m_hedge' σ (upd (m_hedge σ) e 1))) e 0) = σ := by
      rw [q_m_hedge_hedge]
      have e1 : upd (upd (m_hedge σ) e 1) e 0 = m_hedge σ := by
        funext k
        show (if k = e then 0 else if k = e then 1 else m_hedge σ k) = m_hedge σ k
        by_cases d : k = e
        · rw [if_pos d, d, h3, h0]; rfl
        · rw [if_neg d, if_neg d]
      rw [e1]
      unfold m_hedge' m_hedge
      exact rfl
    rw [ht, ob_s, gd_t (nI_inb (show e < 40 by omega) (by omega)), gd_t (nI_inb (show e < 40 by omega) (by omega)), lt_e, lt_e, back]
    have hiff : msk (fun f => decide (cnt (bW b, bH b, hp (bh b) e, bd b, bo b) f = 3)) (bn (bW b, bH b, hp (bh b) e, bd b, bo b)) = 0 ↔ cm b e = true := by
      rw [msk_eq0 (by exact Nat.le_trans hn (by omega))]
      unfold cm
      rw [Bool.not_eq_true']
      constructor
      · intro h; exact an_f h
      · intro h f hf
        cases hd : decide (cnt (bW b, bH b, hp (bh b) e, bd b, bo b) f = 3) with
        | false => rfl
        | true =>
          have : an (fun f => decide (ct (bW b) (bH b) (hp (bh b) e) f = 3)) (bn b) = true := (an_iff _).mpr ⟨f, hf, hd⟩
          rw [h] at this; cases this
    cases hcm : cm b e with
    | true => rw [if_pos (hiff.mpr hcm)]; rfl
    | false => rw [if_neg (fun hh => by rw [hiff.mp hh] at hcm; cases hcm)]; rfl
theorem B_calm {x : XX} {σ : MM} (hR : Rel x σ)  : ∃ (r : Int32) (σ' : MM), f_X3_calm x  = some r ∧ f_X4_calm σ  = some (r, σ') ∧ Rel x σ' := by
  obtain ⟨b, t, mv0, sd, hb, hg, hm, hgs, hms⟩ := hR.1
  have hz : SZ (bW b) (bH b) := ⟨hb.1, hb.2.1⟩
  have sz := szs hz
  have hE : be b ≤ 40 := sz.1
  obtain ⟨y, y1, y2⟩ := calmX_ok hb hg
  refine ⟨_, σ, by unfold f_X3_calm; rw [y1, ob_s], ?_, hR⟩
  rw [cnt_l (n := be b) (P := fun e => !bh b e && cm b e) (by omega) y2]
  have h := lp_FU (fun _ _ _ => none) f_X4_calm_L4_b (fun f (p : Int32 × Int32 × MM) => f p.1 p.2.1 p.2.2) (fun i => (nI (cn (fun e => !bh b e && cm b e) i), nI i, σ)) (be b) (some (nI (cn (fun e => !bh b e && cm b e) (be b)), σ)) (fun i rec hi => by
      show f_X4_calm_L4_b rec (nI (cn (fun e => !bh b e && cm b e) i)) (nI i) σ = rec (nI (cn (fun e => !bh b e && cm b e) (i + 1))) (nI (i + 1)) σ
      unfold f_X4_calm_L4_b
      rw [ed_ok hm, if_neg (nI_ge hi (by omega)), isCalm_ok hz hm hi, ob2_s, cn_s]
      simp only [lt_e, ← nI_succ]
      cases (!bh b i && cm b i) with
      | true => rfl
      | false => rfl) (fun rec => by
      show f_X4_calm_L4_b rec (nI (cn (fun e => !bh b e && cm b e) (be b))) (nI (be b)) σ = _
      unfold f_X4_calm_L4_b
      rw [ed_ok hm, if_pos (nI_le (Nat.le_refl _) (by omega))]) (by omega)
  unfold f_X4_calm f_X4_calm_L4
  exact h
