/-! Ditches that drain; parts and ditches counted -/
/-- a field with a free edge at the rim -/
def fr (b : BD) (f : Nat) : Bool := !decide (ct (bW b) (bH b) (fun e => rp (bW b) (bH b) e && !bh b e) f = 0)
theorem fr_ff (b : BD) (f : Nat) : fr b f = decide (ff (fun s => rp (bW b) (bH b) (eg (bW b) (bH b) f s) && !bh b (eg (bW b) (bH b) f s)) 4 < 4) := by
  have hc := cn_ct (bW b) (bH b) (fun e => rp (bW b) (bH b) e && !bh b e) f
  have h := ff_cn (P := fun s => rp (bW b) (bH b) (eg (bW b) (bH b) f s) && !bh b (eg (bW b) (bH b) f s)) (n := 4)
  unfold fr
  rw [← hc]
  by_cases c : ff (fun s => rp (bW b) (bH b) (eg (bW b) (bH b) f s) && !bh b (eg (bW b) (bH b) f s)) 4 < 4
  · have := h.mp c
    rw [decide_eq_true c, decide_eq_false (by omega)]; rfl
  · have : ¬ 0 < cn (fun s => rp (bW b) (bH b) (eg (bW b) (bH b) f s) && !bh b (eg (bW b) (bH b) f s)) 4 := fun hh => c (h.mpr hh)
    rw [decide_eq_false c, decide_eq_true (by omega)]; rfl
theorem open17 {σ : MM} {b : BD} (hz : SZ (bW b) (bH b)) (hm : MB σ b) {S : Nat → Bool} {f : Nat} (hf : f < bn b) (k : Option Bool) : f_X4_isOpen_L17 σ (msk S (bn b)) (nI f) k 0 = if (S f && fr b f) = true then some true else k := by
  have sz := szs hz
  have hn : bn b ≤ 16 := sz.2.1
  have hb := bt_msk S (bn b) (by omega) f
  rw [decide_eq_true hf, Bool.true_and] at hb
  rw [fr_ff]
  unfold f_X4_isOpen_L17
  cases hS : S f with
  | false =>
    rw [Bool.false_and, if_neg Bool.false_ne_true]
    refine lp_find _ (f_X4_isOpen_L17_b σ (msk S (bn b)) (nI f) k) (fun _ => false) 4 _ (by omega) (fun i rec hi => ?_) (fun rec => ?_)
    · have hl := ff_le (fun _ => false) 4
      unfold f_X4_isOpen_L17_b
      rw [if_neg (show ¬ (4 : Int32) ≤ nI i from nI_ge (b := 4) (by omega) (by omega)), if_neg (fun hh => by rw [bit_r1 _ (by omega), hb, hS] at hh; cases hh), lt_e, ← nI_succ]
    · unfold f_X4_isOpen_L17_b
      rw [ff_none (fun _ _ => rfl), if_pos (show (4 : Int32) ≤ nI 4 by decide +kernel)]
  | true =>
    rw [Bool.true_and]
    have hst : ∀ i, i < 4 → ∀ rec : Int32 → Option Bool, f_X4_isOpen_L17_b σ (msk S (bn b)) (nI f) k rec (nI i) = if (rp (bW b) (bH b) (eg (bW b) (bH b) f i) && !bh b (eg (bW b) (bH b) f i)) = true then some true else rec (nI (i + 1)) := fun i hi rec => by
      have hel := eg_lt hz hf hi
      unfold f_X4_isOpen_L17_b
      rw [if_neg (show ¬ (4 : Int32) ≤ nI i from nI_ge (b := 4) hi (by omega)), if_pos ((bit_r1 _ (by omega)).mpr (hb.trans hS)), geo_me hz hm.1 hm.2.1 hf hi, ob_s, isRim_ok hz hm.1 hm.2.1 hel, ob_s, ob_s, gd_t (nI_inb (show eg (bW b) (bH b) f i < 40 by omega) (by omega)), nI_clamp (by omega), hm.2.2.1 _ (by omega)]
      simp only [lt_e, ← nI_succ]
      cases rp (bW b) (bH b) (eg (bW b) (bH b) f i) with
      | false => rfl
      | true =>
        cases bh b (eg (bW b) (bH b) f i) with
        | false => rfl
        | true => rfl
    refine lp_find _ (f_X4_isOpen_L17_b σ (msk S (bn b)) (nI f) k) (fun s => rp (bW b) (bH b) (eg (bW b) (bH b) f s) && !bh b (eg (bW b) (bH b) f s)) 4 _ (by omega) (fun i rec hi => ?_) (fun rec => ?_)
    · have hl := ff_le (fun s => rp (bW b) (bH b) (eg (bW b) (bH b) f s) && !bh b (eg (bW b) (bH b) f s)) 4
      have hno := ff_no (P := fun s => rp (bW b) (bH b) (eg (bW b) (bH b) f s) && !bh b (eg (bW b) (bH b) f s)) 4 i hi
      rw [hst i (by omega), if_neg (by rw [show (rp (bW b) (bH b) (eg (bW b) (bH b) f i) && !bh b (eg (bW b) (bH b) f i)) = false from hno]; exact Bool.false_ne_true)]
    · have hl := ff_le (fun s => rp (bW b) (bH b) (eg (bW b) (bH b) f s) && !bh b (eg (bW b) (bH b) f s)) 4
      by_cases c : ff (fun s => rp (bW b) (bH b) (eg (bW b) (bH b) f s) && !bh b (eg (bW b) (bH b) f s)) 4 < 4
      · have hy := ff_yes (P := fun s => rp (bW b) (bH b) (eg (bW b) (bH b) f s) && !bh b (eg (bW b) (bH b) f s)) 4 c
        rw [hst _ c, if_pos hy, if_pos (decide_eq_true c)]
      · rw [if_neg (by rw [decide_eq_false c]; exact Bool.false_ne_true)]
        unfold f_X4_isOpen_L17_b
        rw [if_pos (show (4 : Int32) ≤ nI _ from nI_le (a := 4) (by omega) (by omega))]
theorem isOpenM_ok {σ : MM} {b : BD} (hz : SZ (bW b) (bH b)) (hm : MB σ b) (S : Nat → Bool) : f_X4_isOpen σ (msk S (bn b)) = some (an (fun f => S f && fr b f) (bn b)) := by
  have sz := szs hz
  have hn : bn b ≤ 16 := sz.2.1
  have hst : ∀ i, i < bn b → ∀ rec : Int32 → Option Bool, f_X4_isOpen_L2_b σ (msk S (bn b)) rec (nI i) = if (S i && fr b i) = true then some true else rec (nI (i + 1)) := fun i hi rec => by
    unfold f_X4_isOpen_L2_b
    rw [wh_ok hm, if_neg (nI_ge hi (by omega)), open17 hz hm hi, lt_e, ← nI_succ]
  have hl := ff_le (fun f => S f && fr b f) (bn b)
  unfold f_X4_isOpen f_X4_isOpen_L2
  refine lp_find _ (f_X4_isOpen_L2_b σ (msk S (bn b))) (fun f => S f && fr b f) (bn b) _ (by omega) (fun i rec hi => ?_) (fun rec => ?_)
  · have hno := ff_no (P := fun f => S f && fr b f) (bn b) i hi
    rw [hst i (by omega), if_neg (by rw [show (S i && fr b i) = false from hno]; exact Bool.false_ne_true)]
  · by_cases c : ff (fun f => S f && fr b f) (bn b) < bn b
    · have hy := ff_yes (P := fun f => S f && fr b f) (bn b) c
      rw [hst _ c, if_pos hy, (an_iff (bn b)).mpr ⟨_, c, hy⟩]
    · have e : ff (fun f => S f && fr b f) (bn b) = bn b := by omega
      rw [an_f (fun i hi => ff_no (P := fun f => S f && fr b f) (bn b) i (by omega)), e]
      unfold f_X4_isOpen_L2_b
      rw [wh_ok hm, if_pos (nI_le (Nat.le_refl _) (by omega))]
/-- fields of ditches that drain -/
def drn (b : BD) (f : Nat) : Bool := bd b f && an (fun g => rch (bn b) (dA b) f g && fr b g) (bn b)
theorem drains_ok {σ : MM} {b : BD} (hz : SZ (bW b) (bH b)) (hm : MB σ b) : f_X4_drains σ = some (msk (drn b) (bn b)) := by
  have sz := szs hz
  have hn : bn b ≤ 16 := sz.2.1
  unfold f_X4_drains f_X4_drains_L4
  refine lp_msk _ (f_X4_drains_L4_b σ) (drn b) (bn b) _ (by omega) (fun i rec y hi => ?_) (fun rec => ?_)
  · unfold f_X4_drains_L4_b drn
    rw [wh_ok hm, if_neg (nI_ge hi (by omega)), gd_t (nI_inb (show i < 16 by omega) (by omega)), nI_clamp (by omega), hm.2.2.2.1 i (by omega), ditchOf_ok hz hm hi, ob_s, isOpenM_ok hz hm, ob_s]
    simp only [lt_e, ← nI_succ]
    cases bd b i with
    | false => rfl
    | true => rfl
  · unfold f_X4_drains_L4_b
    rw [wh_ok hm, if_pos (nI_le (Nat.le_refl _) (by omega))]
theorem drainX_ok {g : GG} {b : BD} (hb : BOK b) (hg : GB g b) : f_X0_drainedFields g = some (msk (drn b) (bn b)) := by
  have hz : SZ (bW b) (bH b) := ⟨hb.1, hb.2.1⟩
  have sz := szs hz
  have hn : bn b ≤ 16 := sz.2.1
  have hbd : ∀ i, bd b i = true → i < nF (bW b) (bH b) := fun i h => by
    rcases Nat.lt_or_ge i (bn b) with h1 | h1
    · exact h1
    · rw [(hb.2.2.2.1 i h1).1] at h; cases h
  obtain ⟨r, r1, r2⟩ := touched_ok hz hg.1 (x := (g_rimEdges g) &&& ((g_hedges g) ^^^ (-1))) (X := fun e => (decide (e < be b) && rp (bW b) (bH b) e) && !bh b e) (fun e he => by rw [bl_and, bl_not he, rim_bits hg.1 e he, hg.2.1 e he]; rfl)
  have hfr : ∀ i, i < bn b → (!decide (ct (bW b) (bH b) (fun e => (decide (e < be b) && rp (bW b) (bH b) e) && !bh b e) i = 0)) = fr b i := fun i hi => by
    unfold fr
    rw [ct_cong hz (q := fun e => rp (bW b) (bH b) e && !bh b e) (fun e he => by show ((decide (e < be b) && _) && _) = _; rw [decide_eq_true (show e < be b from he)]; rfl) hi]
  have hh := hang_ok hz hg.1 (x := 0) (X := fun _ => false) (fun e _ => bl_0 e) hg.2.2.1 hbd (a := r) (S := fun f => fr b f && bd b f) (fun i hi => by
    rw [r2 i hi]
    by_cases c : i < bn b
    · rw [hfr i c, decide_eq_true (show i < nF (bW b) (bH b) from c)]; simp
    · rw [decide_eq_false (show ¬ i < nF (bW b) (bH b) from c)]; rfl)
  unfold f_X0_drainedFields
  rw [r1, ob_s, hh, ob_s]
  congr 1
  refine msk_cong (by omega) (fun o ho => b_iff ?_)
  unfold drn
  rw [cl_un sz.2.1 ho, Bool.and_eq_true, an_iff]
  constructor
  · rintro ⟨s, hs, h1, h2⟩
    rw [Bool.and_eq_true] at h1
    have hY := rch_in h1.2 ho h2
    refine ⟨hY, s, hs, ?_⟩
    rw [show rch (bn b) (dA b) o s = true from rch_sym hz hs ho h1.2 h2, h1.1]; rfl
  · rintro ⟨hY, s, hs, h1⟩
    rw [Bool.and_eq_true] at h1
    have h3 : rch (nF (bW b) (bH b)) (aw (bW b) (bH b) (bd b) (fun _ => false)) o s = true := h1.1
    have hYs := rch_in hY hs h3
    refine ⟨s, hs, ?_, rch_sym hz ho hs hY h3⟩
    rw [h1.2, hYs]; rfl
theorem B_drained {x : XX} {σ : MM} (hR : Rel x σ)  : ∃ (r : Int32), f_X3_drained x  = some r ∧ f_X4_drained σ  = some r ∧ Rel x σ := by
  obtain ⟨b, t, mv0, sd, hb, hg, hm, hgs, hms⟩ := hR.1
  have hz : SZ (bW b) (bH b) := ⟨hb.1, hb.2.1⟩
  unfold f_X3_drained f_X4_drained
  rw [drainX_ok hb hg, drains_ok hz hm, ob_s]
  exact ⟨_, rfl, rfl, hR⟩
theorem all_bits {g : GG} {W H : Nat} (hg : GGeo g W H) : ∀ i, i < 32 → bt (g_all g) i = decide (i < nF W H) := hg.2.2.2.2.2.1
/-- a ditch, a part from one field, by the class -/
theorem hangD_ok {g : GG} {b : BD} (hb : BOK b) (hg : GB g b) {f : Nat} (hf : f < bn b) (hd : bd b f = true) : f_X0_hanging g (ishl 1 (nI f)) (g_dug g) 0 = some (msk (rch (bn b) (dA b) f) (bn b)) := by
  have hz : SZ (bW b) (bH b) := ⟨hb.1, hb.2.1⟩
  have sz := szs hz
  have hn : bn b ≤ 16 := sz.2.1
  have hbd : ∀ i, bd b i = true → i < nF (bW b) (bH b) := fun i h => by
    rcases Nat.lt_or_ge i (bn b) with h1 | h1
    · exact h1
    · rw [(hb.2.2.2.1 i h1).1] at h; cases h
  exact hang_ok hz hg.1 (x := 0) (X := fun _ => false) (fun e _ => bl_0 e) hg.2.2.1 hbd (S := fun o => decide (o = f)) (fun i hi => by
    rw [bt_ishl1 (by omega)]
    by_cases c : i = f
    · subst c; rw [hd, decide_eq_true (show i < nF (bW b) (bH b) from hf), Bool.and_true, Bool.true_and]
    · rw [decide_eq_false c, Bool.and_false]; rfl)
theorem hangP_ok {g : GG} {b : BD} (hb : BOK b) (hg : GB g b) {f : Nat} (hf : f < bn b) : f_X0_hanging g (ishl 1 (nI f)) (g_all g) (g_hedges g) = some (msk (rch (bn b) (pA b) f) (bn b)) := by
  have hz : SZ (bW b) (bH b) := ⟨hb.1, hb.2.1⟩
  have sz := szs hz
  have hn : bn b ≤ 16 := sz.2.1
  exact hang_ok hz hg.1 hg.2.1 (Y := fun o => decide (o < bn b)) (all_bits hg.1) (fun i h => of_decide_eq_true h) (S := fun o => decide (o = f)) (fun i hi => by
    rw [bt_ishl1 (by omega)]
    by_cases c : i = f
    · subst c; rw [decide_eq_true (show i < nF (bW b) (bH b) from hf), decide_eq_true hf, Bool.and_true, Bool.true_and]
    · rw [decide_eq_false c, Bool.and_false]; rfl)
theorem and_bit {a : Int32} {f : Nat} (hf : f < 32) : (a &&& ishl 1 (nI f)) = 0 ↔ bt a f = false := by
  rw [bt_eq0]
  constructor
  · intro h
    have := h f hf
    rw [bt_and, bt_ishl1 hf, decide_eq_true rfl, Bool.and_true] at this
    exact this
  · intro h i hi
    rw [bt_and, bt_ishl1 hf]
    by_cases c : i = f
    · subst c; rw [h]; rfl
    · rw [decide_eq_false c, Bool.and_false]
theorem B_ditch {x : XX} {σ : MM} (hR : Rel x σ) (a1 : Int32) : ∃ (r : Int32) (x' : XX) (σ' : MM), f_X3_ditch x a1 = some (r, x') ∧ f_X4_ditch σ a1 = some (r, σ') ∧ Rel x' σ' := by
  have hno := R_no' hR (-2) (Or.inl rfl)
  have hno5 := R_no' hR (-5) (by decide +kernel)
  obtain ⟨b, t, mv0, sd, hb, hg, hm, hgs, hms⟩ := hR.1
  have hz : SZ (bW b) (bH b) := ⟨hb.1, hb.2.1⟩
  have sz := szs hz
  have hn : bn b ≤ 16 := sz.2.1
  unfold f_X3_ditch f_X4_ditch
  rcases field_iff hz hg.1.2.2.1 hm.1 hm.2.1 a1 with ⟨e1, e2⟩ | ⟨f, hf, rfl, e1, e2⟩
  · rw [e1, e2]; exact hno
  rw [e1, e2, if_pos rfl, if_pos rfl, lt_e, gd_t (nI_inb (by omega) (by omega)), nI_clamp (by omega), hm.2.2.2.1 f (by omega)]
  cases hd : bd b f with
  | false =>
    rw [if_pos ((and_bit (by omega)).mpr (by rw [hg.2.2.1 f (by omega), hd])), if_pos (show ib false = 0 by decide +kernel)]
    exact hno5
  | true =>
    rw [if_neg (fun hh => by rw [and_bit (by omega), hg.2.2.1 f (by omega), hd] at hh; cases hh), if_neg (show ¬ ib true = 0 by decide +kernel), hangD_ok hb hg hf hd, ditchOf_ok hz hm hf, ob_s, ob_s]
    exact ⟨_, _, _, rfl, rfl, hR⟩
theorem B_part {x : XX} {σ : MM} (hR : Rel x σ) (a1 : Int32) : ∃ (r : Int32) (x' : XX) (σ' : MM), f_X3_part x a1 = some (r, x') ∧ f_X4_part σ a1 = some (r, σ') ∧ Rel x' σ' := by
  have hno := R_no' hR (-2) (Or.inl rfl)
  obtain ⟨b, t, mv0, sd, hb, hg, hm, hgs, hms⟩ := hR.1
  have hz : SZ (bW b) (bH b) := ⟨hb.1, hb.2.1⟩
  unfold f_X3_part f_X4_part
  rcases field_iff hz hg.1.2.2.1 hm.1 hm.2.1 a1 with ⟨e1, e2⟩ | ⟨f, hf, rfl, e1, e2⟩
  · rw [e1, e2]; exact hno
  rw [e1, e2, if_pos rfl, if_pos rfl, hangP_ok hb hg hf, partOf_ok hz hm hf, ob_s, ob_s]
  exact ⟨_, _, _, rfl, rfl, hR⟩
-- counting
/-- the first of its own -/
def own1 (n : Nat) (A : Nat → Nat → Bool) (Y : Nat → Bool) (f : Nat) : Bool := Y f && decide (ff (rch n A f) n = f)
def rem (n : Nat) (A : Nat → Nat → Bool) (Y : Nat → Bool) : Nat → Nat → Bool
  | 0 => Y
  | j + 1 => fun o => rem n A Y j o && !rch n A (ff (rem n A Y j) n) o
theorem rem_s (n : Nat) (A : Nat → Nat → Bool) (Y : Nat → Bool) (j o : Nat) : rem n A Y (j + 1) o = (rem n A Y j o && !rch n A (ff (rem n A Y j) n) o) := rfl
theorem rem_ok {W H : Nat} (hz : SZ W H) {Y X : Nat → Bool} : ∀ j, (∀ g, g < nF W H → rem (nF W H) (aw W H Y X) Y j g = true → Y g = true ∧ ∀ o, o < nF W H → rch (nF W H) (aw W H Y X) g o = true → rem (nF W H) (aw W H Y X) Y j o = true) ∧
    (j ≤ cn (own1 (nF W H) (aw W H Y X) Y) (nF W H) → j + cn (fun f => rem (nF W H) (aw W H Y X) Y j f && own1 (nF W H) (aw W H Y X) Y f) (nF W H) = cn (own1 (nF W H) (aw W H Y X) Y) (nF W H)) := by
  have sz := szs hz
  intro j
  induction j with
  | zero =>
    refine ⟨fun g hg h => ⟨h, fun o ho hr => rch_in h ho hr⟩, fun _ => ?_⟩
    rw [Nat.zero_add]
    refine cn_cong _ (fun f hf => ?_)
    show (Y f && own1 _ _ Y f) = own1 _ _ Y f
    unfold own1
    cases Y f <;> rfl
  | succ j ih =>
    obtain ⟨ih1, ih2⟩ := ih
    generalize hT : rem (nF W H) (aw W H Y X) Y j = T at ih1 ih2
    constructor
    · intro g hg h
      rw [rem_s, hT, Bool.and_eq_true] at h
      obtain ⟨hY, hc⟩ := ih1 g hg h.1
      refine ⟨hY, fun o ho hr => ?_⟩
      rw [rem_s, hT, hc o ho hr, Bool.true_and]
      cases hx : rch (nF W H) (aw W H Y X) (ff T (nF W H)) o with
      | false => rfl
      | true =>
        have hl : ff T (nF W H) < nF W H := Nat.lt_of_le_of_lt (ff_at hg h.1) hg
        have := rch_trans sz.2.1 (f := ff T (nF W H)) ho hg hx (rch_sym hz hg ho hY hr)
        rw [this] at h
        exact absurd h.2 Bool.false_ne_true
    · intro hj
      have ih2 := ih2 (by omega)
      have hpos : 0 < cn (fun f => T f && own1 (nF W H) (aw W H Y X) Y f) (nF W H) := by omega
      obtain ⟨i, hi, h1⟩ := cn_ex _ hpos
      rw [Bool.and_eq_true] at h1
      have hl : ff T (nF W H) < nF W H := Nat.lt_of_le_of_lt (ff_at hi h1.1) hi
      have hTl := ff_yes (P := T) _ hl
      generalize hL : ff T (nF W H) = l at hl hTl
      obtain ⟨hYl, hcl⟩ := ih1 l hl hTl
      have hown : own1 (nF W H) (aw W H Y X) Y l = true := by
        unfold own1
        rw [hYl, ff_eq hl (rch_refl l) (fun k hk => by
          cases hx : rch (nF W H) (aw W H Y X) l k with
          | false => rfl
          | true =>
            have h2 := hcl k (by omega) hx
            have h3 := ff_no (P := T) (nF W H) k (by omega)
            rw [h2] at h3; cases h3), decide_eq_true rfl]; rfl
      have hsplit : cn (fun f => T f && own1 (nF W H) (aw W H Y X) Y f) (nF W H) = cn (fun f => rem (nF W H) (aw W H Y X) Y (j + 1) f && own1 (nF W H) (aw W H Y X) Y f) (nF W H) + cn (fun f => decide (f = l) && true) (nF W H) := by
        rw [← cn_or _ (fun f hf hh => by
          rw [Bool.and_eq_true, Bool.and_eq_true, decide_eq_true_eq, rem_s, hT, hL, Bool.and_eq_true] at hh
          have e := hh.2.1
          subst e
          rw [rch_refl] at hh
          exact absurd hh.1.1.2 Bool.false_ne_true)]
        refine cn_cong _ (fun f hf => b_iff ?_)
        rw [Bool.or_eq_true, Bool.and_eq_true, Bool.and_eq_true, Bool.and_eq_true, decide_eq_true_eq, rem_s, hT, hL, Bool.and_eq_true]
        constructor
        · rintro ⟨a, c⟩
          cases hx : rch (nF W H) (aw W H Y X) l f with
          | false => exact Or.inl ⟨⟨a, rfl⟩, c⟩
          | true =>
            refine Or.inr ⟨?_, rfl⟩
            have c2 := c
            unfold own1 at c2
            rw [Bool.and_eq_true, decide_eq_true_eq] at c2
            have h4 := ff_at (P := rch (nF W H) (aw W H Y X) f) hl (rch_sym hz hl hf hYl hx)
            have h5 := ff_at (P := T) hf a
            omega
        · rintro (⟨⟨a, _⟩, c⟩ | ⟨e, _⟩)
          · exact ⟨a, c⟩
          · subst e; exact ⟨hTl, hown⟩
      rw [hsplit, cn_one, if_pos hl] at ih2
      have e1 : cb true = 1 := rfl
      omega
theorem count_ok {g : GG} {W H : Nat} (hz : SZ W H) {x : Int64} {w : Int32} {Y X : Nat → Bool} (hw : w = msk Y (nF W H))
    (hh : ∀ f, f < nF W H → Y f = true → f_X0_hanging g (ishl 1 (nI f)) w x = some (msk (rch (nF W H) (aw W H Y X) f) (nF W H))) : f_X0_countHanging g w x = some (nI (cn (own1 (nF W H) (aw W H Y X) Y) (nF W H))) := by
  have sz := szs hz
  have hn : nF W H ≤ 16 := sz.2.1
  generalize hE : cn (own1 (nF W H) (aw W H Y X) Y) (nF W H) = E
  have hEn : E ≤ nF W H := by rw [← hE]; exact cn_le _ _
  have key := fun j => rem_ok (Y := Y) (X := X) hz j
  have h := lp_FU (fun _ _ _ => none) (f_X0_countHanging_L9_b g w x) (fun f (p : Int32 × Int32 × Int32) => f p.1 p.2.1 p.2.2) (fun j => (msk (rem (nF W H) (aw W H Y X) Y j) (nF W H), nI j, nI j)) E (some (nI E)) (fun j rec hj => by
      show f_X0_countHanging_L9_b g w x rec (msk (rem (nF W H) (aw W H Y X) Y j) (nF W H)) (nI j) (nI j) = rec (msk (rem (nF W H) (aw W H Y X) Y (j + 1)) (nF W H)) (nI (j + 1)) (nI (j + 1))
      obtain ⟨k1, k2⟩ := key j
      have k2 := k2 (by omega)
      obtain ⟨i, hi, h1⟩ := cn_ex (nF W H) (show 0 < cn (fun f => rem (nF W H) (aw W H Y X) Y j f && own1 (nF W H) (aw W H Y X) Y f) (nF W H) by omega)
      rw [Bool.and_eq_true] at h1
      have hl : ff (rem (nF W H) (aw W H Y X) Y j) (nF W H) < nF W H := Nat.lt_of_le_of_lt (ff_at hi h1.1) hi
      have hTl := ff_yes (P := rem (nF W H) (aw W H Y X) Y j) _ hl
      have hb : bt (msk (rem (nF W H) (aw W H Y X) Y j) (nF W H)) (ff (rem (nF W H) (aw W H Y X) Y j) (nF W H)) = true := by rw [bt_msk _ _ (by omega), decide_eq_true hl, hTl]; rfl
      have hb0 : ∀ k, k < ff (rem (nF W H) (aw W H Y X) Y j) (nF W H) → bt (msk (rem (nF W H) (aw W H Y X) Y j) (nF W H)) k = false := fun k hk => by rw [bt_msk _ _ (by omega), ff_no _ k hk, Bool.and_false]
      unfold f_X0_countHanging_L9_b
      rw [if_neg (show ¬ (16 : Int32) ≤ nI j from nI_ge (b := 16) (by omega) (by omega)), if_neg (fun hh => by rw [hh, bt_0] at hb; cases hb), bt_lowest (by omega) hb hb0, hh _ hl (k1 _ hl hTl).1, ob_s]
      simp only [lt_e, ← nI_succ]
      congr 1
      refine bt_ext (fun o ho => ?_)
      rw [bt_and, bt_not ho, bt_msk _ _ (by omega), bt_msk _ _ (by omega), bt_msk _ _ (by omega), rem_s]
      exact (by decide : ∀ p q r : Bool, ((p && q) && !(p && r)) = (p && (q && !r))) _ _ _) (fun rec => by
      show f_X0_countHanging_L9_b g w x rec (msk (rem (nF W H) (aw W H Y X) Y E) (nF W H)) (nI E) (nI E) = _
      obtain ⟨k1, k2⟩ := key E
      have k2 := k2 (by omega)
      have hz0 : ∀ i, i < nF W H → rem (nF W H) (aw W H Y X) Y E i = false := fun i hi => by
        cases hr : rem (nF W H) (aw W H Y X) Y E i with
        | false => rfl
        | true =>
          exfalso
          have hl : ff (rem (nF W H) (aw W H Y X) Y E) (nF W H) < nF W H := Nat.lt_of_le_of_lt (ff_at hi hr) hi
          have hTl := ff_yes (P := rem (nF W H) (aw W H Y X) Y E) _ hl
          obtain ⟨hYl, hcl⟩ := k1 _ hl hTl
          have hown : own1 (nF W H) (aw W H Y X) Y (ff (rem (nF W H) (aw W H Y X) Y E) (nF W H)) = true := by
            unfold own1
            rw [hYl, ff_eq hl (rch_refl _) (fun k hk => by
              cases hx : rch (nF W H) (aw W H Y X) (ff (rem (nF W H) (aw W H Y X) Y E) (nF W H)) k with
              | false => rfl
              | true =>
                have h2 := hcl k (by omega) hx
                have h3 := ff_no (P := rem (nF W H) (aw W H Y X) Y E) (nF W H) k hk
                rw [h2] at h3; cases h3), decide_eq_true rfl]; rfl
          have := cn_lt (P := fun f => rem (nF W H) (aw W H Y X) Y E f && own1 (nF W H) (aw W H Y X) Y f) hl (by rw [hTl, hown]; rfl)
          omega
      unfold f_X0_countHanging_L9_b
      rw [(msk_eq0 (by omega)).mpr hz0]
      by_cases c : (16 : Int32) ≤ nI E
      · rw [if_pos c]
      · rw [if_neg c, if_pos rfl]) (by omega)
  unfold f_X0_countHanging f_X0_countHanging_L9
  rw [hw] at h ⊢
  exact h
theorem ntz_rch {n : Nat} (hn : n ≤ 16) {A : Nat → Nat → Bool} {f : Nat} (hf : f < n) : f_J6_numberOfTrailingZeros_0f7a4 (msk (rch n A f) n) = nI (ff (rch n A f) n) := by
  have hl : ff (rch n A f) n < n := Nat.lt_of_le_of_lt (ff_at hf (rch_refl f)) hf
  refine ntz_at (by omega) ?_ (fun k hk => ?_)
  · rw [bt_msk _ _ (by omega), decide_eq_true hl, ff_yes n hl]; rfl
  · rw [bt_msk _ _ (by omega), ff_no n k hk, Bool.and_false]
theorem B_parts {x : XX} {σ : MM} (hR : Rel x σ)  : ∃ (r : Int32), f_X3_parts x  = some r ∧ f_X4_parts σ  = some r ∧ Rel x σ := by
  obtain ⟨b, t, mv0, sd, hb, hg, hm, hgs, hms⟩ := hR.1
  have hz : SZ (bW b) (bH b) := ⟨hb.1, hb.2.1⟩
  have sz := szs hz
  have hn : bn b ≤ 16 := sz.2.1
  have hall : g_all (x_now x) = msk (fun o => decide (o < bn b)) (nF (bW b) (bH b)) := bt_ext (fun i hi => by
    rw [all_bits hg.1 i hi, bt_msk _ _ (show nF (bW b) (bH b) ≤ 32 by omega)]
    show decide (i < bn b) = (decide (i < bn b) && decide (i < bn b))
    rw [Bool.and_self])
  refine ⟨nI (cn (own1 (bn b) (pA b) (fun o => decide (o < bn b))) (bn b)), ?_, ?_, hR⟩
  · unfold f_X3_parts
    rw [count_ok (Y := fun o => decide (o < bn b)) (X := bh b) hz hall (fun f hf _ => hangP_ok hb hg hf), ob_s]
    rfl
  · unfold f_X4_parts f_X4_parts_L4
    refine lp_cnt _ (f_X4_parts_L4_b σ) (own1 (bn b) (pA b) (fun o => decide (o < bn b))) (bn b) 0 _ (by omega) (fun i rec y hi => ?_) (fun rec => ?_)
    · have hle := ff_le (rch (bn b) (pA b) i) (bn b)
      unfold f_X4_parts_L4_b own1
      rw [wh_ok hm, if_neg (nI_ge hi (by omega)), partOf_ok hz hm hi, ob_s, ntz_rch hn hi]
      simp only [lt_e, ← nI_succ, decide_eq_true hi, Bool.true_and]
      by_cases c : ff (rch (bn b) (pA b) i) (bn b) = i
      · rw [if_pos (by rw [c]), if_pos (decide_eq_true c)]
      · rw [if_neg (fun h => c (nI_inj (by omega) (by omega) h)), if_neg (by rw [decide_eq_false c]; exact Bool.false_ne_true)]
    · unfold f_X4_parts_L4_b
      rw [wh_ok hm, if_pos (nI_le (Nat.le_refl _) (by omega)), Nat.zero_add]
theorem B_ditches {x : XX} {σ : MM} (hR : Rel x σ)  : ∃ (r : Int32), f_X3_ditches x  = some r ∧ f_X4_ditches σ  = some r ∧ Rel x σ := by
  obtain ⟨b, t, mv0, sd, hb, hg, hm, hgs, hms⟩ := hR.1
  have hz : SZ (bW b) (bH b) := ⟨hb.1, hb.2.1⟩
  have sz := szs hz
  have hn : bn b ≤ 16 := sz.2.1
  have hall : g_dug (x_now x) = msk (bd b) (nF (bW b) (bH b)) := bt_ext (fun i hi => by
    rw [hg.2.2.1 i hi, bt_msk _ _ (show nF (bW b) (bH b) ≤ 32 by omega)]
    by_cases c : i < nF (bW b) (bH b)
    · rw [decide_eq_true c]; rfl
    · rw [decide_eq_false c, (hb.2.2.2.1 i (Nat.le_of_not_lt c)).1]; rfl)
  refine ⟨nI (cn (own1 (bn b) (dA b) (bd b)) (bn b)), ?_, ?_, hR⟩
  · unfold f_X3_ditches
    rw [count_ok (Y := bd b) (X := fun _ => false) hz hall (fun f hf hd => hangD_ok hb hg hf hd), ob_s]
    rfl
  · unfold f_X4_ditches f_X4_ditches_L4
    refine lp_cnt _ (f_X4_ditches_L4_b σ) (own1 (bn b) (dA b) (bd b)) (bn b) 0 _ (by omega) (fun i rec y hi => ?_) (fun rec => ?_)
    · have hle := ff_le (rch (bn b) (dA b) i) (bn b)
      unfold f_X4_ditches_L4_b own1
      rw [wh_ok hm, if_neg (nI_ge hi (by omega)), gd_t (nI_inb (show i < 16 by omega) (by omega)), nI_clamp (by omega), hm.2.2.2.1 i (by omega), ditchOf_ok hz hm hi, ob_s, ntz_rch hn hi]
      simp only [lt_e, ← nI_succ]
      cases bd b i with
      | false => rfl
      | true =>
        rw [if_neg (show ¬ ib true = 0 by decide +kernel), Bool.true_and]
        by_cases c : ff (rch (bn b) (dA b) i) (bn b) = i
        · rw [if_pos (by rw [c]), if_pos (decide_eq_true c)]
        · rw [if_neg (fun h => c (nI_inj (by omega) (by omega) h)), if_neg (by rw [decide_eq_false c]; exact Bool.false_ne_true)]
    · unfold f_X4_ditches_L4_b
      rw [wh_ok hm, if_pos (nI_le (Nat.le_refl _) (by omega)), Nat.zero_add]
