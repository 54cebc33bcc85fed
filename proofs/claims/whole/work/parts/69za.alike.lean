/-! Turned and mirrored -/
def plc (r c rows cols t : Nat) : Nat := (if t / 2 % 2 = 1 then rows - 1 - (if t < 4 then r else c) else (if t < 4 then r else c)) * cols + (if t % 2 = 1 then cols - 1 - (if t < 4 then c else r) else (if t < 4 then c else r))
def pf (W H t f : Nat) : Nat := plc (f / W) (f % W) H W t
def pe (W H t e : Nat) : Nat :=
  if e < nU W H then (if t < 4 then plc (e / W) (e % W) (H + 1) W t else nU W H + plc (e / W) (e % W) H (W + 1) t)
  else (if t < 4 then nU W H + plc ((e - nU W H) / (W + 1)) ((e - nU W H) % (W + 1)) H (W + 1) t else plc ((e - nU W H) / (W + 1)) ((e - nU W H) % (W + 1)) (H + 1) W t)
def tsd (t s : Nat) : Nat :=
  let u := if t < 4 then s else (s + 2) % 4
  if 2 ≤ u ∧ t % 2 = 1 then 5 - u else if u < 2 ∧ t / 2 % 2 = 1 then 1 - u else u
def ivt (t : Nat) : Nat := if t = 5 then 6 else if t = 6 then 5 else t
/-- a way to turn this board -/
def tok (W H t : Nat) : Bool := decide (t < 4) || (decide (t < 8) && decide (W = H))
def alT (p : Nat → Nat → Nat → Bool) : Bool := alB (fun W H => alw (fun t => !tok W H t || p W H t) 8)
theorem alT_all {p : Nat → Nat → Nat → Bool} (h : alT p = true) {W H t : Nat} (hz : SZ W H) (ht : tok W H t = true) : p W H t = true := by
  have h8 : t < 8 := by
    unfold tok at ht
    rw [Bool.or_eq_true, Bool.and_eq_true, decide_eq_true_eq, decide_eq_true_eq] at ht
    omega
  have := alw_all (alB_all h hz.1 hz.2) t h8
  rw [ht] at this
  exact this
theorem geo_pe0 : alT (fun W H t => alw (fun e => decide (f_X0_edgeTurned (gWH W H) (nI e) (nI t) = some (nI (pe W H t e))) && (decide (pe W H t e < nE W H) && (decide (pe W H (ivt t) (pe W H t e) = e) && decide (pe W H t (pe W H (ivt t) e) = e)))) (nE W H)) = true := by decide +kernel
theorem geo_pe {g : GG} {W H t : Nat} (hz : SZ W H) (hg : GGeo g W H) (ht : tok W H t = true) {e : Nat} (he : e < nE W H) : f_X0_edgeTurned g (nI e) (nI t) = some (nI (pe W H t e)) ∧ pe W H t e < nE W H ∧ pe W H (ivt t) (pe W H t e) = e ∧ pe W H t (pe W H (ivt t) e) = e := by
  have h0 := alw_all (alT_all geo_pe0 hz ht) e he
  simp only [Bool.and_eq_true, decide_eq_true_eq] at h0
  refine ⟨?_, h0.2⟩
  rw [← h0.1]
  obtain ⟨h1, h2, h3, h4, h5, -⟩ := hg
  unfold f_X0_edgeTurned f_X0_edgeTurned_b13 f_X0_edgeTurned_b31 f_X0_edgeTurned_b65 f_X0_edgeTurned_b78 f_X0_edgeTurned_b86 f_X0_edgeTurned_b106 f_X0_edgeTurned_b126 f_X0_uprightRow f_X0_rowOf
  rw [h1, h2, h5]
  rfl
theorem geo_ip0 : alT (fun W H t => alw (fun e => decide (pe W H (ivt t) e < nE W H)) (nE W H) && alw (fun f => decide (pf W H (ivt t) f < nF W H)) (nF W H)) = true := by decide +kernel
theorem geo_pf0 : alT (fun W H t => alw (fun f => decide (f_X0_rowOf (gWH W H) (nI f) = some (nI (f / W))) && (decide (f_X0_placeTurned (gWH W H) (nI (f / W)) (nI f - nI (f / W) * nI W) (nI H) (nI W) (nI t) = nI (pf W H t f)) && (decide (f_X4_turned (mWH W H) (nI f) (nI t) = some (nI (pf W H t f))) && (decide (pf W H t f < nF W H) && (decide (pf W H (ivt t) (pf W H t f) = f) && decide (pf W H t (pf W H (ivt t) f) = f)))))) (nF W H)) = true := by decide +kernel
theorem geo_pf {g : GG} {σ : MM} {W H t : Nat} (hz : SZ W H) (hg : GGeo g W H) (m1 : m_w σ = nI W) (m2 : m_h σ = nI H) (ht : tok W H t = true) {f : Nat} (hf : f < nF W H) : f_X0_rowOf g (nI f) = some (nI (f / W)) ∧ f_X0_placeTurned g (nI (f / W)) (nI f - nI (f / W) * nI W) (nI H) (nI W) (nI t) = nI (pf W H t f) ∧ f_X4_turned σ (nI f) (nI t) = some (nI (pf W H t f)) ∧ pf W H t f < nF W H ∧ pf W H (ivt t) (pf W H t f) = f ∧ pf W H t (pf W H (ivt t) f) = f := by
  have h0 := alw_all (alT_all geo_pf0 hz ht) f hf
  simp only [Bool.and_eq_true, decide_eq_true_eq] at h0
  obtain ⟨a1, a2, a3, a4⟩ := h0
  refine ⟨?_, ?_, ?_, a4⟩
  · rw [← a1]; unfold f_X0_rowOf; rw [hg.1]; rfl
  · rw [← a2]; unfold f_X0_placeTurned; rfl
  · rw [← a3]
    unfold f_X4_turned f_X4_turned_b20 f_X4_turned_b41 f_X4_turned_b61
    rw [m1, m2]
    rfl
theorem geo_ts0 : alT (fun W H t => alw (fun f => alw (fun s => decide (eg W H (pf W H t f) (tsd t s) = pe W H t (eg W H f s))) 4) (nF W H)) = true := by decide +kernel
theorem tsd_ok : ∀ t, t < 8 → ∀ s, s < 4 → f_X4_turnedSide (nI s) (nI t) = some (nI (tsd t s)) ∧ tsd t s < 4 := by decide +kernel
theorem geo_has0 : alB (fun W H => alw (fun e => an (fun f => an (fun s => decide (eg W H f s = e)) 4) (nF W H)) (nE W H)) = true := by decide +kernel
theorem all_alw {p : Nat → Bool} : ∀ n, (∀ i, i < n → p i = true) → alw p n = true := by
  intro n
  induction n with
  | zero => intro _; rfl
  | succ n ih => intro h; show (p n && alw p n) = true; rw [h n (by omega), ih (fun i hi => h i (by omega))]; rfl
theorem alw_iff {p : Nat → Bool} {n : Nat} : alw p n = true ↔ ∀ i, i < n → p i = true := ⟨alw_all, all_alw n⟩
/-- the board is alike, turned -/
def alk (b : BD) (t : Nat) : Bool := alw (fun e => decide (bh b e = bh b (pe (bW b) (bH b) t e))) (be b) && (alw (fun f => decide (bd b f = bd b (pf (bW b) (bH b) t f))) (bn b) && alw (fun f => decide (bo b f = bo b (pf (bW b) (bH b) t f))) (bn b))
-- the class
def tke (h : Nat → Bool) (p : Nat → Nat) : Nat → Int64
  | 0 => 0
  | e + 1 => if h e = true then tke h p e ||| lshl 1 (nI (p e)) else tke h p e
theorem bl_tke {h : Nat → Bool} {p : Nat → Nat} : ∀ n, (∀ e, e < n → p e < 64) → ∀ i, bl (tke h p n) i = an (fun e => h e && decide (p e = i)) n := by
  intro n
  induction n with
  | zero => intro _ i; exact bl_0 i
  | succ n ih =>
    intro hp i
    have ih := ih (fun e he => hp e (by omega)) i
    show bl (if h n = true then tke h p n ||| lshl 1 (nI (p n)) else tke h p n) i = _
    rw [an_s]
    cases hn : h n with
    | true =>
      rw [if_pos rfl, bl_or, ih, bl_lshl1 (hp n (by omega)), Bool.true_and]
      congr 1
      exact decide_eq_decide.mpr ⟨Eq.symm, Eq.symm⟩
    | false => rw [if_neg Bool.false_ne_true, ih, Bool.false_and, Bool.or_false]
def tkf (h : Nat → Bool) (p : Nat → Nat) : Nat → Int32
  | 0 => 0
  | e + 1 => if h e = true then tkf h p e ||| ishl 1 (nI (p e)) else tkf h p e
theorem bt_tkf {h : Nat → Bool} {p : Nat → Nat} : ∀ n, (∀ e, e < n → p e < 32) → ∀ i, bt (tkf h p n) i = an (fun e => h e && decide (p e = i)) n := by
  intro n
  induction n with
  | zero => intro _ i; exact bt_0 i
  | succ n ih =>
    intro hp i
    have ih := ih (fun e he => hp e (by omega)) i
    show bt (if h n = true then tkf h p n ||| ishl 1 (nI (p n)) else tkf h p n) i = _
    rw [an_s]
    cases hn : h n with
    | true =>
      rw [if_pos rfl, bt_or, ih, bt_ishl1 (hp n (by omega)), Bool.true_and]
      congr 1
      exact decide_eq_decide.mpr ⟨Eq.symm, Eq.symm⟩
    | false => rw [if_neg Bool.false_ne_true, ih, Bool.false_and, Bool.or_false]
/-- a set is what it is turned -/
theorem img_iff {n : Nat} {h : Nat → Bool} {p q : Nat → Nat} (hpn : ∀ e, e < n → p e < n) (hqn : ∀ e, e < n → q e < n) (hqp : ∀ e, e < n → q (p e) = e) (hpq : ∀ e, e < n → p (q e) = e) : (∀ i, i < n → an (fun e => h e && decide (p e = i)) n = h i) ↔ ∀ e, e < n → h e = h (p e) := by
  have im : ∀ i, i < n → an (fun e => h e && decide (p e = i)) n = h (q i) := fun i hi => by
    apply b_iff
    rw [an_iff]
    constructor
    · rintro ⟨e, he, h1⟩
      rw [Bool.and_eq_true, decide_eq_true_eq] at h1
      rw [← h1.2, hqp e he]; exact h1.1
    · intro h1
      exact ⟨q i, hqn i hi, by rw [h1, decide_eq_true (hpq i hi)]; rfl⟩
  constructor
  · intro hh e he
    have := hh (p e) (hpn e he)
    rw [im (p e) (hpn e he), hqp e he] at this
    exact this
  · intro hh i hi
    rw [im i hi]
    have := hh (q i) (hqn i hi)
    rw [hpq i hi] at this
    exact this
theorem bits_l {x : Int64} {e : Nat} (he : e < 64) : (lg_cmp ((lushr x (nI e)) &&& 1) 0) = 0 ↔ bl x e = false := bit_l he
theorem turnE_ok {g : GG} {b : BD} (hb : BOK b) (hg : GB g b) {t : Nat} (ht : tok (bW b) (bH b) t = true) : ∃ y, f_X0_turnedEdges g (g_hedges g) (nI t) = some y ∧ ((lg_cmp y (g_hedges g)) = 0 ↔ alw (fun e => decide (bh b e = bh b (pe (bW b) (bH b) t e))) (be b) = true) := by
  have hz : SZ (bW b) (bH b) := ⟨hb.1, hb.2.1⟩
  have sz := szs hz
  have hE : be b ≤ 40 := sz.1
  have hp := fun e (he : e < be b) => geo_pe hz hg.1 ht (e := e) he
  have ipv := alT_all geo_ip0 hz ht
  rw [Bool.and_eq_true] at ipv
  have iq := fun e (he : e < be b) => of_decide_eq_true (alw_all ipv.1 e he)
  have h := lp_FU (fun _ _ => none) (f_X0_turnedEdges_L6_b g (g_hedges g) (nI t)) (fun f (p : Int64 × Int32) => f p.1 p.2) (fun e => (tke (bh b) (pe (bW b) (bH b) t) e, nI e)) (be b) (some (tke (bh b) (pe (bW b) (bH b) t) (be b))) (fun e rec he => by
      show f_X0_turnedEdges_L6_b g (g_hedges g) (nI t) rec (tke (bh b) (pe (bW b) (bH b) t) e) (nI e) = rec (tke (bh b) (pe (bW b) (bH b) t) (e + 1)) (nI (e + 1))
      have hbit := hg.2.1 e (by omega)
      rw [f_X0_turnedEdges_L6_b, hg.1.2.2.2.1, if_neg (show ¬ nI (nE (bW b) (bH b)) ≤ nI e from nI_ge he (by omega)), (hp e he).1, ob_s, show tke (bh b) (pe (bW b) (bH b) t) (e + 1) = if bh b e = true then tke (bh b) (pe (bW b) (bH b) t) e ||| lshl 1 (nI (pe (bW b) (bH b) t e)) else tke (bh b) (pe (bW b) (bH b) t) e from rfl]
      simp only [lt_e, ← nI_succ]
      cases hh : bh b e with
      | true => rw [if_neg (fun h => by have := (bit_l (show e < 64 by omega)).mp h; rw [hbit, hh] at this; cases this), if_pos rfl]
      | false => rw [if_pos ((bit_l (show e < 64 by omega)).mpr (by rw [hbit, hh])), if_neg Bool.false_ne_true]) (fun rec => by
      show f_X0_turnedEdges_L6_b g (g_hedges g) (nI t) rec _ (nI (be b)) = _
      rw [f_X0_turnedEdges_L6_b, hg.1.2.2.2.1, if_pos (show nI (nE (bW b) (bH b)) ≤ nI (be b) from nI_le (Nat.le_refl _) (by omega))]) (by omega)
  refine ⟨tke (bh b) (pe (bW b) (bH b) t) (be b), ?_, ?_⟩
  · unfold f_X0_turnedEdges f_X0_turnedEdges_L6
    exact h
  · have p64 : ∀ e, e < be b → pe (bW b) (bH b) t e < 64 := fun e he => by have : pe (bW b) (bH b) t e < be b := (hp e he).2.1; omega
    rw [lg_cmp_eq, alw_iff]
    have key := img_iff (n := be b) (h := bh b) (p := pe (bW b) (bH b) t) (q := pe (bW b) (bH b) (ivt t)) (fun e he => (hp e he).2.1) iq (fun e he => (hp e he).2.2.1) (fun e he => (hp e he).2.2.2)
    constructor
    · intro heq i hi
      exact decide_eq_true (key.mp (fun i hi => by
        have := congrArg (fun x => bl x i) heq
        simp only [bl_tke _ p64] at this
        rw [this]
        exact hg.2.1 i (by omega)) i hi)
    · intro hall
      refine bl_ext (fun i hi => ?_)
      rw [bl_tke _ p64, hg.2.1 i hi]
      by_cases c : i < be b
      · exact key.mpr (fun e he => of_decide_eq_true (hall e he)) i c
      · rw [hb.2.2.1 i (by omega)]
        exact an_f (fun e he => by
          have : pe (bW b) (bH b) t e < be b := (hp e he).2.1
          rw [decide_eq_false (show ¬ pe (bW b) (bH b) t e = i by omega), Bool.and_false])
theorem turnF_ok {g : GG} {σ : MM} {b : BD} (hb : BOK b) (hg : GB g b) (hm : MB σ b) {t : Nat} (ht : tok (bW b) (bH b) t = true) {a : Int32} {S : Nat → Bool} (ha : ∀ i, i < 32 → bt a i = S i) (hS : ∀ i, S i = true → i < bn b) : ∃ y, f_X0_turnedFields g a (nI t) = some y ∧ (y = a ↔ ∀ f, f < bn b → S f = S (pf (bW b) (bH b) t f)) := by
  have hz : SZ (bW b) (bH b) := ⟨hb.1, hb.2.1⟩
  have sz := szs hz
  have hn : bn b ≤ 16 := sz.2.1
  have hp := fun f (hf : f < bn b) => geo_pf hz hg.1 hm.1 hm.2.1 ht (f := f) hf
  have ipv := alT_all geo_ip0 hz ht
  rw [Bool.and_eq_true] at ipv
  have iq := fun e (he : e < bn b) => of_decide_eq_true (alw_all ipv.2 e he)
  have h := lp_FU (fun _ _ => none) (f_X0_turnedFields_L5_b g a (nI t)) (fun f (p : Int32 × Int32) => f p.1 p.2) (fun e => (tkf S (pf (bW b) (bH b) t) e, nI e)) (bn b) (some (tkf S (pf (bW b) (bH b) t) (bn b))) (fun e rec he => by
      show f_X0_turnedFields_L5_b g a (nI t) rec (tkf S (pf (bW b) (bH b) t) e) (nI e) = rec (tkf S (pf (bW b) (bH b) t) (e + 1)) (nI (e + 1))
      have hbit := ha e (by omega)
      rw [f_X0_turnedFields_L5_b, hg.1.2.2.1, if_neg (show ¬ nI (nF (bW b) (bH b)) ≤ nI e from nI_ge he (by omega)), (hp e he).1, ob_s, hg.1.1, hg.1.2.1, (hp e he).2.1, show tkf S (pf (bW b) (bH b) t) (e + 1) = if S e = true then tkf S (pf (bW b) (bH b) t) e ||| ishl 1 (nI (pf (bW b) (bH b) t e)) else tkf S (pf (bW b) (bH b) t) e from rfl]
      simp only [lt_e, ← nI_succ]
      cases hh : S e with
      | true => rw [if_neg (fun h => by have := (bit_u (show e < 32 by omega)).mp h; rw [hbit, hh] at this; cases this), if_pos rfl]
      | false => rw [if_pos ((bit_u (show e < 32 by omega)).mpr (by rw [hbit, hh])), if_neg Bool.false_ne_true]) (fun rec => by
      show f_X0_turnedFields_L5_b g a (nI t) rec _ (nI (bn b)) = _
      rw [f_X0_turnedFields_L5_b, hg.1.2.2.1, if_pos (show nI (nF (bW b) (bH b)) ≤ nI (bn b) from nI_le (Nat.le_refl _) (by omega))]) (by omega)
  refine ⟨tkf S (pf (bW b) (bH b) t) (bn b), ?_, ?_⟩
  · unfold f_X0_turnedFields f_X0_turnedFields_L5
    exact h
  · have p32 : ∀ e, e < bn b → pf (bW b) (bH b) t e < 32 := fun e he => by have : pf (bW b) (bH b) t e < bn b := (hp e he).2.2.2.1; omega
    have key := img_iff (n := bn b) (h := S) (p := pf (bW b) (bH b) t) (q := pf (bW b) (bH b) (ivt t)) (fun e he => (hp e he).2.2.2.1) iq (fun e he => (hp e he).2.2.2.2.1) (fun e he => (hp e he).2.2.2.2.2)
    constructor
    · intro heq
      refine key.mp (fun i hi => ?_)
      have := congrArg (fun x => bt x i) heq
      simp only [bt_tkf _ p32] at this
      rw [this]
      exact ha i (by omega)
    · intro hall
      refine bt_ext (fun i hi => ?_)
      rw [bt_tkf _ p32, ha i hi]
      by_cases c : i < bn b
      · exact key.mpr hall i c
      · rw [S_off hS (show bn b ≤ i by omega)]
        exact an_f (fun e he => by
          have : pf (bW b) (bH b) t e < bn b := (hp e he).2.2.2.1
          rw [decide_eq_false (show ¬ pf (bW b) (bH b) t e = i by omega), Bool.and_false])
theorem alikeX_ok {g : GG} {σ : MM} {b : BD} (hb : BOK b) (hg : GB g b) (hm : MB σ b) {t : Nat} (ht : tok (bW b) (bH b) t = true) : f_X0_isAlike g (nI t) = some (alk b t) := by
  have bdl : ∀ i, bd b i = true → i < bn b := fun i h => by
    rcases Nat.lt_or_ge i (bn b) with h1 | h1
    · exact h1
    · rw [(hb.2.2.2.1 i h1).1] at h; cases h
  have bol : ∀ p, p < 2 → ∀ i, decide (bo b i = p) = true → i < bn b := fun p hp i h => by
    rcases Nat.lt_or_ge i (bn b) with h1 | h1
    · exact h1
    · rw [(hb.2.2.2.1 i h1).2, decide_eq_true_eq] at h; omega
  obtain ⟨y, y1, y2⟩ := turnE_ok hb hg ht
  obtain ⟨d, d1, d2⟩ := turnF_ok hb hg hm ht hg.2.2.1 bdl
  obtain ⟨o, o1, o2⟩ := turnF_ok hb hg hm ht hg.2.2.2.1 (bol 0 (by omega))
  obtain ⟨q, q1, q2⟩ := turnF_ok hb hg hm ht hg.2.2.2.2 (bol 1 (by omega))
  have hbo := hb.2.2.2.2.1
  have hown : ((∀ f, f < bn b → decide (bo b f = 0) = decide (bo b (pf (bW b) (bH b) t f) = 0)) ∧ ∀ f, f < bn b → decide (bo b f = 1) = decide (bo b (pf (bW b) (bH b) t f) = 1)) ↔ alw (fun f => decide (bo b f = bo b (pf (bW b) (bH b) t f))) (bn b) = true := by
    rw [alw_iff]
    constructor
    · rintro ⟨h1, h2⟩ f hf
      have a1 := decide_eq_decide.mp (h1 f hf)
      have a2 := decide_eq_decide.mp (h2 f hf)
      have b1 := hbo f
      have b2 := hbo (pf (bW b) (bH b) t f)
      exact decide_eq_true (by omega)
    · intro h
      exact ⟨fun f hf => by rw [of_decide_eq_true (h f hf)], fun f hf => by rw [of_decide_eq_true (h f hf)]⟩
  have hdug : (∀ f, f < bn b → bd b f = bd b (pf (bW b) (bH b) t f)) ↔ alw (fun f => decide (bd b f = bd b (pf (bW b) (bH b) t f))) (bn b) = true := by
    rw [alw_iff]
    exact ⟨fun h f hf => decide_eq_true (h f hf), fun h f hf => of_decide_eq_true (h f hf)⟩
  unfold f_X0_isAlike alk
  rw [y1, ob_s, d1, ob_s, o1, ob_s, q1, ob_s]
  by_cases c1 : alw (fun e => decide (bh b e = bh b (pe (bW b) (bH b) t e))) (be b) = true
  · rw [if_pos (y2.mpr c1), c1, Bool.true_and]
    by_cases c2 : alw (fun f => decide (bd b f = bd b (pf (bW b) (bH b) t f))) (bn b) = true
    · rw [if_pos (d2.mpr (hdug.mpr c2)), c2, Bool.true_and]
      by_cases c3 : alw (fun f => decide (bo b f = bo b (pf (bW b) (bH b) t f))) (bn b) = true
      · have := hown.mpr c3
        rw [if_pos (o2.mpr this.1), if_pos (q2.mpr this.2), c3]
      · by_cases c4 : o = g_ownedBy0 g
        · rw [if_pos c4, if_neg (fun hh => c3 (hown.mp ⟨o2.mp c4, q2.mp hh⟩))]
          rw [show alw (fun f => decide (bo b f = bo b (pf (bW b) (bH b) t f))) (bn b) = false by simpa using c3]
        · rw [if_neg c4, show alw (fun f => decide (bo b f = bo b (pf (bW b) (bH b) t f))) (bn b) = false by simpa using c3]
    · rw [if_neg (fun hh => c2 (hdug.mp (d2.mp hh))), show alw (fun f => decide (bd b f = bd b (pf (bW b) (bH b) t f))) (bn b) = false by simpa using c2, Bool.false_and]
  · rw [if_neg (fun hh => c1 (y2.mp hh)), show alw (fun e => decide (bh b e = bh b (pe (bW b) (bH b) t e))) (be b) = false by simpa using c1, Bool.false_and]
-- the reference
theorem alw_ff {p : Nat → Bool} {n : Nat} : alw p n = !decide (ff (fun i => !p i) n < n) := by
  by_cases c : ff (fun i => !p i) n < n
  · rw [decide_eq_true c]
    have hy := ff_yes (P := fun i => !p i) n c
    cases h : alw p n with
    | false => rfl
    | true => have := alw_all h _ c; rw [this] at hy; cases hy
  · rw [decide_eq_false c]
    have := ff_le (fun i => !p i) n
    exact all_alw n (fun i hi => by have := ff_no (P := fun i => !p i) n i (by omega); simpa using this)
theorem lp_all {β : Type} (z : Int32 → β) (body : (Int32 → β) → Int32 → β) (p : Nat → Bool) (n : Nat) (yes no : β) (hn : n < 600) (hs : ∀ i rec, i < n → body rec (nI i) = if p i = true then rec (nI (i + 1)) else no) (he : ∀ rec, body rec (nI n) = yes) : lp z body FU (nI 0) = if alw p n = true then yes else no := by
  rw [alw_ff]
  have hl := ff_le (fun i => !p i) n
  refine lp_find z body (fun i => !p i) n _ hn (fun i rec hi => ?_) (fun rec => ?_)
  · have := ff_no (P := fun i => !p i) n i hi
    rw [hs i rec (by omega), if_pos (by simpa using this)]
  · by_cases c : ff (fun i => !p i) n < n
    · have hy := ff_yes (P := fun i => !p i) n c
      have hp : p (ff (fun i => !p i) n) = false := by simpa using hy
      rw [hs _ rec c, hp, if_neg Bool.false_ne_true, decide_eq_true c]; rfl
    · rw [show ff (fun i => !p i) n = n by omega, he, decide_eq_false (Nat.lt_irrefl n)]; rfl
theorem ib_eq (p q : Bool) : ib p = ib q ↔ p = q := by
  cases p <;> cases q <;> decide +kernel
theorem io_inj : ∀ p, p < 3 → ∀ q, q < 3 → (io p = io q ↔ p = q) := by decide +kernel
theorem tok_lt {W H t : Nat} (h : tok W H t = true) : t < 8 := by
  unfold tok at h
  rw [Bool.or_eq_true, Bool.and_eq_true, decide_eq_true_eq, decide_eq_true_eq] at h
  omega
theorem alikeM_ok {g : GG} {σ : MM} {b : BD} (hb : BOK b) (hg : GB g b) (hm : MB σ b) {t : Nat} (ht : tok (bW b) (bH b) t = true) : f_X4_isAlike σ (nI t) = some (alk b t) := by
  have hz : SZ (bW b) (bH b) := ⟨hb.1, hb.2.1⟩
  have sz := szs hz
  have hn : bn b ≤ 16 := sz.2.1
  have hE : be b ≤ 40 := sz.1
  have hp := fun f (hf : f < bn b) => geo_pf hz hg.1 hm.1 hm.2.1 ht (f := f) hf
  have hts := fun f (hf : f < bn b) s (hs : s < 4) => of_decide_eq_true (alw_all (alw_all (alT_all geo_ts0 hz ht) f hf) s hs)
  have hbo := hb.2.2.2.2.1
  have h57 : ∀ f, f < bn b → ∀ k : Option Bool, f_X4_isAlike_L57 σ (nI t) (nI f) (nI (pf (bW b) (bH b) t f)) k 0 = if alw (fun s => decide (bh b (eg (bW b) (bH b) f s) = bh b (pe (bW b) (bH b) t (eg (bW b) (bH b) f s)))) 4 = true then k else some false := fun f hf k => by
    unfold f_X4_isAlike_L57
    refine lp_all _ (f_X4_isAlike_L57_b σ (nI t) (nI f) (nI (pf (bW b) (bH b) t f)) k) (fun s => decide (bh b (eg (bW b) (bH b) f s) = bh b (pe (bW b) (bH b) t (eg (bW b) (bH b) f s)))) 4 _ _ (by omega) (fun s rec hs => ?_) (fun rec => ?_)
    · obtain ⟨t1, t2⟩ := tsd_ok t (tok_lt ht) s hs
      have e1 := eg_lt hz hf hs
      have e2 := eg_lt hz (hp f hf).2.2.2.1 t2
      rw [f_X4_isAlike_L57_b, if_neg (show ¬ (4 : Int32) ≤ nI s from nI_ge (b := 4) hs (by omega)), geo_me hz hm.1 hm.2.1 hf hs, ob_s, gd_t (nI_inb (show eg (bW b) (bH b) f s < 40 by omega) (by omega)), t1, ob_s, geo_me hz hm.1 hm.2.1 (hp f hf).2.2.2.1 t2, ob_s, gd_t (nI_inb (show eg (bW b) (bH b) (pf (bW b) (bH b) t f) (tsd t s) < 40 by omega) (by omega)), nI_clamp (by omega), nI_clamp (by omega), hm.2.2.1 _ (by omega), hm.2.2.1 _ (by omega), hts f hf s hs, lt_e, ← nI_succ]
      by_cases c : bh b (eg (bW b) (bH b) f s) = bh b (pe (bW b) (bH b) t (eg (bW b) (bH b) f s))
      · rw [if_pos ((ib_eq _ _).mpr c), if_pos (decide_eq_true c)]
      · rw [if_neg (fun h => c ((ib_eq _ _).mp h)), if_neg (by rw [decide_eq_false c]; exact Bool.false_ne_true)]
    · rw [f_X4_isAlike_L57_b, if_pos (show (4 : Int32) ≤ nI 4 by decide +kernel)]
  have hall : f_X4_isAlike σ (nI t) = if alw (fun f => (decide (bd b f = bd b (pf (bW b) (bH b) t f)) && decide (bo b f = bo b (pf (bW b) (bH b) t f))) && alw (fun s => decide (bh b (eg (bW b) (bH b) f s) = bh b (pe (bW b) (bH b) t (eg (bW b) (bH b) f s)))) 4) (bn b) = true then some true else some false := by
    unfold f_X4_isAlike f_X4_isAlike_L2
    refine lp_all _ (f_X4_isAlike_L2_b σ (nI t)) _ (bn b) _ _ (by omega) (fun f rec hf => ?_) (fun rec => ?_)
    · have hp4 : pf (bW b) (bH b) t f < bn b := (hp f hf).2.2.2.1
      rw [f_X4_isAlike_L2_b, wh_ok hm, if_neg (nI_ge hf (by omega)), (hp f hf).2.2.1, ob_s, gd_t (nI_inb (show f < 16 by omega) (by omega)), gd_t (nI_inb (show pf (bW b) (bH b) t f < 16 by omega) (by omega)), gd_t (nI_inb (show f < 16 by omega) (by omega)), gd_t (nI_inb (show pf (bW b) (bH b) t f < 16 by omega) (by omega)), nI_clamp (by omega), nI_clamp (by omega), hm.2.2.2.1 f (by omega), hm.2.2.2.1 _ (by omega), hm.2.2.2.2 f (by omega), hm.2.2.2.2 _ (by omega), h57 f hf, lt_e, ← nI_succ]
      have io1 := io_inj (bo b f) (by have := hbo f; omega) (bo b (pf (bW b) (bH b) t f)) (by have := hbo (pf (bW b) (bH b) t f); omega)
      by_cases c1 : bd b f = bd b (pf (bW b) (bH b) t f)
      · rw [if_pos ((ib_eq _ _).mpr c1), decide_eq_true c1, Bool.true_and]
        by_cases c2 : bo b f = bo b (pf (bW b) (bH b) t f)
        · rw [if_pos (io1.mpr c2), decide_eq_true c2, Bool.true_and]
        · rw [if_neg (fun h => c2 (io1.mp h)), decide_eq_false c2, Bool.false_and, if_neg Bool.false_ne_true]
      · rw [if_neg (fun h => c1 ((ib_eq _ _).mp h)), decide_eq_false c1, Bool.false_and, Bool.false_and, if_neg Bool.false_ne_true]
    · rw [f_X4_isAlike_L2_b, wh_ok hm, if_pos (nI_le (Nat.le_refl _) (by omega))]
  rw [hall]
  have he : alw (fun f => (decide (bd b f = bd b (pf (bW b) (bH b) t f)) && decide (bo b f = bo b (pf (bW b) (bH b) t f))) && alw (fun s => decide (bh b (eg (bW b) (bH b) f s) = bh b (pe (bW b) (bH b) t (eg (bW b) (bH b) f s)))) 4) (bn b) = alk b t := by
    apply b_iff
    unfold alk
    rw [Bool.and_eq_true, Bool.and_eq_true, alw_iff, alw_iff, alw_iff, alw_iff]
    constructor
    · intro h
      refine ⟨fun e he => ?_, fun f hf => ?_, fun f hf => ?_⟩
      · obtain ⟨f, hf, h1⟩ := (an_iff _).mp (alw_all (alB_all geo_has0 hz.1 hz.2) e he)
        obtain ⟨s, hs, h2⟩ := (an_iff _).mp h1
        rw [decide_eq_true_eq] at h2
        have h3 := h f hf
        rw [Bool.and_eq_true, alw_iff] at h3
        have h4 := h3.2 s hs
        rw [h2] at h4
        exact h4
      · have h3 := h f hf
        rw [Bool.and_eq_true, Bool.and_eq_true] at h3
        exact h3.1.1
      · have h3 := h f hf
        rw [Bool.and_eq_true, Bool.and_eq_true] at h3
        exact h3.1.2
    · rintro ⟨h1, h2, h3⟩ f hf
      rw [Bool.and_eq_true, Bool.and_eq_true, alw_iff]
      exact ⟨⟨h2 f hf, h3 f hf⟩, fun s hs => h1 _ (eg_lt hz hf hs)⟩
  rw [he]
  cases alk b t <;> rfl
def wys (b : BD) : Nat := if bW b = bH b then 8 else 4
theorem ways_ok {x : XX} {b : BD} (hb : BOK b) (hg : GB (x_now x) b) : f_X3_waysToTurn x = nI (wys b) := by
  have h1 := hb.1
  have h2 := hb.2.1
  unfold f_X3_waysToTurn wys
  rw [hg.1.1, hg.1.2.1]
  by_cases c : bW b = bH b
  · rw [if_pos (by rw [c]), if_pos c]; rfl
  · rw [if_neg (fun h => c (nI_inj (by omega) (by omega) h)), if_neg c]; rfl
theorem tok_w {b : BD} {t : Nat} : tok (bW b) (bH b) t = decide (t < wys b) := by
  unfold tok wys
  by_cases c : bW b = bH b
  · rw [if_pos c, decide_eq_true c, Bool.and_true]
    apply b_iff
    simp only [Bool.or_eq_true, decide_eq_true_eq]
    omega
  · rw [if_neg c, decide_eq_false c, Bool.and_false, Bool.or_false]
theorem B_likenesses {x : XX} {σ : MM} (hR : Rel x σ)  : ∃ (r : Int32), f_X3_likenesses x  = some r ∧ f_X4_likenesses σ  = some r ∧ Rel x σ := by
  obtain ⟨b, t, mv0, sd, hb, hg, hm, hgs, hms⟩ := hR.1
  have h1 := hb.1
  have h2 := hb.2.1
  have hw8 : wys b ≤ 8 := by unfold wys; split <;> omega
  refine ⟨nI (cn (alk b) (wys b)), ?_, ?_, hR⟩
  · unfold f_X3_likenesses f_X3_likenesses_L4
    refine lp_cnt _ (f_X3_likenesses_L4_b x) (alk b) (wys b) 0 _ (by omega) (fun i rec y hi => ?_) (fun rec => ?_)
    · rw [f_X3_likenesses_L4_b, ways_ok hb hg, if_neg (nI_ge hi (by omega)), alikeX_ok hb hg hm (by rw [tok_w]; exact decide_eq_true hi), ob_s]
      simp only [lt_e, ← nI_succ]
      cases alk b i with
      | true => rw [show f_X3_truth (bi true) = 1 by decide +kernel, if_pos rfl, ← nI_succ]
      | false => rw [show f_X3_truth (bi false) = 0 by decide +kernel, if_neg Bool.false_ne_true, Int32.add_zero]
    · rw [f_X3_likenesses_L4_b, ways_ok hb hg, if_pos (nI_le (Nat.le_refl _) (by omega)), Nat.zero_add]
  · have hb22 : ∀ rec y i, f_X4_likenesses_L4_b σ rec (nI y) (nI i) = f_X4_likenesses_b22 σ rec (nI y) (nI i) (nI (wys b)) (nI i) := fun rec y i => by
      rw [f_X4_likenesses_L4_b, hm.1, hm.2.1]
      unfold wys
      by_cases c : bW b = bH b
      · rw [if_pos (by rw [c]), if_pos c]; rfl
      · rw [if_neg (fun h => c (nI_inj (by omega) (by omega) h)), if_neg c]; rfl
    unfold f_X4_likenesses f_X4_likenesses_L4
    refine lp_cnt _ (f_X4_likenesses_L4_b σ) (alk b) (wys b) 0 _ (by omega) (fun i rec y hi => ?_) (fun rec => ?_)
    · rw [hb22, f_X4_likenesses_b22, if_neg (nI_ge hi (by omega)), alikeM_ok hb hg hm (by rw [tok_w]; exact decide_eq_true hi), ob_s]
      simp only [lt_e, ← nI_succ]
    · rw [hb22, f_X4_likenesses_b22, if_pos (nI_le (Nat.le_refl _) (by omega)), Nat.zero_add]
theorem B_alike {x : XX} {σ : MM} (hR : Rel x σ) (a1 : Int32) : ∃ (r : Int32) (x' : XX) (σ' : MM), f_X3_alike x a1 = some (r, x') ∧ f_X4_alike σ a1 = some (r, σ') ∧ Rel x' σ' := by
  have hno := R_no' hR (-2) (Or.inl rfl)
  obtain ⟨b, t, mv0, sd, hb, hg, hm, hgs, hms⟩ := hR.1
  have h1 := hb.1
  have h2 := hb.2.1
  unfold f_X3_alike f_X4_alike
  rw [ways_ok hb hg]
  have hw8 : wys b ≤ 8 := by unfold wys; split <;> omega
  rcases n4_iff (n := 7) (by omega) a1 with ⟨q1, q2⟩ | ⟨k, hk, rfl, q1⟩
  · rw [show f_X4_within a1 0 7 = false from q1, if_neg Bool.false_ne_true]
    rcases q2 with q2 | ⟨q2, q3⟩
    · rw [if_pos q2]; exact hno
    · rw [if_neg q2, if_neg (fun hh => q3 (by
        rw [Int32.lt_iff_toInt_lt, nI_toInt (by omega)] at hh
        rw [Int32.le_iff_toInt_le, nI_toInt (by omega)]
        omega))]; exact hno
  rw [show f_X4_within (nI k) 0 7 = true from q1, if_neg (nI_pos (by omega)), if_pos rfl]
  have fin : tok (bW b) (bH b) k = true → (∃ (r : Int32) (x' : XX) (σ' : MM), (if nI k < nI (wys b) then ob (f_X0_isAlike (x_now x) (nI k)) (fun b3 => some ((f_X3_truth (bi b3)), x)) else ob2 (f_X3_refuse x (-2)) (fun x5 σ4 => some (x5, σ4))) = some (r, x') ∧ ob (f_X4_isAlike σ (nI k)) (fun b3 => if b3 = true then some (1, σ) else some (0, σ)) = some (r, σ') ∧ Rel x' σ') := fun ht => by
    have hkw : k < wys b := by rw [tok_w, decide_eq_true_eq] at ht; exact ht
    rw [if_pos (nI_lt hkw (by omega)), alikeX_ok hb hg hm ht, alikeM_ok hb hg hm ht, ob_s, ob_s]
    cases alk b k with
    | true => exact ⟨1, _, _, by rw [show f_X3_truth (bi true) = 1 by decide +kernel], rfl, hR⟩
    | false => exact ⟨0, _, _, by rw [show f_X3_truth (bi false) = 0 by decide +kernel], rfl, hR⟩
  by_cases c3 : k ≤ 3
  · rw [if_pos (show nI k ≤ 3 from nI_le (b := 3) c3 (by omega))]
    exact fin (by unfold tok; rw [decide_eq_true (show k < 4 by omega)]; rfl)
  · rw [if_neg (show ¬ nI k ≤ 3 from nI_ge (a := 3) (by omega) (by omega)), hm.1, hm.2.1]
    by_cases c : bW b = bH b
    · rw [if_pos (show nI (bW b) = nI (bH b) by rw [c])]
      exact fin (by unfold tok; rw [decide_eq_true c, decide_eq_true (show k < 8 by omega)]; simp)
    · rw [if_neg (show ¬ nI (bW b) = nI (bH b) from fun h => c (nI_inj (by omega) (by omega) h)), if_neg (show ¬ nI k < nI (wys b) from nI_nlt (by unfold wys; rw [if_neg c]; omega) (by omega))]
      exact hno
