/-! Edges and fields -/
theorem geo_mf0 : alB (fun W H => alw (fun e => alw (fun s => decide (f_X4_field (mWH W H) (nI e) (nI s) = some (iF (fd W H e s)))) 2) (nE W H)) = true := by decide +kernel
theorem geo_mf {σ : MM} {W H : Nat} (hz : SZ W H) (h1 : m_w σ = nI W) (h2 : m_h σ = nI H) {e s : Nat} (he : e < nE W H) (hs : s < 2) : f_X4_field σ (nI e) (nI s) = some (iF (fd W H e s)) := by
  have h0 := alw_all (alw_all (alB_all geo_mf0 hz.1 hz.2) e he) s hs
  rw [decide_eq_true_eq] at h0
  rw [← h0]
  unfold f_X4_field f_X4_isField f_X4_level
  rw [h1, h2]
  rfl
theorem edges_m {σ : MM} {W H : Nat} (h1 : m_w σ = nI W) (h2 : m_h σ = nI H) : f_X4_edges σ = nI (nE W H) := by
  unfold f_X4_edges f_X4_level
  rw [h1, h2, ← nI_succ, ← nI_succ, nn_mul, nn_mul, nn_add]
  rfl
theorem rng_iff {n : Nat} (hn : n < 1000) (a : Int32) : (((if a < 0 then false else if nI n ≤ a then false else true) = false ∧ f_X4_within a 0 (nI n - 1) = false)) ∨ ∃ i, i < n ∧ a = nI i ∧ (if a < 0 then false else if nI n ≤ a then false else true) = true ∧ f_X4_within a 0 (nI n - 1) = true := by
  by_cases h0 : a < 0
  · left; exact ⟨by rw [if_pos h0], within_f (Or.inl h0)⟩
  rw [if_neg h0]
  by_cases h1 : nI n ≤ a
  · left
    refine ⟨by rw [if_pos h1], within_f (Or.inr ?_)⟩
    have g : ∀ n, n < 1000 → (nI n - 1).toInt = (n : Int) - 1 := by decide +kernel
    rw [Int32.le_iff_toInt_le, nI_toInt (by omega)] at h1
    rw [Int32.lt_iff_toInt_lt, g n hn]
    omega
  · obtain ⟨i, hi, rfl⟩ := i_nat h0 (Int32.not_le.mp h1) (by omega)
    right
    refine ⟨i, hi, rfl, by rw [if_neg h1], within_t h0 ?_⟩
    have e : nI n - 1 = nI (n - 1) := nn_sub (a := n) (b := 1) (by omega)
    rw [e]
    exact nI_nlt (by omega) (by omega)
theorem edge_iff {g : GG} {σ : MM} {W H : Nat} (hz : SZ W H) (hg : g_edges g = nI (nE W H)) (h1 : m_w σ = nI W) (h2 : m_h σ = nI H) (a : Int32) : (f_X0_isEdge g a = false ∧ f_X4_within a 0 (f_X4_edges σ - 1) = false) ∨ ∃ e, e < nE W H ∧ a = nI e ∧ f_X0_isEdge g a = true ∧ f_X4_within a 0 (f_X4_edges σ - 1) = true := by
  unfold f_X0_isEdge
  rw [hg, edges_m h1 h2]
  exact rng_iff (by have := szs hz; omega) a
theorem field_iff {g : GG} {σ : MM} {W H : Nat} (hz : SZ W H) (hg : g_fields g = nI (nF W H)) (h1 : m_w σ = nI W) (h2 : m_h σ = nI H) (a : Int32) : (f_X0_isField g a = false ∧ f_X4_isField σ a = false) ∨ ∃ f, f < nF W H ∧ a = nI f ∧ f_X0_isField g a = true ∧ f_X4_isField σ a = true := by
  unfold f_X0_isField f_X4_isField
  rw [hg, h1, h2, nn_mul]
  exact rng_iff (n := nF W H) (by have := szs hz; omega) a
theorem bit_l {x : Int64} {e : Nat} (he : e < 64) : (lg_cmp ((lushr x (nI e)) &&& 1) 0) = 0 ↔ bl x e = false := by
  rw [lg_cmp_eq, bl_eq0]
  constructor
  · intro h
    have := h 0 (by omega)
    rw [bl_and, bl_lushr x he, bl_1] at this
    simpa using this
  · intro h i hi
    rw [bl_and, bl_lushr x he, bl_1]
    by_cases h0 : i = 0
    · subst h0; simp [h]
    · simp [h0]
theorem hedged_ok {g : GG} {b : BD} (h : ∀ e, e < 64 → bl (g_hedges g) e = bh b e) {e : Nat} (he : e < 64) : f_X0_isHedged g (nI e) = bh b e := by
  unfold f_X0_isHedged
  by_cases hb : bh b e = true
  · rw [if_neg (fun hh => by have := (bit_l he).mp hh; rw [h e he, hb] at this; cases this), hb]
  · have hb' : bh b e = false := by simpa using hb
    rw [if_pos ((bit_l he).mpr (by rw [h e he, hb'])), hb']
theorem ib0 (c : Bool) : (if ib c = 0 then (0 : Int32) else 1) = f_X3_truth (bi c) := by
  cases c
  · decide +kernel
  · decide +kernel
theorem n2_iff (a : Int32) : (a = 0 ∨ a = 1 ∨ a = 2) ∧ f_X4_within a 0 2 = true ∨ (¬ a = 0 ∧ ¬ a = 1 ∧ ¬ a = 2) ∧ f_X4_within a 0 2 = false := by
  rcases n4_iff (n := 2) (by omega) a with ⟨e1, e2⟩ | ⟨k, hk, rfl, e1⟩
  · right
    refine ⟨⟨?_, ?_, ?_⟩, e1⟩
    · rintro rfl; exact absurd e1 (by decide +kernel)
    · rintro rfl; exact absurd e1 (by decide +kernel)
    · rintro rfl; exact absurd e1 (by decide +kernel)
  · left
    exact ⟨(by decide +kernel : ∀ k, k < 3 → (nI k = 0 ∨ nI k = 1 ∨ nI k = 2)) k (by omega), e1⟩
theorem B_edgeOf {x : XX} {σ : MM} (hR : Rel x σ) (a1 : Int32) (a2 : Int32) : ∃ (r : Int32) (x' : XX) (σ' : MM), f_X3_edgeOf x a1 a2 = some (r, x') ∧ f_X4_edgeOf σ a1 a2 = some (r, σ') ∧ Rel x' σ' := by
  have hno := R_no' hR (-2) (Or.inl rfl)
  obtain ⟨b, t, mv, sd, hb, hg, hm, hgs, hms⟩ := hR.1
  have hz : SZ (bW b) (bH b) := ⟨hb.1, hb.2.1⟩
  have sz := szs hz
  have hq : gq (x_now x) (bW b) (bH b) := ⟨hg.1.1, hg.1.2.1, hg.1.2.2.1, hg.1.2.2.2.1, hg.1.2.2.2.2.1⟩
  unfold f_X3_edgeOf f_X4_edgeOf
  rcases edge_iff hz hg.1.2.2.2.1 hm.1 hm.2.1 a1 with ⟨e1, e2⟩ | ⟨e, he, rfl, e1, e2⟩
  · rw [e1, e2]; exact hno
  rw [e1, e2, if_pos rfl, if_pos rfl]
  rcases n2_iff a2 with ⟨h | h | h, e3⟩ | ⟨⟨h0, h1, h2⟩, e3⟩
  · subst h
    rw [e3, if_pos rfl, if_pos rfl, if_pos rfl, gd_t (nI_inb (by omega) (by omega)), nI_clamp (by omega), hm.2.2.1 e (by omega), hedged_ok hg.2.1 (by omega), ← ib0]
    by_cases hc : ib (bh b e) = 0
    · rw [if_pos hc, if_pos hc]; exact ⟨_, _, _, rfl, rfl, hR⟩
    · rw [if_neg hc, if_neg hc]; exact ⟨_, _, _, rfl, rfl, hR⟩
  · subst h
    rw [e3, if_pos rfl, if_neg (show ¬ (1 : Int32) = 0 by decide +kernel), if_neg (show ¬ (1 : Int32) = 0 by decide +kernel), if_pos rfl, (geo_fX hz hq he).1, show (1 : Int32) - 1 = nI 0 by decide +kernel, geo_mf hz hm.1 hm.2.1 he (by omega), ob_s, ob_s]
    exact ⟨_, _, _, rfl, rfl, hR⟩
  · subst h
    rw [e3, if_pos rfl, if_neg (show ¬ (2 : Int32) = 0 by decide +kernel), if_neg (show ¬ (2 : Int32) = 0 by decide +kernel), if_neg (show ¬ (2 : Int32) = 1 by decide +kernel), if_pos rfl, (geo_fX hz hq he).2, show (2 : Int32) - 1 = nI 1 by decide +kernel, geo_mf hz hm.1 hm.2.1 he (by omega), ob_s, ob_s]
    exact ⟨_, _, _, rfl, rfl, hR⟩
  · rw [e3, if_neg h0, if_neg h1, if_neg h2]; exact hno
