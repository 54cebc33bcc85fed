/-! A field looked at -/
theorem cn_sum4 {P a c d e : Nat → Bool} : ∀ n, (∀ i, i < n → cb (P i) = cb (a i) + cb (c i) + cb (d i) + cb (e i)) → cn P n = cn a n + cn c n + cn d n + cn e n := by
  intro n
  induction n with
  | zero => intro _; rfl
  | succ n ih =>
    intro h
    have h1 := ih (fun i hi => h i (by omega))
    have h2 := h n (by omega)
    rw [cn_s, cn_s, cn_s, cn_s, cn_s, h1, h2]
    omega
theorem around_cnt {b : BD} (hz : SZ (bW b) (bH b)) {f : Nat} (hf : f < bn b) : cn (fun e => isf (bW b) (bH b) e f && bh b e) (be b) = cnt b f := by
  have key : cn (fun e => isf (bW b) (bH b) e f && bh b e) (be b) = cn (fun e => decide (e = eg (bW b) (bH b) f 0) && bh b e) (be b) + cn (fun e => decide (e = eg (bW b) (bH b) f 1) && bh b e) (be b) + cn (fun e => decide (e = eg (bW b) (bH b) f 2) && bh b e) (be b) + cn (fun e => decide (e = eg (bW b) (bH b) f 3) && bh b e) (be b) := by
    refine cn_sum4 (be b) (fun e he => ?_)
    have g := alw_all (alw_all (alB_all geo_add0 hz.1 hz.2) e he) f hf
    rw [decide_eq_true_eq] at g
    have g2 : cb (isf (bW b) (bH b) e f) = cb (decide (e = eg (bW b) (bH b) f 0)) + cb (decide (e = eg (bW b) (bH b) f 1)) + cb (decide (e = eg (bW b) (bH b) f 2)) + cb (decide (e = eg (bW b) (bH b) f 3)) := by
      unfold isf
      rw [← g]
      have sw : ∀ x : Nat, decide (x = e) = decide (e = x) := fun x => decide_eq_decide.mpr ⟨Eq.symm, Eq.symm⟩
      rw [sw, sw, sw, sw]
    cases bh b e with
    | true => simp only [Bool.and_true]; exact g2
    | false => simp only [Bool.and_false]; rfl
  have l := fun s (hs : s < 4) => eg_lt hz (f := f) (s := s) hf hs
  rw [key, cn_one, cn_one, cn_one, cn_one, if_pos (show eg (bW b) (bH b) f 0 < be b from l 0 (by omega)), if_pos (show eg (bW b) (bH b) f 1 < be b from l 1 (by omega)), if_pos (show eg (bW b) (bH b) f 2 < be b from l 2 (by omega)), if_pos (show eg (bW b) (bH b) f 3 < be b from l 3 (by omega))]
  rfl
theorem geo_el0 : alB (fun W H => alw (fun f => decide (f_X0_edgeLeft (gWH W H) (nI f) = some (nI (eg W H f 2))) && decide (f_X0_edgeRight (gWH W H) (nI f) = some (nI (eg W H f 3)))) (nF W H)) = true := by decide +kernel
theorem geo_el {g : GG} {W H : Nat} (hz : SZ W H) (hg : GGeo g W H) {f : Nat} (hf : f < nF W H) : f_X0_edgeLeft g (nI f) = some (nI (eg W H f 2)) ∧ f_X0_edgeRight g (nI f) = some (nI (eg W H f 3)) := by
  have h0 := alw_all (alB_all geo_el0 hz.1 hz.2) f hf
  simp only [Bool.and_eq_true, decide_eq_true_eq] at h0
  obtain ⟨h1, h2, h3, h4, h5, -⟩ := hg
  constructor
  · rw [← h0.1]; unfold f_X0_edgeLeft f_X0_rowOf; rw [h1, h5]; rfl
  · rw [← h0.2]; unfold f_X0_edgeRight f_X0_edgeLeft f_X0_rowOf; rw [h1, h5]; rfl
theorem B_fieldOf {x : XX} {σ : MM} (hR : Rel x σ) (a1 : Int32) (a2 : Int32) : ∃ (r : Int32) (x' : XX) (σ' : MM), f_X3_fieldOf x a1 a2 = some (r, x') ∧ f_X4_fieldOf σ a1 a2 = some (r, σ') ∧ Rel x' σ' := by
  have hno := R_no' hR (-2) (Or.inl rfl)
  obtain ⟨b, t, mv0, sd, hb, hg, hm, hgs, hms⟩ := hR.1
  have hz : SZ (bW b) (bH b) := ⟨hb.1, hb.2.1⟩
  have sz := szs hz
  have hn : bn b ≤ 16 := sz.2.1
  have hE : be b ≤ 40 := sz.1
  have fin : ∀ {o : Option (Int32 × XX)} {p : Option (Int32 × MM)} {v : Int32}, o = some (v, x) → p = some (v, σ) → ∃ (r : Int32) (x' : XX) (σ' : MM), o = some (r, x') ∧ p = some (r, σ') ∧ Rel x' σ' := fun h1 h2 => ⟨_, _, _, h1, h2, hR⟩
  unfold f_X3_fieldOf f_X4_fieldOf
  rcases field_iff hz hg.1.2.2.1 hm.1 hm.2.1 a1 with ⟨e1, e2⟩ | ⟨f, hf, rfl, e1, e2⟩
  · rw [e1, e2]; exact hno
  have hf2 : f < bn b := hf
  have hel := geo_el hz hg.1 hf
  have hme := fun s (hs : s < 4) => geo_me hz hm.1 hm.2.1 (f := f) (s := s) hf hs
  rw [e1, e2, if_pos rfl, if_pos rfl, lt_e]
  rcases n4_iff (n := 8) (by omega) a2 with ⟨q1, q2⟩ | ⟨k, hk, rfl, q1⟩
  · have hne : ∀ k, k ≤ 8 → ¬ a2 = nI k := fun k hk h => by
      rw [h] at q1
      rw [within_t (nI_pos (by omega)) (nI_nlt hk (by omega))] at q1
      cases q1
    rw [show f_X4_within a2 0 8 = false from q1, if_neg Bool.false_ne_true, if_neg (show ¬ a2 = 0 from hne 0 (by omega)), if_neg (show ¬ a2 = 1 from hne 1 (by omega)), if_neg (show ¬ a2 = 2 from hne 2 (by omega)), if_neg (show ¬ a2 = 3 from hne 3 (by omega)), if_neg (show ¬ a2 = 4 from hne 4 (by omega)), if_neg (show ¬ a2 = 5 from hne 5 (by omega)), if_neg (show ¬ a2 = 6 from hne 6 (by omega)), if_neg (show ¬ a2 = 7 from hne 7 (by omega)), if_neg (show ¬ a2 = 8 from hne 8 (by omega))]
    exact hno
  rw [show f_X4_within (nI k) 0 8 = true from q1, if_pos rfl]
  rcases (by omega : k = 0 ∨ k = 1 ∨ k = 2 ∨ k = 3 ∨ k = 4 ∨ k = 5 ∨ k = 6 ∨ k = 7 ∨ k = 8) with rfl | rfl | rfl | rfl | rfl | rfl | rfl | rfl | rfl
  · rw [if_pos (show nI 0 = 0 from rfl), if_pos (show nI 0 = 0 from rfl), hedges_ok hz hm hf2, ob_s]
    obtain ⟨y, y1, y2⟩ := around_ok hz hg.1 (a := ishl 1 (nI f)) (S := fun o => decide (o = f)) (fun i hi => bt_ishl1 (by omega) i) (fun i h => by rw [decide_eq_true_eq] at h; omega)
    rw [y1, ob_s, cnt_l (n := be b) (P := fun e => isf (bW b) (bH b) e f && bh b e) (by omega) (fun e he => by
      rw [bl_and, y2 e he, hg.2.1 e he]
      have sw : ∀ x : Nat, decide (x = f) = decide (f = x) := fun x => decide_eq_decide.mpr ⟨Eq.symm, Eq.symm⟩
      show ((decide (e < be b) && (decide (fd (bW b) (bH b) e 0 = f) || decide (fd (bW b) (bH b) e 1 = f))) && bh b e) = (decide (e < be b) && ((decide (f = fd (bW b) (bH b) e 0) || decide (f = fd (bW b) (bH b) e 1)) && bh b e))
      rw [sw, sw, Bool.and_assoc]), around_cnt hz hf2]
    exact fin rfl rfl
  · rw [if_neg (show ¬ nI 1 = 0 by decide +kernel), if_neg (show ¬ nI 1 = 0 by decide +kernel), if_pos (show nI 1 = 1 from rfl), if_pos (show nI 1 = 1 from rfl), gd_t (nI_inb (show f < 16 by omega) (by omega)), nI_clamp (by omega), hm.2.2.2.1 f (by omega)]
    cases hd : bd b f with
    | false =>
      rw [if_pos ((and_bit (by omega)).mpr (by rw [hg.2.2.1 f (by omega), hd])), if_pos (show ib false = 0 by decide +kernel), show f_X3_truth 0 = 0 by decide +kernel]
      exact fin rfl rfl
    | true =>
      rw [if_neg (fun hh => by rw [and_bit (by omega), hg.2.2.1 f (by omega), hd] at hh; cases hh), if_neg (show ¬ ib true = 0 by decide +kernel), show f_X3_truth 1 = 1 by decide +kernel]
      exact fin rfl rfl
  · rw [if_neg (show ¬ nI 2 = 0 by decide +kernel), if_neg (show ¬ nI 2 = 1 by decide +kernel), if_neg (show ¬ nI 2 = 0 by decide +kernel), if_neg (show ¬ nI 2 = 1 by decide +kernel), if_pos (show nI 2 = 2 from rfl), if_pos (show nI 2 = 2 from rfl), gd_t (nI_inb (show f < 16 by omega) (by omega)), nI_clamp (by omega), hm.2.2.2.2 f (by omega)]
    have hs : f_X3_seatOf (ishl 1 (nI f)) (g_ownedBy0 (x_now x)) (g_ownedBy1 (x_now x)) = io (bo b f) := by
      unfold f_X3_seatOf io
      have b0 := hg.2.2.2.1 f (by omega)
      have b1 := hg.2.2.2.2 f (by omega)
      by_cases c0 : bo b f = 0
      · rw [if_neg (fun hh => by rw [and_bit (by omega), b0, decide_eq_true c0] at hh; cases hh), if_pos c0]
      · rw [if_pos ((and_bit (by omega)).mpr (by rw [b0, decide_eq_false c0])), if_neg c0]
        by_cases c1 : bo b f = 1
        · rw [if_neg (fun hh => by rw [and_bit (by omega), b1, decide_eq_true c1] at hh; cases hh), if_pos c1]
        · rw [if_pos ((and_bit (by omega)).mpr (by rw [b1, decide_eq_false c1])), if_neg c1]
    rw [hs]
    exact fin rfl rfl
  · rw [if_neg (show ¬ nI 3 = 0 by decide +kernel), if_neg (show ¬ nI 3 = 1 by decide +kernel), if_neg (show ¬ nI 3 = 2 by decide +kernel), if_neg (show ¬ nI 3 = 0 by decide +kernel), if_neg (show ¬ nI 3 = 1 by decide +kernel), if_neg (show ¬ nI 3 = 2 by decide +kernel), if_pos (show nI 3 = 3 from rfl), if_pos (show nI 3 = 3 from rfl), drains_ok hz hm, ob_s, colour_ok hb hm hf2, ob_s]
    obtain ⟨r0, t1, t2⟩ := tin_ok hb hg (p := 0) (by omega)
    obtain ⟨r1, u1, u2⟩ := tin_ok hb hg (p := 1) (by omega)
    have hs : f_X3_seatOf (ishl 1 (nI f)) r0 r1 = coI b f := by
      unfold f_X3_seatOf
      have i0 := coI_iff hb f (p := 0) (by omega)
      have i1 := coI_iff hb f (p := 1) (by omega)
      have b0 := t2 f (by omega)
      have b1 := u2 f (by omega)
      rw [decide_eq_true hf2, Bool.true_and] at b0 b1
      by_cases c0 : tin b 0 f = true
      · rw [if_neg (fun hh => by rw [and_bit (by omega), b0, c0] at hh; cases hh), i0.mpr c0]; rfl
      · rw [if_pos ((and_bit (by omega)).mpr (by rw [b0]; simpa using c0))]
        by_cases c1 : tin b 1 f = true
        · rw [if_neg (fun hh => by rw [and_bit (by omega), b1, c1] at hh; cases hh), i1.mpr c1]; rfl
        · rw [if_pos ((and_bit (by omega)).mpr (by rw [b1]; simpa using c1))]
          unfold coI
          unfold tin at c0 c1
          cases hw : wet b f with
          | true => rfl
          | false =>
            rw [hw, Bool.not_false, Bool.and_true, decide_eq_true_eq] at c0 c1
            rw [if_neg Bool.false_ne_true]
            unfold io
            rw [if_neg c0, if_neg c1]
    rw [show f_X0_tinted (x_now x) 0 = some r0 from t1, show f_X0_tinted (x_now x) 1 = some r1 from u1, ob_s, ob_s, hs]
    exact fin rfl rfl
  · rw [if_neg (show ¬ nI 4 = 0 by decide +kernel), if_neg (show ¬ nI 4 = 1 by decide +kernel), if_neg (show ¬ nI 4 = 2 by decide +kernel), if_neg (show ¬ nI 4 = 3 by decide +kernel), if_neg (show ¬ nI 4 = 0 by decide +kernel), if_neg (show ¬ nI 4 = 1 by decide +kernel), if_neg (show ¬ nI 4 = 2 by decide +kernel), if_neg (show ¬ nI 4 = 3 by decide +kernel), if_pos (show nI 4 = 4 from rfl), if_pos (show nI 4 = 4 from rfl), show nI 4 - 4 = nI 0 by decide +kernel, hme 0 (by omega), ob_s]
    exact fin rfl rfl
  · rw [if_neg (show ¬ nI 5 = 0 by decide +kernel), if_neg (show ¬ nI 5 = 1 by decide +kernel), if_neg (show ¬ nI 5 = 2 by decide +kernel), if_neg (show ¬ nI 5 = 3 by decide +kernel), if_neg (show ¬ nI 5 = 4 by decide +kernel), if_neg (show ¬ nI 5 = 0 by decide +kernel), if_neg (show ¬ nI 5 = 1 by decide +kernel), if_neg (show ¬ nI 5 = 2 by decide +kernel), if_neg (show ¬ nI 5 = 3 by decide +kernel), if_neg (show ¬ nI 5 = 4 by decide +kernel), if_pos (show nI 5 = 5 from rfl), if_pos (show nI 5 = 5 from rfl), show nI 5 - 4 = nI 1 by decide +kernel, hme 1 (by omega), ob_s]
    refine fin ?_ rfl
    unfold f_X0_edgeBelow
    rw [hg.1.1, nn_add]
    rfl
  · rw [if_neg (show ¬ nI 6 = 0 by decide +kernel), if_neg (show ¬ nI 6 = 1 by decide +kernel), if_neg (show ¬ nI 6 = 2 by decide +kernel), if_neg (show ¬ nI 6 = 3 by decide +kernel), if_neg (show ¬ nI 6 = 4 by decide +kernel), if_neg (show ¬ nI 6 = 5 by decide +kernel), if_neg (show ¬ nI 6 = 0 by decide +kernel), if_neg (show ¬ nI 6 = 1 by decide +kernel), if_neg (show ¬ nI 6 = 2 by decide +kernel), if_neg (show ¬ nI 6 = 3 by decide +kernel), if_neg (show ¬ nI 6 = 4 by decide +kernel), if_neg (show ¬ nI 6 = 5 by decide +kernel), if_pos (show nI 6 = 6 from rfl), if_pos (show nI 6 = 6 from rfl), show nI 6 - 4 = nI 2 by decide +kernel, hme 2 (by omega), ob_s, hel.1, ob_s]
    exact fin rfl rfl
  · rw [if_neg (show ¬ nI 7 = 0 by decide +kernel), if_neg (show ¬ nI 7 = 1 by decide +kernel), if_neg (show ¬ nI 7 = 2 by decide +kernel), if_neg (show ¬ nI 7 = 3 by decide +kernel), if_neg (show ¬ nI 7 = 4 by decide +kernel), if_neg (show ¬ nI 7 = 5 by decide +kernel), if_neg (show ¬ nI 7 = 6 by decide +kernel), if_neg (show ¬ nI 7 = 0 by decide +kernel), if_neg (show ¬ nI 7 = 1 by decide +kernel), if_neg (show ¬ nI 7 = 2 by decide +kernel), if_neg (show ¬ nI 7 = 3 by decide +kernel), if_neg (show ¬ nI 7 = 4 by decide +kernel), if_neg (show ¬ nI 7 = 5 by decide +kernel), if_neg (show ¬ nI 7 = 6 by decide +kernel), if_pos (show nI 7 = 7 from rfl), if_pos (show nI 7 = 7 from rfl), show nI 7 - 4 = nI 3 by decide +kernel, hme 3 (by omega), ob_s, hel.2, ob_s]
    exact fin rfl rfl
  · rw [if_neg (show ¬ nI 8 = 0 by decide +kernel), if_neg (show ¬ nI 8 = 1 by decide +kernel), if_neg (show ¬ nI 8 = 2 by decide +kernel), if_neg (show ¬ nI 8 = 3 by decide +kernel), if_neg (show ¬ nI 8 = 4 by decide +kernel), if_neg (show ¬ nI 8 = 5 by decide +kernel), if_neg (show ¬ nI 8 = 6 by decide +kernel), if_neg (show ¬ nI 8 = 7 by decide +kernel), if_neg (show ¬ nI 8 = 0 by decide +kernel), if_neg (show ¬ nI 8 = 1 by decide +kernel), if_neg (show ¬ nI 8 = 2 by decide +kernel), if_neg (show ¬ nI 8 = 3 by decide +kernel), if_neg (show ¬ nI 8 = 4 by decide +kernel), if_neg (show ¬ nI 8 = 5 by decide +kernel), if_neg (show ¬ nI 8 = 6 by decide +kernel), if_neg (show ¬ nI 8 = 7 by decide +kernel), if_pos (show nI 8 = 8 from rfl), if_pos (show nI 8 = 8 from rfl), hasRim_ok hz hm.1 hm.2.1 hf, ob_s]
    obtain ⟨r, r1, r2⟩ := rimf_ok hz hg.1
    have hr := r2 f (by omega)
    rw [decide_eq_true hf, Bool.true_and] at hr
    rw [r1, ob_s]
    cases hrf : rf (bW b) (bH b) f with
    | true =>
      rw [if_neg (fun hh => by rw [and_bit (by omega), hr, hrf] at hh; cases hh), if_pos rfl, show f_X3_truth 1 = 1 by decide +kernel]
      exact fin rfl rfl
    | false =>
      rw [if_pos ((and_bit (by omega)).mpr (by rw [hr, hrf])), if_neg Bool.false_ne_true, show f_X3_truth 0 = 0 by decide +kernel]
      exact fin rfl rfl
