/-! Class and reference on what hangs together: part, ditch, parts, ditches, drained -/
/-- a step of the class -/
theorem stp_ok {g : GG} {W H : Nat} (hz : SZ W H) (hg : GGeo g W H) {x : Int64} {X : Nat → Bool} (hX : ∀ e, e < 64 → bl x e = X e) {w : Int32} {Y : Nat → Bool} (hw : ∀ i, i < 32 → bt w i = Y i) (hY : ∀ i, Y i = true → i < nF W H) {S : Nat → Bool} (hS : ∀ i, i < nF W H → S i = true → Y i = true) :
    ∃ r, f_X0_beside g (msk S (nF W H)) x = some r ∧ (msk S (nF W H) ||| r) &&& w = msk (stp (nF W H) (aw W H Y X) S) (nF W H) := by
  have sz := szs hz
  have hn : nF W H ≤ 16 := sz.2.1
  generalize hT : (fun i => decide (i < nF W H) && S i) = T
  have hTe : ∀ i, T i = (decide (i < nF W H) && S i) := fun i => by rw [← hT]
  have hT1 : ∀ i, i < 32 → bt (msk S (nF W H)) i = T i := fun i _ => by rw [bt_msk S _ (by omega), hTe]
  have hT2 : ∀ i, T i = true → i < nF W H := fun i h => by rw [hTe, Bool.and_eq_true, decide_eq_true_eq] at h; exact h.1
  obtain ⟨r, e1, h1⟩ := beside_ok hz hg hX hT1 hT2
  refine ⟨r, e1, bt_ext (fun i hi => ?_)⟩
  rw [bt_and, bt_or, hT1 i hi, h1 i hi, hw i hi, bt_msk _ _ (by omega)]
  by_cases c : i < nF W H
  · rw [decide_eq_true c, Bool.true_and, Bool.true_and]
    have e : an (fun g => S g && (aw W H Y X) g i) (nF W H) = (Y i && (((T (nb W H i 0) && !X (eg W H i 0)) || (T (nb W H i 1) && !X (eg W H i 1))) || (T (nb W H i 2) && !X (eg W H i 2)) || (T (nb W H i 3) && !X (eg W H i 3)))) := by
      have e2 : an (fun s => T (nb W H i s) && !X (eg W H i s)) 4 = (((T (nb W H i 0) && !X (eg W H i 0)) || (T (nb W H i 1) && !X (eg W H i 1))) || (T (nb W H i 2) && !X (eg W H i 2)) || (T (nb W H i 3) && !X (eg W H i 3))) := by
        rw [an_s, an_s, an_s, an_s]; show (((false || _) || _) || _ || _) = _; rw [Bool.false_or]
      rw [← e2]
      apply b_iff
      rw [an_iff, Bool.and_eq_true, an_iff]
      constructor
      · rintro ⟨a, ha, h⟩
        have h' : (S a && (Y i && lk W H X a i)) = true := h
        rw [Bool.and_eq_true, Bool.and_eq_true, lk_sym hz ha c] at h'
        obtain ⟨s, hs, h2⟩ := (an_iff 4).mp h'.2.2
        rw [Bool.and_eq_true, decide_eq_true_eq] at h2
        refine ⟨h'.2.1, s, hs, ?_⟩
        rw [h2.1, hTe, decide_eq_true ha, h'.1, h2.2]; rfl
      · rintro ⟨hy, s, hs, h⟩
        rw [Bool.and_eq_true] at h
        have ha := hT2 _ h.1
        have h3 := h.1
        rw [hTe, Bool.and_eq_true] at h3
        refine ⟨nb W H i s, ha, ?_⟩
        show (S (nb W H i s) && (Y i && lk W H X (nb W H i s) i)) = true
        rw [h3.2, hy, lk_sym hz ha c]
        exact (an_iff 4).mpr ⟨s, hs, by rw [decide_eq_true rfl, h.2]; rfl⟩
    unfold stp
    rw [e, hTe, decide_eq_true c, Bool.true_and]
    cases hs : S i with
    | true => rw [hS i c hs]; rfl
    | false => rw [Bool.false_or, Bool.false_or, Bool.and_comm]
  · rw [decide_eq_false c, hTe, decide_eq_false c]; rfl
theorem hang_ok {g : GG} {W H : Nat} (hz : SZ W H) (hg : GGeo g W H) {x : Int64} {X : Nat → Bool} (hX : ∀ e, e < 64 → bl x e = X e) {w : Int32} {Y : Nat → Bool} (hw : ∀ i, i < 32 → bt w i = Y i) (hY : ∀ i, Y i = true → i < nF W H) {a : Int32} {S : Nat → Bool} (ha : ∀ i, i < 32 → (bt a i && Y i) = (decide (i < nF W H) && S i)) :
    f_X0_hanging g a w x = some (msk (cl (nF W H) (aw W H Y X) S) (nF W H)) := by
  have sz := szs hz
  have hn : nF W H ≤ 16 := sz.2.1
  have h0 : a &&& w = msk S (nF W H) := bt_ext (fun i hi => by rw [bt_and, hw i hi, ha i hi, bt_msk S _ (by omega)])
  have hS : ∀ i, i < nF W H → S i = true → Y i = true := fun i hi h => by
    have : (bt a i && Y i) = true := by rw [ha i (by omega), decide_eq_true hi, h]; rfl
    rw [Bool.and_eq_true] at this
    exact this.2
  obtain ⟨e, he, hno, hst⟩ := stab hn (aw W H Y X) S
  have hsub : ∀ k i, i < nF W H → it (nF W H) (aw W H Y X) S k i = true → Y i = true := by
    intro k
    induction k with
    | zero => exact hS
    | succ k ih =>
      intro i hi h
      rw [it_s] at h
      unfold stp at h
      rw [Bool.or_eq_true, an_iff] at h
      rcases h with h | ⟨a, ha, h⟩
      · exact ih i hi h
      · have h' : (it (nF W H) (aw W H Y X) S k a && (Y i && lk W H X a i)) = true := h
        rw [Bool.and_eq_true, Bool.and_eq_true] at h'
        exact h'.2.1
  have h := lp_FU (fun _ _ => none) (f_X0_hanging_L8_b g w x) (fun f (p : Int32 × Int32) => f p.1 p.2) (fun k => (msk (it (nF W H) (aw W H Y X) S k) (nF W H), nI k)) e (some (msk (cl (nF W H) (aw W H Y X) S) (nF W H))) (fun k rec hk => by
      show f_X0_hanging_L8_b g w x rec (msk (it (nF W H) (aw W H Y X) S k) (nF W H)) (nI k) = rec (msk (it (nF W H) (aw W H Y X) S (k + 1)) (nF W H)) (nI (k + 1))
      obtain ⟨r, r1, r2⟩ := stp_ok hz hg hX hw hY (S := it (nF W H) (aw W H Y X) S k) (hsub k)
      unfold f_X0_hanging_L8_b
      rw [if_neg (show ¬ (16 : Int32) ≤ nI k from nI_ge (b := 16) (by omega) (by omega)), r1, ob_s, r2, lt_e, ← it_s, if_neg (fun hh => hno k hk (fun o ho => msk_inj (by omega) hh o ho)), lt_e, ← nI_succ]) (fun rec => by
      show f_X0_hanging_L8_b g w x rec (msk (it (nF W H) (aw W H Y X) S e) (nF W H)) (nI e) = _
      obtain ⟨r, r1, r2⟩ := stp_ok hz hg hX hw hY (S := it (nF W H) (aw W H Y X) S e) (hsub e)
      unfold f_X0_hanging_L8_b
      rw [if_neg (show ¬ (16 : Int32) ≤ nI e from nI_ge (b := 16) (by omega) (by omega)), r1, ob_s, r2, lt_e, ← it_s, if_pos (msk_cong (by omega) hst), msk_cong (by omega) (cl_e (by omega) hst)]) (by omega)
  unfold f_X0_hanging f_X0_hanging_L8
  rw [lt_e, h0]
  exact h
theorem irem2 : ∀ s, s < 4 → irem (nI s) 2 = nI (s % 2) := by decide +kernel
theorem nz2 : nz 2 = true := by decide +kernel
theorem mbeside_ok {σ : MM} {W H : Nat} (hz : SZ W H) (h1 : m_w σ = nI W) (h2 : m_h σ = nI H) {f s : Nat} (hf : f < nF W H) (hs : s < 4) : f_X4_beside σ (nI f) (nI s) = some (iF (nb W H f s)) := by
  unfold f_X4_beside nb
  rw [geo_me hz h1 h2 hf hs, ob_s, gd_t nz2, irem2 s hs, geo_mf hz h1 h2 (eg_lt hz hf hs) (Nat.mod_lt s (by omega)), ob_s]
theorem nb_lt {W H : Nat} (hz : SZ W H) {f s : Nat} (hf : f < nF W H) (hs : s < 4) : nb W H f s = 99 ∨ nb W H f s < nF W H := by
  rcases geo_op hz hf hs with h | h
  · exact Or.inl h
  · exact Or.inr h.1
/-- the set behind g fields -/
def gat (n : Nat) (A : Nat → Nat → Bool) (S : Nat → Bool) (g : Nat) : Nat → Bool := fun o => S o || an (fun a => S a && A a o) g
theorem dit33 {σ : MM} {b : BD} (hz : SZ (bW b) (bH b)) (hm : MB σ b) {S T : Nat → Bool} {g : Nat} (hg : g < bn b) (k : Int32 → Option Int32) : f_X4_ditchOf_L33 σ (msk S (bn b)) (nI g) k (msk T (bn b)) 0 = k (msk (fun o => T o || (S g && aw (bW b) (bH b) (bd b) (fun _ => false) g o)) (bn b)) := by
  have sz := szs hz
  have hn : bn b ≤ 16 := sz.2.1
  have h := lp_FU (fun _ _ => none) (f_X4_ditchOf_L33_b σ (msk S (bn b)) (nI g) k) (fun f (p : Int32 × Int32) => f p.1 p.2) (fun s => (msk (fun o => T o || (S g && (bd b o && an (fun s => decide (nb (bW b) (bH b) g s = o) && !false) s))) (bn b), nI s)) 4 (k (msk (fun o => T o || (S g && aw (bW b) (bH b) (bd b) (fun _ => false) g o)) (bn b))) (fun s rec hs => by
      show f_X4_ditchOf_L33_b σ (msk S (bn b)) (nI g) k rec (msk (fun o => T o || (S g && (bd b o && an (fun s => decide (nb (bW b) (bH b) g s = o) && !false) s))) (bn b)) (nI s) = rec (msk (fun o => T o || (S g && (bd b o && an (fun s => decide (nb (bW b) (bH b) g s = o) && !false) (s + 1)))) (bn b)) (nI (s + 1))
      have hb := bt_msk S (bn b) (by omega) g
      rw [decide_eq_true hg, Bool.true_and] at hb
      unfold f_X4_ditchOf_L33_b
      rw [if_neg (show ¬ (4 : Int32) ≤ nI s from nI_ge (b := 4) hs (by omega)), mbeside_ok hz hm.1 hm.2.1 hg hs, ob_s]
      simp only [lt_e, ← nI_succ]
      cases hSg : S g with
      | false =>
        rw [if_neg (fun hh => by rw [bit_r1 _ (by omega), hb, hSg] at hh; cases hh)]
        rfl
      | true =>
        rw [if_pos ((bit_r1 _ (by omega)).mpr (hb.trans hSg))]
        rcases nb_lt hz hg hs with h99 | hlt
        · rw [h99, if_pos (show iF 99 = -1 by decide +kernel)]
          congr 1
          refine msk_cong (by omega) (fun o ho => ?_)
          rw [an_s, h99, decide_eq_false (show ¬ 99 = o by omega)]
          simp
        · have hlt2 : nb (bW b) (bH b) g s < bn b := hlt
          have hne : ¬ nb (bW b) (bH b) g s = 99 := by omega
          rw [show iF (nb (bW b) (bH b) g s) = nI (nb (bW b) (bH b) g s) from if_neg hne, if_neg (show ¬ nI (nb (bW b) (bH b) g s) = -1 from (by decide +kernel : ∀ m, m < 200 → ¬ nI m = -1) _ (by omega)), gd_t (nI_inb (show nb (bW b) (bH b) g s < 16 by omega) (by omega)), nI_clamp (by omega), hm.2.2.2.1 _ (by omega)]
          cases hd : bd b (nb (bW b) (bH b) g s) with
          | false =>
            rw [if_pos (show ib false = 0 by decide +kernel)]
            congr 1
            refine msk_cong (by omega) (fun o ho => ?_)
            rw [an_s]
            by_cases c : nb (bW b) (bH b) g s = o
            · rw [← c, hd]; simp
            · rw [decide_eq_false c]; simp
          | true =>
            rw [if_neg (show ¬ ib true = 0 by decide +kernel), msk_or1 (by omega) hlt2]
            congr 1
            refine msk_cong (by omega) (fun o ho => ?_)
            rw [an_s]
            by_cases c : nb (bW b) (bH b) g s = o
            · subst c; rw [hd, decide_eq_true rfl]; simp
            · rw [decide_eq_false c, decide_eq_false (fun h => c h.symm)]; simp) (fun rec => by
      show f_X4_ditchOf_L33_b σ (msk S (bn b)) (nI g) k rec _ (nI 4) = _
      unfold f_X4_ditchOf_L33_b
      rw [if_pos (show (4 : Int32) ≤ nI 4 by decide +kernel)]
      rfl) (by omega)
  have e0 : msk (fun o => T o || (S g && (bd b o && an (fun s => decide (nb (bW b) (bH b) g s = o) && !false) 0))) (bn b) = msk T (bn b) := msk_cong (by omega) (fun o ho => by show (T o || (S g && (bd b o && false))) = T o; simp)
  simp only [e0, nI_0] at h
  unfold f_X4_ditchOf_L33
  exact h
theorem dit16 {σ : MM} {b : BD} (hz : SZ (bW b) (bH b)) (hm : MB σ b) {S : Nat → Bool} (k : Int32 → Option Int32) : f_X4_ditchOf_L16 σ (msk S (bn b)) k (msk S (bn b)) 0 = k (msk (stp (bn b) (aw (bW b) (bH b) (bd b) (fun _ => false)) S) (bn b)) := by
  have sz := szs hz
  have hn : bn b ≤ 16 := sz.2.1
  have h := lp_FU (fun _ _ => none) (f_X4_ditchOf_L16_b σ (msk S (bn b)) k) (fun f (p : Int32 × Int32) => f p.1 p.2) (fun g => (msk (gat (bn b) (aw (bW b) (bH b) (bd b) (fun _ => false)) S g) (bn b), nI g)) (bn b) (k (msk (stp (bn b) (aw (bW b) (bH b) (bd b) (fun _ => false)) S) (bn b))) (fun g rec hg => by
      show f_X4_ditchOf_L16_b σ (msk S (bn b)) k rec (msk (gat (bn b) (aw (bW b) (bH b) (bd b) (fun _ => false)) S g) (bn b)) (nI g) = rec (msk (gat (bn b) (aw (bW b) (bH b) (bd b) (fun _ => false)) S (g + 1)) (bn b)) (nI (g + 1))
      unfold f_X4_ditchOf_L16_b
      rw [wh_ok hm, if_neg (nI_ge hg (by omega)), dit33 hz hm hg]
      simp only [lt_e, ← nI_succ]
      congr 1
      refine msk_cong (by omega) (fun o ho => ?_)
      unfold gat
      rw [an_s, Bool.or_assoc]) (fun rec => by
      show f_X4_ditchOf_L16_b σ (msk S (bn b)) k rec _ (nI (bn b)) = _
      unfold f_X4_ditchOf_L16_b
      rw [wh_ok hm, if_pos (nI_le (Nat.le_refl _) (by omega))]
      rfl) (by omega)
  have e0 : msk (gat (bn b) (aw (bW b) (bH b) (bd b) (fun _ => false)) S 0) (bn b) = msk S (bn b) := msk_cong (by omega) (fun o ho => by show (S o || false) = S o; rw [Bool.or_false])
  simp only [e0, nI_0] at h
  unfold f_X4_ditchOf_L16
  exact h
theorem msk_sgl {n f : Nat} (hn : n ≤ 32) (hf : f < n) : ishl 1 (nI f) = msk (fun o => decide (o = f)) n := bt_ext (fun i hi => by
  rw [bt_ishl1 (by omega), bt_msk _ n hn]
  by_cases c : i = f
  · subst c; rw [decide_eq_true hf, decide_eq_true rfl]; rfl
  · rw [decide_eq_false c, Bool.and_false])
/-- the reference's closing loop, whatever its step -/
theorem close_ok {n : Nat} (hn : n ≤ 16) (body : (Int32 → Int32 → Option Int32) → Int32 → Int32 → Option Int32) (A : Nat → Nat → Bool) {f : Nat} (hf : f < n)
    (h1 : ∀ rec x, body rec x x = some x) (h2 : ∀ rec S y, ¬ msk S n = y → body rec (msk S n) y = rec (msk (stp n A S) n) (msk S n)) : lp (fun _ _ => none) body FU (ishl 1 (nI f)) 0 = some (msk (rch n A f) n) := by
  obtain ⟨e, he, hno, hst⟩ := stab hn A (fun o => decide (o = f))
  have h := lp_FU (fun _ _ => none) body (fun g (p : Int32 × Int32) => g p.1 p.2) (fun k => (msk (it n A (fun o => decide (o = f)) k) n, if k = 0 then 0 else msk (it n A (fun o => decide (o = f)) (k - 1)) n)) (e + 1) (some (msk (rch n A f) n)) (fun k rec hk => by
      show body rec (msk (it n A (fun o => decide (o = f)) k) n) (if k = 0 then 0 else msk (it n A (fun o => decide (o = f)) (k - 1)) n) = rec (msk (it n A (fun o => decide (o = f)) (k + 1)) n) (if k + 1 = 0 then 0 else msk (it n A (fun o => decide (o = f)) (k + 1 - 1)) n)
      rw [if_neg (Nat.succ_ne_zero k), show k + 1 - 1 = k from rfl, h2]
      · rfl
      · by_cases c : k = 0
        · subst c
          rw [if_pos rfl]
          intro hh
          have := (msk_eq0 (by omega)).mp hh f hf
          rw [show it n A (fun o => decide (o = f)) 0 f = decide (f = f) from rfl, decide_eq_true rfl] at this
          cases this
        · rw [if_neg c]
          intro hh
          refine hno (k - 1) (by omega) (fun o ho => ?_)
          have := msk_inj (by omega) hh o ho
          rw [show k - 1 + 1 = k by omega]
          exact this) (fun rec => by
      show body rec (msk (it n A (fun o => decide (o = f)) (e + 1)) n) (if e + 1 = 0 then 0 else msk (it n A (fun o => decide (o = f)) (e + 1 - 1)) n) = _
      rw [if_neg (Nat.succ_ne_zero e), show e + 1 - 1 = e from rfl, msk_cong (by omega) hst, h1, msk_cong (by omega) (fun o ho => (cl_e (by omega) hst o ho).symm)]
      rfl) (by omega)
  rw [msk_sgl (n := n) (by omega) hf]
  exact h
/-- the relation of ditches, of parts -/
def dA (b : BD) : Nat → Nat → Bool := aw (bW b) (bH b) (bd b) (fun _ => false)
def pA (b : BD) : Nat → Nat → Bool := aw (bW b) (bH b) (fun o => decide (o < bn b)) (bh b)
theorem ditchOf_ok {σ : MM} {b : BD} (hz : SZ (bW b) (bH b)) (hm : MB σ b) {f : Nat} (hf : f < bn b) : f_X4_ditchOf σ (nI f) = some (msk (rch (bn b) (dA b) f) (bn b)) := by
  have sz := szs hz
  unfold f_X4_ditchOf f_X4_ditchOf_L6
  rw [lt_e]
  refine close_ok (n := bn b) (A := dA b) sz.2.1 (f_X4_ditchOf_L6_b σ) hf (fun rec x => ?_) (fun rec S y hne => ?_)
  · unfold f_X4_ditchOf_L6_b; rw [if_pos rfl]
  · unfold f_X4_ditchOf_L6_b
    rw [if_neg hne, dit16 hz hm]
    rfl
theorem par33 {σ : MM} {b : BD} (hz : SZ (bW b) (bH b)) (hm : MB σ b) {S T : Nat → Bool} {g : Nat} (hg : g < bn b) (k : Int32 → Option Int32) : f_X4_partOf_L33 σ (msk S (bn b)) (nI g) k (msk T (bn b)) 0 = k (msk (fun o => T o || (S g && aw (bW b) (bH b) (fun o => decide (o < bn b)) (bh b) g o)) (bn b)) := by
  have sz := szs hz
  have hn : bn b ≤ 16 := sz.2.1
  have h := lp_FU (fun _ _ => none) (f_X4_partOf_L33_b σ (msk S (bn b)) (nI g) k) (fun f (p : Int32 × Int32) => f p.1 p.2) (fun s => (msk (fun o => T o || (S g && (decide (o < bn b) && an (fun s => decide (nb (bW b) (bH b) g s = o) && !bh b (eg (bW b) (bH b) g s)) s))) (bn b), nI s)) 4 (k (msk (fun o => T o || (S g && aw (bW b) (bH b) (fun o => decide (o < bn b)) (bh b) g o)) (bn b))) (fun s rec hs => by
      show f_X4_partOf_L33_b σ (msk S (bn b)) (nI g) k rec (msk (fun o => T o || (S g && (decide (o < bn b) && an (fun s => decide (nb (bW b) (bH b) g s = o) && !bh b (eg (bW b) (bH b) g s)) s))) (bn b)) (nI s) = rec (msk (fun o => T o || (S g && (decide (o < bn b) && an (fun s => decide (nb (bW b) (bH b) g s = o) && !bh b (eg (bW b) (bH b) g s)) (s + 1)))) (bn b)) (nI (s + 1))
      have hb := bt_msk S (bn b) (by omega) g
      rw [decide_eq_true hg, Bool.true_and] at hb
      unfold f_X4_partOf_L33_b
      rw [if_neg (show ¬ (4 : Int32) ≤ nI s from nI_ge (b := 4) hs (by omega))]
      simp only [lt_e, ← nI_succ]
      cases hSg : S g with
      | false =>
        rw [if_neg (fun hh => by rw [bit_r1 _ (by omega), hb, hSg] at hh; cases hh)]
        rfl
      | true =>
        rw [if_pos ((bit_r1 _ (by omega)).mpr (hb.trans hSg)), mbeside_ok hz hm.1 hm.2.1 hg hs, ob_s, geo_me hz hm.1 hm.2.1 hg hs, ob_s]
        have hel := eg_lt hz hg hs
        rcases nb_lt hz hg hs with h99 | hlt
        · rw [h99, if_pos (show iF 99 = -1 by decide +kernel)]
          congr 1
          refine msk_cong (by omega) (fun o ho => ?_)
          rw [an_s, h99, decide_eq_false (show ¬ 99 = o by omega)]
          simp
        · have hlt2 : nb (bW b) (bH b) g s < bn b := hlt
          have hne : ¬ nb (bW b) (bH b) g s = 99 := by omega
          rw [show iF (nb (bW b) (bH b) g s) = nI (nb (bW b) (bH b) g s) from if_neg hne, if_neg (show ¬ nI (nb (bW b) (bH b) g s) = -1 from (by decide +kernel : ∀ m, m < 200 → ¬ nI m = -1) _ (by omega)), gd_t (nI_inb (show eg (bW b) (bH b) g s < 40 by omega) (by omega)), nI_clamp (by omega), hm.2.2.1 _ (by omega), ob_s]
          cases hd : bh b (eg (bW b) (bH b) g s) with
          | true =>
            rw [if_neg (show ¬ ib true = 0 by decide +kernel)]
            congr 1
            refine msk_cong (by omega) (fun o ho => ?_)
            rw [an_s, hd]
            simp
          | false =>
            rw [if_pos (show ib false = 0 by decide +kernel), msk_or1 (by omega) hlt2]
            congr 1
            refine msk_cong (by omega) (fun o ho => ?_)
            rw [an_s, hd, decide_eq_true ho]
            by_cases c : nb (bW b) (bH b) g s = o
            · subst c; rw [decide_eq_true rfl]; simp
            · rw [decide_eq_false c, decide_eq_false (fun h => c h.symm)]; simp) (fun rec => by
      show f_X4_partOf_L33_b σ (msk S (bn b)) (nI g) k rec _ (nI 4) = _
      unfold f_X4_partOf_L33_b
      rw [if_pos (show (4 : Int32) ≤ nI 4 by decide +kernel)]
      rfl) (by omega)
  have e0 : msk (fun o => T o || (S g && (decide (o < bn b) && an (fun s => decide (nb (bW b) (bH b) g s = o) && !bh b (eg (bW b) (bH b) g s)) 0))) (bn b) = msk T (bn b) := msk_cong (by omega) (fun o ho => by show (T o || (S g && (decide (o < bn b) && false))) = T o; simp)
  simp only [e0, nI_0] at h
  unfold f_X4_partOf_L33
  exact h
theorem par16 {σ : MM} {b : BD} (hz : SZ (bW b) (bH b)) (hm : MB σ b) {S : Nat → Bool} (k : Int32 → Option Int32) : f_X4_partOf_L16 σ (msk S (bn b)) k (msk S (bn b)) 0 = k (msk (stp (bn b) (aw (bW b) (bH b) (fun o => decide (o < bn b)) (bh b)) S) (bn b)) := by
  have sz := szs hz
  have hn : bn b ≤ 16 := sz.2.1
  have h := lp_FU (fun _ _ => none) (f_X4_partOf_L16_b σ (msk S (bn b)) k) (fun f (p : Int32 × Int32) => f p.1 p.2) (fun g => (msk (gat (bn b) (aw (bW b) (bH b) (fun o => decide (o < bn b)) (bh b)) S g) (bn b), nI g)) (bn b) (k (msk (stp (bn b) (aw (bW b) (bH b) (fun o => decide (o < bn b)) (bh b)) S) (bn b))) (fun g rec hg => by
      show f_X4_partOf_L16_b σ (msk S (bn b)) k rec (msk (gat (bn b) (aw (bW b) (bH b) (fun o => decide (o < bn b)) (bh b)) S g) (bn b)) (nI g) = rec (msk (gat (bn b) (aw (bW b) (bH b) (fun o => decide (o < bn b)) (bh b)) S (g + 1)) (bn b)) (nI (g + 1))
      unfold f_X4_partOf_L16_b
      rw [wh_ok hm, if_neg (nI_ge hg (by omega)), par33 hz hm hg]
      simp only [lt_e, ← nI_succ]
      congr 1
      refine msk_cong (by omega) (fun o ho => ?_)
      unfold gat
      rw [an_s, Bool.or_assoc]) (fun rec => by
      show f_X4_partOf_L16_b σ (msk S (bn b)) k rec _ (nI (bn b)) = _
      unfold f_X4_partOf_L16_b
      rw [wh_ok hm, if_pos (nI_le (Nat.le_refl _) (by omega))]
      rfl) (by omega)
  have e0 : msk (gat (bn b) (aw (bW b) (bH b) (fun o => decide (o < bn b)) (bh b)) S 0) (bn b) = msk S (bn b) := msk_cong (by omega) (fun o ho => by show (S o || false) = S o; rw [Bool.or_false])
  simp only [e0, nI_0] at h
  unfold f_X4_partOf_L16
  exact h
theorem partOf_ok {σ : MM} {b : BD} (hz : SZ (bW b) (bH b)) (hm : MB σ b) {f : Nat} (hf : f < bn b) : f_X4_partOf σ (nI f) = some (msk (rch (bn b) (pA b) f) (bn b)) := by
  have sz := szs hz
  unfold f_X4_partOf f_X4_partOf_L6
  rw [lt_e]
  refine close_ok (n := bn b) (A := pA b) sz.2.1 (f_X4_partOf_L6_b σ) hf (fun rec x => ?_) (fun rec S y hne => ?_)
  · unfold f_X4_partOf_L6_b; rw [if_pos rfl]
  · unfold f_X4_partOf_L6_b
    rw [if_neg hne, par16 hz hm]
    rfl
