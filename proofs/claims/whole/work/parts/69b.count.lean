/-! Hedges of a field -/
theorem geo_me0 : alB (fun W H => alw (fun f => alw (fun s => decide (f_X4_edge (mWH W H) (nI f) (nI s) = some (nI (eg W H f s))) && decide (eg W H f s < nE W H)) 4) (nF W H)) = true := by decide +kernel
theorem geo_me {σ : MM} {W H : Nat} (hz : SZ W H) (h1 : m_w σ = nI W) (h2 : m_h σ = nI H) {f s : Nat} (hf : f < nF W H) (hs : s < 4) : f_X4_edge σ (nI f) (nI s) = some (nI (eg W H f s)) := by
  have h0 := alw_all (alw_all (alB_all geo_me0 hz.1 hz.2) f hf) s hs
  rw [Bool.and_eq_true, decide_eq_true_eq] at h0
  rw [← h0.1]
  unfold f_X4_edge f_X4_level
  rw [h1, h2]
  rfl
theorem eg_lt {W H : Nat} (hz : SZ W H) {f s : Nat} (hf : f < nF W H) (hs : s < 4) : eg W H f s < nE W H := by
  have h0 := alw_all (alw_all (alB_all geo_me0 hz.1 hz.2) f hf) s hs
  simp only [Bool.and_eq_true, decide_eq_true_eq] at h0
  exact h0.2
/-- hedges among the first s sides -/
def cts (W H : Nat) (hs : Nat → Bool) (f : Nat) : Nat → Nat
  | 0 => 0
  | s + 1 => cts W H hs f s + cb (hs (eg W H f s))
theorem cts_s (W H : Nat) (hs : Nat → Bool) (f s : Nat) : cts W H hs f (s + 1) = cts W H hs f s + cb (hs (eg W H f s)) := rfl
theorem cb_le (c : Bool) : cb c ≤ 1 := by cases c <;> decide
theorem ib_ne (c : Bool) : (ib c = 0 ∧ cb c = 0) ∨ (¬ ib c = 0 ∧ cb c = 1) := by cases c <;> decide +kernel
theorem cts_le (W H : Nat) (hs : Nat → Bool) (f : Nat) : ∀ s, cts W H hs f s ≤ s := by
  intro s
  induction s with
  | zero => exact Nat.le_refl 0
  | succ s ih => rw [cts_s]; have := cb_le (hs (eg W H f s)); omega
theorem hedges_ok {σ : MM} {b : BD} (hz : SZ (bW b) (bH b)) (hm : MB σ b) {f : Nat} (hf : f < bn b) : f_X4_hedges σ (nI f) = some (nI (cnt b f)) := by
  have sz := szs hz
  have h := lp_FU (fun _ _ => none) (f_X4_hedges_L4_b σ (nI f)) (fun g (p : Int32 × Int32) => g p.1 p.2) (fun i => (nI (cts (bW b) (bH b) (bh b) f i), nI i)) 4 (some (nI (cts (bW b) (bH b) (bh b) f 4))) (fun i rec hi => by
      show f_X4_hedges_L4_b σ (nI f) rec (nI (cts (bW b) (bH b) (bh b) f i)) (nI i) = rec (nI (cts (bW b) (bH b) (bh b) f (i + 1))) (nI (i + 1))
      have he := eg_lt hz hf hi
      unfold f_X4_hedges_L4_b
      rw [if_neg (show ¬ (4 : Int32) ≤ nI i from nI_ge (b := 4) hi (by omega)), geo_me hz hm.1 hm.2.1 hf hi, ob_s, gd_t (nI_inb (by omega) (by omega)), nI_clamp (by omega), hm.2.2.1 _ (by omega), cts_s]
      rcases ib_ne (bh b (eg (bW b) (bH b) f i)) with ⟨c1, c2⟩ | ⟨c1, c2⟩
      · rw [if_pos c1, c2]
        simp only [lt_e, ← nI_succ, Nat.add_zero]
      · rw [if_neg c1, c2]
        simp only [lt_e, ← nI_succ]) (fun rec => by
      show f_X4_hedges_L4_b σ (nI f) rec _ (nI 4) = _
      unfold f_X4_hedges_L4_b
      rw [if_pos (show (4 : Int32) ≤ nI 4 by decide +kernel)]) (by omega)
  have e4 : cts (bW b) (bH b) (bh b) f 4 = cnt b f := by
    unfold cnt ct
    rw [cts_s, cts_s, cts_s, cts_s]
    show 0 + _ + _ + _ + _ = _
    omega
  rw [e4] at h
  unfold f_X4_hedges f_X4_hedges_L4
  exact h
