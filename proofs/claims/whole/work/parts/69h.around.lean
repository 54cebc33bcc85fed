/-! All edges of some fields -/
def ark (W H : Nat) (a : Int32) : Nat → Int64
  | 0 => Int32.toInt64 a ||| lshl (Int32.toInt64 a) (nI W)
  | r + 1 => ark W H a r ||| lshl (Int32.toInt64 (((iushr a (nI (r * W))) &&& (ishl 1 (nI W) - 1)) ||| (ishl ((iushr a (nI (r * W))) &&& (ishl 1 (nI W) - 1)) 1))) (nI (nU W H + r * (W + 1)))
theorem ark_s (W H : Nat) (a : Int32) (r : Nat) : ark W H a (r + 1) = ark W H a r ||| lshl (Int32.toInt64 (((iushr a (nI (r * W))) &&& (ishl 1 (nI W) - 1)) ||| (ishl ((iushr a (nI (r * W))) &&& (ishl 1 (nI W) - 1)) 1))) (nI (nU W H + r * (W + 1))) := rfl
theorem line_bits {W r : Nat} (hW : 1 ≤ W ∧ W ≤ 4) (hr : r < 4) {a : Int32} {S : Nat → Bool} (hA : ∀ i, bt a i = S i) {j : Nat} (hj : j < 64) : bl (Int32.toInt64 (((iushr a (nI (r * W))) &&& (ishl 1 (nI W) - 1)) ||| (ishl ((iushr a (nI (r * W))) &&& (ishl 1 (nI W) - 1)) 1))) j = ((decide (j < W) && S (r * W + j)) || (decide (1 ≤ j) && decide (j - 1 < W) && S (r * W + j - 1))) := by
  have hrW : r * W ≤ 12 := Nat.mul_le_mul (show r ≤ 3 by omega) hW.2
  have hl : ∀ i, i < 32 → bt ((iushr a (nI (r * W))) &&& (ishl 1 (nI W) - 1)) i = (decide (i < W) && S (r * W + i)) := fun i hi => by
    rw [bt_and, bt_iushr _ (by omega), mk_i W (by omega) i hi, hA, Bool.and_comm, Nat.add_comm]
  have hl2 : ∀ i, i < 32 → bt (((iushr a (nI (r * W))) &&& (ishl 1 (nI W) - 1)) ||| (ishl ((iushr a (nI (r * W))) &&& (ishl 1 (nI W) - 1)) 1)) i = ((decide (i < W) && S (r * W + i)) || (decide (1 ≤ i) && decide (i - 1 < W) && S (r * W + i - 1))) := fun i hi => by
    rw [bt_or, hl i hi, bt_ishl_1, decide_eq_true hi, Bool.true_and]
    by_cases h1 : 1 ≤ i
    · rw [hl (i - 1) (by omega), show r * W + (i - 1) = r * W + i - 1 by omega, Bool.and_assoc]
    · rw [decide_eq_false h1]; rfl
  rw [bl_toInt64, decide_eq_true hj, Bool.true_and]
  by_cases h : j < 32
  · rw [if_pos h, hl2 j h]
  · rw [if_neg h, hl2 31 (by omega), decide_eq_false (show ¬ 31 < W by omega), decide_eq_false (show ¬ 31 - 1 < W by omega), decide_eq_false (show ¬ j < W by omega), decide_eq_false (show ¬ j - 1 < W by omega)]
    simp
theorem fd_up {W H r e : Nat} (h1 : nU W H + r * (W + 1) ≤ e) (h2 : e < nU W H + r * (W + 1) + (W + 1)) (hW : 1 ≤ W ∧ W ≤ 4) : fd W H e 0 = (if e - (nU W H + r * (W + 1)) = 0 then 99 else r * W + (e - (nU W H + r * (W + 1))) - 1) ∧ fd W H e 1 = (if e - (nU W H + r * (W + 1)) < W then r * W + (e - (nU W H + r * (W + 1))) else 99) := by
  have hd : (e - nU W H) / (W + 1) = r ∧ (e - nU W H) % (W + 1) = e - (nU W H + r * (W + 1)) := by
    generalize nU W H = U at h1 h2 ⊢
    rcases w4 hW with rfl | rfl | rfl | rfl <;> omega
  unfold fd
  rw [if_neg (show ¬ e < nU W H by omega), if_neg (show ¬ e < nU W H by omega), if_pos rfl, if_neg (show ¬ (1 : Nat) = 0 by omega), hd.1, hd.2]
  exact ⟨rfl, rfl⟩
theorem fd_lv {W H e : Nat} (h : e < nU W H) : fd W H e 0 = (if W ≤ e then e - W else 99) ∧ fd W H e 1 = (if e < nF W H then e else 99) := by
  unfold fd
  rw [if_pos h, if_pos h, if_pos rfl, if_neg (show ¬ (1 : Nat) = 0 by omega)]
  exact ⟨rfl, rfl⟩
theorem bl_ark {W H : Nat} (hz : SZ W H) {a : Int32} {S : Nat → Bool} (hA : ∀ i, bt a i = S i) (hS : ∀ i, S i = true → i < nF W H) : ∀ r, r ≤ H → ∀ e, e < 64 → bl (ark W H a r) e = ((S e || (decide (W ≤ e) && S (e - W))) || (decide (nU W H ≤ e) && decide (e < nU W H + r * (W + 1)) && (S (fd W H e 0) || S (fd W H e 1)))) := by
  have sz := szs hz
  have hW := hz.1
  intro r
  induction r with
  | zero =>
    intro _ e he
    have q : ∀ i, i < 64 → bl (Int32.toInt64 a) i = S i := fun i hi => by
      rw [bl_toInt64, decide_eq_true hi, Bool.true_and, hA, hA]
      by_cases h : i < 32
      · rw [if_pos h]
      · rw [if_neg h, S_off hS (by omega), S_off hS (by omega)]
    rw [show ark W H a 0 = Int32.toInt64 a ||| lshl (Int32.toInt64 a) (nI W) from rfl, bl_or, q e he, bl_lshl _ (by omega), q _ (by omega), decide_eq_true he, Bool.true_and]
    have n : (decide (nU W H ≤ e) && decide (e < nU W H + 0 * (W + 1))) = false := by
      rw [Nat.zero_mul, Nat.add_zero]
      by_cases h : nU W H ≤ e
      · rw [decide_eq_false (show ¬ e < nU W H by omega), Bool.and_false]
      · rw [decide_eq_false h, Bool.false_and]
    rw [n]; simp
  | succ r ih =>
    intro hr e he
    have hb := rW_lt hz (show r < H by omega)
    have hm : (r + 1) * (W + 1) = r * (W + 1) + (W + 1) := Nat.succ_mul r (W + 1)
    have hH := hz.2
    rw [ark_s, bl_or, ih (by omega) e he, bl_lshl _ (by omega), line_bits hW (by omega) hA (by omega), decide_eq_true he, Bool.true_and, hm]
    by_cases h1 : nU W H + r * (W + 1) ≤ e
    · rw [decide_eq_true h1, decide_eq_true (show nU W H ≤ e by omega), decide_eq_false (show ¬ e < nU W H + r * (W + 1) by omega)]
      by_cases h2 : e < nU W H + r * (W + 1) + (W + 1)
      · obtain ⟨f0, f1⟩ := fd_up h1 h2 hW
        rw [decide_eq_true (show e < nU W H + (r * (W + 1) + (W + 1)) by omega), f0, f1]
        have hcW : e - (nU W H + r * (W + 1)) ≤ W := by omega
        generalize e - (nU W H + r * (W + 1)) = c at hcW ⊢
        have s99 : S 99 = false := S_off hS (by omega)
        by_cases hc : c = 0
        · subst hc
          rw [if_pos rfl, if_pos (by omega), s99, decide_eq_true (show 0 < W by omega)]; simp
        · rw [if_neg hc, decide_eq_true (show 1 ≤ c by omega), decide_eq_true (show c - 1 < W by omega)]
          by_cases hc2 : c < W
          · rw [if_pos hc2, decide_eq_true hc2]
            simp [Bool.or_comm]
          · rw [if_neg hc2, decide_eq_false hc2, s99]; simp
      · rw [decide_eq_false (show ¬ e < nU W H + (r * (W + 1) + (W + 1)) by omega), decide_eq_false (show ¬ e - (nU W H + r * (W + 1)) < W by omega), decide_eq_false (show ¬ e - (nU W H + r * (W + 1)) - 1 < W by omega)]
        simp
    · rw [decide_eq_false h1, Bool.false_and, Bool.or_false]
      by_cases h3 : nU W H ≤ e
      · rw [decide_eq_true (show e < nU W H + r * (W + 1) by omega), decide_eq_true (show e < nU W H + (r * (W + 1) + (W + 1)) by omega)]
      · rw [decide_eq_false h3]; rfl
theorem around_ok {g : GG} {W H : Nat} (hz : SZ W H) (hg : GGeo g W H) {a : Int32} {S : Nat → Bool} (ha : ∀ i, i < 32 → bt a i = S i) (hS : ∀ i, S i = true → i < nF W H) : ∃ y, f_X0_around g a = some y ∧ ∀ e, e < 64 → bl y e = (decide (e < nE W H) && (S (fd W H e 0) || S (fd W H e 1))) := by
  have sz := szs hz
  have hW := hz.1
  have hH := hz.2
  have hA := bt_all sz.2.1 ha hS
  have h := lp_FU (fun _ _ => none) (f_X0_around_L23_b g a (ishl 1 (nI W) - 1)) (fun f (p : Int64 × Int32) => f p.1 p.2) (fun r => (ark W H a r, nI r)) H (some (ark W H a H)) (fun r rec hr => by
      show f_X0_around_L23_b g a (ishl 1 (nI W) - 1) rec (ark W H a r) (nI r) = rec (ark W H a (r + 1)) (nI (r + 1))
      unfold f_X0_around_L23_b
      rw [hg.2.1, if_neg (nI_ge hr (by omega)), hg.1, hg.2.2.2.2.1, ← nI_succ, nn_mul, nn_mul, nn_add]
      simp only [lt_e, ← nI_succ]
      rw [ark_s]) (fun rec => by
      show f_X0_around_L23_b g a (ishl 1 (nI W) - 1) rec (ark W H a H) (nI H) = _
      unfold f_X0_around_L23_b
      rw [hg.2.1, if_pos (nI_le (Nat.le_refl H) (by omega))]) (by omega)
  refine ⟨ark W H a H, ?_, fun e he => ?_⟩
  · unfold f_X0_around f_X0_around_L23
    rw [lt_e, lt_e, hg.1]
    exact h
  · rw [bl_ark hz hA hS H (Nat.le_refl H) e he]
    have s99 : S 99 = false := S_off hS (by omega)
    have hE : nE W H = nU W H + H * (W + 1) := rfl
    rw [← hE]
    by_cases h1 : nU W H ≤ e
    · have hF : nU W H = nF W H + W := by unfold nU nF; rw [Nat.mul_add, Nat.mul_one]
      rw [decide_eq_true h1, S_off hS (show nF W H ≤ e by omega), S_off hS (show nF W H ≤ e - W by omega)]
      simp
    · obtain ⟨f0, f1⟩ := fd_lv (W := W) (H := H) (e := e) (by omega)
      rw [decide_eq_false h1, decide_eq_true (show e < nE W H by omega), f0, f1]
      by_cases h2 : W ≤ e
      · rw [if_pos h2, decide_eq_true h2]
        by_cases h3 : e < nF W H
        · rw [if_pos h3]; simp [Bool.or_comm]
        · rw [if_neg h3, s99, S_off hS (show nF W H ≤ e by omega)]; simp
      · rw [if_neg h2, decide_eq_false h2, s99]
        by_cases h3 : e < nF W H
        · rw [if_pos h3]; simp
        · rw [if_neg h3, s99, S_off hS (show nF W H ≤ e by omega)]; simp
