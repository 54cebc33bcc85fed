/-! Bits of the class's sets of fields and edges -/
theorem w4 {W : Nat} (h : 1 ≤ W ∧ W ≤ 4) : W = 1 ∨ W = 2 ∨ W = 3 ∨ W = 4 := by omega
theorem bt_iushr1 (x : Int32) (i : Nat) : bt (iushr x 1) i = bt x (i + 1) := bt_iushr x (k := 1) (by omega) i
theorem bt_ishl_1 (x : Int32) (i : Nat) : bt (ishl x 1) i = (decide (i < 32) && decide (1 ≤ i) && bt x (i - 1)) := bt_ishl x (k := 1) (by omega) i
theorem div_row {W r i : Nat} (hW : 1 ≤ W ∧ W ≤ 4) (h1 : r * W ≤ i) (h2 : i < r * W + W) : i / W = r ∧ i % W = i - r * W := by
  rcases w4 hW with rfl | rfl | rfl | rfl <;> omega
theorem mk_i : ∀ n, n < 17 → ∀ i, i < 32 → bt (ishl 1 (nI n) - 1) i = decide (i < n) := by decide +kernel
theorem eg_0 (W H f : Nat) : eg W H f 0 = f := rfl
theorem eg_1 (W H f : Nat) : eg W H f 1 = f + W := rfl
theorem eg_2 (W H f : Nat) : eg W H f 2 = nU W H + f / W * (W + 1) + f % W := rfl
theorem eg_3 (W H f : Nat) : eg W H f 3 = nU W H + f / W * (W + 1) + f % W + 1 := rfl
theorem eg_u (W H f : Nat) {s : Nat} (hs : s < 2) : eg W H f (2 + s) = nU W H + f / W * (W + 1) + f % W + s := by
  rcases (by omega : s = 0 ∨ s = 1) with rfl | rfl <;> rfl
def upk (W H : Nat) (x : Int64) (s : Nat) : Nat → Int32
  | 0 => 0
  | r + 1 => upk W H x s r ||| ishl ((Int64.toInt32 (lushr x (nI (nU W H + r * (W + 1) + s)))) &&& (ishl 1 (nI W) - 1)) (nI (r * W))
theorem upk_s (W H : Nat) (x : Int64) (s r : Nat) : upk W H x s (r + 1) = upk W H x s r ||| ishl ((Int64.toInt32 (lushr x (nI (nU W H + r * (W + 1) + s)))) &&& (ishl 1 (nI W) - 1)) (nI (r * W)) := rfl
theorem rW_lt {W H r : Nat} (hz : SZ W H) (hr : r < H) : r * W + W ≤ nF W H ∧ nU W H + r * (W + 1) + W < nE W H := by
  obtain ⟨⟨a, b⟩, c, d⟩ := hz
  unfold nE nU nF
  rcases w4 ⟨a, b⟩ with rfl | rfl | rfl | rfl <;> omega
theorem bt_upk {W H : Nat} (hz : SZ W H) (x : Int64) {s : Nat} (hs : s < 2) : ∀ r, r ≤ H → ∀ i, i < 32 → bt (upk W H x s r) i = (decide (i < r * W) && bl x (eg W H i (2 + s))) := by
  have sz := szs hz
  intro r
  induction r with
  | zero => intro _ i _; rw [show upk W H x s 0 = 0 from rfl, bt_0]; simp
  | succ r ih =>
    intro hr i hi
    have hb := rW_lt hz (show r < H by omega)
    have hm : (r + 1) * W = r * W + W := Nat.succ_mul r W
    rw [upk_s, bt_or, ih (by omega) i hi, bt_ishl _ (by omega)]
    by_cases h1 : i < r * W
    · rw [decide_eq_true h1, decide_eq_false (show ¬ r * W ≤ i by omega), decide_eq_true (show i < (r + 1) * W by omega)]
      simp
    · rw [decide_eq_false h1, bt_and, bt_toInt32, bl_lushr _ (by omega), mk_i W (by omega) _ (by omega), decide_eq_true hi, decide_eq_true (show r * W ≤ i by omega), decide_eq_true (show i - r * W < 32 by omega)]
      by_cases h2 : i < r * W + W
      · obtain ⟨e1, e2⟩ := div_row hz.1 (by omega) h2
        rw [decide_eq_true (show i - r * W < W by omega), decide_eq_true (show i < (r + 1) * W by omega), eg_u W H i hs, e1, e2, show i - r * W + (nU W H + r * (W + 1) + s) = nU W H + r * (W + 1) + (i - r * W) + s by omega]
        simp
      · rw [decide_eq_false (show ¬ i - r * W < W by omega), decide_eq_false (show ¬ i < (r + 1) * W by omega)]
        simp
theorem upright_ok {g : GG} {W H : Nat} (hz : SZ W H) (hg : GGeo g W H) (x : Int64) {s : Nat} (hs : s < 2) : f_X0_withUpright g x (nI s) = some (upk W H x s H) := by
  have sz := szs hz
  have h := lp_FU (fun _ _ => none) (f_X0_withUpright_L16_b g x (nI s) (ishl 1 (nI W) - 1)) (fun f (p : Int32 × Int32) => f p.1 p.2) (fun r => (upk W H x s r, nI r)) H (some (upk W H x s H)) (fun r rec hr => by
      show f_X0_withUpright_L16_b g x (nI s) (ishl 1 (nI W) - 1) rec (upk W H x s r) (nI r) = rec (upk W H x s (r + 1)) (nI (r + 1))
      unfold f_X0_withUpright_L16_b
      rw [hg.2.1, if_neg (nI_ge hr (by have := hz.2; omega)), hg.1, hg.2.2.2.2.1, ← nI_succ, nn_mul, nn_add, nn_add, nn_mul]
      simp only [lt_e, ← nI_succ]
      rw [upk_s]) (fun rec => by
      show f_X0_withUpright_L16_b g x (nI s) (ishl 1 (nI W) - 1) rec (upk W H x s H) (nI H) = _
      unfold f_X0_withUpright_L16_b
      rw [hg.2.1, if_pos (nI_le (Nat.le_refl H) (by have := hz.2; omega))]) (by have := hz.2; omega)
  unfold f_X0_withUpright f_X0_withUpright_L16
  rw [lt_e, hg.1]
  exact h
/-- fields by their edges on a side -/
theorem side_ok {g : GG} {W H : Nat} (hz : SZ W H) (hg : GGeo g W H) {x : Int64} {X : Nat → Bool} (hX : ∀ e, e < 64 → bl x e = X e) : (∀ i, i < 32 → bt (f_X0_withAbove g x) i = (decide (i < nF W H) && X (eg W H i 0))) ∧ (∀ i, i < 32 → bt (f_X0_withBelow g x) i = (decide (i < nF W H) && X (eg W H i 1))) ∧
    (∃ r, f_X0_withUpright g x 0 = some r ∧ ∀ i, i < 32 → bt r i = (decide (i < nF W H) && X (eg W H i 2))) ∧ ∃ r, f_X0_withUpright g x 1 = some r ∧ ∀ i, i < 32 → bt r i = (decide (i < nF W H) && X (eg W H i 3)) := by
  have sz := szs hz
  have hup : ∀ s, s < 2 → ∀ i, i < 32 → bt (upk W H x s H) i = (decide (i < nF W H) && X (eg W H i (2 + s))) := fun s hs i hi => by
    rw [bt_upk hz x hs H (Nat.le_refl H) i hi, Nat.mul_comm H W]
    by_cases h : i < W * H
    · have := eg_lt hz (f := i) (s := 2 + s) h (by omega)
      rw [hX _ (by omega)]; rfl
    · rw [decide_eq_false h, decide_eq_false (show ¬ i < nF W H from h)]; rfl
  refine ⟨fun i hi => ?_, fun i hi => ?_, ⟨_, upright_ok hz hg x (s := 0) (by omega), hup 0 (by omega)⟩, ⟨_, upright_ok hz hg x (s := 1) (by omega), hup 1 (by omega)⟩⟩
  · unfold f_X0_withAbove
    rw [bt_and, bt_toInt32, hg.2.2.2.2.2.1 i hi, decide_eq_true hi, Bool.true_and, hX i (by omega), Bool.and_comm, eg_0]
  · unfold f_X0_withBelow
    have hW := hz.1
    rw [bt_and, bt_toInt32, hg.1, bl_lushr _ (by omega), hg.2.2.2.2.2.1 i hi, decide_eq_true hi, Bool.true_and, hX (i + W) (by omega), Bool.and_comm, eg_1]
theorem touched_ok {g : GG} {W H : Nat} (hz : SZ W H) (hg : GGeo g W H) {x : Int64} {X : Nat → Bool} (hX : ∀ e, e < 64 → bl x e = X e) : ∃ r, f_X0_touched g x = some r ∧ ∀ i, i < 32 → bt r i = (decide (i < nF W H) && !decide (ct W H X i = 0)) := by
  obtain ⟨h0, h1, ⟨r2, e2, h2⟩, r3, e3, h3⟩ := side_ok hz hg hX
  unfold f_X0_touched
  rw [e2, e3, ob_s, ob_s]
  refine ⟨_, rfl, fun i hi => ?_⟩
  rw [bt_or, bt_or, bt_or, h0 i hi, h1 i hi, h2 i hi, h3 i hi]
  unfold ct
  exact (by decide : ∀ p a b c d : Bool, (((p && a) || (p && b)) || (p && c) || (p && d)) = (p && !decide (cb a + cb b + cb c + cb d = 0))) _ _ _ _ _
theorem closed_ok {g : GG} {W H : Nat} (hz : SZ W H) (hg : GGeo g W H) {x : Int64} {X : Nat → Bool} (hX : ∀ e, e < 64 → bl x e = X e) : ∃ r, f_X0_closed g x = some r ∧ ∀ i, i < 32 → bt r i = (decide (i < nF W H) && decide (ct W H X i = 4)) := by
  obtain ⟨h0, h1, ⟨r2, e2, h2⟩, r3, e3, h3⟩ := side_ok hz hg hX
  unfold f_X0_closed
  rw [e2, e3, ob_s, ob_s]
  refine ⟨_, rfl, fun i hi => ?_⟩
  rw [bt_and, bt_and, bt_and, h0 i hi, h1 i hi, h2 i hi, h3 i hi]
  unfold ct
  exact (by decide : ∀ p a b c d : Bool, (((p && a) && (p && b)) && (p && c) && (p && d)) = (p && decide (cb a + cb b + cb c + cb d = 4))) _ _ _ _ _
theorem three_ok {g : GG} {W H : Nat} (hz : SZ W H) (hg : GGeo g W H) {x : Int64} {X : Nat → Bool} (hX : ∀ e, e < 64 → bl x e = X e) : ∃ r, f_X0_withThree g x = some r ∧ ∀ i, i < 32 → bt r i = (decide (i < nF W H) && decide (ct W H X i = 3)) := by
  obtain ⟨h0, h1, ⟨r2, e2, h2⟩, r3, e3, h3⟩ := side_ok hz hg hX
  unfold f_X0_withThree
  simp only [lt_e]
  rw [e2, e3, ob_s, ob_s]
  refine ⟨_, rfl, fun i hi => ?_⟩
  rw [bt_or, bt_and, bt_and, bt_and, bt_and, bt_xor, bt_xor, h0 i hi, h1 i hi, h2 i hi, h3 i hi]
  unfold ct
  exact (by decide : ∀ p a b c d : Bool, ((((p && a) && (p && b)) && ((p && c) ^^ (p && d))) || (((p && c) && (p && d)) && ((p && a) ^^ (p && b)))) = (p && decide (cb a + cb b + cb c + cb d = 3))) _ _ _ _ _
theorem two_ok {g : GG} {W H : Nat} (hz : SZ W H) (hg : GGeo g W H) {x : Int64} {X : Nat → Bool} (hX : ∀ e, e < 64 → bl x e = X e) : ∃ r, f_X0_withTwo g x = some r ∧ ∀ i, i < 32 → bt r i = (decide (i < nF W H) && decide (ct W H X i = 2)) := by
  obtain ⟨h0, h1, ⟨r2, e2, h2⟩, r3, e3, h3⟩ := side_ok hz hg hX
  unfold f_X0_withTwo
  simp only [lt_e]
  rw [e2, e3, ob_s, ob_s]
  refine ⟨_, rfl, fun i hi => ?_⟩
  rw [bt_or, bt_or, bt_and, bt_and, bt_and, bt_and, bt_and, bt_and, bt_and, bt_xor, bt_xor, bt_not hi, bt_not hi, bt_not hi, bt_not hi, h0 i hi, h1 i hi, h2 i hi, h3 i hi]
  unfold ct
  exact (by decide : ∀ p a b c d : Bool, (((((p && a) ^^ (p && b)) && ((p && c) ^^ (p && d))) || ((((p && a) && (p && b)) && !(p && c)) && !(p && d))) || ((((p && c) && (p && d)) && !(p && a)) && !(p && b))) = (p && decide (cb a + cb b + cb c + cb d = 2))) _ _ _ _ _
/-- the field beside one on a side -/
def nb (W H f s : Nat) : Nat := fd W H (eg W H f s) (s % 2)
theorem geo_nb0 : alB (fun W H => alw (fun i => decide (nb W H i 0 = if W ≤ i then i - W else 99) && decide (nb W H i 1 = if i + W < nF W H then i + W else 99) && decide (nb W H i 2 = if i % W = 0 then 99 else i - 1) && decide (nb W H i 3 = if i % W + 1 = W then 99 else i + 1)) (nF W H)) = true := by decide +kernel
theorem geo_nb {W H : Nat} (hz : SZ W H) {i : Nat} (hi : i < nF W H) : nb W H i 0 = (if W ≤ i then i - W else 99) ∧ nb W H i 1 = (if i + W < nF W H then i + W else 99) ∧ nb W H i 2 = (if i % W = 0 then 99 else i - 1) ∧ nb W H i 3 = (if i % W + 1 = W then 99 else i + 1) := by
  have h0 := alw_all (alB_all geo_nb0 hz.1 hz.2) i hi
  simp only [Bool.and_eq_true, decide_eq_true_eq] at h0
  exact ⟨h0.1.1.1, h0.1.1.2, h0.1.2, h0.2⟩
/-- bits of a set of fields, everywhere -/
theorem bt_all {a : Int32} {S : Nat → Bool} {n : Nat} (hn : n ≤ 16) (h : ∀ i, i < 32 → bt a i = S i) (hS : ∀ i, S i = true → i < n) (i : Nat) : bt a i = S i := by
  by_cases hi : i < 32
  · exact h i hi
  · rw [bt_ge (by omega)]
    cases hs : S i with
    | false => rfl
    | true => have := hS i hs; omega
theorem S_off {S : Nat → Bool} {n : Nat} (hS : ∀ i, S i = true → i < n) {i : Nat} (hi : n ≤ i) : S i = false := by
  cases hs : S i with
  | false => rfl
  | true => have := hS i hs; omega
theorem beside_ok {g : GG} {W H : Nat} (hz : SZ W H) (hg : GGeo g W H) {x : Int64} {X : Nat → Bool} (hX : ∀ e, e < 64 → bl x e = X e) {a : Int32} {S : Nat → Bool} (ha : ∀ i, i < 32 → bt a i = S i) (hS : ∀ i, S i = true → i < nF W H) :
    ∃ r, f_X0_beside g a x = some r ∧ ∀ i, i < 32 → bt r i = (decide (i < nF W H) && (((S (nb W H i 0) && !X (eg W H i 0)) || (S (nb W H i 1) && !X (eg W H i 1))) || (S (nb W H i 2) && !X (eg W H i 2)) || (S (nb W H i 3) && !X (eg W H i 3)))) := by
  obtain ⟨h0, h1, ⟨r2, e2, h2⟩, r3, e3, h3⟩ := side_ok hz hg hX
  have sz := szs hz
  have hW := hz.1
  have hA := bt_all sz.2.1 ha hS
  unfold f_X0_beside
  simp only [lt_e]
  rw [e2, e3, ob_s, ob_s]
  refine ⟨_, rfl, fun i hi => ?_⟩
  have s99 : S 99 = false := S_off hS (by omega)
  -- above: the field below
  have b1 : bt (iushr (a &&& ((f_X0_withAbove g x) ^^^ (-1))) (g_width g)) i = (decide (i < nF W H) && (S (nb W H i 1) && !X (eg W H i 1))) := by
    rw [hg.1, bt_iushr _ (by omega), bt_and, hA]
    by_cases hi2 : i + W < nF W H
    · rw [bt_not (by omega), h0 _ (by omega), decide_eq_true hi2, decide_eq_true (show i < nF W H by omega), (geo_nb hz (show i < nF W H by omega)).2.1, if_pos hi2, eg_0, eg_1]; rfl
    · rw [S_off hS (by omega)]
      by_cases hi3 : i < nF W H
      · rw [(geo_nb hz hi3).2.1, if_neg hi2, s99]; simp
      · rw [decide_eq_false hi3]; rfl
  have b0 : bt ((ishl (a &&& ((f_X0_withBelow g x) ^^^ (-1))) (g_width g)) &&& (g_all g)) i = (decide (i < nF W H) && (S (nb W H i 0) && !X (eg W H i 0))) := by
    rw [hg.1, bt_and, bt_ishl _ (by omega), hg.2.2.2.2.2.1 i hi, bt_and, hA, decide_eq_true hi, Bool.true_and]
    by_cases hi3 : i < nF W H
    · rw [decide_eq_true hi3, Bool.and_true, Bool.true_and, (geo_nb hz hi3).1]
      by_cases hw : W ≤ i
      · rw [decide_eq_true hw, if_pos hw, bt_not (by omega), h1 _ (by omega), decide_eq_true (show i - W < nF W H by omega), eg_1, eg_0, show i - W + W = i by omega]; rfl
      · rw [decide_eq_false hw, if_neg hw, s99]; rfl
    · rw [decide_eq_false hi3, Bool.and_false]; rfl
  have hl : ∀ j, j < nF W H → bt (g_leftmost g) j = decide (j % W = 0) := fun j hj => by rw [hg.2.2.2.2.2.2.1 j (by omega), decide_eq_true hj]; rfl
  have hr : ∀ j, j < nF W H → bt (g_rightmost g) j = decide (j % W + 1 = W) := fun j hj => by rw [hg.2.2.2.2.2.2.2.1 j (by omega), decide_eq_true hj]; rfl
  have b3 : bt (iushr ((a &&& (r2 ^^^ (-1))) &&& ((g_leftmost g) ^^^ (-1))) 1) i = (decide (i < nF W H) && (S (nb W H i 3) && !X (eg W H i 3))) := by
    rw [bt_iushr1, bt_and, bt_and, hA]
    by_cases hi2 : i + 1 < nF W H
    · rw [bt_not (by omega), bt_not (by omega), h2 _ (by omega), decide_eq_true hi2, decide_eq_true (show i < nF W H by omega), (geo_nb hz (show i < nF W H by omega)).2.2.2, hl _ hi2]
      by_cases hc : i % W + 1 = W
      · have : (i + 1) % W = 0 := by
          rcases w4 hW with rfl | rfl | rfl | rfl <;> omega
        rw [if_pos hc, decide_eq_true this, s99]; simp
      · have c1 : ¬ (i + 1) % W = 0 := by
          rcases w4 hW with rfl | rfl | rfl | rfl <;> omega
        have c2 : (i + 1) / W = i / W ∧ (i + 1) % W = i % W + 1 := by
          rcases w4 hW with rfl | rfl | rfl | rfl <;> omega
        have ee : eg W H (i + 1) 2 = eg W H i 3 := by rw [eg_2, eg_3, c2.1, c2.2]; omega
        rw [if_neg hc, decide_eq_false c1, ee]; simp
    · rw [S_off hS (by omega)]
      by_cases hi3 : i < nF W H
      · have hc : i % W + 1 = W := by
          have e : i + 1 = W * H := by unfold nF at hi2 hi3; omega
          rcases w4 hW with rfl | rfl | rfl | rfl <;> omega
        rw [(geo_nb hz hi3).2.2.2, if_pos hc, s99]; simp
      · rw [decide_eq_false hi3]; rfl
  have b2 : bt (ishl ((a &&& (r3 ^^^ (-1))) &&& ((g_rightmost g) ^^^ (-1))) 1) i = (decide (i < nF W H) && (S (nb W H i 2) && !X (eg W H i 2))) := by
    rw [bt_ishl_1, bt_and, bt_and, hA, decide_eq_true hi, Bool.true_and]
    by_cases h1i : 1 ≤ i
    · rw [decide_eq_true h1i, Bool.true_and]
      by_cases hi2 : i - 1 < nF W H
      · rw [bt_not (by omega), bt_not (by omega), h3 _ (by omega), decide_eq_true hi2, hr _ hi2]
        by_cases hc : i % W = 0
        · have c1 : (i - 1) % W + 1 = W := by
            rcases w4 hW with rfl | rfl | rfl | rfl <;> omega
          rw [decide_eq_true c1]
          by_cases hi3 : i < nF W H
          · rw [(geo_nb hz hi3).2.2.1, if_pos hc, s99]; simp
          · rw [decide_eq_false hi3]; simp
        · have c1 : ¬ (i - 1) % W + 1 = W := by
            rcases w4 hW with rfl | rfl | rfl | rfl <;> omega
          have c2 : (i - 1) / W = i / W ∧ (i - 1) % W + 1 = i % W := by
            rcases w4 hW with rfl | rfl | rfl | rfl <;> omega
          have hi3 : i < nF W H := by
            unfold nF at hi2 ⊢
            rcases w4 hW with rfl | rfl | rfl | rfl <;> omega
          have ee : eg W H (i - 1) 3 = eg W H i 2 := by rw [eg_2, eg_3, c2.1]; omega
          rw [(geo_nb hz hi3).2.2.1, if_neg hc, decide_eq_false c1, decide_eq_true hi3, ee]; simp
      · rw [S_off hS (by omega)]
        by_cases hi3 : i < nF W H
        · omega
        · rw [decide_eq_false hi3]; rfl
    · rw [decide_eq_false h1i]
      by_cases hi3 : i < nF W H
      · have hc : i % W = 0 := by rw [show i = 0 by omega]; exact Nat.zero_mod W
        rw [(geo_nb hz hi3).2.2.1, if_pos hc, s99]; simp
      · rw [decide_eq_false hi3]; rfl
  rw [bt_or, bt_or, bt_or, b1, b0, b3, b2]
  exact (by decide : ∀ p A B C D : Bool, ((((p && B) || (p && A)) || (p && D)) || (p && C)) = (p && ((A || B) || C || D))) _ _ _ _ _
