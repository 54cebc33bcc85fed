/-! Refusals, shelves -/
theorem R_no {x : XX} {σ : MM} (hR : Rel x σ) (c : Int32) (hc : c = -2 ∨ c = -3 ∨ c = -4 ∨ c = -5 ∨ c = -6) : ∃ x' σ', f_X3_refuse x c = some (c, x') ∧ f_X4_no σ c = some (c, σ') ∧ Rel x' σ' := by
  obtain ⟨hG, hP, hS, hT, hF, hI⟩ := hR
  have key : ∀ k, k < 5 → Rel (x_refusals' x (upd (x_refusals x) k (x_refusals x k + 1))) (m_refusals' σ (upd (m_refusals σ) (k + 2) (m_refusals σ (k + 2) + 1))) := by
    intro k hk
    refine ⟨hG, hP, hS, hT, ?_, hI⟩
    intro i hi
    show upd _ k _ i = upd _ (k + 2) _ (i + 2)
    have hk' := hF k hk
    have hi' := hF i hi
    by_cases e : i = k
    · subst e; simp [upd, hk']
    · have e2 : ¬ i + 2 = k + 2 := by omega
      simp [upd, e, hi']
  rcases hc with rfl | rfl | rfl | rfl | rfl
  · exact ⟨_, _, rfl, rfl, key 0 (by omega)⟩
  · exact ⟨_, _, rfl, rfl, key 1 (by omega)⟩
  · exact ⟨_, _, rfl, rfl, key 2 (by omega)⟩
  · exact ⟨_, _, rfl, rfl, key 3 (by omega)⟩
  · exact ⟨_, _, rfl, rfl, key 4 (by omega)⟩
theorem sh_cases (x : XX) (a : Int32) : (f_X3_shelfAt x a = some none ∧ f_X4_isShelf a = false) ∨ ∃ k, k < 8 ∧ a = nI k ∧ f_X3_shelfAt x a = some (some k) ∧ f_X4_isShelf a = true := by
  by_cases h0 : a < 0
  · left
    constructor
    · unfold f_X3_shelfAt; rw [if_pos h0]
    · unfold f_X4_isShelf f_X4_within; rw [if_pos h0]
  · by_cases h8 : a < 8
    · right
      obtain ⟨k, hk, rfl⟩ := i_nat (n := 8) h0 h8 (by omega)
      refine ⟨k, hk, rfl, ?_, ?_⟩
      · unfold f_X3_shelfAt; rw [if_neg h0, if_pos h8, gd_t (nI_inb hk (by omega)), nI_clamp (by omega)]
      · unfold f_X4_isShelf f_X4_within; rw [if_neg h0, if_neg (show ¬ (7 : Int32) < nI k from nI_nlt (a := 7) (b := k) (by omega) (by omega))]
    · left
      constructor
      · unfold f_X3_shelfAt; rw [if_neg h0, if_neg h8]
      · unfold f_X4_isShelf f_X4_within
        rw [if_neg h0, if_pos]
        rw [Int32.lt_iff_toInt_lt] at h8 ⊢
        have e7 : (7 : Int32).toInt = 7 := rfl
        have e8 : (8 : Int32).toInt = 8 := rfl
        omega
theorem B_holds {x : XX} {σ : MM} (hR : Rel x σ) (a1 : Int32) : ∃ (r : Int32), f_X3_holds x a1 = some r ∧ f_X4_holds σ a1 = some r ∧ Rel x σ := by
  unfold f_X3_holds f_X4_holds
  rcases sh_cases x a1 with ⟨e1, e2⟩ | ⟨k, hk, rfl, e1, e2⟩
  · rw [e1, e2]; exact ⟨_, rfl, rfl, hR⟩
  · rw [e1, e2, if_pos rfl, ob_s, om_s, gd_t (decide_eq_true hk), gd_t (nI_inb hk (by omega)), nI_clamp (by omega)]
    exact ⟨_, rfl, by rw [(hR.2.2.1 k hk).1], hR⟩
theorem R_no' {x : XX} {σ : MM} (hR : Rel x σ) (c : Int32) (hc : c = -2 ∨ c = -3 ∨ c = -4 ∨ c = -5 ∨ c = -6) : ∃ r x' σ', ob2 (f_X3_refuse x c) (fun a s => some (a, s)) = some (r, x') ∧ ob2 (f_X4_no σ c) (fun a s => some (a, s)) = some (r, σ') ∧ Rel x' σ' := by
  obtain ⟨x', σ', h1, h2, h3⟩ := R_no hR c hc
  exact ⟨c, x', σ', by rw [h1]; rfl, by rw [h2]; rfl, h3⟩
theorem within_t {a b c : Int32} (h1 : ¬ a < b) (h2 : ¬ c < a) : f_X4_within a b c = true := by unfold f_X4_within; rw [if_neg h1, if_neg h2]
theorem within_f {a b c : Int32} (h : a < b ∨ c < a) : f_X4_within a b c = false := by
  unfold f_X4_within
  rcases h with h | h
  · rw [if_pos h]
  · by_cases h1 : a < b
    · rw [if_pos h1]
    · rw [if_neg h1, if_pos h]
theorem lay_x (s : SS) (i : Nat) (hi : i ≤ 40) : ∀ rec : Int32 → SS → Option SS, i < 40 → f_X1_layRow_L12_b rec (nI i) (s_elements' s (fun j => if j < i then 0 else s_elements s j)) = rec (nI (i + 1)) (s_elements' s (fun j => if j < i + 1 then 0 else s_elements s j)) := by
  intro rec hi
  unfold f_X1_layRow_L12_b
  rw [if_neg (show ¬ (40 : Int32) ≤ nI i from nI_ge (b := 40) hi (by omega)), gd_t (nI_inb hi (by omega)), nI_clamp (by omega), nI_succ]
  have ef : (vp_updL (fun j => if j < i then 0 else s_elements s j) i 0) = (fun j => if j < i + 1 then 0 else s_elements s j) := by
    funext j
    show (if j = i then 0 else if j < i then 0 else s_elements s j) = if j < i + 1 then 0 else s_elements s j
    by_cases h1 : j = i
    · rw [if_pos h1, if_pos (by omega)]
    · rw [if_neg h1]
      by_cases h2 : j < i
      · rw [if_pos h2, if_pos (by omega)]
      · rw [if_neg h2, if_neg (by omega)]
  rw [← ef]
  rfl
theorem lay_xs (s : SS) : f_X1_layRow_L12 0 s = some (s_elements' s (fun j => if j < 40 then 0 else s_elements s j)) := by
  have h := lp_FU (fun _ _ => none) f_X1_layRow_L12_b (fun f (p : Int32 × SS) => f p.1 p.2) (fun i => (nI i, s_elements' s (fun j => if j < i then 0 else s_elements s j))) 40 (some (s_elements' s (fun j => if j < 40 then 0 else s_elements s j))) (fun i rec hi => lay_x s i (by omega) rec hi) (fun rec => by
    show f_X1_layRow_L12_b rec (nI 40) _ = _
    unfold f_X1_layRow_L12_b
    rw [if_pos (show (40 : Int32) ≤ nI 40 by decide +kernel)]) (by omega)
  have ef : (fun j => if j < 0 then 0 else s_elements s j) = s_elements s := by
    funext j
    rw [if_neg (by omega)]
  have eg : s_elements' s (s_elements s) = s := rfl
  simp only [ef, eg, nI_0] at h
  unfold f_X1_layRow_L12
  exact h
theorem layRow_eq (s : SS) (c n : Int32) : f_X1_layRow s c n = some (s_elements' (s_length' (s_content' s c) n) (fun j => if j < 40 then 0 else s_elements s j)) := by
  unfold f_X1_layRow
  rw [lt_e, lt_e, lay_xs]
  rfl
theorem lay_m (σ : MM) (k : Nat) (hk : k < 8) (i : Nat) : ∀ rec : Int32 → MM → Option (Int32 × MM), i < 40 → f_X4_row_L50_b (nI k) rec (nI i) (m_rowOf' σ (fun j => if 40 * k ≤ j ∧ j < 40 * k + i then 0 else m_rowOf σ j)) = rec (nI (i + 1)) (m_rowOf' σ (fun j => if 40 * k ≤ j ∧ j < 40 * k + (i + 1) then 0 else m_rowOf σ j)) := by
  intro rec hi
  unfold f_X4_row_L50_b
  have e : (40 * nI k : Int32) + nI i = nI (40 * k + i) := by rw [show (40 : Int32) = nI 40 from rfl, nn_mul, nn_add]
  rw [if_neg (show ¬ (40 : Int32) ≤ nI i from nI_ge (b := 40) hi (by omega)), e, gd_t (nI_inb (by omega) (by omega)), nI_clamp (by omega), nI_succ]
  show rec _ _ = rec _ _
  congr 1
  have ef : (vp_updL (fun j => if 40 * k ≤ j ∧ j < 40 * k + i then 0 else m_rowOf σ j) (40 * k + i) 0) = (fun j => if 40 * k ≤ j ∧ j < 40 * k + (i + 1) then 0 else m_rowOf σ j) := by
    funext j
    show (if j = 40 * k + i then 0 else if 40 * k ≤ j ∧ j < 40 * k + i then 0 else m_rowOf σ j) = _
    by_cases h1 : j = 40 * k + i
    · rw [if_pos h1, if_pos (by omega)]
    · rw [if_neg h1]
      by_cases h2 : 40 * k ≤ j ∧ j < 40 * k + i
      · rw [if_pos h2, if_pos (by omega)]
      · rw [if_neg h2, if_neg (by omega)]
  rw [← ef]
  rfl
theorem lay_ms (σ : MM) (k : Nat) (hk : k < 8) : f_X4_row_L50 (nI k) 0 σ = some (1, m_rowOf' σ (fun j => if 40 * k ≤ j ∧ j < 40 * k + 40 then 0 else m_rowOf σ j)) := by
  have h := lp_FU (fun _ _ => none) (f_X4_row_L50_b (nI k)) (fun f (p : Int32 × MM) => f p.1 p.2) (fun i => (nI i, m_rowOf' σ (fun j => if 40 * k ≤ j ∧ j < 40 * k + i then 0 else m_rowOf σ j))) 40 (some (1, m_rowOf' σ (fun j => if 40 * k ≤ j ∧ j < 40 * k + 40 then 0 else m_rowOf σ j))) (fun i rec hi => lay_m σ k hk i rec hi) (fun rec => by
    show f_X4_row_L50_b (nI k) rec (nI 40) _ = _
    unfold f_X4_row_L50_b
    rw [if_pos (show (40 : Int32) ≤ nI 40 by decide +kernel)]) (by omega)
  have ef : (fun j => if 40 * k ≤ j ∧ j < 40 * k + 0 then 0 else m_rowOf σ j) = m_rowOf σ := by
    funext j
    rw [if_neg (by omega)]
  have eg : m_rowOf' σ (m_rowOf σ) = σ := rfl
  simp only [ef, eg, nI_0] at h
  unfold f_X4_row_L50
  exact h
/-- a shelf changes -/
theorem SRel_put {x : XX} {σ : MM} (hS : SRel x σ) {k : Nat} (hk : k < 8) (s : SS) {σ' : MM} (hP : m_players σ' = m_players σ)
    (ho : ∀ j, j < 8 → j ≠ k → m_holding σ' j = m_holding σ j ∧ m_rowLength σ' j = m_rowLength σ j ∧ ∀ i, i < 40 → m_rowOf σ' (40 * j + i) = m_rowOf σ (40 * j + i))
    (hc : s_content s = m_holding σ' k)
    (hn : (m_holding σ' k = -1 ∧ s_length s = 0) ∨ (∃ p : Nat, m_holding σ' k = nI (p + 10) ∧ nI p < m_players σ ∧ p < 6 ∧ s_length s = 0) ∨
   ∃ c n : Nat, c < 5 ∧ m_holding σ' k = nI c ∧ n ≤ 40 ∧ s_length s = nI n ∧ m_rowLength σ' k = nI n ∧ ∀ i, i < n → s_elements s i = m_rowOf σ' (40 * k + i)) : SRel (x_shelf' x k s) σ' := by
  intro j hj
  by_cases e : j = k
  · subst e
    have e1 : x_shelf (x_shelf' x j s) j = s := if_pos rfl
    rw [e1, hP]
    exact ⟨hc, hn⟩
  · have e1 : x_shelf (x_shelf' x k s) j = x_shelf x j := if_neg e
    obtain ⟨o1, o2, o3⟩ := ho j hj e
    rw [e1, hP, o1, o2]
    obtain ⟨h1, h2⟩ := hS j hj
    refine ⟨h1, ?_⟩
    rcases h2 with h2 | h2 | ⟨c, n, q1, q2, q3, q4, q5, q6⟩
    · exact Or.inl h2
    · exact Or.inr (Or.inl h2)
    · exact Or.inr (Or.inr ⟨c, n, q1, q2, q3, q4, q5, fun i hi => by rw [o3 i (by omega)]; exact q6 i hi⟩)
theorem B_row {x : XX} {σ : MM} (hR : Rel x σ) (a1 : Int32) (a2 : Int32) (a3 : Int32) : ∃ (r : Int32) (x' : XX) (σ' : MM), f_X3_row x a1 a2 a3 = some (r, x') ∧ f_X4_row σ a1 a2 a3 = some (r, σ') ∧ Rel x' σ' := by
  have hno := R_no' hR (-2) (Or.inl rfl)
  unfold f_X3_row f_X4_row
  rcases sh_cases x a1 with ⟨e1, e2⟩ | ⟨k, hk, rfl, e1, e2⟩
  · rw [e1, e2]; exact hno
  · rw [e1, e2, if_pos rfl, ob_s, om_s, gd_t (decide_eq_true hk)]
    by_cases h1 : a2 < 0
    · rw [if_pos h1, within_f (Or.inl h1)]; exact hno
    rw [if_neg h1]
    by_cases h2 : 5 ≤ a2
    · rw [if_pos h2, within_f (Or.inr (Int32.lt_iff_toInt_lt.mpr (by have := Int32.le_iff_toInt_le.mp h2; have e5 : (5 : Int32).toInt = 5 := rfl; have e4 : (4 : Int32).toInt = 4 := rfl; omega)))]; exact hno
    rw [if_neg h2]
    obtain ⟨c, hc, rfl⟩ := i_nat (n := 5) h1 (Int32.not_le.mp h2) (by omega)
    rw [within_t (a := nI c) (c := 4) h1 (nI_nlt (a := 4) (b := c) (by omega) (by omega)), if_pos rfl]
    by_cases h3 : a3 < 0
    · rw [if_pos h3, within_f (Or.inl h3)]; exact hno
    rw [if_neg h3]
    by_cases h4 : a3 ≤ 40
    · obtain ⟨n, hn, rfl⟩ := i_nat' (n := 40) h3 h4 (by omega)
      rw [if_pos h4, within_t (a := nI n) (c := 40) h3 (nI_nlt (a := 40) (b := n) hn (by omega)), if_pos rfl, gd_t (nI_inb hk (by omega)), nI_clamp (by omega)]
      refine ⟨1, x_shelf' x k (s_elements' (s_length' (s_content' (x_shelf x k) (nI c)) (nI n)) (fun j => if j < 40 then 0 else s_elements (x_shelf x k) j)), m_rowOf' (m_rowLength' (m_holding' σ (upd (m_holding σ) k (nI c))) (upd (m_rowLength σ) k (nI n))) (fun j => if 40 * k ≤ j ∧ j < 40 * k + 40 then 0 else m_rowOf σ j), ?_, ?_, ?_⟩
      · rw [layRow_eq, ob_s]
        rfl
      · rw [lt_e, gd_t (nI_inb hk (by omega)), lt_e, lay_ms _ k hk]
        rfl
      · obtain ⟨hG, hP, hS, hT, hF, hI⟩ := hR
        refine ⟨hG, hP, SRel_put hS hk _ rfl ?_ ?_ (Or.inr (Or.inr ⟨c, n, hc, ?_, hn, rfl, ?_, ?_⟩)), hT, hF, hI⟩
        · intro j hj hjk
          refine ⟨if_neg hjk, if_neg hjk, fun i hi => ?_⟩
          show (if 40 * k ≤ 40 * j + i ∧ 40 * j + i < 40 * k + 40 then 0 else m_rowOf σ (40 * j + i)) = _
          rw [if_neg (by omega)]
        · exact (if_pos rfl : (if k = k then nI c else m_holding σ k) = nI c).symm
        · exact (if_pos rfl : (if k = k then nI c else m_holding σ k) = nI c)
        · exact (if_pos rfl : (if k = k then nI n else m_rowLength σ k) = nI n)
        · intro i hi
          show (if i < 40 then (0 : Int64) else _) = if 40 * k ≤ 40 * k + i ∧ 40 * k + i < 40 * k + 40 then 0 else _
          rw [if_pos (by omega), if_pos (by omega)]
    · rw [if_neg h4, within_f (Or.inr (Int32.not_le.mp h4))]; exact hno
theorem noRow_iff {x : XX} {σ : MM} (hR : Rel x σ) {k : Nat} (hk : k < 8) : (f_X4_isRow σ (nI k) = some true ∧ f_X3_rowTrouble_s (x_shelf x k) = 0 ∧ f_X1_bearsRow (x_shelf x k) = true ∧ f_X1_bearsPlayer (x_shelf x k) = false ∧ ∃ c n, c < 5 ∧ n ≤ 40 ∧ m_holding σ k = nI c ∧ s_content (x_shelf x k) = nI c ∧ s_length (x_shelf x k) = nI n ∧ m_rowLength σ k = nI n ∧ ∀ i, i < n → s_elements (x_shelf x k) i = m_rowOf σ (40 * k + i)) ∨
    (f_X4_isRow σ (nI k) = some false ∧ f_X1_bearsRow (x_shelf x k) = false ∧ s_length (x_shelf x k) = 0 ∧ s_content (x_shelf x k) = m_holding σ k ∧ ((m_holding σ k = -1 ∧ f_X4_noRow σ (nI k) = some (-4) ∧ f_X3_rowTrouble_s (x_shelf x k) = -4 ∧ f_X1_bearsPlayer (x_shelf x k) = false) ∨ ∃ p, p < 6 ∧ m_holding σ k = nI (p + 10) ∧ f_X4_noRow σ (nI k) = some (-3) ∧ f_X3_rowTrouble_s (x_shelf x k) = -3 ∧ f_X1_bearsPlayer (x_shelf x k) = true)) := by
  obtain ⟨hc, h⟩ := hR.2.2.1 k hk
  unfold f_X4_isRow f_X4_noRow
  rw [gd_t (nI_inb hk (by omega)), gd_t (nI_inb hk (by omega)), gd_t (nI_inb hk (by omega)), nI_clamp (by omega)]
  rcases h with ⟨h1, h2⟩ | ⟨p, h1, h2, h3, h4⟩ | ⟨c, n, h1, h2, h3, h4, h5, h6⟩
  · right
    have e1 : f_X1_bearsRow (x_shelf x k) = false := by unfold f_X1_bearsRow; rw [hc, h1]; decide +kernel
    have e2 : f_X1_bearsPlayer (x_shelf x k) = false := by unfold f_X1_bearsPlayer; rw [hc, h1]; decide +kernel
    refine ⟨?_, e1, h2, hc, Or.inl ⟨h1, ?_, ?_, e2⟩⟩
    · rw [h1]; decide +kernel
    · rw [h1]; decide +kernel
    · unfold f_X3_rowTrouble_s; rw [e1, e2]; rfl
  · right
    have a1 : ∀ p, p < 6 → f_X1_bearsRow (nI (p + 10), 0, fun _ => 0) = false ∧ f_X1_bearsPlayer (nI (p + 10), 0, fun _ => 0) = true ∧ f_X4_within (nI (p + 10)) 0 4 = false ∧ ¬ nI (p + 10) < 10 := by decide +kernel
    obtain ⟨q1, q2, q3, q4⟩ := a1 p h3
    have e1 : f_X1_bearsRow (x_shelf x k) = false := by unfold f_X1_bearsRow at q1 ⊢; rw [hc, h1]; exact q1
    have e2 : f_X1_bearsPlayer (x_shelf x k) = true := by unfold f_X1_bearsPlayer at q2 ⊢; rw [hc, h1]; exact q2
    refine ⟨?_, e1, h4, hc, Or.inr ⟨p, h3, h1, ?_, ?_, e2⟩⟩
    · rw [h1, q3]
    · rw [h1, if_neg q4]
    · unfold f_X3_rowTrouble_s; rw [e2]; rfl
  · left
    have a1 : ∀ p, p < 5 → f_X1_bearsRow (nI p, 0, fun _ => 0) = true ∧ f_X1_bearsPlayer (nI p, 0, fun _ => 0) = false ∧ f_X4_within (nI p) 0 4 = true := by decide +kernel
    obtain ⟨q1, q2, q3⟩ := a1 c h1
    have e1 : f_X1_bearsRow (x_shelf x k) = true := by unfold f_X1_bearsRow at q1 ⊢; rw [hc, h2]; exact q1
    have e2 : f_X1_bearsPlayer (x_shelf x k) = false := by unfold f_X1_bearsPlayer at q2 ⊢; rw [hc, h2]; exact q2
    refine ⟨by rw [h2, q3], ?_, e1, e2, c, n, h1, h3, h2, by rw [hc, h2], h4, h5, h6⟩
    unfold f_X3_rowTrouble_s; rw [e1, e2]; rfl
/-- how far a row reaches, in both -/
theorem reach_iff {s : SS} {n : Nat} (hn : n ≤ 40) (hl : s_length s = nI n) (a : Int32) : (f_X1_reaches s a = false ∧ f_X4_within a 0 (nI n - 1) = false) ∨ ∃ i, i < n ∧ a = nI i ∧ f_X1_reaches s a = true ∧ f_X4_within a 0 (nI n - 1) = true := by
  unfold f_X1_reaches
  by_cases h0 : a < 0
  · left; exact ⟨by rw [if_pos h0], within_f (Or.inl h0)⟩
  rw [if_neg h0, hl]
  by_cases h1 : nI n ≤ a
  · left
    refine ⟨by rw [if_pos h1], within_f (Or.inr ?_)⟩
    have g : ∀ n, n ≤ 40 → (nI n - 1).toInt = (n : Int) - 1 := by decide +kernel
    rw [Int32.le_iff_toInt_le, nI_toInt (by omega)] at h1
    rw [Int32.lt_iff_toInt_lt, g n hn]
    omega
  · obtain ⟨i, hi, rfl⟩ := i_nat h0 (Int32.not_le.mp h1) (by omega)
    right
    refine ⟨i, hi, rfl, ?_, within_t h0 ?_⟩
    · rw [if_neg h1, if_neg (show ¬ (40 : Int32) ≤ nI i from nI_ge (b := 40) (by omega) (by omega))]
    · have e : nI n - 1 = nI (n - 1) := nn_sub (a := n) (b := 1) (by omega)
      rw [e]
      exact nI_nlt (by omega) (by omega)
theorem elAt {s : SS} {n i : Nat} (hn : n ≤ 40) (hi : i < n) : inb (nI i) 40 = true := nI_inb (by omega) (by omega)
theorem mi40 (k i : Nat) : (40 * nI k : Int32) + nI i = nI (40 * k + i) := by rw [show (40 : Int32) = nI 40 from rfl, nn_mul, nn_add]
theorem B_element {x : XX} {σ : MM} (hR : Rel x σ) (a1 : Int32) (a2 : Int32) : ∃ (r : Int64), f_X3_element x a1 a2 = some r ∧ f_X4_element σ a1 a2 = some r ∧ Rel x σ := by
  unfold f_X3_element f_X4_element
  rcases sh_cases x a1 with ⟨e1, e2⟩ | ⟨k, hk, rfl, e1, e2⟩
  · rw [e1, e2]; exact ⟨_, rfl, rfl, hR⟩
  rw [e1, e2, if_pos rfl, ob_s, om_s, gd_t (decide_eq_true hk)]
  rcases noRow_iff hR hk with ⟨h1, h2, h3, h4, c, n, hc, hn, q1, q2, q3, q4, q5⟩ | ⟨h1, h2, h3, h4, h5⟩
  · rw [h1, ob_s, if_pos rfl, gd_t (nI_inb hk (by omega)), nI_clamp (by omega), q4]
    unfold f_X1_elementAt
    rcases reach_iff hn q3 a2 with ⟨e3, e4⟩ | ⟨i, hi, rfl, e3, e4⟩
    · rw [e3, e4]; exact ⟨_, rfl, rfl, hR⟩
    · rw [e3, e4, if_pos rfl, if_pos rfl, mi40, gd_t (nI_inb (by omega) (by omega)), gd_t (nI_inb (by omega) (by omega)), nI_clamp (by omega), nI_clamp (by omega), q5 i hi]
      exact ⟨_, rfl, rfl, hR⟩
  · rw [h1, ob_s]
    unfold f_X1_elementAt f_X1_reaches
    rw [h3]
    by_cases h0 : a2 < 0
    · rw [if_pos h0]; exact ⟨_, rfl, rfl, hR⟩
    · rw [if_neg h0, if_pos (Int32.not_lt.mp h0)]; exact ⟨_, rfl, rfl, hR⟩
