/-! Chains -/
theorem geo_nx0 : alB (fun W H => alw (fun f => alw (fun s => decide ((if fd W H (eg W H f s) 0 = f then fd W H (eg W H f s) 1 else fd W H (eg W H f s) 0) = nb W H f s)) 4) (nF W H)) = true := by decide +kernel
theorem geo_nx {W H : Nat} (hz : SZ W H) {f s : Nat} (hf : f < nF W H) (hs : s < 4) : (if fd W H (eg W H f s) 0 = f then fd W H (eg W H f s) 1 else fd W H (eg W H f s) 0) = nb W H f s := by
  have h0 := alw_all (alw_all (alB_all geo_nx0 hz.1 hz.2) f hf) s hs
  rwa [decide_eq_true_eq] at h0
theorem isf_eg {W H : Nat} (hz : SZ W H) {e f : Nat} (he : e < nE W H) (hf : f < nF W H) : isf W H e f = an (fun s => decide (eg W H f s = e)) 4 := by
  have g := alw_all (alw_all (alB_all geo_add0 hz.1 hz.2) e he) f hf
  rw [decide_eq_true_eq] at g
  rw [an_s, an_s, an_s, an_s]
  show isf W H e f = ((((false || _) || _) || _) || _)
  rw [Bool.false_or]
  change _ = cb (isf W H e f) at g
  generalize isf W H e f = p at g ⊢
  generalize decide (eg W H f 0 = e) = a at g ⊢
  generalize decide (eg W H f 1 = e) = c at g ⊢
  generalize decide (eg W H f 2 = e) = d at g ⊢
  generalize decide (eg W H f 3 = e) = q at g ⊢
  revert g
  revert p a c d q
  decide
/-- a field lacks just one -/
theorem lacks {W H : Nat} {X : Nat → Bool} {f : Nat} (h : ct W H X f = 3) : ff (fun s => !X (eg W H f s)) 4 < 4 ∧ ∀ s, s < 4 → X (eg W H f s) = false → s = ff (fun s => !X (eg W H f s)) 4 := by
  have hc : ∀ p q r s : Bool, cb p + cb q + cb r + cb s = 3 → (ff (fun k => !(if k = 0 then p else if k = 1 then q else if k = 2 then r else s)) 4 < 4 ∧ ∀ k, k < 4 → (if k = 0 then p else if k = 1 then q else if k = 2 then r else s) = false → k = ff (fun k => !(if k = 0 then p else if k = 1 then q else if k = 2 then r else s)) 4) := by decide
  have h1 := hc _ _ _ _ h
  have e : ∀ k, k < 4 → (if k = 0 then X (eg W H f 0) else if k = 1 then X (eg W H f 1) else if k = 2 then X (eg W H f 2) else X (eg W H f 3)) = X (eg W H f k) := fun k hk => by
    rcases (by omega : k = 0 ∨ k = 1 ∨ k = 2 ∨ k = 3) with rfl | rfl | rfl | rfl <;> rfl
  rw [ff_cong (Q := fun s => !X (eg W H f s)) (fun i hi => by show (!_) = (!_); rw [e i hi])] at h1
  exact ⟨h1.1, fun s hs hx => h1.2 s hs (by rw [e s hs]; exact hx)⟩
/-- fields that aren't shut -/
def nsh (W H : Nat) (X : Nat → Bool) : Nat := cn (fun f => !decide (ct W H X f = 4)) (nF W H)
theorem ct_le4 (W H : Nat) (X : Nat → Bool) (f : Nat) : ct W H X f ≤ 4 := by
  unfold ct
  have h0 := cb_le (X (eg W H f 0))
  have h1 := cb_le (X (eg W H f 1))
  have h2 := cb_le (X (eg W H f 2))
  have h3 := cb_le (X (eg W H f 3))
  omega
theorem nsh_less {W H : Nat} (hz : SZ W H) {X : Nat → Bool} {e f : Nat} (he : e < nE W H) (hf : f < nF W H) (hx : X e = false) (h3 : ct W H X f = 3) (hi : isf W H e f = true) : nsh W H (hp X e) < nsh W H X := by
  unfold nsh
  refine cn_less (nF W H) hf ?_ ?_ (fun i hi h => ?_)
  · rw [ct_hp hz he hf hx, h3, hi]; rfl
  · rw [h3]; rfl
  · rw [Bool.not_eq_true'] at h ⊢
    have h4 := of_decide_eq_false h
    rw [ct_hp hz he hi hx] at h4
    refine decide_eq_false (fun h5 => h4 ?_)
    have := ct_le4 W H (hp X e) i
    rw [ct_hp hz he hi hx] at this
    omega
theorem bit_u {x : Int32} {k : Nat} (hk : k < 32) : ((iushr x (nI k)) &&& 1) = 0 ↔ bt x k = false := by
  rw [bt_eq0]
  constructor
  · intro h
    have := h 0 (by omega)
    rw [bt_and, bt_iushr _ hk, bt_1, Nat.zero_add] at this
    simpa using this
  · intro h i hi
    rw [bt_and, bt_iushr _ hk, bt_1]
    by_cases c : i = 0
    · subst c; rw [Nat.zero_add, h]; rfl
    · rw [decide_eq_false c, Bool.and_false]
theorem chain_run {g : GG} {W H : Nat} (hz : SZ W H) (hg : GGeo g W H) {σ0 : MM} (k81 : Int32 → MM → Option (Int32 × MM)) : ∀ (k N1 N2 i c f : Nat) (y : Int64) (X : Nat → Bool) (σ : MM), i + k = 16 → c ≤ i → nsh W H X ≤ k → k < N1 → k < N2 → (f < nF W H ∨ f = 99) → (∀ e, e < 64 → bl y e = X e) → m_w σ = nI W → m_h σ = nI H → (∀ e, e < 40 → m_hedge σ e = ib (X e)) → fz σ0 σ →
    ∃ (r : Nat) (σ' : MM), r ≤ 16 ∧ lp (fun _ _ _ _ => none) (f_X0_chainFrom_L14_b g) N1 y (iF f) (nI c) (nI i) = some (nI r) ∧ lp (fun _ _ _ => none) (f_X4_chainOf_L12_b k81) N2 (nI c) (iF f) σ = k81 (nI r) σ' ∧ fz σ0 σ' := by
  have sz := szs hz
  have hn : nF W H ≤ 16 := sz.2.1
  have hE : nE W H ≤ 40 := sz.1
  have hmf : ∀ (σ : MM) (X : Nat → Bool) (f : Nat), m_w σ = nI W → m_h σ = nI H → (∀ e, e < 40 → m_hedge σ e = ib (X e)) → (f < nF W H ∨ f = 99) → (f = 99 ∨ ct W H X f ≠ 3) → ∀ (rec : Int32 → Int32 → MM → Option (Int32 × MM)) (c : Nat), f_X4_chainOf_L12_b k81 rec (nI c) (iF f) σ = k81 (nI c) σ := fun σ X f h1 h2 h3 hf hc rec c => by
    rw [f_X4_chainOf_L12_b]
    rcases hf with hf | hf
    · have hne : ct W H X f ≠ 3 := by
        rcases hc with h | h
        · omega
        · exact h
      have hl := ct_le4 W H X f
      rw [show iF f = nI f from if_neg (by omega), if_neg (nI_ne1 (by omega)), hedges_w hz h1 h2 h3 hf, ob_s, if_neg (show ¬ nI (ct W H X f) = 3 from fun h => hne (nI_inj (b := 3) (by omega) (by omega) h))]
    · rw [hf, if_pos (show iF 99 = -1 by decide +kernel)]
  intro k
  induction k with
  | zero =>
    intro N1 N2 i c f y X σ hi hci hM h1 h2 hf hy hw hh hx hF
    obtain ⟨m1, rfl⟩ : ∃ m, N1 = m + 1 := ⟨N1 - 1, by omega⟩
    obtain ⟨m2, rfl⟩ : ∃ m, N2 = m + 1 := ⟨N2 - 1, by omega⟩
    obtain rfl : i = 16 := by omega
    refine ⟨c, σ, hci, ?_, ?_, hF⟩
    · rw [lp_s, f_X0_chainFrom_L14_b, if_pos (show (16 : Int32) ≤ nI 16 by decide +kernel)]
    · rw [lp_s]
      refine hmf σ X f hw hh hx hf ?_ _ c
      rcases hf with hf | hf
      · right
        intro h3
        have h0 : nsh W H X = 0 := by omega
        have := cn_lt (P := fun f => !decide (ct W H X f = 4)) hf (by rw [h3]; rfl)
        unfold nsh at h0
        omega
      · exact Or.inl hf
  | succ k ih =>
    intro N1 N2 i c f y X σ hi hci hM h1 h2 hf hy hw hh hx hF
    obtain ⟨m1, rfl⟩ : ∃ m, N1 = m + 1 := ⟨N1 - 1, by omega⟩
    obtain ⟨m2, rfl⟩ : ∃ m, N2 = m + 1 := ⟨N2 - 1, by omega⟩
    rw [lp_s, lp_s]
    have h16 : ¬ (16 : Int32) ≤ nI i := nI_ge (b := 16) (by omega) (by omega)
    rcases hf with hf | hf
    · obtain ⟨q, q1, q2⟩ := three_ok hz hg hy
      have hbf := q2 f (by omega)
      rw [decide_eq_true hf, Bool.true_and] at hbf
      have eF : iF f = nI f := if_neg (by omega)
      have hfield : f_X0_isField g (nI f) = true := by
        unfold f_X0_isField
        rw [hg.2.2.1, if_neg (nI_pos (by omega)), if_neg (nI_ge hf (by omega))]
      by_cases h3 : ct W H X f = 3
      · obtain ⟨l1, l2⟩ := lacks h3
        have hxs := ff_yes (P := fun s => !X (eg W H f s)) 4 l1
        have hno := ff_no (P := fun s => !X (eg W H f s)) 4
        generalize hs : ff (fun s => !X (eg W H f s)) 4 = s at l1 l2 hxs hno
        rw [Bool.not_eq_true'] at hxs
        have hel := eg_lt hz hf l1
        have hisf : isf W H (eg W H f s) f = true := by
          rw [isf_eg hz hel hf]
          exact (an_iff 4).mpr ⟨s, l1, decide_eq_true rfl⟩
        have hless := nsh_less hz hel hf hxs h3 hisf
        have hnx := geo_nx hz hf l1
        have hnb := nb_lt hz hf l1
        obtain ⟨a, a1, a2⟩ := around_ok hz hg (a := ishl 1 (nI f)) (S := fun o => decide (o = f)) (fun i hi => bt_ishl1 (by omega) i) (fun i h => by rw [decide_eq_true_eq] at h; omega)
        have hsl : f_X3_firstSlot (a &&& (y ^^^ (-1))) = nI (eg W H f s) := by
          have hbit : ∀ e, e < 64 → bl (a &&& (y ^^^ (-1))) e = (decide (e < nE W H) && (isf W H e f && !X e)) := fun e he => by
            have sw : ∀ x : Nat, decide (x = f) = decide (f = x) := fun x => decide_eq_decide.mpr ⟨Eq.symm, Eq.symm⟩
            rw [bl_and, bl_not he, a2 e he, hy e he]
            unfold isf
            rw [sw, sw, Bool.and_assoc]
          refine firstSlot_at (by omega) (by rw [hbit _ (by omega), decide_eq_true hel, hisf, hxs]; rfl) (fun e he => ?_)
          rw [hbit e (by omega)]
          cases hv : (isf W H e f && !X e) with
          | false => rw [Bool.and_false]
          | true =>
            exfalso
            rw [Bool.and_eq_true, Bool.not_eq_true', isf_eg hz (show e < nE W H by omega) hf, an_iff] at hv
            obtain ⟨⟨s', hs', h5⟩, h6⟩ := hv
            rw [decide_eq_true_eq] at h5
            have := l2 s' hs' (by rw [h5]; exact h6)
            rw [← h5, this] at he
            omega
        have hgq : gq g W H := ⟨hg.1, hg.2.1, hg.2.2.1, hg.2.2.2.1, hg.2.2.2.2.1⟩
        have hfX := geo_fX hz hgq hel
        have hfl := fd_lt hz hel
        have hnext : (if iF (fd W H (eg W H f s) 0) = nI f then iF (fd W H (eg W H f s) 1) else iF (fd W H (eg W H f s) 0)) = iF (nb W H f s) := by
          rw [← hnx]
          by_cases d : fd W H (eg W H f s) 0 = f
          · rw [if_pos d, if_pos (by rw [d]; exact eF)]
          · rw [if_neg d, if_neg (fun h => d (by
              rcases hfl.1 with h7 | h7
              · rw [show iF (fd W H (eg W H f s) 0) = nI (fd W H (eg W H f s) 0) from if_neg (by omega)] at h
                exact nI_inj (by omega) (by omega) h
              · rw [h7, show iF 99 = -1 by decide +kernel] at h
                exact absurd h.symm (nI_ne1 (by omega))))]
        -- behind the hedge
        have hx' : ∀ e, e < 40 → m_hedge (m_hedge' σ (upd (m_hedge σ) (eg W H f s) 1)) e = ib (hp X (eg W H f s) e) := fun e he => by
          rw [q_m_hedge_hedge]
          show (if e = eg W H f s then 1 else m_hedge σ e) = ib (X e || decide (e = eg W H f s))
          by_cases d : e = eg W H f s
          · rw [if_pos d, decide_eq_true d, Bool.or_true]; rfl
          · rw [if_neg d, decide_eq_false d, Bool.or_false]; exact hx e he
        have hF' : fz σ0 (m_hedge' σ (upd (m_hedge σ) (eg W H f s) 1)) := fz_t hF (by unfold fz; simp only [q_m_w_hedge, q_m_h_hedge, q_m_hedge_hedge, q_m_dug_hedge, q_m_owner_hedge, q_m_turn_hedge, q_m_made_hedge, q_m_players_hedge, q_m_kind_hedge, q_m_own_hedge, q_m_seed_hedge, q_m_taped_hedge, q_m_tape_hedge, q_m_from_hedge, q_m_to_hedge, q_m_token_hedge, q_m_value_hedge, q_m_holding_hedge, q_m_rowLength_hedge, q_m_rowOf_hedge, q_m_refusals_hedge, q_m_imaged_hedge, q_m_old_hedge, q_m_ahead_hedge, q_m_bestMove_hedge, and_self])
        obtain ⟨r, σ', r1, r2, r3, r4⟩ := ih m1 m2 (i + 1) (c + 1) (nb W H f s) (y ||| lshl 1 (nI (eg W H f s))) (hp X (eg W H f s)) (m_hedge' σ (upd (m_hedge σ) (eg W H f s) 1)) (by omega) (by omega) (by omega) (by omega) (by omega) (by
          rcases hnb with h | h
          · exact Or.inr h
          · exact Or.inl h) (hp_bits hy (by omega)) (by rw [q_m_w_hedge]; exact hw) (by rw [q_m_h_hedge]; exact hh) hx' hF'
        refine ⟨r, σ', r1, ?_, ?_, r4⟩
        · rw [f_X0_chainFrom_L14_b, if_neg h16, eF, hfield, if_pos rfl, q1, ob_s, if_neg (fun hb => by rw [bit_u (by omega), hbf, h3] at hb; cases hb), a1, ob_s, hsl, lt_e, lt_e, lt_e, hfX.1, hfX.2, ob_s, ob_s, ob_s, lt_e, lt_e, ← nI_succ, ← nI_succ, ← r2, ← hnext]
          split <;> rfl
        · rw [f_X4_chainOf_L12_b, eF, if_neg (nI_ne1 (by omega)), hedges_w hz hw hh hx hf, ob_s, h3, if_pos (show nI 3 = 3 from rfl)]
          have h29 : ∀ k50 : Int32 → Option (Int32 × MM), f_X4_chainOf_L29 (nI f) σ k50 0 = k50 (nI s) := fun k50 => by
            have hst : ∀ j, j < 4 → ∀ rec : Int32 → Option (Int32 × MM), f_X4_chainOf_L29_b (nI f) σ k50 rec (nI j) = if X (eg W H f j) = true then rec (nI (j + 1)) else k50 (nI j) := fun j hj rec => by
              have := eg_lt hz hf hj
              rw [f_X4_chainOf_L29_b, geo_me hz hw hh hf hj, ob_s, gd_t (nI_inb (show eg W H f j < 40 by omega) (by omega)), nI_clamp (by omega), hx _ (by omega), lt_e, ← nI_succ]
              cases X (eg W H f j) with
              | true => rfl
              | false => rfl
            unfold f_X4_chainOf_L29
            refine lp_find _ (f_X4_chainOf_L29_b (nI f) σ k50) (fun s => !X (eg W H f s)) 4 _ (by omega) (fun j rec hj => ?_) (fun rec => ?_)
            · rw [hs] at hj
              have hnj := hno j hj
              rw [hst j (by omega), if_pos (by simpa using hnj)]
            · rw [hs, hst s l1, hxs, if_neg Bool.false_ne_true]
          rw [h29, mbeside_ok hz hw hh hf l1, ob_s, geo_me hz hw hh hf l1, ob_s, gd_t (nI_inb (show eg W H f s < 40 by omega) (by omega)), nI_clamp (by omega), nar1, lt_e, lt_e, ← nI_succ]
          exact r3
      · refine ⟨c, σ, by omega, ?_, hmf σ X f hw hh hx (Or.inl hf) (Or.inr h3) _ c, hF⟩
        rw [f_X0_chainFrom_L14_b, if_neg h16, eF, hfield, if_pos rfl, q1, ob_s, if_pos ((bit_u (by omega)).mpr (by rw [hbf]; exact decide_eq_false h3))]
    · refine ⟨c, σ, by omega, ?_, hmf σ X f hw hh hx (Or.inr hf) (Or.inl hf) _ c, hF⟩
      rw [f_X0_chainFrom_L14_b, if_neg h16, hf, show f_X0_isField g (iF 99) = false by unfold f_X0_isField; rw [if_pos (show iF 99 < 0 by decide +kernel)], if_neg Bool.false_ne_true]
theorem chain_ok {x : XX} {σ : MM} (hR : Rel x σ) {f : Nat} (hf : nI f < g_fields (x_now x)) (hf16 : f < 16) : ∃ (r : Nat) (σ' : MM), r ≤ 16 ∧ f_X0_chainFrom (x_now x) (nI f) = some (nI r) ∧ f_X4_chainOf σ (nI f) = some (nI r, σ') ∧ Rel x σ' := by
  obtain ⟨b, t, mv0, sd, h⟩ := hR.1
  obtain ⟨K, k1, k2⟩ := keep_ahead_ok σ
  have h2 := GRb_ah (h : GRb (x_now x) σ b t mv0 sd) K
  have hz : SZ (bW b) (bH b) := ⟨h.1.1, h.1.2.1⟩
  have sz := szs hz
  have hfn : f < nF (bW b) (bH b) := by
    rw [h.2.1.1.2.2.1, lt_iff (by omega) (by omega)] at hf; exact hf
  have hM : nsh (bW b) (bH b) (bh b) ≤ 16 := Nat.le_trans (cn_le _ _) sz.2.1
  obtain ⟨r, σ2, r1, r2, r3, r4⟩ := chain_run hz h2.2.1.1 (σ0 := m_ahead' σ K) (fun x16 σ17 => ob (f_X4_again_ahead σ17) (fun σ18 => some (x16, σ18))) 16 FU FU 0 0 f (g_hedges (x_now x)) (bh b) (m_ahead' σ K) rfl (Nat.le_refl 0) hM (by unfold FU; omega) (by unfold FU; omega) (Or.inl hfn) h2.2.1.2.1 h2.2.2.1.1 h2.2.2.1.2.1 h2.2.2.1.2.2.1 (fz_r _)
  have eF : iF f = nI f := if_neg (by omega)
  rw [eF] at r2 r3
  obtain ⟨σ3, a1, a3, a4⟩ := again_ahead_ok σ2
  refine ⟨r, σ3, r1, ?_, ?_, Rel_back hR k2 r4 a3 a4⟩
  · unfold f_X0_chainFrom f_X0_chainFrom_L14
    rw [lt_e]
    exact r2
  · unfold f_X4_chainOf f_X4_chainOf_L12
    rw [k1, ob_s]
    refine r3.trans ?_
    rw [a1, ob_s]
theorem B_chain {x : XX} {σ : MM} (hR : Rel x σ) (a1 : Int32) : ∃ (r : Int32) (x' : XX) (σ' : MM), f_X3_chain x a1 = some (r, x') ∧ f_X4_chain σ a1 = some (r, σ') ∧ Rel x' σ' := by
  have hno := R_no' hR (-2) (Or.inl rfl)
  obtain ⟨b, t, mv0, sd, hb, hg, hm, hgs, hms⟩ := hR.1
  have hz : SZ (bW b) (bH b) := ⟨hb.1, hb.2.1⟩
  have sz := szs hz
  unfold f_X3_chain f_X4_chain
  rcases field_iff hz hg.1.2.2.1 hm.1 hm.2.1 a1 with ⟨e1, e2⟩ | ⟨f, hf, rfl, e1, e2⟩
  · rw [e1, e2]; exact hno
  obtain ⟨r, σ', r1, r2, r3, r4⟩ := chain_ok hR (f := f) (by rw [hg.1.2.2.1]; exact nI_lt hf (by omega)) (by omega)
  rw [e1, e2, if_pos rfl, if_pos rfl, r2, r3, ob_s, ob2_s]
  exact ⟨_, _, _, rfl, rfl, r4⟩
theorem long_run {x : XX} {n : Nat} (hn : n ≤ 16) (hgn : g_fields (x_now x) = nI n) : ∀ (k N1 N2 i f c : Nat) (σ : MM), i + k = n → f < i → k < N1 → k < N2 → Rel x σ → f_X0_chainFrom (x_now x) (nI f) = some (nI c) → c ≤ 16 → ∃ (r : Int32) (σ' : MM), lp (fun _ _ _ => none) (f_X3_longest_L6_b x) N1 (nI f) (nI c) (nI i) = some r ∧ lp (fun _ _ _ => none) f_X4_longest_L4_b N2 (nI f) (nI i) σ = some (r, σ') ∧ Rel x σ' := by
  intro k
  induction k with
  | zero =>
    intro N1 N2 i f c σ hi hf h1 h2 hR hc hc16
    obtain ⟨m1, rfl⟩ : ∃ m, N1 = m + 1 := ⟨N1 - 1, by omega⟩
    obtain ⟨m2, rfl⟩ : ∃ m, N2 = m + 1 := ⟨N2 - 1, by omega⟩
    obtain ⟨b, t, mv0, sd, hb, hg, hm, hgs, hms⟩ := hR.1
    have hbn : m_w σ * m_h σ = nI n := by rw [wh_ok hm, ← hgn, hg.1.2.2.1]; rfl
    rw [lp_s, lp_s, f_X3_longest_L6_b, f_X4_longest_L4_b, hgn, hbn, if_pos (nI_le (by omega) (by omega)), if_pos (nI_le (by omega) (by omega))]
    exact ⟨_, _, rfl, rfl, hR⟩
  | succ k ih =>
    intro N1 N2 i f c σ hi hf h1 h2 hR hc hc16
    obtain ⟨m1, rfl⟩ : ∃ m, N1 = m + 1 := ⟨N1 - 1, by omega⟩
    obtain ⟨m2, rfl⟩ : ∃ m, N2 = m + 1 := ⟨N2 - 1, by omega⟩
    obtain ⟨b, t, mv0, sd, hb, hg, hm, hgs, hms⟩ := hR.1
    have hbn : m_w σ * m_h σ = nI n := by rw [wh_ok hm, ← hgn, hg.1.2.2.1]; rfl
    obtain ⟨v, σ1, v1, v2, v3, v4⟩ := chain_ok hR (f := i) (by rw [hgn]; exact nI_lt (by omega) (by omega)) (by omega)
    obtain ⟨w, σ2, w1, w2, w3, w4⟩ := chain_ok v4 (f := f) (by rw [hgn]; exact nI_lt (by omega) (by omega)) (by omega)
    have hwc : nI w = nI c := by rw [w2] at hc; exact Option.some.inj hc
    rw [lp_s, lp_s, f_X3_longest_L6_b, f_X4_longest_L4_b, hgn, hbn, if_neg (nI_ge (by omega) (by omega)), if_neg (nI_ge (by omega) (by omega)), v2, v3, ob_s, ob2_s, w3, ob2_s, hwc]
    simp only [lt_e, ← nI_succ]
    by_cases d : nI v ≤ nI c
    · rw [if_pos d, if_pos d]
      exact ih m1 m2 (i + 1) f c σ2 (by omega) (by omega) (by omega) (by omega) w4 hc hc16
    · rw [if_neg d, if_neg d]
      exact ih m1 m2 (i + 1) i v σ2 (by omega) (by omega) (by omega) (by omega) w4 v2 v1
theorem B_longest {x : XX} {σ : MM} (hR : Rel x σ)  : ∃ (r : Int32) (σ' : MM), f_X3_longest x  = some r ∧ f_X4_longest σ  = some (r, σ') ∧ Rel x σ' := by
  obtain ⟨b, t, mv0, sd, hb, hg, hm, hgs, hms⟩ := hR.1
  have hz : SZ (bW b) (bH b) := ⟨hb.1, hb.2.1⟩
  have sz := szs hz
  have hn : bn b ≤ 16 := sz.2.1
  have hpos : 0 < bn b := by
    have h1 := hz.1.1
    have h2 := hz.2.1
    exact Nat.mul_pos (by omega) (by omega)
  have hgn : g_fields (x_now x) = nI (bn b) := hg.1.2.2.1
  obtain ⟨v, σ1, v1, v2, v3, v4⟩ := chain_ok hR (f := 0) (by rw [hgn]; exact nI_lt hpos (by omega)) (by omega)
  have hFU : FU = 599 + 1 := rfl
  obtain ⟨r, σ', r1, r2, r3⟩ := long_run hn hgn (bn b - 1) 599 FU 1 0 v σ (by omega) (by omega) (by omega) (by unfold FU; omega) hR v2 v1
  refine ⟨r, σ', ?_, ?_, r3⟩
  · unfold f_X3_longest f_X3_longest_L6
    rw [hFU, lp_s, f_X3_longest_L6_b, hgn, if_neg (show ¬ nI (bn b) ≤ 0 from nI_nle hpos (by omega)), show f_X0_chainFrom (x_now x) 0 = some (nI v) from v2, ob_s]
    simp only [lt_e]
    by_cases d : nI v ≤ 0
    · have hv0 : v = 0 := by
        rcases Nat.eq_zero_or_pos v with h | h
        · exact h
        · exact absurd d (nI_nle h (by omega))
      subst hv0
      rw [if_pos d]
      exact r1
    · rw [if_neg d]
      exact r1
  · unfold f_X4_longest f_X4_longest_L4
    exact r2
