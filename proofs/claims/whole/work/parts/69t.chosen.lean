/-! The choice, in truth and in thought -/
theorem chosen_thought {x : XX} {σ : MM} {b : BD} {t p : Nat} {mv0 sd : Int32} (hb : BOK b) (hg : GB (x_thought x) b) (hgs : GS (x_thought x) t mv0 sd) (hm : MB σ b) (hms : MS σ t mv0 sd) (hk : KP x σ p) : ∃ (o : Option Nat) (sd' : Int32), (∀ s, o = some s → os b s = true) ∧ (o = none → (∀ s, os b s = false) ∧ sd' = sd) ∧ f_X3_chosenSlot_thought x (nI p) = some (eo o, x_thought' x (g_seed' (x_thought x) sd')) ∧ f_X4_chosen σ (nI p) = some (emv o, m_seed' σ sd') := by
  have hz : SZ (bW b) (bH b) := ⟨hb.1, hb.2.1⟩
  have sz := szs hz
  have hn : bn b ≤ 16 := sz.2.1
  obtain ⟨hp, k1, k2, ⟨k, hk6, k3⟩, a, ha, k4⟩ := hk
  have hop := fun i hi => open_bits hb hg (i := i) hi
  have hx : x_thought' x (g_seed' (x_thought x) sd) = x := by rw [← hgs.2.2.2]; exact rfl
  have hσ : m_seed' σ sd = σ := by rw [← hms.2.2.2]; exact rfl
  have hcl := cn_le (os b) 64
  have onone : fo (os b) = none → ∀ s, os b s = false := fun h s => by
    rcases Nat.lt_or_ge s 64 with h1 | h1
    · exact fo_none h s h1
    · cases ho : os b s with
      | false => rfl
      | true => have := (os_lt hz ho).1; omega
  have orn : ∀ U : Nat → Bool, (∀ i, U i = true → os b i = true) → (∀ s, (fo U).or (fo (os b)) = some s → os b s = true) ∧ ((fo U).or (fo (os b)) = none → ∀ s, os b s = false) := fun U hU => by
    cases hf : fo U with
    | none => exact ⟨fun s h => (fo_some (U := os b) h).2.1, onone⟩
    | some q =>
      refine ⟨fun s h => ?_, fun h => by cases h⟩
      have : q = s := Option.some.inj h
      rw [← this]
      exact hU q (fo_some hf).2.1
  by_cases hn0 : ∀ s, os b s = false
  · -- over
    have h0 : cn (os b) 64 = 0 := cn_zero (fun i _ => hn0 i)
    have hfo : fo (os b) = none := fo_zero (fun i _ => hn0 i)
    have hU : ∀ U : Nat → Bool, (∀ i, U i = true → os b i = true) → (fo U).or (fo (os b)) = none := fun U hU => by
      rw [hfo, fo_zero (fun i _ => by
        cases hu : U i with
        | false => rfl
        | true => have := hU i hu; rw [hn0 i] at this; cases this)]; rfl
    refine ⟨none, sd, fun s h => (by cases h), fun _ => ⟨hn0, rfl⟩, ?_, ?_⟩
    · rw [hx]
      unfold f_X3_chosenSlot_thought
      rw [lt_e, (kind_ok hp).1, ob_s, (kind_ok hp).2, k1, k2, k3, k4]
      obtain ⟨y1, s1, s2⟩ := shutting_ok hb hg
      obtain ⟨y2, c1, c2⟩ := calmX_ok hb hg
      obtain ⟨y3, r1, r2⟩ := rimf_ok hz hg.1
      rw [s1, c1, r1]
      simp only [ob_s, lt_e]
      rcases kind_cases hk6 with rfl | rfl | rfl | rfl | rfl | rfl
      · rw [if_neg (by decide +kernel), if_neg (by decide +kernel), if_neg (by decide +kernel), if_neg (by decide +kernel), if_neg (by decide +kernel), (pick2 hop (U := fun _ => false) (fun i _ => bl_0 i) x).1, hU _ (fun i h => by cases h)]
      · rw [if_pos (show nI 1 = 1 from rfl), (pick2 hop s2 x).1, hU _ (fun i h => (uS_os h).1)]
      · rw [if_neg (by decide +kernel), if_pos (show nI 2 = 2 from rfl), (pick2 hop (digsX_ok hb hg (r := 0) ha (fun i hi => by rw [all_bits hg.1 i hi]; show decide (i < bn b) = (decide (i < bn b) && (decide (0 = 0) || _)); rw [decide_eq_true (show 0 = 0 from rfl), Bool.true_or, Bool.and_true])) x).1, hU _ (fun i h => uD_os h)]
      · rw [if_neg (by decide +kernel), if_neg (by decide +kernel), if_pos (show nI 3 = 3 from rfl), (pick2 hop c2 x).1, (pick2 hop s2 x).1, hU _ (fun i h => (uS_os h).1), hU _ (fun i h => (uC_os h).1), ite_self]
      · rw [if_neg (by decide +kernel), if_neg (by decide +kernel), if_neg (by decide +kernel), if_pos (show nI 4 = 4 from rfl), (pick2 hop (digsX_ok hb hg (r := 1) ha (fun i hi => by rw [r2 i hi, decide_eq_false (show ¬ 1 = 0 by omega), Bool.false_or]; rfl)) x).1, hU _ (fun i h => uD_os h)]
      · rw [if_neg (by decide +kernel), if_neg (by decide +kernel), if_neg (by decide +kernel), if_neg (by decide +kernel), if_pos (show nI 5 = 5 from rfl)]
        unfold f_X0_drawnSlot
        rw [if_pos ((lg0_fo hop).mpr hfo), ob2_s]
        exact rfl
    · rw [hσ]
      unfold f_X4_chosen
      rw [howMany_ok hz hm, ob_s, h0, if_pos (show nI 0 = 0 from rfl)]
      rfl
  · have hpos : 0 < cn (os b) 64 := by
      rcases Nat.eq_zero_or_pos (cn (os b) 64) with h | h
      · exfalso
        apply hn0
        intro s
        cases ho : os b s with
        | false => rfl
        | true => have h1 := (os_lt hz ho).1; have := cn_lt (P := os b) (show s < 64 by omega) ho; omega
      · exact h
    by_cases hk5 : k = 5
    · subst hk5
      obtain ⟨v, hv, e16⟩ := iush16 (sd * 1103515245 + 12345)
      have hl : v % cn (os b) 64 < cn (os b) 64 := Nat.mod_lt v hpos
      obtain ⟨s, q1, q2, q3⟩ := cn_nth (P := os b) 64 hl
      have h56 := (os_lt hz q2).1
      refine ⟨some s, sd * 1103515245 + 12345, fun q h => by rw [← Option.some.inj h]; exact q2, fun h => (by cases h), ?_, ?_⟩
      · unfold f_X3_chosenSlot_thought f_X0_drawnSlot f_X0_drawBelow
        rw [lt_e, (kind_ok hp).1, ob_s, k1, k3, if_neg (by decide +kernel), if_neg (by decide +kernel), if_neg (by decide +kernel), if_neg (by decide +kernel), if_pos (show nI 5 = 5 from rfl), if_neg (fun hh => by have := (lg0_fo hop).mp hh; exact hn0 (onone this)), cnt64, cn_bl hb hg]
        simp only [lt_e, q_g_seed_seed]
        rw [hgs.2.2.2, if_neg (nI_nle hpos (by omega)), gd_t (show nz (nI (cn (os b) 64)) = true from decide_eq_true (nI_ne0 hpos (by omega))), ob2_s, e16, show irem (nI v) (nI (cn (os b) 64)) = nI (v % cn (os b) 64) from pk_rem (by omega) hpos (by omega), slotAt_ok (s := s) (by have := cn_os hz; have := cn_le (os b) 56; omega) q1 (by rw [hop s q1]; exact q2) (by rw [cn_cong s (fun i hi => hop i (show i < 64 by omega))]; exact q3), ob_s, ob2_s]
        rfl
      · unfold f_X4_chosen f_X4_draw
        rw [howMany_ok hz hm, ob_s, if_neg (nI_ne0 hpos (by omega)), gd_t (nI_inb hp (by omega)), nI_clamp (by omega), k3, if_neg (by decide +kernel), if_neg (by decide +kernel), if_neg (by decide +kernel), if_neg (by decide +kernel), if_pos (show nI 5 = 5 from rfl)]
        simp only [lt_e, q_m_seed_seed]
        rw [hms.2.2.2, gd_t (show nz (nI (cn (os b) 64)) = true from decide_eq_true (nI_ne0 hpos (by omega))), ob2_s, e16, show irem (nI v) (nI (cn (os b) 64)) = nI (v % cn (os b) 64) from pk_rem (by omega) hpos (by omega)]
        have hm2 : MB (m_seed' σ (sd * 1103515245 + 12345)) b := by
          unfold MB
          rw [q_m_w_seed, q_m_h_seed, q_m_hedge_seed, q_m_dug_seed, q_m_owner_seed]
          exact hm
        rw [ith_ok hz hm2 (mv_lt h56) (by rw [pm_mv hz]; exact q2) (by rw [cn_mv hz]; exact q3), ob_s]
        rfl
    · have fin : ∀ U : Nat → Bool, (∀ i, U i = true → os b i = true) → f_X3_chosenSlot_thought x (nI p) = some (eo ((fo U).or (fo (os b))), x) → f_X4_chosen σ (nI p) = some (emv ((fo U).or (fo (os b))), σ) → ∃ (o : Option Nat) (sd' : Int32), (∀ s, o = some s → os b s = true) ∧ (o = none → (∀ s, os b s = false) ∧ sd' = sd) ∧ f_X3_chosenSlot_thought x (nI p) = some (eo o, x_thought' x (g_seed' (x_thought x) sd')) ∧ f_X4_chosen σ (nI p) = some (emv o, m_seed' σ sd') := fun U hU h1 h2 => ⟨_, sd, (orn U hU).1, fun h => ⟨(orn U hU).2 h, rfl⟩, by rw [hx]; exact h1, by rw [hσ]; exact h2⟩
      obtain ⟨y1, s1, s2⟩ := shutting_ok hb hg
      obtain ⟨y2, c1, c2⟩ := calmX_ok hb hg
      obtain ⟨y3, r1, r2⟩ := rimf_ok hz hg.1
      have mh : ∀ r, (if k = 1 then r = uS b else if k = 2 then r = uD b a 0 else if k = 4 then r = uD b a 1 else if k = 3 then (if an (uS b) 64 = true then r = uS b else r = uC b) else r = fun _ => false) → f_X3_chosenSlot_thought x (nI p) = some (eo ((fo r).or (fo (os b))), x) ∧ f_X4_chosen σ (nI p) = some (emv ((fo r).or (fo (os b))), σ) ∧ ∀ i, r i = true → os b i = true := by
        intro r hr
        unfold f_X3_chosenSlot_thought f_X4_chosen
        rw [lt_e, (kind_ok hp).1, ob_s, (kind_ok hp).2, k1, k2, k3, k4, howMany_ok hz hm, s1, c1, r1]
        simp only [ob_s, lt_e]
        rw [if_neg (nI_ne0 hpos (by omega)), gd_t (nI_inb hp (by omega)), nI_clamp (by omega), k3]
        rcases kind_cases hk6 with rfl | rfl | rfl | rfl | rfl | rfl
        · rw [if_neg (by omega), if_neg (by omega), if_neg (by omega), if_neg (by omega)] at hr
          subst hr
          rw [if_neg (by decide +kernel), if_neg (by decide +kernel), if_neg (by decide +kernel), if_neg (by decide +kernel), if_neg (by decide +kernel), if_neg (by decide +kernel), if_neg (by decide +kernel), if_neg (by decide +kernel), if_neg (by decide +kernel), if_neg (by decide +kernel), (pick2 hop (U := fun _ => false) (fun i _ => bl_0 i) x).1, ith0_ok hz hm, ob_s]
          have : fo (fun _ => false) = none := fo_zero (fun _ _ => rfl)
          rw [this]
          exact ⟨rfl, rfl, fun i h => by cases h⟩
        · rw [if_pos rfl] at hr
          subst hr
          rw [if_pos (show nI 1 = 1 from rfl), if_pos (show nI 1 = 1 from rfl), (pick2 hop s2 x).1, shutsM_ok hz hm, ob_s, emv_if hz (fun i h => (uS_os h).1) hm]
          exact ⟨rfl, rfl, fun i h => (uS_os h).1⟩
        · rw [if_neg (by omega), if_pos rfl] at hr
          subst hr
          rw [if_neg (by decide +kernel), if_pos (show nI 2 = 2 from rfl), if_neg (by decide +kernel), if_pos (show nI 2 = 2 from rfl), (pick2 hop (digsX_ok hb hg (r := 0) ha (fun i hi => by rw [all_bits hg.1 i hi]; show decide (i < bn b) = (decide (i < bn b) && (decide (0 = 0) || _)); rw [decide_eq_true (show 0 = 0 from rfl), Bool.true_or, Bool.and_true])) x).1, gd_t (nI_inb hp (by omega)), gd_t (nI_inb hp (by omega)), if_neg (by decide +kernel), k4]
          unfold f_X4_chosen_b82
          rw [show (0 : Int32) = nI 0 from rfl, digs_ok hz hm ha (by omega), ob_s, show nI 0 = (0 : Int32) from rfl, emv_if hz (fun i h => uD_os h) hm]
          exact ⟨rfl, rfl, fun i h => uD_os h⟩
        · rw [if_neg (by omega), if_neg (by omega), if_neg (by omega), if_pos rfl] at hr
          rw [if_neg (show ¬ nI 3 = 1 by decide +kernel), if_neg (show ¬ nI 3 = 2 by decide +kernel), if_pos (show nI 3 = 3 from rfl), if_neg (show ¬ nI 3 = 1 by decide +kernel), if_neg (show ¬ nI 3 = 2 by decide +kernel), if_pos (show nI 3 = 3 from rfl), shutsM_ok hz hm, ob_s, (pick2 hop c2 x).1, (pick2 hop s2 x).1, careful_ok hz hm]
          by_cases c : an (uS b) 64 = true
          · rw [if_pos c] at hr
            subst hr
            have hf : fo (uS b) = some (ff (uS b) 64) := if_pos c
            have h56 := (os_lt hz (uS_os (fo_some hf).2.1).1).1
            have hne : ¬ emv (fo (uS b)) = -1 := by rw [hf]; exact nI_ne1 (by have := mv_lt h56; omega)
            rw [if_neg (fun hh => by have := (lg0_fo s2).mp hh; rw [hf] at this; cases this), if_neg hne, if_neg hne, hf]
            exact ⟨rfl, rfl, fun i h => (uS_os h).1⟩
          · rw [if_neg c] at hr
            subst hr
            have hf : fo (uS b) = none := if_neg c
            have he : emv (fo (uS b)) = -1 := by rw [hf]; rfl
            rw [if_pos ((lg0_fo s2).mpr hf), if_pos he, ob2_s, emv_if hz (fun i h => (uC_os h).1) hm]
            exact ⟨rfl, rfl, fun i h => (uC_os h).1⟩
        · rw [if_neg (by omega), if_neg (by omega), if_pos rfl] at hr
          subst hr
          rw [if_neg (by decide +kernel), if_neg (by decide +kernel), if_neg (by decide +kernel), if_pos (show nI 4 = 4 from rfl), if_neg (by decide +kernel), if_neg (by decide +kernel), if_neg (by decide +kernel), if_pos (show nI 4 = 4 from rfl), (pick2 hop (digsX_ok hb hg (r := 1) ha (fun i hi => by rw [r2 i hi, decide_eq_false (show ¬ 1 = 0 by omega), Bool.false_or]; rfl)) x).1, gd_t (nI_inb hp (by omega)), gd_t (nI_inb hp (by omega)), if_pos (show nI 4 = 4 from rfl), k4]
          unfold f_X4_chosen_b82
          rw [show (1 : Int32) = nI 1 from rfl, digs_ok hz hm ha (by omega), ob_s, show -nI 1 = (-1 : Int32) by decide +kernel, emv_if hz (fun i h => uD_os h) hm]
          exact ⟨rfl, rfl, fun i h => uD_os h⟩
        · exact absurd rfl hk5
      by_cases c1k : k = 1
      · obtain ⟨h1, h2, h3⟩ := mh (uS b) (by rw [if_pos c1k])
        exact fin _ h3 h1 h2
      by_cases c2k : k = 2
      · obtain ⟨h1, h2, h3⟩ := mh (uD b a 0) (by rw [if_neg c1k, if_pos c2k])
        exact fin _ h3 h1 h2
      by_cases c4k : k = 4
      · obtain ⟨h1, h2, h3⟩ := mh (uD b a 1) (by rw [if_neg c1k, if_neg c2k, if_pos c4k])
        exact fin _ h3 h1 h2
      by_cases c3k : k = 3
      · by_cases ca : an (uS b) 64 = true
        · obtain ⟨h1, h2, h3⟩ := mh (uS b) (by rw [if_neg c1k, if_neg c2k, if_neg c4k, if_pos c3k, if_pos ca])
          exact fin _ h3 h1 h2
        · obtain ⟨h1, h2, h3⟩ := mh (uC b) (by rw [if_neg c1k, if_neg c2k, if_neg c4k, if_pos c3k, if_neg ca])
          exact fin _ h3 h1 h2
      · obtain ⟨h1, h2, h3⟩ := mh (fun _ => false) (by rw [if_neg c1k, if_neg c2k, if_neg c4k, if_neg c3k])
        exact fin _ h3 h1 h2
theorem chosen_now {x : XX} {σ : MM} {b : BD} {t p : Nat} {mv0 sd : Int32} (hb : BOK b) (hg : GB (x_now x) b) (hgs : GS (x_now x) t mv0 sd) (hm : MB σ b) (hms : MS σ t mv0 sd) (hk : KP x σ p) : ∃ (o : Option Nat) (sd' : Int32), (∀ s, o = some s → os b s = true) ∧ (o = none → (∀ s, os b s = false) ∧ sd' = sd) ∧ f_X3_chosenSlot_now x (nI p) = some (eo o, x_now' x (g_seed' (x_now x) sd')) ∧ f_X4_chosen σ (nI p) = some (emv o, m_seed' σ sd') := by
  have hz : SZ (bW b) (bH b) := ⟨hb.1, hb.2.1⟩
  have sz := szs hz
  have hn : bn b ≤ 16 := sz.2.1
  obtain ⟨hp, k1, k2, ⟨k, hk6, k3⟩, a, ha, k4⟩ := hk
  have hop := fun i hi => open_bits hb hg (i := i) hi
  have hx : x_now' x (g_seed' (x_now x) sd) = x := by rw [← hgs.2.2.2]; exact rfl
  have hσ : m_seed' σ sd = σ := by rw [← hms.2.2.2]; exact rfl
  have hcl := cn_le (os b) 64
  have onone : fo (os b) = none → ∀ s, os b s = false := fun h s => by
    rcases Nat.lt_or_ge s 64 with h1 | h1
    · exact fo_none h s h1
    · cases ho : os b s with
      | false => rfl
      | true => have := (os_lt hz ho).1; omega
  have orn : ∀ U : Nat → Bool, (∀ i, U i = true → os b i = true) → (∀ s, (fo U).or (fo (os b)) = some s → os b s = true) ∧ ((fo U).or (fo (os b)) = none → ∀ s, os b s = false) := fun U hU => by
    cases hf : fo U with
    | none => exact ⟨fun s h => (fo_some (U := os b) h).2.1, onone⟩
    | some q =>
      refine ⟨fun s h => ?_, fun h => by cases h⟩
      have : q = s := Option.some.inj h
      rw [← this]
      exact hU q (fo_some hf).2.1
  by_cases hn0 : ∀ s, os b s = false
  · -- over
    have h0 : cn (os b) 64 = 0 := cn_zero (fun i _ => hn0 i)
    have hfo : fo (os b) = none := fo_zero (fun i _ => hn0 i)
    have hU : ∀ U : Nat → Bool, (∀ i, U i = true → os b i = true) → (fo U).or (fo (os b)) = none := fun U hU => by
      rw [hfo, fo_zero (fun i _ => by
        cases hu : U i with
        | false => rfl
        | true => have := hU i hu; rw [hn0 i] at this; cases this)]; rfl
    refine ⟨none, sd, fun s h => (by cases h), fun _ => ⟨hn0, rfl⟩, ?_, ?_⟩
    · rw [hx]
      unfold f_X3_chosenSlot_now
      rw [lt_e, (kind_ok hp).1, ob_s, (kind_ok hp).2, k1, k2, k3, k4]
      obtain ⟨y1, s1, s2⟩ := shutting_ok hb hg
      obtain ⟨y2, c1, c2⟩ := calmX_ok hb hg
      obtain ⟨y3, r1, r2⟩ := rimf_ok hz hg.1
      rw [s1, c1, r1]
      simp only [ob_s, lt_e]
      rcases kind_cases hk6 with rfl | rfl | rfl | rfl | rfl | rfl
      · rw [if_neg (by decide +kernel), if_neg (by decide +kernel), if_neg (by decide +kernel), if_neg (by decide +kernel), if_neg (by decide +kernel), (pick2 hop (U := fun _ => false) (fun i _ => bl_0 i) x).2, hU _ (fun i h => by cases h)]
      · rw [if_pos (show nI 1 = 1 from rfl), (pick2 hop s2 x).2, hU _ (fun i h => (uS_os h).1)]
      · rw [if_neg (by decide +kernel), if_pos (show nI 2 = 2 from rfl), (pick2 hop (digsX_ok hb hg (r := 0) ha (fun i hi => by rw [all_bits hg.1 i hi]; show decide (i < bn b) = (decide (i < bn b) && (decide (0 = 0) || _)); rw [decide_eq_true (show 0 = 0 from rfl), Bool.true_or, Bool.and_true])) x).2, hU _ (fun i h => uD_os h)]
      · rw [if_neg (by decide +kernel), if_neg (by decide +kernel), if_pos (show nI 3 = 3 from rfl), (pick2 hop c2 x).2, (pick2 hop s2 x).2, hU _ (fun i h => (uS_os h).1), hU _ (fun i h => (uC_os h).1), ite_self]
      · rw [if_neg (by decide +kernel), if_neg (by decide +kernel), if_neg (by decide +kernel), if_pos (show nI 4 = 4 from rfl), (pick2 hop (digsX_ok hb hg (r := 1) ha (fun i hi => by rw [r2 i hi, decide_eq_false (show ¬ 1 = 0 by omega), Bool.false_or]; rfl)) x).2, hU _ (fun i h => uD_os h)]
      · rw [if_neg (by decide +kernel), if_neg (by decide +kernel), if_neg (by decide +kernel), if_neg (by decide +kernel), if_pos (show nI 5 = 5 from rfl)]
        unfold f_X0_drawnSlot
        rw [if_pos ((lg0_fo hop).mpr hfo), ob2_s]
        exact rfl
    · rw [hσ]
      unfold f_X4_chosen
      rw [howMany_ok hz hm, ob_s, h0, if_pos (show nI 0 = 0 from rfl)]
      rfl
  · have hpos : 0 < cn (os b) 64 := by
      rcases Nat.eq_zero_or_pos (cn (os b) 64) with h | h
      · exfalso
        apply hn0
        intro s
        cases ho : os b s with
        | false => rfl
        | true => have h1 := (os_lt hz ho).1; have := cn_lt (P := os b) (show s < 64 by omega) ho; omega
      · exact h
    by_cases hk5 : k = 5
    · subst hk5
      obtain ⟨v, hv, e16⟩ := iush16 (sd * 1103515245 + 12345)
      have hl : v % cn (os b) 64 < cn (os b) 64 := Nat.mod_lt v hpos
      obtain ⟨s, q1, q2, q3⟩ := cn_nth (P := os b) 64 hl
      have h56 := (os_lt hz q2).1
      refine ⟨some s, sd * 1103515245 + 12345, fun q h => by rw [← Option.some.inj h]; exact q2, fun h => (by cases h), ?_, ?_⟩
      · unfold f_X3_chosenSlot_now f_X0_drawnSlot f_X0_drawBelow
        rw [lt_e, (kind_ok hp).1, ob_s, k1, k3, if_neg (by decide +kernel), if_neg (by decide +kernel), if_neg (by decide +kernel), if_neg (by decide +kernel), if_pos (show nI 5 = 5 from rfl), if_neg (fun hh => by have := (lg0_fo hop).mp hh; exact hn0 (onone this)), cnt64, cn_bl hb hg]
        simp only [lt_e, q_g_seed_seed]
        rw [hgs.2.2.2, if_neg (nI_nle hpos (by omega)), gd_t (show nz (nI (cn (os b) 64)) = true from decide_eq_true (nI_ne0 hpos (by omega))), ob2_s, e16, show irem (nI v) (nI (cn (os b) 64)) = nI (v % cn (os b) 64) from pk_rem (by omega) hpos (by omega), slotAt_ok (s := s) (by have := cn_os hz; have := cn_le (os b) 56; omega) q1 (by rw [hop s q1]; exact q2) (by rw [cn_cong s (fun i hi => hop i (show i < 64 by omega))]; exact q3), ob_s, ob2_s]
        rfl
      · unfold f_X4_chosen f_X4_draw
        rw [howMany_ok hz hm, ob_s, if_neg (nI_ne0 hpos (by omega)), gd_t (nI_inb hp (by omega)), nI_clamp (by omega), k3, if_neg (by decide +kernel), if_neg (by decide +kernel), if_neg (by decide +kernel), if_neg (by decide +kernel), if_pos (show nI 5 = 5 from rfl)]
        simp only [lt_e, q_m_seed_seed]
        rw [hms.2.2.2, gd_t (show nz (nI (cn (os b) 64)) = true from decide_eq_true (nI_ne0 hpos (by omega))), ob2_s, e16, show irem (nI v) (nI (cn (os b) 64)) = nI (v % cn (os b) 64) from pk_rem (by omega) hpos (by omega)]
        have hm2 : MB (m_seed' σ (sd * 1103515245 + 12345)) b := by
          unfold MB
          rw [q_m_w_seed, q_m_h_seed, q_m_hedge_seed, q_m_dug_seed, q_m_owner_seed]
          exact hm
        rw [ith_ok hz hm2 (mv_lt h56) (by rw [pm_mv hz]; exact q2) (by rw [cn_mv hz]; exact q3), ob_s]
        rfl
    · have fin : ∀ U : Nat → Bool, (∀ i, U i = true → os b i = true) → f_X3_chosenSlot_now x (nI p) = some (eo ((fo U).or (fo (os b))), x) → f_X4_chosen σ (nI p) = some (emv ((fo U).or (fo (os b))), σ) → ∃ (o : Option Nat) (sd' : Int32), (∀ s, o = some s → os b s = true) ∧ (o = none → (∀ s, os b s = false) ∧ sd' = sd) ∧ f_X3_chosenSlot_now x (nI p) = some (eo o, x_now' x (g_seed' (x_now x) sd')) ∧ f_X4_chosen σ (nI p) = some (emv o, m_seed' σ sd') := fun U hU h1 h2 => ⟨_, sd, (orn U hU).1, fun h => ⟨(orn U hU).2 h, rfl⟩, by rw [hx]; exact h1, by rw [hσ]; exact h2⟩
      obtain ⟨y1, s1, s2⟩ := shutting_ok hb hg
      obtain ⟨y2, c1, c2⟩ := calmX_ok hb hg
      obtain ⟨y3, r1, r2⟩ := rimf_ok hz hg.1
      have mh : ∀ r, (if k = 1 then r = uS b else if k = 2 then r = uD b a 0 else if k = 4 then r = uD b a 1 else if k = 3 then (if an (uS b) 64 = true then r = uS b else r = uC b) else r = fun _ => false) → f_X3_chosenSlot_now x (nI p) = some (eo ((fo r).or (fo (os b))), x) ∧ f_X4_chosen σ (nI p) = some (emv ((fo r).or (fo (os b))), σ) ∧ ∀ i, r i = true → os b i = true := by
        intro r hr
        unfold f_X3_chosenSlot_now f_X4_chosen
        rw [lt_e, (kind_ok hp).1, ob_s, (kind_ok hp).2, k1, k2, k3, k4, howMany_ok hz hm, s1, c1, r1]
        simp only [ob_s, lt_e]
        rw [if_neg (nI_ne0 hpos (by omega)), gd_t (nI_inb hp (by omega)), nI_clamp (by omega), k3]
        rcases kind_cases hk6 with rfl | rfl | rfl | rfl | rfl | rfl
        · rw [if_neg (by omega), if_neg (by omega), if_neg (by omega), if_neg (by omega)] at hr
          subst hr
          rw [if_neg (by decide +kernel), if_neg (by decide +kernel), if_neg (by decide +kernel), if_neg (by decide +kernel), if_neg (by decide +kernel), if_neg (by decide +kernel), if_neg (by decide +kernel), if_neg (by decide +kernel), if_neg (by decide +kernel), if_neg (by decide +kernel), (pick2 hop (U := fun _ => false) (fun i _ => bl_0 i) x).2, ith0_ok hz hm, ob_s]
          have : fo (fun _ => false) = none := fo_zero (fun _ _ => rfl)
          rw [this]
          exact ⟨rfl, rfl, fun i h => by cases h⟩
        · rw [if_pos rfl] at hr
          subst hr
          rw [if_pos (show nI 1 = 1 from rfl), if_pos (show nI 1 = 1 from rfl), (pick2 hop s2 x).2, shutsM_ok hz hm, ob_s, emv_if hz (fun i h => (uS_os h).1) hm]
          exact ⟨rfl, rfl, fun i h => (uS_os h).1⟩
        · rw [if_neg (by omega), if_pos rfl] at hr
          subst hr
          rw [if_neg (by decide +kernel), if_pos (show nI 2 = 2 from rfl), if_neg (by decide +kernel), if_pos (show nI 2 = 2 from rfl), (pick2 hop (digsX_ok hb hg (r := 0) ha (fun i hi => by rw [all_bits hg.1 i hi]; show decide (i < bn b) = (decide (i < bn b) && (decide (0 = 0) || _)); rw [decide_eq_true (show 0 = 0 from rfl), Bool.true_or, Bool.and_true])) x).2, gd_t (nI_inb hp (by omega)), gd_t (nI_inb hp (by omega)), if_neg (by decide +kernel), k4]
          unfold f_X4_chosen_b82
          rw [show (0 : Int32) = nI 0 from rfl, digs_ok hz hm ha (by omega), ob_s, show nI 0 = (0 : Int32) from rfl, emv_if hz (fun i h => uD_os h) hm]
          exact ⟨rfl, rfl, fun i h => uD_os h⟩
        · rw [if_neg (by omega), if_neg (by omega), if_neg (by omega), if_pos rfl] at hr
          rw [if_neg (show ¬ nI 3 = 1 by decide +kernel), if_neg (show ¬ nI 3 = 2 by decide +kernel), if_pos (show nI 3 = 3 from rfl), if_neg (show ¬ nI 3 = 1 by decide +kernel), if_neg (show ¬ nI 3 = 2 by decide +kernel), if_pos (show nI 3 = 3 from rfl), shutsM_ok hz hm, ob_s, (pick2 hop c2 x).2, (pick2 hop s2 x).2, careful_ok hz hm]
          by_cases c : an (uS b) 64 = true
          · rw [if_pos c] at hr
            subst hr
            have hf : fo (uS b) = some (ff (uS b) 64) := if_pos c
            have h56 := (os_lt hz (uS_os (fo_some hf).2.1).1).1
            have hne : ¬ emv (fo (uS b)) = -1 := by rw [hf]; exact nI_ne1 (by have := mv_lt h56; omega)
            rw [if_neg (fun hh => by have := (lg0_fo s2).mp hh; rw [hf] at this; cases this), if_neg hne, if_neg hne, hf]
            exact ⟨rfl, rfl, fun i h => (uS_os h).1⟩
          · rw [if_neg c] at hr
            subst hr
            have hf : fo (uS b) = none := if_neg c
            have he : emv (fo (uS b)) = -1 := by rw [hf]; rfl
            rw [if_pos ((lg0_fo s2).mpr hf), if_pos he, ob2_s, emv_if hz (fun i h => (uC_os h).1) hm]
            exact ⟨rfl, rfl, fun i h => (uC_os h).1⟩
        · rw [if_neg (by omega), if_neg (by omega), if_pos rfl] at hr
          subst hr
          rw [if_neg (by decide +kernel), if_neg (by decide +kernel), if_neg (by decide +kernel), if_pos (show nI 4 = 4 from rfl), if_neg (by decide +kernel), if_neg (by decide +kernel), if_neg (by decide +kernel), if_pos (show nI 4 = 4 from rfl), (pick2 hop (digsX_ok hb hg (r := 1) ha (fun i hi => by rw [r2 i hi, decide_eq_false (show ¬ 1 = 0 by omega), Bool.false_or]; rfl)) x).2, gd_t (nI_inb hp (by omega)), gd_t (nI_inb hp (by omega)), if_pos (show nI 4 = 4 from rfl), k4]
          unfold f_X4_chosen_b82
          rw [show (1 : Int32) = nI 1 from rfl, digs_ok hz hm ha (by omega), ob_s, show -nI 1 = (-1 : Int32) by decide +kernel, emv_if hz (fun i h => uD_os h) hm]
          exact ⟨rfl, rfl, fun i h => uD_os h⟩
        · exact absurd rfl hk5
      by_cases c1k : k = 1
      · obtain ⟨h1, h2, h3⟩ := mh (uS b) (by rw [if_pos c1k])
        exact fin _ h3 h1 h2
      by_cases c2k : k = 2
      · obtain ⟨h1, h2, h3⟩ := mh (uD b a 0) (by rw [if_neg c1k, if_pos c2k])
        exact fin _ h3 h1 h2
      by_cases c4k : k = 4
      · obtain ⟨h1, h2, h3⟩ := mh (uD b a 1) (by rw [if_neg c1k, if_neg c2k, if_pos c4k])
        exact fin _ h3 h1 h2
      by_cases c3k : k = 3
      · by_cases ca : an (uS b) 64 = true
        · obtain ⟨h1, h2, h3⟩ := mh (uS b) (by rw [if_neg c1k, if_neg c2k, if_neg c4k, if_pos c3k, if_pos ca])
          exact fin _ h3 h1 h2
        · obtain ⟨h1, h2, h3⟩ := mh (uC b) (by rw [if_neg c1k, if_neg c2k, if_neg c4k, if_pos c3k, if_neg ca])
          exact fin _ h3 h1 h2
      · obtain ⟨h1, h2, h3⟩ := mh (fun _ => false) (by rw [if_neg c1k, if_neg c2k, if_neg c4k, if_neg c3k])
        exact fin _ h3 h1 h2
