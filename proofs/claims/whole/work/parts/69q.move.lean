/-! Moves in truth -/
theorem fld_bits {g : GG} {b : BD} (hb : BOK b) (hg : GB g b) : (∀ i, bd b i = true → i < bn b) := fun i h => by
  rcases Nat.lt_or_ge i (bn b) with h1 | h1
  · exact h1
  · rw [(hb.2.2.2.1 i h1).1] at h; cases h
theorem slot_iff {g : GG} {σ : MM} {b : BD} (hb : BOK b) (hg : GB g b) (hm : MB σ b) (a : Int32) : (f_X0_slotOf g a = -1 ∧ f_X4_isMove σ a = false) ∨ ∃ s, s < 56 ∧ a = nI (mv s) ∧ f_X0_slotOf g a = nI s ∧ f_X4_isMove σ a = true ∧ f_X4_mayBe σ a = some (os b s) ∧ f_X0_isOpen g (nI s) = os b s := by
  have hz : SZ (bW b) (bH b) := ⟨hb.1, hb.2.1⟩
  have sz := szs hz
  have hn : bn b ≤ 16 := sz.2.1
  have hE : be b ≤ 40 := sz.1
  have fin : ∀ s, s < 56 → f_X4_isMove σ (nI (mv s)) = true → f_X4_mayBe σ (nI (mv s)) = some (os b s) ∧ f_X0_isOpen g (nI s) = os b s := fun s hs h => by
    refine ⟨?_, by rw [isOpen_bit g (by omega), open_bits hb hg (by omega)]⟩
    rcases mvs_ok hz hm (m := mv s) (by unfold mv; split <;> omega) with ⟨e1, e2⟩ | ⟨e1, e2⟩
    · rw [h] at e1; cases e1
    · rw [e2, pm_mv hz]
  unfold f_X0_slotOf
  rcases edge_iff hz hg.1.2.2.2.1 hm.1 hm.2.1 a with ⟨e1, e2⟩ | ⟨e, he, rfl, e1, e2⟩
  · rw [e1, if_neg Bool.false_ne_true]
    rcases field_iff hz hg.1.2.2.1 hm.1 hm.2.1 (a - 100) with ⟨e3, e4⟩ | ⟨f, hf, hfa, e3, e4⟩
    · left
      unfold f_X4_isMove
      rw [e2, e3, e4, if_neg Bool.false_ne_true, if_neg Bool.false_ne_true, if_neg Bool.false_ne_true]
      refine ⟨?_, rfl⟩
      split <;> rfl
    · have ea : a = nI (f + 100) := by
        have : a = a - 100 + 100 := by simp
        rw [this, hfa]; exact nn_add f 100
      have em : mv (f + 40) = f + 100 := by unfold mv; rw [if_neg (by omega)]
      have hmv : f_X4_isMove σ (nI (mv (f + 40))) = true := by
        unfold f_X4_isMove
        rw [em, ← ea, e2, e4, if_neg Bool.false_ne_true, if_pos rfl]
      right
      refine ⟨f + 40, by omega, by rw [em]; exact ea, ?_, ?_, ?_⟩
      · rw [ea, if_neg (show ¬ nI (f + 100) < 100 from nI_nlt (b := 100) (by omega) (by omega)), ← ea, e3, if_pos rfl, hfa]
        exact nn_add f 40
      · rw [ea, ← em]; exact hmv
      · rw [ea, ← em]; exact fin (f + 40) (by omega) hmv
  · have he2 : e < be b := he
    have em : mv e = e := by unfold mv; rw [if_pos (by omega)]
    have hmv : f_X4_isMove σ (nI (mv e)) = true := by
      unfold f_X4_isMove
      rw [em, e2, if_pos rfl]
    right
    refine ⟨e, by omega, by rw [em], by rw [e1, if_pos rfl], ?_, ?_⟩
    · rw [← em]; rw [em]; rw [em] at hmv; exact hmv
    · have := fin e (by omega) hmv
      rw [em] at this
      exact this
theorem nI_ne1 {m : Nat} (h : m < 200) : ¬ nI m = -1 := (by decide +kernel : ∀ m, m < 200 → ¬ nI m = -1) m h
theorem mv_lt {s : Nat} (h : s < 56) : mv s < 116 := by unfold mv; split <;> omega
/-- what is unchanged but the game -/
theorem Rel_now {x : XX} {σ σ' : MM} {g : GG} (hR : Rel x σ) (hG : GRel g σ') (hf : fz σ σ') : Rel (x_now' x g) σ' := by
  obtain ⟨h1, hP, hS, hT, hF, hI⟩ := hR
  obtain ⟨f1, f2, f3, f4, f5, f6, f7, f8, f9, f10, f11, f12, f13, f14, f15, f16⟩ := hf
  refine ⟨by rw [q_x_now_now]; exact hG, PRel_c hP (by simp only [q_x_now_now, q_x_thought_now, q_x_kept_now, q_x_keptCrew_now, q_x_kinds_now, q_x_amounts_now, q_x_crew_now, q_x_crewRead_now, q_x_shelves_now, q_x_tape_now, q_x_refusals_now, and_self]) ⟨f1, f2, f3⟩, SRel_c hS (by simp only [q_x_now_now, q_x_thought_now, q_x_kept_now, q_x_keptCrew_now, q_x_kinds_now, q_x_amounts_now, q_x_crew_now, q_x_crewRead_now, q_x_shelves_now, q_x_tape_now, q_x_refusals_now]) ⟨f1, f10, f11, f12⟩, TRel_c hT (by simp only [q_x_now_now, q_x_thought_now, q_x_kept_now, q_x_keptCrew_now, q_x_kinds_now, q_x_amounts_now, q_x_crew_now, q_x_crewRead_now, q_x_shelves_now, q_x_tape_now, q_x_refusals_now]) ⟨f4, f5⟩, RRel_c hF (by simp only [q_x_now_now, q_x_thought_now, q_x_kept_now, q_x_keptCrew_now, q_x_kinds_now, q_x_amounts_now, q_x_crew_now, q_x_crewRead_now, q_x_shelves_now, q_x_tape_now, q_x_refusals_now]) f13, IRel_c hI (by simp only [q_x_now_now, q_x_thought_now, q_x_kept_now, q_x_keptCrew_now, q_x_kinds_now, q_x_amounts_now, q_x_crew_now, q_x_crewRead_now, q_x_shelves_now, q_x_tape_now, q_x_refusals_now, and_self]) ⟨f14, f15, f1⟩⟩
theorem Rel_th {x : XX} {σ : MM} (hR : Rel x σ) (g : GG) : Rel (x_thought' x g) σ := by
  obtain ⟨h1, hP, hS, hT, hF, hI⟩ := hR
  exact ⟨by rw [q_x_now_thought]; exact h1, PRel_c hP (by simp only [q_x_now_thought, q_x_thought_thought, q_x_kept_thought, q_x_keptCrew_thought, q_x_kinds_thought, q_x_amounts_thought, q_x_crew_thought, q_x_crewRead_thought, q_x_shelves_thought, q_x_tape_thought, q_x_refusals_thought, and_self]) ⟨rfl, rfl, rfl⟩, SRel_c hS (by simp only [q_x_now_thought, q_x_thought_thought, q_x_kept_thought, q_x_keptCrew_thought, q_x_kinds_thought, q_x_amounts_thought, q_x_crew_thought, q_x_crewRead_thought, q_x_shelves_thought, q_x_tape_thought, q_x_refusals_thought]) ⟨rfl, rfl, rfl, rfl⟩, TRel_c hT (by simp only [q_x_now_thought, q_x_thought_thought, q_x_kept_thought, q_x_keptCrew_thought, q_x_kinds_thought, q_x_amounts_thought, q_x_crew_thought, q_x_crewRead_thought, q_x_shelves_thought, q_x_tape_thought, q_x_refusals_thought]) ⟨rfl, rfl⟩, RRel_c hF (by simp only [q_x_now_thought, q_x_thought_thought, q_x_kept_thought, q_x_keptCrew_thought, q_x_kinds_thought, q_x_amounts_thought, q_x_crew_thought, q_x_crewRead_thought, q_x_shelves_thought, q_x_tape_thought, q_x_refusals_thought]) rfl, IRel_c hI (by simp only [q_x_now_thought, q_x_thought_thought, q_x_kept_thought, q_x_keptCrew_thought, q_x_kinds_thought, q_x_amounts_thought, q_x_crew_thought, q_x_crewRead_thought, q_x_shelves_thought, q_x_tape_thought, q_x_refusals_thought, and_self]) ⟨rfl, rfl, rfl⟩⟩
theorem Rel_m {x : XX} {σ σ' : MM} (hR : Rel x σ) (hG : GRel (x_now x) σ') (hf : fz σ σ') : Rel x σ' := by
  have := Rel_now (g := x_now x) hR hG hf
  exact this
theorem shut_cnt {g g' : GG} {b : BD} (hb : BOK b) (hg : GB g b) {t s : Nat} (ht : t < 2) (ho : os b s = true) (hg' : GB g' (mk b t s)) : f_J6_bitCount_0f7a4 ((f_X0_shutFields g') &&& ((f_X0_shutFields g) ^^^ (-1))) = nI (shn b s) := by
  have hz : SZ (bW b) (bH b) := ⟨hb.1, hb.2.1⟩
  have sz := szs hz
  have hn : bn b ≤ 16 := sz.2.1
  obtain ⟨h1, h2, h3⟩ := os_lt hz ho
  have hb' := BOK_mk hb ht ho
  have hbn : bn (mk b t s) = bn b := by unfold bn; rw [mk_W, mk_H]
  unfold shn
  by_cases c : s < 40
  · obtain ⟨he, h0⟩ := h2 c
    rw [if_pos c, ← fc_shut hz he h0]
    refine cnt_f hn (fun i hi => ?_)
    rw [bt_and, bt_not hi, shut_bits hb' hg' hi, shut_bits hb hg hi, hbn]
    have ec : cnt (mk b t s) i = ct (bW b) (bH b) (hp (bh b) s) i := by rw [mk_e c]; rfl
    rw [ec]
    exact (by decide : ∀ p q r : Bool, ((p && q) && !(p && r)) = (p && (q && !r))) _ _ _
  · rw [if_neg c]
    have : (f_X0_shutFields g') &&& ((f_X0_shutFields g) ^^^ (-1)) = 0 := by
      refine bt_eq0.mpr (fun i hi => ?_)
      rw [bt_and, bt_not hi, shut_bits hb' hg' hi, shut_bits hb hg hi, hbn]
      have ec : cnt (mk b t s) i = cnt b i := by rw [mk_d (by omega)]; rfl
      rw [ec]
      exact (by decide : ∀ p : Bool, (p && !p) = false) _
    rw [this]
    decide +kernel
theorem B_move {x : XX} {σ : MM} (hR : Rel x σ) (a1 : Int32) : ∃ (r : Int32) (x' : XX) (σ' : MM), f_X3_move x a1 = some (r, x') ∧ f_X4_move σ a1 = some (r, σ') ∧ Rel x' σ' := by
  have hno := R_no' hR (-2) (Or.inl rfl)
  have hno5 := R_no' hR (-5) (by decide +kernel)
  obtain ⟨b, t, mv0, sd, hb, hg, hm, hgs, hms⟩ := hR.1
  unfold f_X3_move f_X4_move
  rcases slot_iff hb hg hm a1 with ⟨e1, e2⟩ | ⟨s, hs, ha, e1, e2, e3, e4⟩
  · rw [e1, e2, lt_e, if_pos rfl, if_neg Bool.false_ne_true]; exact hno
  rw [e1, e2, e3, lt_e, if_neg (nI_ne1 (by omega)), if_pos rfl, ob_s, e4]
  cases ho : os b s with
  | false => rw [if_neg Bool.false_ne_true, if_neg Bool.false_ne_true]; exact hno5
  | true =>
    obtain ⟨g', g1, g2, g3⟩ := makeX_ok hb hg hgs ho
    obtain ⟨σ', m1, m2, m3, m4, m5⟩ := makesM_ok hb hm hms ho
    rw [if_pos rfl, if_pos rfl, lt_e, g1, ob_s, lt_e, ha, m1, ob2_s, q_x_now_now, shut_cnt hb hg hgs.1 ho g2]
    exact ⟨_, _, _, rfl, rfl, Rel_now hR ⟨_, _, _, _, BOK_mk hb hgs.1 ho, g2, m2, g3, m3⟩ m4⟩
