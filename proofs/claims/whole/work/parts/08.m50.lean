/-! functions read off, and their contracts: by program (wip/whole/gen2.py) -/
def f_X4_scoreOf_L16_b (σ : MM) (a1 : Int32) (x1 : Int32)  (rec16 : Int32 → Int32 → Option (Int32)) (x3 : Int32) (x4 : Int32) : Option (Int32) :=
  if ((m_w σ) * (m_h σ)) ≤ x4 then some x3 else ob (f_X4_colour σ x4 x1) (fun x5 => if x5 = a1 then lt (x3 + 1) (fun x7 => lt (x4 + 1) (fun x8 => rec16 x7 x8)) else lt (x4 + 1) (fun x6 => rec16 x3 x6))
def f_X4_scoreOf_L16 (σ : MM) (a1 : Int32) (x1 : Int32)  (x3 : Int32) (x4 : Int32) : Option (Int32) :=
  lp (fun _ _ => none) (f_X4_scoreOf_L16_b σ a1 x1 ) FU x3 x4
def f_X4_scoreOf (σ : MM) (a1 : Int32) : Option (Int32) :=
  ob (f_X4_drains σ) (fun x1 => ob (f_X4_lanesOf σ (1 - a1)) (fun x2 => f_X4_scoreOf_L16 σ a1 x1 x2 0))
set_option maxHeartbeats 4000000 in
set_option maxRecDepth 100000 in
theorem c_X4_scoreOf (l : Launch) (ev : EV) (ad : Nat → Nat) (σ : MM) (a1 : Int32)   (r : Int32)  (h : f_X4_scoreOf σ a1 = some r) : Ct l yX4_scoreOf prog_6_method_56_code 5 (Option.some Jvm.ClassFile.FieldType.int) (rmk 7 161) ev 13 ad (mw ev ad σ) (mw ev ad σ) [.ref (ad 0), .int a1] (some (.int r)) := by
  refine Ct.of (by decide +kernel) (Nat.le_of_ble_eq_true rfl) ?_
  intro p e s m args below meth c Qc C hap hP hend ls hl
  have hAA : ∀ j, j < 13 → inA ad 13 (ad j) := fun j hj => ⟨j, hj, rfl⟩
  have hx := C.1
  have hb := C.2.1
  have hl : lv_has ls 5 [(0, .ref (ad 0)), (1, .int a1)] := hl
  have h := (f_X4_scoreOf.eq_1 _ _ ).symm.trans h
  refine lv_aload_n hx hb dX4_scoreOf_0 rfl (lv_at hl 0 rfl) ?_
  obtain ⟨x1, h1, h⟩ := k_ob h
  refine k_callVi C hP hap hAA (c_X4_drains l ev ad σ   _ h1) Emb.same hap gz_X4_drains qML_RX4_199 qIM_yX4_drains qSE_yX4_drains ⟨(Nat.le_of_ble_eq_true rfl), (Nat.le_of_ble_eq_true rfl)⟩ (q0 := 0) rfl (by decide) rfl rfl rfl rfl hl.1 rfl (Nat.le_of_ble_eq_true rfl) dX4_scoreOf_1 ⟨Nat.le_refl _, Nat.le_refl _⟩ (fun H locs hP => ?_)
  refine lv_istore_n (lv' := [(2, .int x1), (0, .ref (ad 0)), (1, .int a1)]) hx hb dX4_scoreOf_4 rfl hl (by decide) rfl (fun ls hl => ?_)
  refine lv_aload_n hx hb dX4_scoreOf_5 rfl (lv_at hl 1 rfl) ?_
  refine lv_iconst (v := 1) hx hb dX4_scoreOf_6 (by decide) ?_
  refine lv_iload_n hx hb dX4_scoreOf_7 rfl (lv_at hl 2 rfl) ?_
  refine lv_isub hx hb dX4_scoreOf_8 ?_
  obtain ⟨x2, h1, h⟩ := k_ob h
  refine k_callVi C hP hap hAA (c_X4_lanesOf l ev ad σ (1 - a1)   _ h1) Emb.same hap gz_X4_lanesOf qML_RX4_220 qIM_yX4_lanesOf qSE_yX4_lanesOf ⟨(Nat.le_of_ble_eq_true rfl), (Nat.le_of_ble_eq_true rfl)⟩ (q0 := 0) rfl (by decide) rfl rfl rfl rfl hl.1 rfl (Nat.le_of_ble_eq_true rfl) dX4_scoreOf_9 ⟨Nat.le_refl _, Nat.le_refl _⟩ (fun H locs hP => ?_)
  refine lv_istore_n (lv' := [(3, .int x2), (2, .int x1), (0, .ref (ad 0)), (1, .int a1)]) hx hb dX4_scoreOf_12 rfl hl (by decide) rfl (fun ls hl => ?_)
  refine lv_iconst (v := 0) hx hb dX4_scoreOf_13 (by decide) ?_
  refine lv_istore (lv' := [(4, .int 0), (3, .int x2), (2, .int x1), (0, .ref (ad 0)), (1, .int a1)]) hx hb dX4_scoreOf_14 hl (by decide) rfl (fun ls hl => ?_)
  have hL16 : ∀ (n : Nat) (x3 : Int32) (x4 : Int32) (H : Heap) (locs : List Loc) (ls : Array Slot), lp (fun _ _ => none) (f_X4_scoreOf_L16_b σ a1 x1 ) n x3 x4 = some r → PS ev 13 ad (mw ev ad σ) (inA ad 13) s H locs → lv_has ls 5 [(0, .ref (ad 0)), (1, .int a1), (2, .int x1), (3, .int x3), (4, .int x4)] → WW ev p l e (rmk 7 161) s m args below meth c Qc ad 13 H locs 16 ls [] := by
    intro n
    induction n with
    | zero =>
      intro x3 x4 H locs ls h; exact k_none h
    | succ n ih =>
      intro x3 x4 H locs ls h hP hl
      have h : f_X4_scoreOf_L16_b σ a1 x1  (lp (fun _ _ => none) (f_X4_scoreOf_L16_b σ a1 x1 ) n) x3 x4 = some r := h
      have h := (f_X4_scoreOf_L16_b.eq_1 _ _ _ _ _ _ ).symm.trans h
      refine lv_iload hx hb dX4_scoreOf_16 (lv_at hl 4 rfl) ?_
      refine lv_aload_n hx hb dX4_scoreOf_18 rfl (lv_at hl 0 rfl) ?_
      refine r_get C hP (ci := 4) rfl uin_X4 0 (by decide) 0 (by decide) rfl qFL_RX4_67 rfl rfl dX4_scoreOf_19 ?_
      refine lv_aload_n hx hb dX4_scoreOf_22 rfl (lv_at hl 0 rfl) ?_
      refine r_get C hP (ci := 4) rfl uin_X4 1 (by decide) 0 (by decide) rfl qFL_RX4_70 rfl rfl dX4_scoreOf_23 ?_
      refine lv_imul hx hb dX4_scoreOf_26 ?_
      refine lv_icmp_ge (tgt := 50) hx hb dX4_scoreOf_27 (by decide) (fun c27 => ?_) (fun c27 => ?_)
      · have h := k_if c27 h
        refine lv_iload_n hx hb dX4_scoreOf_50 rfl (lv_at hl 3 rfl) ?_
        exact e_iret C hend hP (k_some h) rfl dX4_scoreOf_51
      · have h := k_nf c27 h
        refine lv_aload_n hx hb dX4_scoreOf_30 rfl (lv_at hl 0 rfl) ?_
        refine lv_iload hx hb dX4_scoreOf_31 (lv_at hl 4 rfl) ?_
        refine lv_iload_n hx hb dX4_scoreOf_33 rfl (lv_at hl 2 rfl) ?_
        obtain ⟨x5, h1, h⟩ := k_ob h
        refine k_callVi C hP hap hAA (c_X4_colour l ev ad σ x4 x1   _ h1) Emb.same hap gz_X4_colour qML_RX4_202 qIM_yX4_colour qSE_yX4_colour ⟨(Nat.le_of_ble_eq_true rfl), (Nat.le_of_ble_eq_true rfl)⟩ (q0 := 0) rfl (by decide) rfl rfl rfl rfl hl.1 rfl (Nat.le_of_ble_eq_true rfl) dX4_scoreOf_34 ⟨Nat.le_refl _, Nat.le_refl _⟩ (fun H locs hP => ?_)
        refine lv_iload_n hx hb dX4_scoreOf_37 rfl (lv_at hl 1 rfl) ?_
        refine lv_icmp_ne (tgt := 44) hx hb dX4_scoreOf_38 (by decide) (fun c38 => ?_) (fun c38 => ?_)
        · have h := k_nf c38 h
          obtain ⟨x6, ex6, h⟩ := k_ltx h
          refine lv_iinc (v := x6) (lv' := [(4, .int x6), (0, .ref (ad 0)), (1, .int a1), (2, .int x1), (3, .int x3)]) hx hb dX4_scoreOf_44 hl (k := 4) rfl (by rw [ex6]; rfl) (by decide) rfl (fun ls hl => ?_)
          refine lv_goto (tgt := 16) hx hb dX4_scoreOf_47 (by decide) ?_
          exact ih _ _ _ _ _ h hP (lv_sub hl [1, 2, 3, 4, 0] rfl)
        · have h := k_if c38 h
          obtain ⟨x7, ex7, h⟩ := k_ltx h
          refine lv_iinc (v := x7) (lv' := [(3, .int x7), (0, .ref (ad 0)), (1, .int a1), (2, .int x1), (4, .int x4)]) hx hb dX4_scoreOf_41 hl (k := 3) rfl (by rw [ex7]; rfl) (by decide) rfl (fun ls hl => ?_)
          obtain ⟨x8, ex8, h⟩ := k_ltx h
          refine lv_iinc (v := x8) (lv' := [(4, .int x8), (3, .int x7), (0, .ref (ad 0)), (1, .int a1), (2, .int x1)]) hx hb dX4_scoreOf_44 hl (k := 4) rfl (by rw [ex8]; rfl) (by decide) rfl (fun ls hl => ?_)
          refine lv_goto (tgt := 16) hx hb dX4_scoreOf_47 (by decide) ?_
          exact ih _ _ _ _ _ h hP (lv_sub hl [2, 3, 4, 1, 0] rfl)
  exact hL16 FU _ _ _ _ _ h hP (lv_sub hl [3, 4, 2, 1, 0] rfl)
def f_X4_leadOf (σ : MM) (a1 : Int32) : Option (Int32) :=
  ob (f_X4_scoreOf σ a1) (fun x1 => ob (f_X4_scoreOf σ (1 - a1)) (fun x2 => some (x1 - x2)))
set_option maxHeartbeats 4000000 in
set_option maxRecDepth 100000 in
theorem c_X4_leadOf (l : Launch) (ev : EV) (ad : Nat → Nat) (σ : MM) (a1 : Int32)   (r : Int32)  (h : f_X4_leadOf σ a1 = some r) : Ct l yX4_leadOf prog_6_method_57_code 2 (Option.some Jvm.ClassFile.FieldType.int) (rmk 8 185) ev 13 ad (mw ev ad σ) (mw ev ad σ) [.ref (ad 0), .int a1] (some (.int r)) := by
  refine Ct.of (by decide +kernel) (Nat.le_of_ble_eq_true rfl) ?_
  intro p e s m args below meth c Qc C hap hP hend ls hl
  have hAA : ∀ j, j < 13 → inA ad 13 (ad j) := fun j hj => ⟨j, hj, rfl⟩
  have hx := C.1
  have hb := C.2.1
  have hl : lv_has ls 2 [(0, .ref (ad 0)), (1, .int a1)] := hl
  have h := (f_X4_leadOf.eq_1 _ _ ).symm.trans h
  refine lv_aload_n hx hb dX4_leadOf_0 rfl (lv_at hl 0 rfl) ?_
  refine lv_iload_n hx hb dX4_leadOf_1 rfl (lv_at hl 1 rfl) ?_
  obtain ⟨x1, h1, h⟩ := k_ob h
  refine k_callVi C hP hap hAA (c_X4_scoreOf l ev ad σ a1   _ h1) Emb.same hap gz_X4_scoreOf qML_RX4_223 qIM_yX4_scoreOf qSE_yX4_scoreOf ⟨(Nat.le_of_ble_eq_true rfl), (Nat.le_of_ble_eq_true rfl)⟩ (q0 := 0) rfl (by decide) rfl rfl rfl rfl hl.1 rfl (Nat.le_of_ble_eq_true rfl) dX4_leadOf_2 ⟨Nat.le_refl _, Nat.le_refl _⟩ (fun H locs hP => ?_)
  refine lv_aload_n hx hb dX4_leadOf_5 rfl (lv_at hl 0 rfl) ?_
  refine lv_iconst (v := 1) hx hb dX4_leadOf_6 (by decide) ?_
  refine lv_iload_n hx hb dX4_leadOf_7 rfl (lv_at hl 1 rfl) ?_
  refine lv_isub hx hb dX4_leadOf_8 ?_
  obtain ⟨x2, h1, h⟩ := k_ob h
  refine k_callVi C hP hap hAA (c_X4_scoreOf l ev ad σ (1 - a1)   _ h1) Emb.same hap gz_X4_scoreOf qML_RX4_223 qIM_yX4_scoreOf qSE_yX4_scoreOf ⟨(Nat.le_of_ble_eq_true rfl), (Nat.le_of_ble_eq_true rfl)⟩ (q0 := 0) rfl (by decide) rfl rfl rfl rfl hl.1 rfl (Nat.le_of_ble_eq_true rfl) dX4_leadOf_9 ⟨Nat.le_refl _, Nat.le_refl _⟩ (fun H locs hP => ?_)
  refine lv_isub hx hb dX4_leadOf_12 ?_
  exact e_iret C hend hP (k_some h) rfl dX4_leadOf_13
def f_X4_score (σ : MM) (a1 : Int32) : Option (Int32 × MM) :=
  if (f_X4_within a1 0 1) = true then ob (f_X4_scoreOf σ a1) (fun x3 => some (x3, σ)) else ob2 (f_X4_no σ (-2)) (fun x2 σ1 => some (x2, σ1))
set_option maxHeartbeats 4000000 in
set_option maxRecDepth 100000 in
theorem c_X4_score (l : Launch) (ev : EV) (ad : Nat → Nat) (σ : MM) (a1 : Int32)   (r : Int32) (σ' : MM) (h : f_X4_score σ a1 = some (r, σ')) : Ct l yX4_score prog_6_method_58_code 2 (Option.some Jvm.ClassFile.FieldType.int) (rmk 8 185) ev 13 ad (mw ev ad σ) (mw ev ad σ') [.ref (ad 0), .int a1] (some (.int r)) := by
  refine Ct.of (by decide +kernel) (Nat.le_of_ble_eq_true rfl) ?_
  intro p e s m args below meth c Qc C hap hP hend ls hl
  have hAA : ∀ j, j < 13 → inA ad 13 (ad j) := fun j hj => ⟨j, hj, rfl⟩
  have hx := C.1
  have hb := C.2.1
  have hl : lv_has ls 2 [(0, .ref (ad 0)), (1, .int a1)] := hl
  have h := (f_X4_score.eq_1 _ _ ).symm.trans h
  refine lv_iload_n hx hb dX4_score_0 rfl (lv_at hl 1 rfl) ?_
  refine lv_iconst (v := 0) hx hb dX4_score_1 (by decide) ?_
  refine lv_iconst (v := 1) hx hb dX4_score_2 (by decide) ?_
  refine k_callSi C hP hap hAA (c_X4_within l ev ad a1 0 1   _ rfl) Emb.none (apart_0 _) gz_X4_within qML_RX4_63 qSM_yX4_within ⟨(Nat.le_of_ble_eq_true rfl), (Nat.le_of_ble_eq_true rfl)⟩ rfl hl.1 rfl (Nat.le_of_ble_eq_true rfl) dX4_score_3 ⟨Nat.le_refl _, Nat.le_refl _⟩ (fun H locs hP => ?_)
  refine r_ifz_eq (tgt := 17) hx hb dX4_score_6 (by decide) (fun c6 => ?_) (fun c6 => ?_)
  · have h := k_nf c6 h
    refine lv_aload_n hx hb dX4_score_17 rfl (lv_at hl 0 rfl) ?_
    refine lv_bipush (v := (-2)) hx hb dX4_score_18 (by decide) ?_
    obtain ⟨x2, σ1, h1, h⟩ := k_ob2 h
    refine k_callVi C hP hap hAA (c_X4_no l ev ad σ (-2)   _ _ h1) Emb.same hap gz_X4_no qML_RX4_56 qIM_yX4_no qSE_yX4_no ⟨(Nat.le_of_ble_eq_true rfl), (Nat.le_of_ble_eq_true rfl)⟩ (q0 := 0) rfl (by decide) rfl rfl rfl rfl hl.1 rfl (Nat.le_of_ble_eq_true rfl) dX4_score_20 ⟨Nat.le_refl _, Nat.le_refl _⟩ (fun H locs hP => ?_)
    exact e_iret C hend hP (k_some2 h).1 (congrArg (mw ev ad) (k_some2 h).2) dX4_score_23
  · have h := k_if c6 h
    refine lv_aload_n hx hb dX4_score_9 rfl (lv_at hl 0 rfl) ?_
    refine lv_iload_n hx hb dX4_score_10 rfl (lv_at hl 1 rfl) ?_
    obtain ⟨x3, h1, h⟩ := k_ob h
    refine k_callVi C hP hap hAA (c_X4_scoreOf l ev ad σ a1   _ h1) Emb.same hap gz_X4_scoreOf qML_RX4_223 qIM_yX4_scoreOf qSE_yX4_scoreOf ⟨(Nat.le_of_ble_eq_true rfl), (Nat.le_of_ble_eq_true rfl)⟩ (q0 := 0) rfl (by decide) rfl rfl rfl rfl hl.1 rfl (Nat.le_of_ble_eq_true rfl) dX4_score_11 ⟨Nat.le_refl _, Nat.le_refl _⟩ (fun H locs hP => ?_)
    refine lv_goto (tgt := 23) hx hb dX4_score_14 (by decide) ?_
    exact e_iret C hend hP (k_some2 h).1 (congrArg (mw ev ad) (k_some2 h).2) dX4_score_23
def f_X4_lead (σ : MM) (a1 : Int32) : Option (Int32 × MM) :=
  if (f_X4_within a1 0 1) = true then ob (f_X4_leadOf σ a1) (fun x3 => some (x3, σ)) else ob2 (f_X4_noLead σ (-2)) (fun x2 σ1 => some (x2, σ1))
set_option maxHeartbeats 4000000 in
set_option maxRecDepth 100000 in
theorem c_X4_lead (l : Launch) (ev : EV) (ad : Nat → Nat) (σ : MM) (a1 : Int32)   (r : Int32) (σ' : MM) (h : f_X4_lead σ a1 = some (r, σ')) : Ct l yX4_lead prog_6_method_59_code 2 (Option.some Jvm.ClassFile.FieldType.int) (rmk 9 206) ev 13 ad (mw ev ad σ) (mw ev ad σ') [.ref (ad 0), .int a1] (some (.int r)) := by
  refine Ct.of (by decide +kernel) (Nat.le_of_ble_eq_true rfl) ?_
  intro p e s m args below meth c Qc C hap hP hend ls hl
  have hAA : ∀ j, j < 13 → inA ad 13 (ad j) := fun j hj => ⟨j, hj, rfl⟩
  have hx := C.1
  have hb := C.2.1
  have hl : lv_has ls 2 [(0, .ref (ad 0)), (1, .int a1)] := hl
  have h := (f_X4_lead.eq_1 _ _ ).symm.trans h
  refine lv_iload_n hx hb dX4_lead_0 rfl (lv_at hl 1 rfl) ?_
  refine lv_iconst (v := 0) hx hb dX4_lead_1 (by decide) ?_
  refine lv_iconst (v := 1) hx hb dX4_lead_2 (by decide) ?_
  refine k_callSi C hP hap hAA (c_X4_within l ev ad a1 0 1   _ rfl) Emb.none (apart_0 _) gz_X4_within qML_RX4_63 qSM_yX4_within ⟨(Nat.le_of_ble_eq_true rfl), (Nat.le_of_ble_eq_true rfl)⟩ rfl hl.1 rfl (Nat.le_of_ble_eq_true rfl) dX4_lead_3 ⟨Nat.le_refl _, Nat.le_refl _⟩ (fun H locs hP => ?_)
  refine r_ifz_eq (tgt := 17) hx hb dX4_lead_6 (by decide) (fun c6 => ?_) (fun c6 => ?_)
  · have h := k_nf c6 h
    refine lv_aload_n hx hb dX4_lead_17 rfl (lv_at hl 0 rfl) ?_
    refine lv_bipush (v := (-2)) hx hb dX4_lead_18 (by decide) ?_
    obtain ⟨x2, σ1, h1, h⟩ := k_ob2 h
    refine k_callVi C hP hap hAA (c_X4_noLead l ev ad σ (-2)   _ _ h1) Emb.same hap gz_X4_noLead qML_RX4_229 qIM_yX4_noLead qSE_yX4_noLead ⟨(Nat.le_of_ble_eq_true rfl), (Nat.le_of_ble_eq_true rfl)⟩ (q0 := 0) rfl (by decide) rfl rfl rfl rfl hl.1 rfl (Nat.le_of_ble_eq_true rfl) dX4_lead_20 ⟨Nat.le_refl _, Nat.le_refl _⟩ (fun H locs hP => ?_)
    exact e_iret C hend hP (k_some2 h).1 (congrArg (mw ev ad) (k_some2 h).2) dX4_lead_23
  · have h := k_if c6 h
    refine lv_aload_n hx hb dX4_lead_9 rfl (lv_at hl 0 rfl) ?_
    refine lv_iload_n hx hb dX4_lead_10 rfl (lv_at hl 1 rfl) ?_
    obtain ⟨x3, h1, h⟩ := k_ob h
    refine k_callVi C hP hap hAA (c_X4_leadOf l ev ad σ a1   _ h1) Emb.same hap gz_X4_leadOf qML_RX4_226 qIM_yX4_leadOf qSE_yX4_leadOf ⟨(Nat.le_of_ble_eq_true rfl), (Nat.le_of_ble_eq_true rfl)⟩ (q0 := 0) rfl (by decide) rfl rfl rfl rfl hl.1 rfl (Nat.le_of_ble_eq_true rfl) dX4_lead_11 ⟨Nat.le_refl _, Nat.le_refl _⟩ (fun H locs hP => ?_)
    refine lv_goto (tgt := 23) hx hb dX4_lead_14 (by decide) ?_
    exact e_iret C hend hP (k_some2 h).1 (congrArg (mw ev ad) (k_some2 h).2) dX4_lead_23
def f_X4_lanes (σ : MM) (a1 : Int32) : Option (Int32 × MM) :=
  if (f_X4_within a1 0 1) = true then ob (f_X4_lanesOf σ a1) (fun x3 => some (x3, σ)) else ob2 (f_X4_no σ (-2)) (fun x2 σ1 => some (x2, σ1))
set_option maxHeartbeats 4000000 in
set_option maxRecDepth 100000 in
theorem c_X4_lanes (l : Launch) (ev : EV) (ad : Nat → Nat) (σ : MM) (a1 : Int32)   (r : Int32) (σ' : MM) (h : f_X4_lanes σ a1 = some (r, σ')) : Ct l yX4_lanes prog_6_method_60_code 2 (Option.some Jvm.ClassFile.FieldType.int) (rmk 7 161) ev 13 ad (mw ev ad σ) (mw ev ad σ') [.ref (ad 0), .int a1] (some (.int r)) := by
  refine Ct.of (by decide +kernel) (Nat.le_of_ble_eq_true rfl) ?_
  intro p e s m args below meth c Qc C hap hP hend ls hl
  have hAA : ∀ j, j < 13 → inA ad 13 (ad j) := fun j hj => ⟨j, hj, rfl⟩
  have hx := C.1
  have hb := C.2.1
  have hl : lv_has ls 2 [(0, .ref (ad 0)), (1, .int a1)] := hl
  have h := (f_X4_lanes.eq_1 _ _ ).symm.trans h
  refine lv_iload_n hx hb dX4_lanes_0 rfl (lv_at hl 1 rfl) ?_
  refine lv_iconst (v := 0) hx hb dX4_lanes_1 (by decide) ?_
  refine lv_iconst (v := 1) hx hb dX4_lanes_2 (by decide) ?_
  refine k_callSi C hP hap hAA (c_X4_within l ev ad a1 0 1   _ rfl) Emb.none (apart_0 _) gz_X4_within qML_RX4_63 qSM_yX4_within ⟨(Nat.le_of_ble_eq_true rfl), (Nat.le_of_ble_eq_true rfl)⟩ rfl hl.1 rfl (Nat.le_of_ble_eq_true rfl) dX4_lanes_3 ⟨Nat.le_refl _, Nat.le_refl _⟩ (fun H locs hP => ?_)
  refine r_ifz_eq (tgt := 17) hx hb dX4_lanes_6 (by decide) (fun c6 => ?_) (fun c6 => ?_)
  · have h := k_nf c6 h
    refine lv_aload_n hx hb dX4_lanes_17 rfl (lv_at hl 0 rfl) ?_
    refine lv_bipush (v := (-2)) hx hb dX4_lanes_18 (by decide) ?_
    obtain ⟨x2, σ1, h1, h⟩ := k_ob2 h
    refine k_callVi C hP hap hAA (c_X4_no l ev ad σ (-2)   _ _ h1) Emb.same hap gz_X4_no qML_RX4_56 qIM_yX4_no qSE_yX4_no ⟨(Nat.le_of_ble_eq_true rfl), (Nat.le_of_ble_eq_true rfl)⟩ (q0 := 0) rfl (by decide) rfl rfl rfl rfl hl.1 rfl (Nat.le_of_ble_eq_true rfl) dX4_lanes_20 ⟨Nat.le_refl _, Nat.le_refl _⟩ (fun H locs hP => ?_)
    exact e_iret C hend hP (k_some2 h).1 (congrArg (mw ev ad) (k_some2 h).2) dX4_lanes_23
  · have h := k_if c6 h
    refine lv_aload_n hx hb dX4_lanes_9 rfl (lv_at hl 0 rfl) ?_
    refine lv_iload_n hx hb dX4_lanes_10 rfl (lv_at hl 1 rfl) ?_
    obtain ⟨x3, h1, h⟩ := k_ob h
    refine k_callVi C hP hap hAA (c_X4_lanesOf l ev ad σ a1   _ h1) Emb.same hap gz_X4_lanesOf qML_RX4_220 qIM_yX4_lanesOf qSE_yX4_lanesOf ⟨(Nat.le_of_ble_eq_true rfl), (Nat.le_of_ble_eq_true rfl)⟩ (q0 := 0) rfl (by decide) rfl rfl rfl rfl hl.1 rfl (Nat.le_of_ble_eq_true rfl) dX4_lanes_11 ⟨Nat.le_refl _, Nat.le_refl _⟩ (fun H locs hP => ?_)
    refine lv_goto (tgt := 23) hx hb dX4_lanes_14 (by decide) ?_
    exact e_iret C hend hP (k_some2 h).1 (congrArg (mw ev ad) (k_some2 h).2) dX4_lanes_23
def f_X4_ditch (σ : MM) (a1 : Int32) : Option (Int32 × MM) :=
  if (f_X4_isField σ a1) = true then gd (inb a1 16) (if ((m_dug σ) (Int32.toNatClampNeg a1)) = 0 then ob2 (f_X4_no σ (-5)) (fun x2 σ1 => some (x2, σ1)) else ob (f_X4_ditchOf σ a1) (fun x3 => some (x3, σ))) else ob2 (f_X4_no σ (-2)) (fun x5 σ4 => some (x5, σ4))
set_option maxHeartbeats 4000000 in
set_option maxRecDepth 100000 in
theorem c_X4_ditch (l : Launch) (ev : EV) (ad : Nat → Nat) (σ : MM) (a1 : Int32)   (r : Int32) (σ' : MM) (h : f_X4_ditch σ a1 = some (r, σ')) : Ct l yX4_ditch prog_6_method_61_code 2 (Option.some Jvm.ClassFile.FieldType.int) (rmk 5 115) ev 13 ad (mw ev ad σ) (mw ev ad σ') [.ref (ad 0), .int a1] (some (.int r)) := by
  refine Ct.of (by decide +kernel) (Nat.le_of_ble_eq_true rfl) ?_
  intro p e s m args below meth c Qc C hap hP hend ls hl
  have hAA : ∀ j, j < 13 → inA ad 13 (ad j) := fun j hj => ⟨j, hj, rfl⟩
  have hx := C.1
  have hb := C.2.1
  have hl : lv_has ls 2 [(0, .ref (ad 0)), (1, .int a1)] := hl
  have h := (f_X4_ditch.eq_1 _ _ ).symm.trans h
  refine lv_aload_n hx hb dX4_ditch_0 rfl (lv_at hl 0 rfl) ?_
  refine lv_iload_n hx hb dX4_ditch_1 rfl (lv_at hl 1 rfl) ?_
  refine k_callVi C hP hap hAA (c_X4_isField l ev ad σ a1   _ rfl) Emb.same hap gz_X4_isField qML_RX4_116 qIM_yX4_isField qSE_yX4_isField ⟨(Nat.le_of_ble_eq_true rfl), (Nat.le_of_ble_eq_true rfl)⟩ (q0 := 0) rfl (by decide) rfl rfl rfl rfl hl.1 rfl (Nat.le_of_ble_eq_true rfl) dX4_ditch_2 ⟨Nat.le_refl _, Nat.le_refl _⟩ (fun H locs hP => ?_)
  refine r_ifz_ne (tgt := 15) hx hb dX4_ditch_5 (by decide) (fun c5 => ?_) (fun c5 => ?_)
  · have h := k_if c5 h
    refine lv_aload_n hx hb dX4_ditch_15 rfl (lv_at hl 0 rfl) ?_
    refine r_get C hP (ci := 4) rfl uin_X4 3 (by decide) 0 (by decide) rfl qFL_RX4_13 rfl rfl dX4_ditch_16 ?_
    refine lv_iload_n hx hb dX4_ditch_19 rfl (lv_at hl 1 rfl) ?_
    obtain ⟨hg, h⟩ := k_gd h
    refine r_zald C hP 2 (by decide) rfl hg dX4_ditch_20 ?_
    refine lv_if_eq (tgt := 32) hx hb dX4_ditch_21 (by decide) (fun c21 => ?_) (fun c21 => ?_)
    · have h := k_if c21 h
      refine lv_aload_n hx hb dX4_ditch_32 rfl (lv_at hl 0 rfl) ?_
      refine lv_bipush (v := (-5)) hx hb dX4_ditch_33 (by decide) ?_
      obtain ⟨x2, σ1, h1, h⟩ := k_ob2 h
      refine k_callVi C hP hap hAA (c_X4_no l ev ad σ (-5)   _ _ h1) Emb.same hap gz_X4_no qML_RX4_56 qIM_yX4_no qSE_yX4_no ⟨(Nat.le_of_ble_eq_true rfl), (Nat.le_of_ble_eq_true rfl)⟩ (q0 := 0) rfl (by decide) rfl rfl rfl rfl hl.1 rfl (Nat.le_of_ble_eq_true rfl) dX4_ditch_35 ⟨Nat.le_refl _, Nat.le_refl _⟩ (fun H locs hP => ?_)
      exact e_iret C hend hP (k_some2 h).1 (congrArg (mw ev ad) (k_some2 h).2) dX4_ditch_38
    · have h := k_nf c21 h
      refine lv_aload_n hx hb dX4_ditch_24 rfl (lv_at hl 0 rfl) ?_
      refine lv_iload_n hx hb dX4_ditch_25 rfl (lv_at hl 1 rfl) ?_
      obtain ⟨x3, h1, h⟩ := k_ob h
      refine k_callVi C hP hap hAA (c_X4_ditchOf l ev ad σ a1   _ h1) Emb.same hap gz_X4_ditchOf qML_RX4_214 qIM_yX4_ditchOf qSE_yX4_ditchOf ⟨(Nat.le_of_ble_eq_true rfl), (Nat.le_of_ble_eq_true rfl)⟩ (q0 := 0) rfl (by decide) rfl rfl rfl rfl hl.1 rfl (Nat.le_of_ble_eq_true rfl) dX4_ditch_26 ⟨Nat.le_refl _, Nat.le_refl _⟩ (fun H locs hP => ?_)
      refine lv_goto (tgt := 38) hx hb dX4_ditch_29 (by decide) ?_
      exact e_iret C hend hP (k_some2 h).1 (congrArg (mw ev ad) (k_some2 h).2) dX4_ditch_38
  · have h := k_nf c5 h
    refine lv_aload_n hx hb dX4_ditch_8 rfl (lv_at hl 0 rfl) ?_
    refine lv_bipush (v := (-2)) hx hb dX4_ditch_9 (by decide) ?_
    obtain ⟨x5, σ4, h1, h⟩ := k_ob2 h
    refine k_callVi C hP hap hAA (c_X4_no l ev ad σ (-2)   _ _ h1) Emb.same hap gz_X4_no qML_RX4_56 qIM_yX4_no qSE_yX4_no ⟨(Nat.le_of_ble_eq_true rfl), (Nat.le_of_ble_eq_true rfl)⟩ (q0 := 0) rfl (by decide) rfl rfl rfl rfl hl.1 rfl (Nat.le_of_ble_eq_true rfl) dX4_ditch_11 ⟨Nat.le_refl _, Nat.le_refl _⟩ (fun H locs hP => ?_)
    exact e_iret C hend hP (k_some2 h).1 (congrArg (mw ev ad) (k_some2 h).2) dX4_ditch_14
def f_X4_drained (σ : MM) : Option (Int32) :=
  ob (f_X4_drains σ) (fun x1 => some x1)
set_option maxHeartbeats 4000000 in
set_option maxRecDepth 100000 in
theorem c_X4_drained (l : Launch) (ev : EV) (ad : Nat → Nat) (σ : MM)   (r : Int32)  (h : f_X4_drained σ = some r) : Ct l yX4_drained prog_6_method_62_code 1 (Option.some Jvm.ClassFile.FieldType.int) (rmk 6 137) ev 13 ad (mw ev ad σ) (mw ev ad σ) [.ref (ad 0)] (some (.int r)) := by
  refine Ct.of (by decide +kernel) (Nat.le_of_ble_eq_true rfl) ?_
  intro p e s m args below meth c Qc C hap hP hend ls hl
  have hAA : ∀ j, j < 13 → inA ad 13 (ad j) := fun j hj => ⟨j, hj, rfl⟩
  have hx := C.1
  have hb := C.2.1
  have hl : lv_has ls 1 [(0, .ref (ad 0))] := hl
  have h := (f_X4_drained.eq_1 _ ).symm.trans h
  refine lv_aload_n hx hb dX4_drained_0 rfl (lv_at hl 0 rfl) ?_
  obtain ⟨x1, h1, h⟩ := k_ob h
  refine k_callVi C hP hap hAA (c_X4_drains l ev ad σ   _ h1) Emb.same hap gz_X4_drains qML_RX4_199 qIM_yX4_drains qSE_yX4_drains ⟨(Nat.le_of_ble_eq_true rfl), (Nat.le_of_ble_eq_true rfl)⟩ (q0 := 0) rfl (by decide) rfl rfl rfl rfl hl.1 rfl (Nat.le_of_ble_eq_true rfl) dX4_drained_1 ⟨Nat.le_refl _, Nat.le_refl _⟩ (fun H locs hP => ?_)
  exact e_iret C hend hP (k_some h) rfl dX4_drained_4
def f_X4_chainOf_L29_b (x3 : Int32) (σ4 : MM) (k50 : Int32 → Option (Int32 × MM)) (rec29 : Int32 → Option (Int32 × MM)) (x6 : Int32) : Option (Int32 × MM) :=
  ob (f_X4_edge σ4 x3 x6) (fun x7 => gd (inb x7 40) (if ((m_hedge σ4) (Int32.toNatClampNeg x7)) = 0 then k50 x6 else lt (x6 + 1) (fun x8 => rec29 x8)))
def f_X4_chainOf_L29 (x3 : Int32) (σ4 : MM) (k50 : Int32 → Option (Int32 × MM)) (x6 : Int32) : Option (Int32 × MM) :=
  lp (fun _ => none) (f_X4_chainOf_L29_b x3 σ4 k50) FU x6
def f_X4_chainOf_L12_b  (k81 : Int32 → MM → Option (Int32 × MM)) (rec12 : Int32 → Int32 → MM → Option (Int32 × MM)) (x2 : Int32) (x3 : Int32) (σ4 : MM) : Option (Int32 × MM) :=
  if x3 = (-1) then k81 x2 σ4 else ob (f_X4_hedges σ4 x3) (fun x5 => if x5 = 3 then f_X4_chainOf_L29 x3 σ4 (fun x10 => ob (f_X4_beside σ4 x3 x10) (fun x11 => ob (f_X4_edge σ4 x3 x10) (fun x12 => gd (inb x12 40) (lt (m_hedge' σ4 (upd (m_hedge σ4) (Int32.toNatClampNeg x12) (vp_nar .boolean 1))) (fun σ13 => lt (x2 + 1) (fun x14 => rec12 x14 x11 σ13)))))) 0 else k81 x2 σ4)
def f_X4_chainOf_L12  (k81 : Int32 → MM → Option (Int32 × MM)) (x2 : Int32) (x3 : Int32) (σ4 : MM) : Option (Int32 × MM) :=
  lp (fun _ _ _ => none) (f_X4_chainOf_L12_b  k81) FU x2 x3 σ4
def f_X4_chainOf (σ : MM) (a1 : Int32) : Option (Int32 × MM) :=
  ob (f_X4_keep_ahead σ) (fun σ1 => f_X4_chainOf_L12 (fun x16 σ17 => ob (f_X4_again_ahead σ17) (fun σ18 => some (x16, σ18))) 0 a1 σ1)
set_option maxHeartbeats 4000000 in
set_option maxRecDepth 100000 in
theorem c_X4_chainOf (l : Launch) (ev : EV) (ad : Nat → Nat) (σ : MM) (a1 : Int32)   (r : Int32) (σ' : MM) (h : f_X4_chainOf σ a1 = some (r, σ')) : Ct l yX4_chainOf prog_6_method_65_code 6 (Option.some Jvm.ClassFile.FieldType.int) (rmk 4 89) ev 13 ad (mw ev ad σ) (mw ev ad σ') [.ref (ad 0), .int a1] (some (.int r)) := by
  refine Ct.of (by decide +kernel) (Nat.le_of_ble_eq_true rfl) ?_
  intro p e s m args below meth c Qc C hap hP hend ls hl
  have hAA : ∀ j, j < 13 → inA ad 13 (ad j) := fun j hj => ⟨j, hj, rfl⟩
  have hx := C.1
  have hb := C.2.1
  have hl : lv_has ls 6 [(0, .ref (ad 0)), (1, .int a1)] := hl
  have h := (f_X4_chainOf.eq_1 _ _ ).symm.trans h
  refine lv_aload_n hx hb dX4_chainOf_0 rfl (lv_at hl 0 rfl) ?_
  refine lv_aload_n hx hb dX4_chainOf_1 rfl (lv_at hl 0 rfl) ?_
  refine r_get C hP (ci := 4) rfl uin_X4 23 (by decide) 0 (by decide) rfl qFL_RX4_45 rfl rfl dX4_chainOf_2 ?_
  obtain ⟨σ1, h1, h⟩ := k_ob h
  refine k_callVv C hP hap hAA (c_X4_keep_ahead l ev ad σ   _ h1) Emb.same hap gz_X4_keep qML_RX4_185 qIM_yX4_keep qSE_yX4_keep ⟨(Nat.le_of_ble_eq_true rfl), (Nat.le_of_ble_eq_true rfl)⟩ (q0 := 0) rfl (by decide) rfl rfl rfl rfl hl.1 rfl (Nat.le_of_ble_eq_true rfl) dX4_chainOf_5 ⟨Nat.le_refl _, Nat.le_refl _⟩ (fun H locs hP => ?_)
  refine lv_iconst (v := 0) hx hb dX4_chainOf_8 (by decide) ?_
  refine lv_istore_n (lv' := [(2, .int 0), (0, .ref (ad 0)), (1, .int a1)]) hx hb dX4_chainOf_9 rfl hl (by decide) rfl (fun ls hl => ?_)
  refine lv_iload_n hx hb dX4_chainOf_10 rfl (lv_at hl 2 rfl) ?_
  refine lv_istore_n (lv' := [(3, .int a1), (2, .int 0), (0, .ref (ad 0)), (1, .int a1)]) hx hb dX4_chainOf_11 rfl hl (by decide) rfl (fun ls hl => ?_)
  have hL12 : ∀ (k81 : Int32 → MM → Option (Int32 × MM)) (hk81 : ∀ (z15 : Int32) (σk : MM) (H : Heap) (locs : List Loc) (ls : Array Slot), k81 z15 σk = some (r, σ') → PS ev 13 ad (mw ev ad σk) (inA ad 13) s H locs → lv_has ls 6 [(0, .ref (ad 0)), (2, .int z15)] → WW ev p l e (rmk 4 89) s m args below meth c Qc ad 13 H locs 81 ls []) (n : Nat) (x2 : Int32) (x3 : Int32) (σ4 : MM) (H : Heap) (locs : List Loc) (ls : Array Slot), lp (fun _ _ _ => none) (f_X4_chainOf_L12_b  k81) n x2 x3 σ4 = some (r, σ') → PS ev 13 ad (mw ev ad σ4) (inA ad 13) s H locs → lv_has ls 6 [(0, .ref (ad 0)), (2, .int x2), (3, .int x3)] → WW ev p l e (rmk 4 89) s m args below meth c Qc ad 13 H locs 12 ls [] := by
    intro k81 hk81 n
    induction n with
    | zero =>
      intro x2 x3 σ4 H locs ls h; exact k_none h
    | succ n ih =>
      intro x2 x3 σ4 H locs ls h hP hl
      have h : f_X4_chainOf_L12_b  k81 (lp (fun _ _ _ => none) (f_X4_chainOf_L12_b  k81) n) x2 x3 σ4 = some (r, σ') := h
      have h := (f_X4_chainOf_L12_b.eq_1 _ _ _ _ _ ).symm.trans h
      refine lv_iload_n hx hb dX4_chainOf_12 rfl (lv_at hl 2 rfl) ?_
      refine lv_iconst (v := (-1)) hx hb dX4_chainOf_13 (by decide) ?_
      refine lv_icmp_eq (tgt := 81) hx hb dX4_chainOf_14 (by decide) (fun c14 => ?_) (fun c14 => ?_)
      · have h := k_if c14 h
        exact hk81 _ _ _ _ _ h hP (lv_sub hl [0, 1] rfl)
      · have h := k_nf c14 h
        refine lv_aload_n hx hb dX4_chainOf_17 rfl (lv_at hl 0 rfl) ?_
        refine lv_iload_n hx hb dX4_chainOf_18 rfl (lv_at hl 2 rfl) ?_
        obtain ⟨x5, h1, h⟩ := k_ob h
        refine k_callVi C hP hap hAA (c_X4_hedges l ev ad σ4 x3   _ h1) Emb.same hap gz_X4_hedges qML_RX4_196 qIM_yX4_hedges qSE_yX4_hedges ⟨(Nat.le_of_ble_eq_true rfl), (Nat.le_of_ble_eq_true rfl)⟩ (q0 := 0) rfl (by decide) rfl rfl rfl rfl hl.1 rfl (Nat.le_of_ble_eq_true rfl) dX4_chainOf_19 ⟨Nat.le_refl _, Nat.le_refl _⟩ (fun H locs hP => ?_)
        refine lv_iconst (v := 3) hx hb dX4_chainOf_22 (by decide) ?_
        refine lv_icmp_ne (tgt := 81) hx hb dX4_chainOf_23 (by decide) (fun c23 => ?_) (fun c23 => ?_)
        · have h := k_nf c23 h
          exact hk81 _ _ _ _ _ h hP (lv_sub hl [0, 1] rfl)
        · have h := k_if c23 h
          refine lv_iconst (v := 0) hx hb dX4_chainOf_26 (by decide) ?_
          refine lv_istore (lv' := [(4, .int 0), (0, .ref (ad 0)), (2, .int x2), (3, .int x3)]) hx hb dX4_chainOf_27 hl (by decide) rfl (fun ls hl => ?_)
          have hL29 : ∀ (k50 : Int32 → Option (Int32 × MM)) (hk50 : ∀ (z9 : Int32) (H : Heap) (locs : List Loc) (ls : Array Slot), k50 z9 = some (r, σ') → PS ev 13 ad (mw ev ad σ4) (inA ad 13) s H locs → lv_has ls 6 [(0, .ref (ad 0)), (2, .int x2), (3, .int x3), (4, .int z9)] → WW ev p l e (rmk 4 89) s m args below meth c Qc ad 13 H locs 50 ls []) (n : Nat) (x6 : Int32) (H : Heap) (locs : List Loc) (ls : Array Slot), lp (fun _ => none) (f_X4_chainOf_L29_b x3 σ4 k50) n x6 = some (r, σ') → PS ev 13 ad (mw ev ad σ4) (inA ad 13) s H locs → lv_has ls 6 [(0, .ref (ad 0)), (2, .int x2), (3, .int x3), (4, .int x6)] → WW ev p l e (rmk 4 89) s m args below meth c Qc ad 13 H locs 29 ls [] := by
            intro k50 hk50 n
            induction n with
            | zero =>
              intro x6 H locs ls h; exact k_none h
            | succ n ih =>
              intro x6 H locs ls h hP hl
              have h : f_X4_chainOf_L29_b x3 σ4 k50 (lp (fun _ => none) (f_X4_chainOf_L29_b x3 σ4 k50) n) x6 = some (r, σ') := h
              have h := (f_X4_chainOf_L29_b.eq_1 _ _ _ _ _ ).symm.trans h
              refine lv_aload_n hx hb dX4_chainOf_29 rfl (lv_at hl 0 rfl) ?_
              refine r_get C hP (ci := 4) rfl uin_X4 2 (by decide) 0 (by decide) rfl qFL_RX4_7 rfl rfl dX4_chainOf_30 ?_
              refine lv_aload_n hx hb dX4_chainOf_33 rfl (lv_at hl 0 rfl) ?_
              refine lv_iload_n hx hb dX4_chainOf_34 rfl (lv_at hl 2 rfl) ?_
              refine lv_iload hx hb dX4_chainOf_35 (lv_at hl 3 rfl) ?_
              obtain ⟨x7, h1, h⟩ := k_ob h
              refine k_callVi C hP hap hAA (c_X4_edge l ev ad σ4 x3 x6   _ h1) Emb.same hap gz_X4_edge qML_RX4_122 qIM_yX4_edge qSE_yX4_edge ⟨(Nat.le_of_ble_eq_true rfl), (Nat.le_of_ble_eq_true rfl)⟩ (q0 := 0) rfl (by decide) rfl rfl rfl rfl hl.1 rfl (Nat.le_of_ble_eq_true rfl) dX4_chainOf_37 ⟨Nat.le_refl _, Nat.le_refl _⟩ (fun H locs hP => ?_)
              obtain ⟨hg, h⟩ := k_gd h
              refine r_zald C hP 1 (by decide) rfl hg dX4_chainOf_40 ?_
              refine lv_if_eq (tgt := 50) hx hb dX4_chainOf_41 (by decide) (fun c41 => ?_) (fun c41 => ?_)
              · have h := k_if c41 h
                exact hk50 _ _ _ _ h hP (lv_sub hl [0, 1, 2, 3] rfl)
              · have h := k_nf c41 h
                obtain ⟨x8, ex8, h⟩ := k_ltx h
                refine lv_iinc (v := x8) (lv' := [(4, .int x8), (0, .ref (ad 0)), (2, .int x2), (3, .int x3)]) hx hb dX4_chainOf_44 hl (k := 3) rfl (by rw [ex8]; rfl) (by decide) rfl (fun ls hl => ?_)
                refine lv_goto (tgt := 29) hx hb dX4_chainOf_47 (by decide) ?_
                exact ih _ _ _ _ h hP (lv_sub hl [1, 2, 3, 0] rfl)
          refine hL29 _ (fun x10 H locs ls h hP hl => ?_) FU _ _ _ _ h hP (lv_sub hl [1, 2, 3, 0] rfl)
          refine lv_aload_n hx hb dX4_chainOf_50 rfl (lv_at hl 0 rfl) ?_
          refine lv_iload_n hx hb dX4_chainOf_51 rfl (lv_at hl 2 rfl) ?_
          refine lv_iload hx hb dX4_chainOf_52 (lv_at hl 3 rfl) ?_
          obtain ⟨x11, h1, h⟩ := k_ob h
          refine k_callVi C hP hap hAA (c_X4_beside l ev ad σ4 x3 x10   _ h1) Emb.same hap gz_X4_beside qML_RX4_211 qIM_yX4_beside qSE_yX4_beside ⟨(Nat.le_of_ble_eq_true rfl), (Nat.le_of_ble_eq_true rfl)⟩ (q0 := 0) rfl (by decide) rfl rfl rfl rfl hl.1 rfl (Nat.le_of_ble_eq_true rfl) dX4_chainOf_54 ⟨Nat.le_refl _, Nat.le_refl _⟩ (fun H locs hP => ?_)
          refine lv_istore (lv' := [(5, .int x11), (0, .ref (ad 0)), (2, .int x2), (3, .int x3), (4, .int x10)]) hx hb dX4_chainOf_57 hl (by decide) rfl (fun ls hl => ?_)
          refine lv_aload_n hx hb dX4_chainOf_59 rfl (lv_at hl 1 rfl) ?_
          refine r_get C hP (ci := 4) rfl uin_X4 2 (by decide) 0 (by decide) rfl qFL_RX4_7 rfl rfl dX4_chainOf_60 ?_
          refine lv_aload_n hx hb dX4_chainOf_63 rfl (lv_at hl 1 rfl) ?_
          refine lv_iload_n hx hb dX4_chainOf_64 rfl (lv_at hl 3 rfl) ?_
          refine lv_iload hx hb dX4_chainOf_65 (lv_at hl 4 rfl) ?_
          obtain ⟨x12, h1, h⟩ := k_ob h
          refine k_callVi C hP hap hAA (c_X4_edge l ev ad σ4 x3 x10   _ h1) Emb.same hap gz_X4_edge qML_RX4_122 qIM_yX4_edge qSE_yX4_edge ⟨(Nat.le_of_ble_eq_true rfl), (Nat.le_of_ble_eq_true rfl)⟩ (q0 := 0) rfl (by decide) rfl rfl rfl rfl hl.1 rfl (Nat.le_of_ble_eq_true rfl) dX4_chainOf_67 ⟨Nat.le_refl _, Nat.le_refl _⟩ (fun H locs hP => ?_)
          refine lv_iconst (v := 1) hx hb dX4_chainOf_70 (by decide) ?_
          obtain ⟨hg, h⟩ := k_gd h
          obtain ⟨σ13, eσ13, h⟩ := k_ltx h
          refine st_M_hedge C hP hap hAA eσ13 hg dX4_chainOf_71 (fun H locs hP => ?_)
          obtain ⟨x14, ex14, h⟩ := k_ltx h
          refine lv_iinc (v := x14) (lv' := [(2, .int x14), (5, .int x11), (0, .ref (ad 0)), (3, .int x3), (4, .int x10)]) hx hb dX4_chainOf_72 hl (k := 2) rfl (by rw [ex14]; rfl) (by decide) rfl (fun ls hl => ?_)
          refine lv_iload hx hb dX4_chainOf_75 (lv_at hl 1 rfl) ?_
          refine lv_istore_n (lv' := [(3, .int x11), (2, .int x14), (5, .int x11), (0, .ref (ad 0)), (4, .int x10)]) hx hb dX4_chainOf_77 rfl hl (by decide) rfl (fun ls hl => ?_)
          refine lv_goto (tgt := 12) hx hb dX4_chainOf_78 (by decide) ?_
          exact ih _ _ _ _ _ _ h hP (lv_sub hl [3, 1, 0] rfl)
  refine hL12 _ (fun x16 σ17 H locs ls h hP hl => ?_) FU _ _ _ _ _ _ h hP (lv_sub hl [2, 1, 0] rfl)
  refine lv_aload_n hx hb dX4_chainOf_81 rfl (lv_at hl 0 rfl) ?_
  refine lv_aload_n hx hb dX4_chainOf_82 rfl (lv_at hl 0 rfl) ?_
  refine r_get C hP (ci := 4) rfl uin_X4 23 (by decide) 0 (by decide) rfl qFL_RX4_45 rfl rfl dX4_chainOf_83 ?_
  obtain ⟨σ18, h1, h⟩ := k_ob h
  refine k_callVv C hP hap hAA (c_X4_again_ahead l ev ad σ17   _ h1) Emb.same hap gz_X4_again qML_RX4_193 qIM_yX4_again qSE_yX4_again ⟨(Nat.le_of_ble_eq_true rfl), (Nat.le_of_ble_eq_true rfl)⟩ (q0 := 0) rfl (by decide) rfl rfl rfl rfl hl.1 rfl (Nat.le_of_ble_eq_true rfl) dX4_chainOf_86 ⟨Nat.le_refl _, Nat.le_refl _⟩ (fun H locs hP => ?_)
  refine lv_iload_n hx hb dX4_chainOf_89 rfl (lv_at hl 1 rfl) ?_
  exact e_iret C hend hP (k_some2 h).1 (congrArg (mw ev ad) (k_some2 h).2) dX4_chainOf_90
