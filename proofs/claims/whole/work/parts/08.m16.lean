/-! functions read off, and their contracts: by program (wip/whole/gen2.py) -/
def f_X4_lead (σ : MM) (a1 : Int32) : Option (Int32 × MM) :=
  if (f_X4_within a1 0 1) = true then ob (f_X4_leadOf σ a1) (fun x3 => some (x3, σ)) else ob2 (f_X4_noLead σ (-2)) (fun x2 σ1 => some (x2, σ1))
set_option maxHeartbeats 4000000 in
set_option maxRecDepth 100000 in
theorem c_X4_lead (l : Launch) (ev : EV) (ad : Nat → Nat) (σ : MM) (a1 : Int32)   (r : Int32) (σ' : MM) (h : f_X4_lead σ a1 = some (r, σ')) : Ct l yX4_lead prog_6_method_59_code 2 (Option.some Jvm.ClassFile.FieldType.int) (rmk 9 206) ev 13 ad (mw ev ad σ) (mw ev ad σ') [.ref (ad 0), .int a1] (some (.int r)) := by
  refine Ct.of (by decide +kernel) (Nat.le_of_ble_eq_true rfl) ?_
  intro p e s m args below meth c Qc C hap hP hend ls hl
  have hAA : ∀ j, j < 13 → inA ad 13 (ad j) := fun j hj => ⟨j, hj, rfl⟩
  have hx := C.1
  have hb := C.2.1
  have hl : lv_has ls 2 [(0, .ref (ad 0)), (1, .int a1)] := hl
  have h := (f_X4_lead.eq_1 _ _ ).symm.trans h
  refine lv_iload_n hx hb dX4_lead_0 rfl (lv_at hl 1 rfl) ?_
  refine lv_iconst (v := 0) hx hb dX4_lead_1 (by decide) ?_
  refine lv_iconst (v := 1) hx hb dX4_lead_2 (by decide) ?_
  refine k_callSi C hP hap hAA (c_X4_within l ev ad a1 0 1   _ rfl) Emb.none (apart_0 _) gz_X4_within qML_RX4_63 qSM_yX4_within ⟨(Nat.le_of_ble_eq_true rfl), (Nat.le_of_ble_eq_true rfl)⟩ rfl hl.1 rfl (Nat.le_of_ble_eq_true rfl) dX4_lead_3 ⟨Nat.le_refl _, Nat.le_refl _⟩ (fun H locs hP => ?_)
  refine r_ifz_eq (tgt := 17) hx hb dX4_lead_6 (by decide) (fun c6 => ?_) (fun c6 => ?_)
  · have h := k_nf c6 h
    refine lv_aload_n hx hb dX4_lead_17 rfl (lv_at hl 0 rfl) ?_
    refine lv_bipush (v := (-2)) hx hb dX4_lead_18 (by decide) ?_
    obtain ⟨x2, σ1, h1, h⟩ := k_ob2 h
    refine k_callVi C hP hap hAA (c_X4_noLead l ev ad σ (-2)   _ _ h1) Emb.same hap gz_X4_noLead qML_RX4_229 qIM_yX4_noLead qSE_yX4_noLead ⟨(Nat.le_of_ble_eq_true rfl), (Nat.le_of_ble_eq_true rfl)⟩ (q0 := 0) rfl (by decide) rfl rfl rfl rfl hl.1 rfl (Nat.le_of_ble_eq_true rfl) dX4_lead_20 ⟨Nat.le_refl _, Nat.le_refl _⟩ (fun H locs hP => ?_)
    exact e_iret C hend hP (k_some2 h).1 (congrArg (mw ev ad) (k_some2 h).2) dX4_lead_23
  · have h := k_if c6 h
    refine lv_aload_n hx hb dX4_lead_9 rfl (lv_at hl 0 rfl) ?_
    refine lv_iload_n hx hb dX4_lead_10 rfl (lv_at hl 1 rfl) ?_
    obtain ⟨x3, h1, h⟩ := k_ob h
    refine k_callVi C hP hap hAA (c_X4_leadOf l ev ad σ a1   _ h1) Emb.same hap gz_X4_leadOf qML_RX4_226 qIM_yX4_leadOf qSE_yX4_leadOf ⟨(Nat.le_of_ble_eq_true rfl), (Nat.le_of_ble_eq_true rfl)⟩ (q0 := 0) rfl (by decide) rfl rfl rfl rfl hl.1 rfl (Nat.le_of_ble_eq_true rfl) dX4_lead_11 ⟨Nat.le_refl _, Nat.le_refl _⟩ (fun H locs hP => ?_)
    refine lv_goto (tgt := 23) hx hb dX4_lead_14 (by decide) ?_
    exact e_iret C hend hP (k_some2 h).1 (congrArg (mw ev ad) (k_some2 h).2) dX4_lead_23
def f_X4_lanes (σ : MM) (a1 : Int32) : Option (Int32 × MM) :=
  if (f_X4_within a1 0 1) = true then ob (f_X4_lanesOf σ a1) (fun x3 => some (x3, σ)) else ob2 (f_X4_no σ (-2)) (fun x2 σ1 => some (x2, σ1))
set_option maxHeartbeats 4000000 in
set_option maxRecDepth 100000 in
theorem c_X4_lanes (l : Launch) (ev : EV) (ad : Nat → Nat) (σ : MM) (a1 : Int32)   (r : Int32) (σ' : MM) (h : f_X4_lanes σ a1 = some (r, σ')) : Ct l yX4_lanes prog_6_method_60_code 2 (Option.some Jvm.ClassFile.FieldType.int) (rmk 7 161) ev 13 ad (mw ev ad σ) (mw ev ad σ') [.ref (ad 0), .int a1] (some (.int r)) := by
  refine Ct.of (by decide +kernel) (Nat.le_of_ble_eq_true rfl) ?_
  intro p e s m args below meth c Qc C hap hP hend ls hl
  have hAA : ∀ j, j < 13 → inA ad 13 (ad j) := fun j hj => ⟨j, hj, rfl⟩
  have hx := C.1
  have hb := C.2.1
  have hl : lv_has ls 2 [(0, .ref (ad 0)), (1, .int a1)] := hl
  have h := (f_X4_lanes.eq_1 _ _ ).symm.trans h
  refine lv_iload_n hx hb dX4_lanes_0 rfl (lv_at hl 1 rfl) ?_
  refine lv_iconst (v := 0) hx hb dX4_lanes_1 (by decide) ?_
  refine lv_iconst (v := 1) hx hb dX4_lanes_2 (by decide) ?_
  refine k_callSi C hP hap hAA (c_X4_within l ev ad a1 0 1   _ rfl) Emb.none (apart_0 _) gz_X4_within qML_RX4_63 qSM_yX4_within ⟨(Nat.le_of_ble_eq_true rfl), (Nat.le_of_ble_eq_true rfl)⟩ rfl hl.1 rfl (Nat.le_of_ble_eq_true rfl) dX4_lanes_3 ⟨Nat.le_refl _, Nat.le_refl _⟩ (fun H locs hP => ?_)
  refine r_ifz_eq (tgt := 17) hx hb dX4_lanes_6 (by decide) (fun c6 => ?_) (fun c6 => ?_)
  · have h := k_nf c6 h
    refine lv_aload_n hx hb dX4_lanes_17 rfl (lv_at hl 0 rfl) ?_
    refine lv_bipush (v := (-2)) hx hb dX4_lanes_18 (by decide) ?_
    obtain ⟨x2, σ1, h1, h⟩ := k_ob2 h
    refine k_callVi C hP hap hAA (c_X4_no l ev ad σ (-2)   _ _ h1) Emb.same hap gz_X4_no qML_RX4_56 qIM_yX4_no qSE_yX4_no ⟨(Nat.le_of_ble_eq_true rfl), (Nat.le_of_ble_eq_true rfl)⟩ (q0 := 0) rfl (by decide) rfl rfl rfl rfl hl.1 rfl (Nat.le_of_ble_eq_true rfl) dX4_lanes_20 ⟨Nat.le_refl _, Nat.le_refl _⟩ (fun H locs hP => ?_)
    exact e_iret C hend hP (k_some2 h).1 (congrArg (mw ev ad) (k_some2 h).2) dX4_lanes_23
  · have h := k_if c6 h
    refine lv_aload_n hx hb dX4_lanes_9 rfl (lv_at hl 0 rfl) ?_
    refine lv_iload_n hx hb dX4_lanes_10 rfl (lv_at hl 1 rfl) ?_
    obtain ⟨x3, h1, h⟩ := k_ob h
    refine k_callVi C hP hap hAA (c_X4_lanesOf l ev ad σ a1   _ h1) Emb.same hap gz_X4_lanesOf qML_RX4_220 qIM_yX4_lanesOf qSE_yX4_lanesOf ⟨(Nat.le_of_ble_eq_true rfl), (Nat.le_of_ble_eq_true rfl)⟩ (q0 := 0) rfl (by decide) rfl rfl rfl rfl hl.1 rfl (Nat.le_of_ble_eq_true rfl) dX4_lanes_11 ⟨Nat.le_refl _, Nat.le_refl _⟩ (fun H locs hP => ?_)
    refine lv_goto (tgt := 23) hx hb dX4_lanes_14 (by decide) ?_
    exact e_iret C hend hP (k_some2 h).1 (congrArg (mw ev ad) (k_some2 h).2) dX4_lanes_23
def f_X4_ditch (σ : MM) (a1 : Int32) : Option (Int32 × MM) :=
  if (f_X4_isField σ a1) = true then gd (inb a1 16) (if ((m_dug σ) (Int32.toNatClampNeg a1)) = 0 then ob2 (f_X4_no σ (-5)) (fun x2 σ1 => some (x2, σ1)) else ob (f_X4_ditchOf σ a1) (fun x3 => some (x3, σ))) else ob2 (f_X4_no σ (-2)) (fun x5 σ4 => some (x5, σ4))
set_option maxHeartbeats 4000000 in
set_option maxRecDepth 100000 in
theorem c_X4_ditch (l : Launch) (ev : EV) (ad : Nat → Nat) (σ : MM) (a1 : Int32)   (r : Int32) (σ' : MM) (h : f_X4_ditch σ a1 = some (r, σ')) : Ct l yX4_ditch prog_6_method_61_code 2 (Option.some Jvm.ClassFile.FieldType.int) (rmk 5 115) ev 13 ad (mw ev ad σ) (mw ev ad σ') [.ref (ad 0), .int a1] (some (.int r)) := by
  refine Ct.of (by decide +kernel) (Nat.le_of_ble_eq_true rfl) ?_
  intro p e s m args below meth c Qc C hap hP hend ls hl
  have hAA : ∀ j, j < 13 → inA ad 13 (ad j) := fun j hj => ⟨j, hj, rfl⟩
  have hx := C.1
  have hb := C.2.1
  have hl : lv_has ls 2 [(0, .ref (ad 0)), (1, .int a1)] := hl
  have h := (f_X4_ditch.eq_1 _ _ ).symm.trans h
  refine lv_aload_n hx hb dX4_ditch_0 rfl (lv_at hl 0 rfl) ?_
  refine lv_iload_n hx hb dX4_ditch_1 rfl (lv_at hl 1 rfl) ?_
  refine k_callVi C hP hap hAA (c_X4_isField l ev ad σ a1   _ rfl) Emb.same hap gz_X4_isField qML_RX4_116 qIM_yX4_isField qSE_yX4_isField ⟨(Nat.le_of_ble_eq_true rfl), (Nat.le_of_ble_eq_true rfl)⟩ (q0 := 0) rfl (by decide) rfl rfl rfl rfl hl.1 rfl (Nat.le_of_ble_eq_true rfl) dX4_ditch_2 ⟨Nat.le_refl _, Nat.le_refl _⟩ (fun H locs hP => ?_)
  refine r_ifz_ne (tgt := 15) hx hb dX4_ditch_5 (by decide) (fun c5 => ?_) (fun c5 => ?_)
  · have h := k_if c5 h
    refine lv_aload_n hx hb dX4_ditch_15 rfl (lv_at hl 0 rfl) ?_
    refine r_get C hP (ci := 4) rfl uin_X4 3 (by decide) 0 (by decide) rfl qFL_RX4_13 rfl rfl dX4_ditch_16 ?_
    refine lv_iload_n hx hb dX4_ditch_19 rfl (lv_at hl 1 rfl) ?_
    obtain ⟨hg, h⟩ := k_gd h
    refine r_zald C hP 2 (by decide) rfl hg dX4_ditch_20 ?_
    refine lv_if_eq (tgt := 32) hx hb dX4_ditch_21 (by decide) (fun c21 => ?_) (fun c21 => ?_)
    · have h := k_if c21 h
      refine lv_aload_n hx hb dX4_ditch_32 rfl (lv_at hl 0 rfl) ?_
      refine lv_bipush (v := (-5)) hx hb dX4_ditch_33 (by decide) ?_
      obtain ⟨x2, σ1, h1, h⟩ := k_ob2 h
      refine k_callVi C hP hap hAA (c_X4_no l ev ad σ (-5)   _ _ h1) Emb.same hap gz_X4_no qML_RX4_56 qIM_yX4_no qSE_yX4_no ⟨(Nat.le_of_ble_eq_true rfl), (Nat.le_of_ble_eq_true rfl)⟩ (q0 := 0) rfl (by decide) rfl rfl rfl rfl hl.1 rfl (Nat.le_of_ble_eq_true rfl) dX4_ditch_35 ⟨Nat.le_refl _, Nat.le_refl _⟩ (fun H locs hP => ?_)
      exact e_iret C hend hP (k_some2 h).1 (congrArg (mw ev ad) (k_some2 h).2) dX4_ditch_38
    · have h := k_nf c21 h
      refine lv_aload_n hx hb dX4_ditch_24 rfl (lv_at hl 0 rfl) ?_
      refine lv_iload_n hx hb dX4_ditch_25 rfl (lv_at hl 1 rfl) ?_
      obtain ⟨x3, h1, h⟩ := k_ob h
      refine k_callVi C hP hap hAA (c_X4_ditchOf l ev ad σ a1   _ h1) Emb.same hap gz_X4_ditchOf qML_RX4_214 qIM_yX4_ditchOf qSE_yX4_ditchOf ⟨(Nat.le_of_ble_eq_true rfl), (Nat.le_of_ble_eq_true rfl)⟩ (q0 := 0) rfl (by decide) rfl rfl rfl rfl hl.1 rfl (Nat.le_of_ble_eq_true rfl) dX4_ditch_26 ⟨Nat.le_refl _, Nat.le_refl _⟩ (fun H locs hP => ?_)
      refine lv_goto (tgt := 38) hx hb dX4_ditch_29 (by decide) ?_
      exact e_iret C hend hP (k_some2 h).1 (congrArg (mw ev ad) (k_some2 h).2) dX4_ditch_38
  · have h := k_nf c5 h
    refine lv_aload_n hx hb dX4_ditch_8 rfl (lv_at hl 0 rfl) ?_
    refine lv_bipush (v := (-2)) hx hb dX4_ditch_9 (by decide) ?_
    obtain ⟨x5, σ4, h1, h⟩ := k_ob2 h
    refine k_callVi C hP hap hAA (c_X4_no l ev ad σ (-2)   _ _ h1) Emb.same hap gz_X4_no qML_RX4_56 qIM_yX4_no qSE_yX4_no ⟨(Nat.le_of_ble_eq_true rfl), (Nat.le_of_ble_eq_true rfl)⟩ (q0 := 0) rfl (by decide) rfl rfl rfl rfl hl.1 rfl (Nat.le_of_ble_eq_true rfl) dX4_ditch_11 ⟨Nat.le_refl _, Nat.le_refl _⟩ (fun H locs hP => ?_)
    exact e_iret C hend hP (k_some2 h).1 (congrArg (mw ev ad) (k_some2 h).2) dX4_ditch_14
def f_X4_drained (σ : MM) : Option (Int32) :=
  ob (f_X4_drains σ) (fun x1 => some x1)
set_option maxHeartbeats 4000000 in
set_option maxRecDepth 100000 in
theorem c_X4_drained (l : Launch) (ev : EV) (ad : Nat → Nat) (σ : MM)   (r : Int32)  (h : f_X4_drained σ = some r) : Ct l yX4_drained prog_6_method_62_code 1 (Option.some Jvm.ClassFile.FieldType.int) (rmk 6 137) ev 13 ad (mw ev ad σ) (mw ev ad σ) [.ref (ad 0)] (some (.int r)) := by
  refine Ct.of (by decide +kernel) (Nat.le_of_ble_eq_true rfl) ?_
  intro p e s m args below meth c Qc C hap hP hend ls hl
  have hAA : ∀ j, j < 13 → inA ad 13 (ad j) := fun j hj => ⟨j, hj, rfl⟩
  have hx := C.1
  have hb := C.2.1
  have hl : lv_has ls 1 [(0, .ref (ad 0))] := hl
  have h := (f_X4_drained.eq_1 _ ).symm.trans h
  refine lv_aload_n hx hb dX4_drained_0 rfl (lv_at hl 0 rfl) ?_
  obtain ⟨x1, h1, h⟩ := k_ob h
  refine k_callVi C hP hap hAA (c_X4_drains l ev ad σ   _ h1) Emb.same hap gz_X4_drains qML_RX4_199 qIM_yX4_drains qSE_yX4_drains ⟨(Nat.le_of_ble_eq_true rfl), (Nat.le_of_ble_eq_true rfl)⟩ (q0 := 0) rfl (by decide) rfl rfl rfl rfl hl.1 rfl (Nat.le_of_ble_eq_true rfl) dX4_drained_1 ⟨Nat.le_refl _, Nat.le_refl _⟩ (fun H locs hP => ?_)
  exact e_iret C hend hP (k_some h) rfl dX4_drained_4
def f_X4_chainOf_L29_b (x3 : Int32) (σ4 : MM) (k50 : Int32 → Option (Int32 × MM)) (rec29 : Int32 → Option (Int32 × MM)) (x6 : Int32) : Option (Int32 × MM) :=
  ob (f_X4_edge σ4 x3 x6) (fun x7 => gd (inb x7 40) (if ((m_hedge σ4) (Int32.toNatClampNeg x7)) = 0 then k50 x6 else lt (x6 + 1) (fun x8 => rec29 x8)))
def f_X4_chainOf_L29 (x3 : Int32) (σ4 : MM) (k50 : Int32 → Option (Int32 × MM)) (x6 : Int32) : Option (Int32 × MM) :=
  lp (fun _ => none) (f_X4_chainOf_L29_b x3 σ4 k50) FU x6
def f_X4_chainOf_L12_b  (k81 : Int32 → MM → Option (Int32 × MM)) (rec12 : Int32 → Int32 → MM → Option (Int32 × MM)) (x2 : Int32) (x3 : Int32) (σ4 : MM) : Option (Int32 × MM) :=
  if x3 = (-1) then k81 x2 σ4 else ob (f_X4_hedges σ4 x3) (fun x5 => if x5 = 3 then f_X4_chainOf_L29 x3 σ4 (fun x10 => ob (f_X4_beside σ4 x3 x10) (fun x11 => ob (f_X4_edge σ4 x3 x10) (fun x12 => gd (inb x12 40) (lt (m_hedge' σ4 (upd (m_hedge σ4) (Int32.toNatClampNeg x12) (vp_nar .boolean 1))) (fun σ13 => lt (x2 + 1) (fun x14 => rec12 x14 x11 σ13)))))) 0 else k81 x2 σ4)
def f_X4_chainOf_L12  (k81 : Int32 → MM → Option (Int32 × MM)) (x2 : Int32) (x3 : Int32) (σ4 : MM) : Option (Int32 × MM) :=
  lp (fun _ _ _ => none) (f_X4_chainOf_L12_b  k81) FU x2 x3 σ4
def f_X4_chainOf (σ : MM) (a1 : Int32) : Option (Int32 × MM) :=
  ob (f_X4_keep_ahead σ) (fun σ1 => f_X4_chainOf_L12 (fun x16 σ17 => ob (f_X4_again_ahead σ17) (fun σ18 => some (x16, σ18))) 0 a1 σ1)
set_option maxHeartbeats 4000000 in
set_option maxRecDepth 100000 in
theorem c_X4_chainOf (l : Launch) (ev : EV) (ad : Nat → Nat) (σ : MM) (a1 : Int32)   (r : Int32) (σ' : MM) (h : f_X4_chainOf σ a1 = some (r, σ')) : Ct l yX4_chainOf prog_6_method_65_code 6 (Option.some Jvm.ClassFile.FieldType.int) (rmk 4 89) ev 13 ad (mw ev ad σ) (mw ev ad σ') [.ref (ad 0), .int a1] (some (.int r)) := by
  refine Ct.of (by decide +kernel) (Nat.le_of_ble_eq_true rfl) ?_
  intro p e s m args below meth c Qc C hap hP hend ls hl
  have hAA : ∀ j, j < 13 → inA ad 13 (ad j) := fun j hj => ⟨j, hj, rfl⟩
  have hx := C.1
  have hb := C.2.1
  have hl : lv_has ls 6 [(0, .ref (ad 0)), (1, .int a1)] := hl
  have h := (f_X4_chainOf.eq_1 _ _ ).symm.trans h
  refine lv_aload_n hx hb dX4_chainOf_0 rfl (lv_at hl 0 rfl) ?_
  refine lv_aload_n hx hb dX4_chainOf_1 rfl (lv_at hl 0 rfl) ?_
  refine r_get C hP (ci := 4) rfl uin_X4 23 (by decide) 0 (by decide) rfl qFL_RX4_45 rfl rfl dX4_chainOf_2 ?_
  obtain ⟨σ1, h1, h⟩ := k_ob h
  refine k_callVv C hP hap hAA (c_X4_keep_ahead l ev ad σ   _ h1) Emb.same hap gz_X4_keep qML_RX4_185 qIM_yX4_keep qSE_yX4_keep ⟨(Nat.le_of_ble_eq_true rfl), (Nat.le_of_ble_eq_true rfl)⟩ (q0 := 0) rfl (by decide) rfl rfl rfl rfl hl.1 rfl (Nat.le_of_ble_eq_true rfl) dX4_chainOf_5 ⟨Nat.le_refl _, Nat.le_refl _⟩ (fun H locs hP => ?_)
  refine lv_iconst (v := 0) hx hb dX4_chainOf_8 (by decide) ?_
  refine lv_istore_n (lv' := [(2, .int 0), (0, .ref (ad 0)), (1, .int a1)]) hx hb dX4_chainOf_9 rfl hl (by decide) rfl (fun ls hl => ?_)
  refine lv_iload_n hx hb dX4_chainOf_10 rfl (lv_at hl 2 rfl) ?_
  refine lv_istore_n (lv' := [(3, .int a1), (2, .int 0), (0, .ref (ad 0)), (1, .int a1)]) hx hb dX4_chainOf_11 rfl hl (by decide) rfl (fun ls hl => ?_)
  have hL12 : ∀ (k81 : Int32 → MM → Option (Int32 × MM)) (hk81 : ∀ (z15 : Int32) (σk : MM) (H : Heap) (locs : List Loc) (ls : Array Slot), k81 z15 σk = some (r, σ') → PS ev 13 ad (mw ev ad σk) (inA ad 13) s H locs → lv_has ls 6 [(0, .ref (ad 0)), (2, .int z15)] → WW ev p l e (rmk 4 89) s m args below meth c Qc ad 13 H locs 81 ls []) (n : Nat) (x2 : Int32) (x3 : Int32) (σ4 : MM) (H : Heap) (locs : List Loc) (ls : Array Slot), lp (fun _ _ _ => none) (f_X4_chainOf_L12_b  k81) n x2 x3 σ4 = some (r, σ') → PS ev 13 ad (mw ev ad σ4) (inA ad 13) s H locs → lv_has ls 6 [(0, .ref (ad 0)), (2, .int x2), (3, .int x3)] → WW ev p l e (rmk 4 89) s m args below meth c Qc ad 13 H locs 12 ls [] := by
    intro k81 hk81 n
    induction n with
    | zero =>
      intro x2 x3 σ4 H locs ls h; exact k_none h
    | succ n ih =>
      intro x2 x3 σ4 H locs ls h hP hl
      have h : f_X4_chainOf_L12_b  k81 (lp (fun _ _ _ => none) (f_X4_chainOf_L12_b  k81) n) x2 x3 σ4 = some (r, σ') := h
      have h := (f_X4_chainOf_L12_b.eq_1 _ _ _ _ _ ).symm.trans h
      refine lv_iload_n hx hb dX4_chainOf_12 rfl (lv_at hl 2 rfl) ?_
      refine lv_iconst (v := (-1)) hx hb dX4_chainOf_13 (by decide) ?_
      refine lv_icmp_eq (tgt := 81) hx hb dX4_chainOf_14 (by decide) (fun c14 => ?_) (fun c14 => ?_)
      · have h := k_if c14 h
        exact hk81 _ _ _ _ _ h hP (lv_sub hl [0, 1] rfl)
      · have h := k_nf c14 h
        refine lv_aload_n hx hb dX4_chainOf_17 rfl (lv_at hl 0 rfl) ?_
        refine lv_iload_n hx hb dX4_chainOf_18 rfl (lv_at hl 2 rfl) ?_
        obtain ⟨x5, h1, h⟩ := k_ob h
        refine k_callVi C hP hap hAA (c_X4_hedges l ev ad σ4 x3   _ h1) Emb.same hap gz_X4_hedges qML_RX4_196 qIM_yX4_hedges qSE_yX4_hedges ⟨(Nat.le_of_ble_eq_true rfl), (Nat.le_of_ble_eq_true rfl)⟩ (q0 := 0) rfl (by decide) rfl rfl rfl rfl hl.1 rfl (Nat.le_of_ble_eq_true rfl) dX4_chainOf_19 ⟨Nat.le_refl _, Nat.le_refl _⟩ (fun H locs hP => ?_)
        refine lv_iconst (v := 3) hx hb dX4_chainOf_22 (by decide) ?_
        refine lv_icmp_ne (tgt := 81) hx hb dX4_chainOf_23 (by decide) (fun c23 => ?_) (fun c23 => ?_)
        · have h := k_nf c23 h
          exact hk81 _ _ _ _ _ h hP (lv_sub hl [0, 1] rfl)
        · have h := k_if c23 h
          refine lv_iconst (v := 0) hx hb dX4_chainOf_26 (by decide) ?_
          refine lv_istore (lv' := [(4, .int 0), (0, .ref (ad 0)), (2, .int x2), (3, .int x3)]) hx hb dX4_chainOf_27 hl (by decide) rfl (fun ls hl => ?_)
          have hL29 : ∀ (k50 : Int32 → Option (Int32 × MM)) (hk50 : ∀ (z9 : Int32) (H : Heap) (locs : List Loc) (ls : Array Slot), k50 z9 = some (r, σ') → PS ev 13 ad (mw ev ad σ4) (inA ad 13) s H locs → lv_has ls 6 [(0, .ref (ad 0)), (2, .int x2), (3, .int x3), (4, .int z9)] → WW ev p l e (rmk 4 89) s m args below meth c Qc ad 13 H locs 50 ls []) (n : Nat) (x6 : Int32) (H : Heap) (locs : List Loc) (ls : Array Slot), lp (fun _ => none) (f_X4_chainOf_L29_b x3 σ4 k50) n x6 = some (r, σ') → PS ev 13 ad (mw ev ad σ4) (inA ad 13) s H locs → lv_has ls 6 [(0, .ref (ad 0)), (2, .int x2), (3, .int x3), (4, .int x6)] → WW ev p l e (rmk 4 89) s m args below meth c Qc ad 13 H locs 29 ls [] := by
            intro k50 hk50 n
            induction n with
            | zero =>
              intro x6 H locs ls h; exact k_none h
            | succ n ih =>
              intro x6 H locs ls h hP hl
              have h : f_X4_chainOf_L29_b x3 σ4 k50 (lp (fun _ => none) (f_X4_chainOf_L29_b x3 σ4 k50) n) x6 = some (r, σ') := h
              have h := (f_X4_chainOf_L29_b.eq_1 _ _ _ _ _ ).symm.trans h
              refine lv_aload_n hx hb dX4_chainOf_29 rfl (lv_at hl 0 rfl) ?_
              refine r_get C hP (ci := 4) rfl uin_X4 2 (by decide) 0 (by decide) rfl qFL_RX4_7 rfl rfl dX4_chainOf_30 ?_
              refine lv_aload_n hx hb dX4_chainOf_33 rfl (lv_at hl 0 rfl) ?_
              refine lv_iload_n hx hb dX4_chainOf_34 rfl (lv_at hl 2 rfl) ?_
              refine lv_iload hx hb dX4_chainOf_35 (lv_at hl 3 rfl) ?_
              obtain ⟨x7, h1, h⟩ := k_ob h
              refine k_callVi C hP hap hAA (c_X4_edge l ev ad σ4 x3 x6   _ h1) Emb.same hap gz_X4_edge qML_RX4_122 qIM_yX4_edge qSE_yX4_edge ⟨(Nat.le_of_ble_eq_true rfl), (Nat.le_of_ble_eq_true rfl)⟩ (q0 := 0) rfl (by decide) rfl rfl rfl rfl hl.1 rfl (Nat.le_of_ble_eq_true rfl) dX4_chainOf_37 ⟨Nat.le_refl _, Nat.le_refl _⟩ (fun H locs hP => ?_)
              obtain ⟨hg, h⟩ := k_gd h
              refine r_zald C hP 1 (by decide) rfl hg dX4_chainOf_40 ?_
              refine lv_if_eq (tgt := 50) hx hb dX4_chainOf_41 (by decide) (fun c41 => ?_) (fun c41 => ?_)
              · have h := k_if c41 h
                exact hk50 _ _ _ _ h hP (lv_sub hl [0, 1, 2, 3] rfl)
              · have h := k_nf c41 h
                obtain ⟨x8, ex8, h⟩ := k_ltx h
                refine lv_iinc (v := x8) (lv' := [(4, .int x8), (0, .ref (ad 0)), (2, .int x2), (3, .int x3)]) hx hb dX4_chainOf_44 hl (k := 3) rfl (by rw [ex8]; rfl) (by decide) rfl (fun ls hl => ?_)
                refine lv_goto (tgt := 29) hx hb dX4_chainOf_47 (by decide) ?_
                exact ih _ _ _ _ h hP (lv_sub hl [1, 2, 3, 0] rfl)
          refine hL29 _ (fun x10 H locs ls h hP hl => ?_) FU _ _ _ _ h hP (lv_sub hl [1, 2, 3, 0] rfl)
          refine lv_aload_n hx hb dX4_chainOf_50 rfl (lv_at hl 0 rfl) ?_
          refine lv_iload_n hx hb dX4_chainOf_51 rfl (lv_at hl 2 rfl) ?_
          refine lv_iload hx hb dX4_chainOf_52 (lv_at hl 3 rfl) ?_
          obtain ⟨x11, h1, h⟩ := k_ob h
          refine k_callVi C hP hap hAA (c_X4_beside l ev ad σ4 x3 x10   _ h1) Emb.same hap gz_X4_beside qML_RX4_211 qIM_yX4_beside qSE_yX4_beside ⟨(Nat.le_of_ble_eq_true rfl), (Nat.le_of_ble_eq_true rfl)⟩ (q0 := 0) rfl (by decide) rfl rfl rfl rfl hl.1 rfl (Nat.le_of_ble_eq_true rfl) dX4_chainOf_54 ⟨Nat.le_refl _, Nat.le_refl _⟩ (fun H locs hP => ?_)
          refine lv_istore (lv' := [(5, .int x11), (0, .ref (ad 0)), (2, .int x2), (3, .int x3), (4, .int x10)]) hx hb dX4_chainOf_57 hl (by decide) rfl (fun ls hl => ?_)
          refine lv_aload_n hx hb dX4_chainOf_59 rfl (lv_at hl 1 rfl) ?_
          refine r_get C hP (ci := 4) rfl uin_X4 2 (by decide) 0 (by decide) rfl qFL_RX4_7 rfl rfl dX4_chainOf_60 ?_
          refine lv_aload_n hx hb dX4_chainOf_63 rfl (lv_at hl 1 rfl) ?_
          refine lv_iload_n hx hb dX4_chainOf_64 rfl (lv_at hl 3 rfl) ?_
          refine lv_iload hx hb dX4_chainOf_65 (lv_at hl 4 rfl) ?_
          obtain ⟨x12, h1, h⟩ := k_ob h
          refine k_callVi C hP hap hAA (c_X4_edge l ev ad σ4 x3 x10   _ h1) Emb.same hap gz_X4_edge qML_RX4_122 qIM_yX4_edge qSE_yX4_edge ⟨(Nat.le_of_ble_eq_true rfl), (Nat.le_of_ble_eq_true rfl)⟩ (q0 := 0) rfl (by decide) rfl rfl rfl rfl hl.1 rfl (Nat.le_of_ble_eq_true rfl) dX4_chainOf_67 ⟨Nat.le_refl _, Nat.le_refl _⟩ (fun H locs hP => ?_)
          refine lv_iconst (v := 1) hx hb dX4_chainOf_70 (by decide) ?_
          obtain ⟨hg, h⟩ := k_gd h
          obtain ⟨σ13, eσ13, h⟩ := k_ltx h
          refine st_M_hedge C hP hap hAA eσ13 hg dX4_chainOf_71 (fun H locs hP => ?_)
          obtain ⟨x14, ex14, h⟩ := k_ltx h
          refine lv_iinc (v := x14) (lv' := [(2, .int x14), (5, .int x11), (0, .ref (ad 0)), (3, .int x3), (4, .int x10)]) hx hb dX4_chainOf_72 hl (k := 2) rfl (by rw [ex14]; rfl) (by decide) rfl (fun ls hl => ?_)
          refine lv_iload hx hb dX4_chainOf_75 (lv_at hl 1 rfl) ?_
          refine lv_istore_n (lv' := [(3, .int x11), (2, .int x14), (5, .int x11), (0, .ref (ad 0)), (4, .int x10)]) hx hb dX4_chainOf_77 rfl hl (by decide) rfl (fun ls hl => ?_)
          refine lv_goto (tgt := 12) hx hb dX4_chainOf_78 (by decide) ?_
          exact ih _ _ _ _ _ _ h hP (lv_sub hl [3, 1, 0] rfl)
  refine hL12 _ (fun x16 σ17 H locs ls h hP hl => ?_) FU _ _ _ _ _ _ h hP (lv_sub hl [2, 1, 0] rfl)
  refine lv_aload_n hx hb dX4_chainOf_81 rfl (lv_at hl 0 rfl) ?_
  refine lv_aload_n hx hb dX4_chainOf_82 rfl (lv_at hl 0 rfl) ?_
  refine r_get C hP (ci := 4) rfl uin_X4 23 (by decide) 0 (by decide) rfl qFL_RX4_45 rfl rfl dX4_chainOf_83 ?_
  obtain ⟨σ18, h1, h⟩ := k_ob h
  refine k_callVv C hP hap hAA (c_X4_again_ahead l ev ad σ17   _ h1) Emb.same hap gz_X4_again qML_RX4_193 qIM_yX4_again qSE_yX4_again ⟨(Nat.le_of_ble_eq_true rfl), (Nat.le_of_ble_eq_true rfl)⟩ (q0 := 0) rfl (by decide) rfl rfl rfl rfl hl.1 rfl (Nat.le_of_ble_eq_true rfl) dX4_chainOf_86 ⟨Nat.le_refl _, Nat.le_refl _⟩ (fun H locs hP => ?_)
  refine lv_iload_n hx hb dX4_chainOf_89 rfl (lv_at hl 1 rfl) ?_
  exact e_iret C hend hP (k_some2 h).1 (congrArg (mw ev ad) (k_some2 h).2) dX4_chainOf_90
def f_X4_chain (σ : MM) (a1 : Int32) : Option (Int32 × MM) :=
  if (f_X4_isField σ a1) = true then ob2 (f_X4_chainOf σ a1) (fun x4 σ3 => some (x4, σ3)) else ob2 (f_X4_no σ (-2)) (fun x2 σ1 => some (x2, σ1))
set_option maxHeartbeats 4000000 in
set_option maxRecDepth 100000 in
theorem c_X4_chain (l : Launch) (ev : EV) (ad : Nat → Nat) (σ : MM) (a1 : Int32)   (r : Int32) (σ' : MM) (h : f_X4_chain σ a1 = some (r, σ')) : Ct l yX4_chain prog_6_method_64_code 2 (Option.some Jvm.ClassFile.FieldType.int) (rmk 5 114) ev 13 ad (mw ev ad σ) (mw ev ad σ') [.ref (ad 0), .int a1] (some (.int r)) := by
  refine Ct.of (by decide +kernel) (Nat.le_of_ble_eq_true rfl) ?_
  intro p e s m args below meth c Qc C hap hP hend ls hl
  have hAA : ∀ j, j < 13 → inA ad 13 (ad j) := fun j hj => ⟨j, hj, rfl⟩
  have hx := C.1
  have hb := C.2.1
  have hl : lv_has ls 2 [(0, .ref (ad 0)), (1, .int a1)] := hl
  have h := (f_X4_chain.eq_1 _ _ ).symm.trans h
  refine lv_aload_n hx hb dX4_chain_0 rfl (lv_at hl 0 rfl) ?_
  refine lv_iload_n hx hb dX4_chain_1 rfl (lv_at hl 1 rfl) ?_
  refine k_callVi C hP hap hAA (c_X4_isField l ev ad σ a1   _ rfl) Emb.same hap gz_X4_isField qML_RX4_116 qIM_yX4_isField qSE_yX4_isField ⟨(Nat.le_of_ble_eq_true rfl), (Nat.le_of_ble_eq_true rfl)⟩ (q0 := 0) rfl (by decide) rfl rfl rfl rfl hl.1 rfl (Nat.le_of_ble_eq_true rfl) dX4_chain_2 ⟨Nat.le_refl _, Nat.le_refl _⟩ (fun H locs hP => ?_)
  refine r_ifz_eq (tgt := 16) hx hb dX4_chain_5 (by decide) (fun c5 => ?_) (fun c5 => ?_)
  · have h := k_nf c5 h
    refine lv_aload_n hx hb dX4_chain_16 rfl (lv_at hl 0 rfl) ?_
    refine lv_bipush (v := (-2)) hx hb dX4_chain_17 (by decide) ?_
    obtain ⟨x2, σ1, h1, h⟩ := k_ob2 h
    refine k_callVi C hP hap hAA (c_X4_no l ev ad σ (-2)   _ _ h1) Emb.same hap gz_X4_no qML_RX4_56 qIM_yX4_no qSE_yX4_no ⟨(Nat.le_of_ble_eq_true rfl), (Nat.le_of_ble_eq_true rfl)⟩ (q0 := 0) rfl (by decide) rfl rfl rfl rfl hl.1 rfl (Nat.le_of_ble_eq_true rfl) dX4_chain_19 ⟨Nat.le_refl _, Nat.le_refl _⟩ (fun H locs hP => ?_)
    exact e_iret C hend hP (k_some2 h).1 (congrArg (mw ev ad) (k_some2 h).2) dX4_chain_22
  · have h := k_if c5 h
    refine lv_aload_n hx hb dX4_chain_8 rfl (lv_at hl 0 rfl) ?_
    refine lv_iload_n hx hb dX4_chain_9 rfl (lv_at hl 1 rfl) ?_
    obtain ⟨x4, σ3, h1, h⟩ := k_ob2 h
    refine k_callVi C hP hap hAA (c_X4_chainOf l ev ad σ a1   _ _ h1) Emb.same hap gz_X4_chainOf qML_RX4_232 qIM_yX4_chainOf qSE_yX4_chainOf ⟨(Nat.le_of_ble_eq_true rfl), (Nat.le_of_ble_eq_true rfl)⟩ (q0 := 0) rfl (by decide) rfl rfl rfl rfl hl.1 rfl (Nat.le_of_ble_eq_true rfl) dX4_chain_10 ⟨Nat.le_refl _, Nat.le_refl _⟩ (fun H locs hP => ?_)
    refine lv_goto (tgt := 22) hx hb dX4_chain_13 (by decide) ?_
    exact e_iret C hend hP (k_some2 h).1 (congrArg (mw ev ad) (k_some2 h).2) dX4_chain_22
def f_X4_takes_L39_b (a1 : Int32) (k78 : MM → Option MM) (rec39 : Int32 → MM → Option MM) (x3 : Int32) (σ4 : MM) : Option MM :=
  if 2 ≤ x3 then k78 σ4 else ob (f_X4_field σ4 a1 x3) (fun x5 => if x5 = (-1) then lt (x3 + 1) (fun x6 => rec39 x6 σ4) else ob (f_X4_hedges σ4 x5) (fun x7 => if x7 = 4 then gd (inb x5 16) (lt (m_owner' σ4 (upd (m_owner σ4) (Int32.toNatClampNeg x5) (-1))) (fun σ9 => lt (x3 + 1) (fun x10 => rec39 x10 σ9))) else lt (x3 + 1) (fun x8 => rec39 x8 σ4)))
def f_X4_takes_L39 (a1 : Int32) (k78 : MM → Option MM) (x3 : Int32) (σ4 : MM) : Option MM :=
  lp (fun _ _ => none) (f_X4_takes_L39_b a1 k78) FU x3 σ4
def f_X4_takes (σ : MM) (a1 : Int32) : Option MM :=
  lt (m_turn' σ (1 - (m_turn σ))) (fun σ1 => lt (m_made' σ1 ((m_made σ1) - 1)) (fun σ2 => if a1 < 100 then f_X4_takes_L39 a1 (fun σ11 => gd (inb a1 40) (lt (m_hedge' σ11 (upd (m_hedge σ11) (Int32.toNatClampNeg a1) (vp_nar .boolean 0))) (fun σ12 => some σ12))) 0 σ2 else gd (inb (a1 - 100) 16) (lt (m_dug' σ2 (upd (m_dug σ2) (Int32.toNatClampNeg (a1 - 100)) (vp_nar .boolean 0))) (fun σ13 => some σ13))))
set_option maxHeartbeats 4000000 in
set_option maxRecDepth 100000 in
theorem c_X4_takes (l : Launch) (ev : EV) (ad : Nat → Nat) (σ : MM) (a1 : Int32)    (σ' : MM) (h : f_X4_takes σ a1 = some σ') : Ct l yX4_takes prog_6_method_66_code 4 (Option.none : Option Jvm.ClassFile.FieldType) (rmk 3 67) ev 13 ad (mw ev ad σ) (mw ev ad σ') [.ref (ad 0), .int a1] none := by
  refine Ct.of (by decide +kernel) (Nat.le_of_ble_eq_true rfl) ?_
  intro p e s m args below meth c Qc C hap hP hend ls hl
  have hAA : ∀ j, j < 13 → inA ad 13 (ad j) := fun j hj => ⟨j, hj, rfl⟩
  have hx := C.1
  have hb := C.2.1
  have hl : lv_has ls 4 [(0, .ref (ad 0)), (1, .int a1)] := hl
  have h := (f_X4_takes.eq_1 _ _ ).symm.trans h
  refine lv_aload_n hx hb dX4_takes_0 rfl (lv_at hl 0 rfl) ?_
  refine lv_iconst (v := 1) hx hb dX4_takes_1 (by decide) ?_
  refine lv_aload_n hx hb dX4_takes_2 rfl (lv_at hl 0 rfl) ?_
  refine r_get C hP (ci := 4) rfl uin_X4 5 (by decide) 0 (by decide) rfl qFL_RX4_101 rfl rfl dX4_takes_3 ?_
  refine lv_isub hx hb dX4_takes_6 ?_
  obtain ⟨σ1, eσ1, h⟩ := k_ltx h
  refine pt_M_X4_turn C hP hap hAA eσ1 qFL_RX4_101 dX4_takes_7 (fun H locs hP => ?_)
  refine lv_aload_n hx hb dX4_takes_10 rfl (lv_at hl 0 rfl) ?_
  refine lv_dup hx hb dX4_takes_11 rfl ?_
  refine r_get C hP (ci := 4) rfl uin_X4 6 (by decide) 0 (by decide) rfl qFL_RX4_104 rfl rfl dX4_takes_12 ?_
  refine lv_iconst (v := 1) hx hb dX4_takes_15 (by decide) ?_
  refine lv_isub hx hb dX4_takes_16 ?_
  obtain ⟨σ2, eσ2, h⟩ := k_ltx h
  refine pt_M_X4_made C hP hap hAA eσ2 qFL_RX4_104 dX4_takes_17 (fun H locs hP => ?_)
  refine lv_iload_n hx hb dX4_takes_20 rfl (lv_at hl 1 rfl) ?_
  refine lv_bipush (v := 100) hx hb dX4_takes_21 (by decide) ?_
  refine lv_icmp_lt (tgt := 37) hx hb dX4_takes_23 (by decide) (fun c23 => ?_) (fun c23 => ?_)
  · have h := k_if c23 h
    refine lv_iconst (v := 0) hx hb dX4_takes_37 (by decide) ?_
    refine lv_istore_n (lv' := [(2, .int 0), (0, .ref (ad 0)), (1, .int a1)]) hx hb dX4_takes_38 rfl hl (by decide) rfl (fun ls hl => ?_)
    have hL39 : ∀ (k78 : MM → Option MM) (hk78 : ∀  (σk : MM) (H : Heap) (locs : List Loc) (ls : Array Slot), k78  σk = some σ' → PS ev 13 ad (mw ev ad σk) (inA ad 13) s H locs → lv_has ls 4 [(0, .ref (ad 0)), (1, .int a1)] → WW ev p l e (rmk 3 67) s m args below meth c Qc ad 13 H locs 78 ls []) (n : Nat) (x3 : Int32) (σ4 : MM) (H : Heap) (locs : List Loc) (ls : Array Slot), lp (fun _ _ => none) (f_X4_takes_L39_b a1 k78) n x3 σ4 = some σ' → PS ev 13 ad (mw ev ad σ4) (inA ad 13) s H locs → lv_has ls 4 [(0, .ref (ad 0)), (1, .int a1), (2, .int x3)] → WW ev p l e (rmk 3 67) s m args below meth c Qc ad 13 H locs 39 ls [] := by
      intro k78 hk78 n
      induction n with
      | zero =>
        intro x3 σ4 H locs ls h; exact k_none h
      | succ n ih =>
        intro x3 σ4 H locs ls h hP hl
        have h : f_X4_takes_L39_b a1 k78 (lp (fun _ _ => none) (f_X4_takes_L39_b a1 k78) n) x3 σ4 = some σ' := h
        have h := (f_X4_takes_L39_b.eq_1 _ _ _ _ _ ).symm.trans h
        refine lv_iload_n hx hb dX4_takes_39 rfl (lv_at hl 2 rfl) ?_
        refine lv_iconst (v := 2) hx hb dX4_takes_40 (by decide) ?_
        refine lv_icmp_ge (tgt := 78) hx hb dX4_takes_41 (by decide) (fun c41 => ?_) (fun c41 => ?_)
        · have h := k_if c41 h
          exact hk78 _ _ _ _ h hP (lv_sub hl [0, 1] rfl)
        · have h := k_nf c41 h
          refine lv_aload_n hx hb dX4_takes_44 rfl (lv_at hl 0 rfl) ?_
          refine lv_iload_n hx hb dX4_takes_45 rfl (lv_at hl 1 rfl) ?_
          refine lv_iload_n hx hb dX4_takes_46 rfl (lv_at hl 2 rfl) ?_
          obtain ⟨x5, h1, h⟩ := k_ob h
          refine k_callVi C hP hap hAA (c_X4_field l ev ad σ4 a1 x3   _ h1) Emb.same hap gz_X4_field qML_RX4_119 qIM_yX4_field qSE_yX4_field ⟨(Nat.le_of_ble_eq_true rfl), (Nat.le_of_ble_eq_true rfl)⟩ (q0 := 0) rfl (by decide) rfl rfl rfl rfl hl.1 rfl (Nat.le_of_ble_eq_true rfl) dX4_takes_47 ⟨Nat.le_refl _, Nat.le_refl _⟩ (fun H locs hP => ?_)
          refine lv_istore_n (lv' := [(3, .int x5), (0, .ref (ad 0)), (1, .int a1), (2, .int x3)]) hx hb dX4_takes_50 rfl hl (by decide) rfl (fun ls hl => ?_)
          refine lv_iload_n hx hb dX4_takes_51 rfl (lv_at hl 0 rfl) ?_
          refine lv_iconst (v := (-1)) hx hb dX4_takes_52 (by decide) ?_
          refine lv_icmp_eq (tgt := 72) hx hb dX4_takes_53 (by decide) (fun c53 => ?_) (fun c53 => ?_)
          · have h := k_if c53 h
            obtain ⟨x6, ex6, h⟩ := k_ltx h
            refine lv_iinc (v := x6) (lv' := [(2, .int x6), (3, .int x5), (0, .ref (ad 0)), (1, .int a1)]) hx hb dX4_takes_72 hl (k := 3) rfl (by rw [ex6]; rfl) (by decide) rfl (fun ls hl => ?_)
            refine lv_goto (tgt := 39) hx hb dX4_takes_75 (by decide) ?_
            exact ih _ _ _ _ _ h hP (lv_sub hl [2, 3, 0] rfl)
          · have h := k_nf c53 h
            refine lv_aload_n hx hb dX4_takes_56 rfl (lv_at hl 1 rfl) ?_
            refine lv_iload_n hx hb dX4_takes_57 rfl (lv_at hl 0 rfl) ?_
            obtain ⟨x7, h1, h⟩ := k_ob h
            refine k_callVi C hP hap hAA (c_X4_hedges l ev ad σ4 x5   _ h1) Emb.same hap gz_X4_hedges qML_RX4_196 qIM_yX4_hedges qSE_yX4_hedges ⟨(Nat.le_of_ble_eq_true rfl), (Nat.le_of_ble_eq_true rfl)⟩ (q0 := 0) rfl (by decide) rfl rfl rfl rfl hl.1 rfl (Nat.le_of_ble_eq_true rfl) dX4_takes_58 ⟨Nat.le_refl _, Nat.le_refl _⟩ (fun H locs hP => ?_)
            refine lv_iconst (v := 4) hx hb dX4_takes_61 (by decide) ?_
            refine lv_icmp_ne (tgt := 72) hx hb dX4_takes_62 (by decide) (fun c62 => ?_) (fun c62 => ?_)
            · have h := k_nf c62 h
              obtain ⟨x8, ex8, h⟩ := k_ltx h
              refine lv_iinc (v := x8) (lv' := [(2, .int x8), (3, .int x5), (0, .ref (ad 0)), (1, .int a1)]) hx hb dX4_takes_72 hl (k := 3) rfl (by rw [ex8]; rfl) (by decide) rfl (fun ls hl => ?_)
              refine lv_goto (tgt := 39) hx hb dX4_takes_75 (by decide) ?_
              exact ih _ _ _ _ _ h hP (lv_sub hl [2, 3, 0] rfl)
            · have h := k_if c62 h
              refine lv_aload_n hx hb dX4_takes_65 rfl (lv_at hl 1 rfl) ?_
              refine r_get C hP (ci := 4) rfl uin_X4 4 (by decide) 0 (by decide) rfl qFL_RX4_16 rfl rfl dX4_takes_66 ?_
              refine lv_iload_n hx hb dX4_takes_69 rfl (lv_at hl 0 rfl) ?_
              refine lv_iconst (v := (-1)) hx hb dX4_takes_70 (by decide) ?_
              obtain ⟨hg, h⟩ := k_gd h
              obtain ⟨σ9, eσ9, h⟩ := k_ltx h
              refine st_M_owner C hP hap hAA eσ9 hg dX4_takes_71 (fun H locs hP => ?_)
              obtain ⟨x10, ex10, h⟩ := k_ltx h
              refine lv_iinc (v := x10) (lv' := [(2, .int x10), (3, .int x5), (0, .ref (ad 0)), (1, .int a1)]) hx hb dX4_takes_72 hl (k := 3) rfl (by rw [ex10]; rfl) (by decide) rfl (fun ls hl => ?_)
              refine lv_goto (tgt := 39) hx hb dX4_takes_75 (by decide) ?_
              exact ih _ _ _ _ _ h hP (lv_sub hl [2, 3, 0] rfl)
    refine hL39 _ (fun σ11 H locs ls h hP hl => ?_) FU _ _ _ _ _ h hP (lv_sub hl [1, 2, 0] rfl)
    refine lv_aload_n hx hb dX4_takes_78 rfl (lv_at hl 0 rfl) ?_
    refine r_get C hP (ci := 4) rfl uin_X4 2 (by decide) 0 (by decide) rfl qFL_RX4_7 rfl rfl dX4_takes_79 ?_
    refine lv_iload_n hx hb dX4_takes_82 rfl (lv_at hl 1 rfl) ?_
    refine lv_iconst (v := 0) hx hb dX4_takes_83 (by decide) ?_
    obtain ⟨hg, h⟩ := k_gd h
    obtain ⟨σ12, eσ12, h⟩ := k_ltx h
    refine st_M_hedge C hP hap hAA eσ12 hg dX4_takes_84 (fun H locs hP => ?_)
    exact e_vret C hend hP (congrArg (mw ev ad) (k_some h)) dX4_takes_85
  · have h := k_nf c23 h
    refine lv_aload_n hx hb dX4_takes_26 rfl (lv_at hl 0 rfl) ?_
    refine r_get C hP (ci := 4) rfl uin_X4 3 (by decide) 0 (by decide) rfl qFL_RX4_13 rfl rfl dX4_takes_27 ?_
    refine lv_iload_n hx hb dX4_takes_30 rfl (lv_at hl 1 rfl) ?_
    refine lv_bipush (v := 100) hx hb dX4_takes_31 (by decide) ?_
    refine lv_isub hx hb dX4_takes_33 ?_
    refine lv_iconst (v := 0) hx hb dX4_takes_34 (by decide) ?_
    obtain ⟨hg, h⟩ := k_gd h
    obtain ⟨σ13, eσ13, h⟩ := k_ltx h
    refine st_M_dug C hP hap hAA eσ13 hg dX4_takes_35 (fun H locs hP => ?_)
    exact e_vret C hend hP (congrArg (mw ev ad) (k_some h)) dX4_takes_36
def f_X4_search_L6_b (self : MM → Option (Int32 × MM)) (k74 : Int32 → Int32 → MM → Option (Int32 × MM)) (rec6 : Int32 → Int32 → Int32 → MM → Option (Int32 × MM)) (x1 : Int32) (x2 : Int32) (x3 : Int32) (σ4 : MM) : Option (Int32 × MM) :=
  if 116 ≤ x3 then k74 x1 x2 σ4 else if (f_X4_isMove σ4 x3) = true then ob (f_X4_mayBe σ4 x3) (fun b6 => if b6 = true then ob2 (f_X4_makes σ4 x3) (fun x8 σ7 => ob2 (self σ7) (fun x10 σ9 => lt (-x10) (fun x11 => ob (f_X4_takes σ9 x3) (fun σ12 => if x1 = (-1) then lt (x3 + 1) (fun x13 => rec6 x3 x11 x13 σ12) else if x2 < x11 then lt (x3 + 1) (fun x14 => rec6 x3 x11 x14 σ12) else lt (x3 + 1) (fun x15 => rec6 x1 x2 x15 σ12))))) else lt (x3 + 1) (fun x16 => rec6 x1 x2 x16 σ4)) else lt (x3 + 1) (fun x5 => rec6 x1 x2 x5 σ4)
def f_X4_search_L6 (self : MM → Option (Int32 × MM)) (k74 : Int32 → Int32 → MM → Option (Int32 × MM)) (x1 : Int32) (x2 : Int32) (x3 : Int32) (σ4 : MM) : Option (Int32 × MM) :=
  lp (fun _ _ _ _ => none) (f_X4_search_L6_b self k74) FU x1 x2 x3 σ4
def f_X4_search_b (self : MM → Option (Int32 × MM)) (σ : MM) : Option (Int32 × MM) :=
  f_X4_search_L6 self (fun x19 x20 σ21 => lt (m_bestMove' σ21 x19) (fun σ22 => if x19 = (-1) then ob (f_X4_leadOf σ22 (m_turn σ22)) (fun x23 => some (x23, σ22)) else some (x20, σ22))) (-1) 0 0 σ
def f_X4_search (d : Nat) : MM → Option (Int32 × MM) := lp (fun _ => none) f_X4_search_b d
set_option maxHeartbeats 4000000 in
set_option maxRecDepth 100000 in
theorem c_X4_search (l : Launch) (ev : EV) : ∀ (d : Nat) (ad : Nat → Nat) (σ : MM) (r : Int32) (σ' : MM), f_X4_search d σ = some (r, σ') → Ct l yX4_search prog_6_method_67_code 5 (Option.some Jvm.ClassFile.FieldType.int) (rmk (d * 2 + 11) (d * 80 + 286)) ev 13 ad (mw ev ad σ) (mw ev ad σ') [.ref (ad 0)] (some (.int r)) := by
  intro d
  induction d with
  | zero =>
    intro ad σ r σ' h
    exact k_none h
  | succ d ihd =>
    intro ad σ r σ' h
    refine Ct.of (by decide +kernel) (Nat.le_of_ble_eq_true rfl) ?_
    intro p e s m args below meth c Qc C hap hP hend ls hl
    have hAA : ∀ j, j < 13 → inA ad 13 (ad j) := fun j hj => ⟨j, hj, rfl⟩
    have hx := C.1
    have hb := C.2.1
    have hl : lv_has ls 5 [(0, .ref (ad 0))] := hl
    have h : f_X4_search_b (lp (fun _ => none) f_X4_search_b d) σ = some (r, σ') := h
    have h := (f_X4_search_b.eq_1 _ _ ).symm.trans h
    refine lv_iconst (v := (-1)) hx hb dX4_search_0 (by decide) ?_
    refine lv_istore_n (lv' := [(1, .int (-1)), (0, .ref (ad 0))]) hx hb dX4_search_1 rfl hl (by decide) rfl (fun ls hl => ?_)
    refine lv_iconst (v := 0) hx hb dX4_search_2 (by decide) ?_
    refine lv_istore_n (lv' := [(2, .int 0), (1, .int (-1)), (0, .ref (ad 0))]) hx hb dX4_search_3 rfl hl (by decide) rfl (fun ls hl => ?_)
    refine lv_iconst (v := 0) hx hb dX4_search_4 (by decide) ?_
    refine lv_istore_n (lv' := [(3, .int 0), (2, .int 0), (1, .int (-1)), (0, .ref (ad 0))]) hx hb dX4_search_5 rfl hl (by decide) rfl (fun ls hl => ?_)
    have hL6 : ∀ (k74 : Int32 → Int32 → MM → Option (Int32 × MM)) (hk74 : ∀ (z17 : Int32) (z18 : Int32) (σk : MM) (H : Heap) (locs : List Loc) (ls : Array Slot), k74 z17 z18 σk = some (r, σ') → PS ev 13 ad (mw ev ad σk) (inA ad 13) s H locs → lv_has ls 5 [(0, .ref (ad 0)), (1, .int z17), (2, .int z18)] → WW ev p l e (rmk ((d + 1) * 2 + 11) ((d + 1) * 80 + 286)) s m args below meth c Qc ad 13 H locs 74 ls []) (n : Nat) (x1 : Int32) (x2 : Int32) (x3 : Int32) (σ4 : MM) (H : Heap) (locs : List Loc) (ls : Array Slot), lp (fun _ _ _ _ => none) (f_X4_search_L6_b (lp (fun _ => none) f_X4_search_b d) k74) n x1 x2 x3 σ4 = some (r, σ') → PS ev 13 ad (mw ev ad σ4) (inA ad 13) s H locs → lv_has ls 5 [(0, .ref (ad 0)), (1, .int x1), (2, .int x2), (3, .int x3)] → WW ev p l e (rmk ((d + 1) * 2 + 11) ((d + 1) * 80 + 286)) s m args below meth c Qc ad 13 H locs 6 ls [] := by
      intro k74 hk74 n
      induction n with
      | zero =>
        intro x1 x2 x3 σ4 H locs ls h; exact k_none h
      | succ n ih =>
        intro x1 x2 x3 σ4 H locs ls h hP hl
        have h : f_X4_search_L6_b (lp (fun _ => none) f_X4_search_b d) k74 (lp (fun _ _ _ _ => none) (f_X4_search_L6_b (lp (fun _ => none) f_X4_search_b d) k74) n) x1 x2 x3 σ4 = some (r, σ') := h
        have h := (f_X4_search_L6_b.eq_1 _ _ _ _ _ _ _ ).symm.trans h
        refine lv_iload_n hx hb dX4_search_6 rfl (lv_at hl 3 rfl) ?_
        refine lv_bipush (v := 116) hx hb dX4_search_7 (by decide) ?_
        refine lv_icmp_ge (tgt := 74) hx hb dX4_search_9 (by decide) (fun c9 => ?_) (fun c9 => ?_)
        · have h := k_if c9 h
          exact hk74 _ _ _ _ _ _ h hP (lv_sub hl [0, 1, 2] rfl)
        · have h := k_nf c9 h
          refine lv_aload_n hx hb dX4_search_12 rfl (lv_at hl 0 rfl) ?_
          refine lv_iload_n hx hb dX4_search_13 rfl (lv_at hl 3 rfl) ?_
          refine k_callVi C hP hap hAA (c_X4_isMove l ev ad σ4 x3   _ rfl) Emb.same hap gz_X4_isMove qML_RX4_173 qIM_yX4_isMove qSE_yX4_isMove ⟨(Nat.le_of_ble_eq_true rfl), (Nat.le_of_ble_eq_true rfl)⟩ (q0 := 0) rfl (by decide) rfl rfl rfl rfl hl.1 rfl (Nat.le_of_ble_eq_true rfl) dX4_search_14 ⟨Nat.le_refl _, Nat.le_refl _⟩ (fun H locs hP => ?_)
          refine r_ifz_eq (tgt := 68) hx hb dX4_search_17 (by decide) (fun c17 => ?_) (fun c17 => ?_)
          · have h := k_nf c17 h
            obtain ⟨x5, ex5, h⟩ := k_ltx h
            refine lv_iinc (v := x5) (lv' := [(3, .int x5), (0, .ref (ad 0)), (1, .int x1), (2, .int x2)]) hx hb dX4_search_68 hl (k := 3) rfl (by rw [ex5]; rfl) (by decide) rfl (fun ls hl => ?_)
            refine lv_goto (tgt := 6) hx hb dX4_search_71 (by decide) ?_
            exact ih _ _ _ _ _ _ _ h hP (lv_sub hl [1, 2, 3, 0] rfl)
          · have h := k_if c17 h
            refine lv_aload_n hx hb dX4_search_20 rfl (lv_at hl 0 rfl) ?_
            refine lv_iload_n hx hb dX4_search_21 rfl (lv_at hl 3 rfl) ?_
            obtain ⟨b6, h1, h⟩ := k_ob h
            refine k_callVi C hP hap hAA (c_X4_mayBe l ev ad σ4 x3   _ h1) Emb.same hap gz_X4_mayBe qML_RX4_176 qIM_yX4_mayBe qSE_yX4_mayBe ⟨(Nat.le_of_ble_eq_true rfl), (Nat.le_of_ble_eq_true rfl)⟩ (q0 := 0) rfl (by decide) rfl rfl rfl rfl hl.1 rfl (Nat.le_of_ble_eq_true rfl) dX4_search_22 ⟨Nat.le_refl _, Nat.le_refl _⟩ (fun H locs hP => ?_)
            refine r_ifz_ne (tgt := 31) hx hb dX4_search_25 (by decide) (fun c25 => ?_) (fun c25 => ?_)
            · have h := k_if c25 h
              refine lv_aload_n hx hb dX4_search_31 rfl (lv_at hl 0 rfl) ?_
              refine lv_iload_n hx hb dX4_search_32 rfl (lv_at hl 3 rfl) ?_
              obtain ⟨x8, σ7, h1, h⟩ := k_ob2 h
              refine k_callVi C hP hap hAA (c_X4_makes l ev ad σ4 x3   _ _ h1) Emb.same hap gz_X4_makes qML_RX4_179 qIM_yX4_makes qSE_yX4_makes ⟨(Nat.le_of_ble_eq_true rfl), (Nat.le_of_ble_eq_true rfl)⟩ (q0 := 0) rfl (by decide) rfl rfl rfl rfl hl.1 rfl (Nat.le_of_ble_eq_true rfl) dX4_search_33 ⟨Nat.le_refl _, Nat.le_refl _⟩ (fun H locs hP => ?_)
              refine lv_pop hx hb dX4_search_36 rfl ?_
              refine lv_aload_n hx hb dX4_search_37 rfl (lv_at hl 0 rfl) ?_
              obtain ⟨x10, σ9, h1, h⟩ := k_ob2 h
              refine k_callVi C hP hap hAA (ihd ad σ7 _ _ h1) Emb.same hap gz_X4_search qML_RX4_235 qIM_yX4_search qSE_yX4_search ⟨by show d * 2 + 11 + 1 ≤ (d + 1) * 2 + 11; omega, by show 8 + (5 + 11) + (d * 80 + 286) ≤ (d + 1) * 80 + 286; omega⟩ (q0 := 0) rfl (by decide) rfl rfl rfl rfl hl.1 rfl (Nat.le_of_ble_eq_true rfl) dX4_search_38 ⟨Nat.le_refl _, Nat.le_refl _⟩ (fun H locs hP => ?_)
              refine lv_ineg hx hb dX4_search_41 ?_
              refine lv_topi (fun x11 ex11 => ?_)
              have h := k_lt ex11 h
              refine lv_istore (lv' := [(4, .int x11), (0, .ref (ad 0)), (1, .int x1), (2, .int x2), (3, .int x3)]) hx hb dX4_search_42 hl (by decide) rfl (fun ls hl => ?_)
              refine lv_aload_n hx hb dX4_search_44 rfl (lv_at hl 1 rfl) ?_
              refine lv_iload_n hx hb dX4_search_45 rfl (lv_at hl 4 rfl) ?_
              obtain ⟨σ12, h1, h⟩ := k_ob h
              refine k_callVv C hP hap hAA (c_X4_takes l ev ad σ9 x3   _ h1) Emb.same hap gz_X4_takes qML_RX4_238 qIM_yX4_takes qSE_yX4_takes ⟨(Nat.le_of_ble_eq_true rfl), (Nat.le_of_ble_eq_true rfl)⟩ (q0 := 0) rfl (by decide) rfl rfl rfl rfl hl.1 rfl (Nat.le_of_ble_eq_true rfl) dX4_search_46 ⟨Nat.le_refl _, Nat.le_refl _⟩ (fun H locs hP => ?_)
              refine lv_iload_n hx hb dX4_search_49 rfl (lv_at hl 2 rfl) ?_
              refine lv_iconst (v := (-1)) hx hb dX4_search_50 (by decide) ?_
              refine lv_icmp_eq (tgt := 63) hx hb dX4_search_51 (by decide) (fun c51 => ?_) (fun c51 => ?_)
              · have h := k_if c51 h
                refine lv_iload_n hx hb dX4_search_63 rfl (lv_at hl 4 rfl) ?_
                refine lv_istore_n (lv' := [(1, .int x3), (4, .int x11), (0, .ref (ad 0)), (2, .int x2), (3, .int x3)]) hx hb dX4_search_64 rfl hl (by decide) rfl (fun ls hl => ?_)
                refine lv_iload hx hb dX4_search_65 (lv_at hl 1 rfl) ?_
                refine lv_istore_n (lv' := [(2, .int x11), (1, .int x3), (4, .int x11), (0, .ref (ad 0)), (3, .int x3)]) hx hb dX4_search_67 rfl hl (by decide) rfl (fun ls hl => ?_)
                obtain ⟨x13, ex13, h⟩ := k_ltx h
                refine lv_iinc (v := x13) (lv' := [(3, .int x13), (2, .int x11), (1, .int x3), (4, .int x11), (0, .ref (ad 0))]) hx hb dX4_search_68 hl (k := 4) rfl (by rw [ex13]; rfl) (by decide) rfl (fun ls hl => ?_)
                refine lv_goto (tgt := 6) hx hb dX4_search_71 (by decide) ?_
                exact ih _ _ _ _ _ _ _ h hP (lv_sub hl [4, 2, 1, 0] rfl)
              · have h := k_nf c51 h
                refine lv_iload hx hb dX4_search_54 (lv_at hl 0 rfl) ?_
                refine lv_iload_n hx hb dX4_search_56 rfl (lv_at hl 3 rfl) ?_
                refine lv_icmp_gt (tgt := 63) hx hb dX4_search_57 (by decide) (fun c57 => ?_) (fun c57 => ?_)
                · have h := k_if c57 h
                  refine lv_iload_n hx hb dX4_search_63 rfl (lv_at hl 4 rfl) ?_
                  refine lv_istore_n (lv' := [(1, .int x3), (4, .int x11), (0, .ref (ad 0)), (2, .int x2), (3, .int x3)]) hx hb dX4_search_64 rfl hl (by decide) rfl (fun ls hl => ?_)
                  refine lv_iload hx hb dX4_search_65 (lv_at hl 1 rfl) ?_
                  refine lv_istore_n (lv' := [(2, .int x11), (1, .int x3), (4, .int x11), (0, .ref (ad 0)), (3, .int x3)]) hx hb dX4_search_67 rfl hl (by decide) rfl (fun ls hl => ?_)
                  obtain ⟨x14, ex14, h⟩ := k_ltx h
                  refine lv_iinc (v := x14) (lv' := [(3, .int x14), (2, .int x11), (1, .int x3), (4, .int x11), (0, .ref (ad 0))]) hx hb dX4_search_68 hl (k := 4) rfl (by rw [ex14]; rfl) (by decide) rfl (fun ls hl => ?_)
                  refine lv_goto (tgt := 6) hx hb dX4_search_71 (by decide) ?_
                  exact ih _ _ _ _ _ _ _ h hP (lv_sub hl [4, 2, 1, 0] rfl)
                · have h := k_nf c57 h
                  refine lv_goto (tgt := 68) hx hb dX4_search_60 (by decide) ?_
                  obtain ⟨x15, ex15, h⟩ := k_ltx h
                  refine lv_iinc (v := x15) (lv' := [(3, .int x15), (4, .int x11), (0, .ref (ad 0)), (1, .int x1), (2, .int x2)]) hx hb dX4_search_68 hl (k := 4) rfl (by rw [ex15]; rfl) (by decide) rfl (fun ls hl => ?_)
                  refine lv_goto (tgt := 6) hx hb dX4_search_71 (by decide) ?_
                  exact ih _ _ _ _ _ _ _ h hP (lv_sub hl [2, 3, 4, 0] rfl)
            · have h := k_nf c25 h
              refine lv_goto (tgt := 68) hx hb dX4_search_28 (by decide) ?_
              obtain ⟨x16, ex16, h⟩ := k_ltx h
              refine lv_iinc (v := x16) (lv' := [(3, .int x16), (0, .ref (ad 0)), (1, .int x1), (2, .int x2)]) hx hb dX4_search_68 hl (k := 3) rfl (by rw [ex16]; rfl) (by decide) rfl (fun ls hl => ?_)
              refine lv_goto (tgt := 6) hx hb dX4_search_71 (by decide) ?_
              exact ih _ _ _ _ _ _ _ h hP (lv_sub hl [1, 2, 3, 0] rfl)
    refine hL6 _ (fun x19 x20 σ21 H locs ls h hP hl => ?_) FU _ _ _ _ _ _ _ h hP (lv_sub hl [3, 2, 1, 0] rfl)
    refine lv_aload_n hx hb dX4_search_74 rfl (lv_at hl 0 rfl) ?_
    refine lv_iload_n hx hb dX4_search_75 rfl (lv_at hl 1 rfl) ?_
    obtain ⟨σ22, eσ22, h⟩ := k_ltx h
    refine pt_M_X4_bestMove C hP hap hAA eσ22 qFL_RX4_242 dX4_search_76 (fun H locs hP => ?_)
    refine lv_iload_n hx hb dX4_search_79 rfl (lv_at hl 1 rfl) ?_
    refine lv_iconst (v := (-1)) hx hb dX4_search_80 (by decide) ?_
    refine lv_icmp_ne (tgt := 95) hx hb dX4_search_81 (by decide) (fun c81 => ?_) (fun c81 => ?_)
    · have h := k_nf c81 h
      refine lv_iload_n hx hb dX4_search_95 rfl (lv_at hl 2 rfl) ?_
      exact e_iret C hend hP (k_some2 h).1 (congrArg (mw ev ad) (k_some2 h).2) dX4_search_96
    · have h := k_if c81 h
      refine lv_aload_n hx hb dX4_search_84 rfl (lv_at hl 0 rfl) ?_
      refine lv_aload_n hx hb dX4_search_85 rfl (lv_at hl 0 rfl) ?_
      refine r_get C hP (ci := 4) rfl uin_X4 5 (by decide) 0 (by decide) rfl qFL_RX4_101 rfl rfl dX4_search_86 ?_
      obtain ⟨x23, h1, h⟩ := k_ob h
      refine k_callVi C hP hap hAA (c_X4_leadOf l ev ad σ22 (m_turn σ22)   _ h1) Emb.same hap gz_X4_leadOf qML_RX4_226 qIM_yX4_leadOf qSE_yX4_leadOf ⟨(Nat.le_of_ble_eq_true rfl), (Nat.le_of_ble_eq_true rfl)⟩ (q0 := 0) rfl (by decide) rfl rfl rfl rfl hl.1 rfl (Nat.le_of_ble_eq_true rfl) dX4_search_89 ⟨Nat.le_refl _, Nat.le_refl _⟩ (fun H locs hP => ?_)
      refine lv_goto (tgt := 96) hx hb dX4_search_92 (by decide) ?_
      exact e_iret C hend hP (k_some2 h).1 (congrArg (mw ev ad) (k_some2 h).2) dX4_search_96
def f_X4_best (σ : MM) : Option (Int32 × MM) :=
  ob (f_X4_howMany σ) (fun x1 => if x1 ≤ 7 then ob2 (f_X4_search 10 σ) (fun x3 σ2 => some ((m_bestMove σ2), σ2)) else ob2 (f_X4_no σ (-5)) (fun x5 σ4 => some (x5, σ4)))
set_option maxHeartbeats 4000000 in
set_option maxRecDepth 100000 in
theorem c_X4_best (l : Launch) (ev : EV) (ad : Nat → Nat) (σ : MM)   (r : Int32) (σ' : MM) (h : f_X4_best σ = some (r, σ')) : Ct l yX4_best prog_6_method_68_code 1 (Option.some Jvm.ClassFile.FieldType.int) (rmk 32 1110) ev 13 ad (mw ev ad σ) (mw ev ad σ') [.ref (ad 0)] (some (.int r)) := by
  refine Ct.of (by decide +kernel) (Nat.le_of_ble_eq_true rfl) ?_
  intro p e s m args below meth c Qc C hap hP hend ls hl
  have hAA : ∀ j, j < 13 → inA ad 13 (ad j) := fun j hj => ⟨j, hj, rfl⟩
  have hx := C.1
  have hb := C.2.1
  have hl : lv_has ls 1 [(0, .ref (ad 0))] := hl
  have h := (f_X4_best.eq_1 _ ).symm.trans h
  refine lv_aload_n hx hb dX4_best_0 rfl (lv_at hl 0 rfl) ?_
  obtain ⟨x1, h1, h⟩ := k_ob h
  refine k_callVi C hP hap hAA (c_X4_howMany l ev ad σ   _ h1) Emb.same hap gz_X4_howMany qML_RX4_94 qIM_yX4_howMany qSE_yX4_howMany ⟨(Nat.le_of_ble_eq_true rfl), (Nat.le_of_ble_eq_true rfl)⟩ (q0 := 0) rfl (by decide) rfl rfl rfl rfl hl.1 rfl (Nat.le_of_ble_eq_true rfl) dX4_best_1 ⟨Nat.le_refl _, Nat.le_refl _⟩ (fun H locs hP => ?_)
  refine lv_bipush (v := 7) hx hb dX4_best_4 (by decide) ?_
  refine lv_icmp_le (tgt := 16) hx hb dX4_best_6 (by decide) (fun c6 => ?_) (fun c6 => ?_)
  · have h := k_if c6 h
    refine lv_aload_n hx hb dX4_best_16 rfl (lv_at hl 0 rfl) ?_
    obtain ⟨x3, σ2, h1, h⟩ := k_ob2 h
    refine k_callVi C hP hap hAA (c_X4_search l ev 10 ad σ   _ _ h1) Emb.same hap gz_X4_search qML_RX4_235 qIM_yX4_search qSE_yX4_search ⟨(Nat.le_of_ble_eq_true rfl), (Nat.le_of_ble_eq_true rfl)⟩ (q0 := 0) rfl (by decide) rfl rfl rfl rfl hl.1 rfl (Nat.le_of_ble_eq_true rfl) dX4_best_17 ⟨Nat.le_refl _, Nat.le_refl _⟩ (fun H locs hP => ?_)
    refine lv_pop hx hb dX4_best_20 rfl ?_
    refine lv_aload_n hx hb dX4_best_21 rfl (lv_at hl 0 rfl) ?_
    refine r_get C hP (ci := 4) rfl uin_X4 24 (by decide) 0 (by decide) rfl qFL_RX4_242 rfl rfl dX4_best_22 ?_
    exact e_iret C hend hP (k_some2 h).1 (congrArg (mw ev ad) (k_some2 h).2) dX4_best_25
  · have h := k_nf c6 h
    refine lv_aload_n hx hb dX4_best_9 rfl (lv_at hl 0 rfl) ?_
    refine lv_bipush (v := (-5)) hx hb dX4_best_10 (by decide) ?_
    obtain ⟨x5, σ4, h1, h⟩ := k_ob2 h
    refine k_callVi C hP hap hAA (c_X4_no l ev ad σ (-5)   _ _ h1) Emb.same hap gz_X4_no qML_RX4_56 qIM_yX4_no qSE_yX4_no ⟨(Nat.le_of_ble_eq_true rfl), (Nat.le_of_ble_eq_true rfl)⟩ (q0 := 0) rfl (by decide) rfl rfl rfl rfl hl.1 rfl (Nat.le_of_ble_eq_true rfl) dX4_best_12 ⟨Nat.le_refl _, Nat.le_refl _⟩ (fun H locs hP => ?_)
    exact e_iret C hend hP (k_some2 h).1 (congrArg (mw ev ad) (k_some2 h).2) dX4_best_15
def f_X4_worth (σ : MM) : Option (Int32 × MM) :=
  ob (f_X4_howMany σ) (fun x1 => if x1 ≤ 7 then ob2 (f_X4_search 10 σ) (fun x3 σ2 => some (x3, σ2)) else ob2 (f_X4_noLead σ (-5)) (fun x5 σ4 => some (x5, σ4)))
set_option maxHeartbeats 4000000 in
set_option maxRecDepth 100000 in
theorem c_X4_worth (l : Launch) (ev : EV) (ad : Nat → Nat) (σ : MM)   (r : Int32) (σ' : MM) (h : f_X4_worth σ = some (r, σ')) : Ct l yX4_worth prog_6_method_69_code 1 (Option.some Jvm.ClassFile.FieldType.int) (rmk 32 1110) ev 13 ad (mw ev ad σ) (mw ev ad σ') [.ref (ad 0)] (some (.int r)) := by
  refine Ct.of (by decide +kernel) (Nat.le_of_ble_eq_true rfl) ?_
  intro p e s m args below meth c Qc C hap hP hend ls hl
  have hAA : ∀ j, j < 13 → inA ad 13 (ad j) := fun j hj => ⟨j, hj, rfl⟩
  have hx := C.1
  have hb := C.2.1
  have hl : lv_has ls 1 [(0, .ref (ad 0))] := hl
  have h := (f_X4_worth.eq_1 _ ).symm.trans h
  refine lv_aload_n hx hb dX4_worth_0 rfl (lv_at hl 0 rfl) ?_
  obtain ⟨x1, h1, h⟩ := k_ob h
  refine k_callVi C hP hap hAA (c_X4_howMany l ev ad σ   _ h1) Emb.same hap gz_X4_howMany qML_RX4_94 qIM_yX4_howMany qSE_yX4_howMany ⟨(Nat.le_of_ble_eq_true rfl), (Nat.le_of_ble_eq_true rfl)⟩ (q0 := 0) rfl (by decide) rfl rfl rfl rfl hl.1 rfl (Nat.le_of_ble_eq_true rfl) dX4_worth_1 ⟨Nat.le_refl _, Nat.le_refl _⟩ (fun H locs hP => ?_)
  refine lv_bipush (v := 7) hx hb dX4_worth_4 (by decide) ?_
  refine lv_icmp_le (tgt := 18) hx hb dX4_worth_6 (by decide) (fun c6 => ?_) (fun c6 => ?_)
  · have h := k_if c6 h
    refine lv_aload_n hx hb dX4_worth_18 rfl (lv_at hl 0 rfl) ?_
    obtain ⟨x3, σ2, h1, h⟩ := k_ob2 h
    refine k_callVi C hP hap hAA (c_X4_search l ev 10 ad σ   _ _ h1) Emb.same hap gz_X4_search qML_RX4_235 qIM_yX4_search qSE_yX4_search ⟨(Nat.le_of_ble_eq_true rfl), (Nat.le_of_ble_eq_true rfl)⟩ (q0 := 0) rfl (by decide) rfl rfl rfl rfl hl.1 rfl (Nat.le_of_ble_eq_true rfl) dX4_worth_19 ⟨Nat.le_refl _, Nat.le_refl _⟩ (fun H locs hP => ?_)
    exact e_iret C hend hP (k_some2 h).1 (congrArg (mw ev ad) (k_some2 h).2) dX4_worth_22
  · have h := k_nf c6 h
    refine lv_aload_n hx hb dX4_worth_9 rfl (lv_at hl 0 rfl) ?_
    refine lv_bipush (v := (-5)) hx hb dX4_worth_10 (by decide) ?_
    obtain ⟨x5, σ4, h1, h⟩ := k_ob2 h
    refine k_callVi C hP hap hAA (c_X4_noLead l ev ad σ (-5)   _ _ h1) Emb.same hap gz_X4_noLead qML_RX4_229 qIM_yX4_noLead qSE_yX4_noLead ⟨(Nat.le_of_ble_eq_true rfl), (Nat.le_of_ble_eq_true rfl)⟩ (q0 := 0) rfl (by decide) rfl rfl rfl rfl hl.1 rfl (Nat.le_of_ble_eq_true rfl) dX4_worth_12 ⟨Nat.le_refl _, Nat.le_refl _⟩ (fun H locs hP => ?_)
    refine lv_goto (tgt := 22) hx hb dX4_worth_15 (by decide) ?_
    exact e_iret C hend hP (k_some2 h).1 (congrArg (mw ev ad) (k_some2 h).2) dX4_worth_22
def f_X4_choice (σ : MM) (a1 : Int32) : Option (Int32 × MM) :=
  if (f_X4_isPlayer σ a1) = true then ob2 (f_X4_choiceOf σ a1) (fun x4 σ3 => some (x4, σ3)) else ob2 (f_X4_no σ (-2)) (fun x2 σ1 => some (x2, σ1))
set_option maxHeartbeats 4000000 in
set_option maxRecDepth 100000 in
theorem c_X4_choice (l : Launch) (ev : EV) (ad : Nat → Nat) (σ : MM) (a1 : Int32)   (r : Int32) (σ' : MM) (h : f_X4_choice σ a1 = some (r, σ')) : Ct l yX4_choice prog_6_method_77_code 2 (Option.some Jvm.ClassFile.FieldType.int) (rmk 8 180) ev 13 ad (mw ev ad σ) (mw ev ad σ') [.ref (ad 0), .int a1] (some (.int r)) := by
  refine Ct.of (by decide +kernel) (Nat.le_of_ble_eq_true rfl) ?_
  intro p e s m args below meth c Qc C hap hP hend ls hl
  have hAA : ∀ j, j < 13 → inA ad 13 (ad j) := fun j hj => ⟨j, hj, rfl⟩
  have hx := C.1
  have hb := C.2.1
  have hl : lv_has ls 2 [(0, .ref (ad 0)), (1, .int a1)] := hl
  have h := (f_X4_choice.eq_1 _ _ ).symm.trans h
  refine lv_aload_n hx hb dX4_choice_0 rfl (lv_at hl 0 rfl) ?_
  refine lv_iload_n hx hb dX4_choice_1 rfl (lv_at hl 1 rfl) ?_
  refine k_callVi C hP hap hAA (c_X4_isPlayer l ev ad σ a1   _ rfl) Emb.same hap gz_X4_isPlayer qML_RX4_87 qIM_yX4_isPlayer qSE_yX4_isPlayer ⟨(Nat.le_of_ble_eq_true rfl), (Nat.le_of_ble_eq_true rfl)⟩ (q0 := 0) rfl (by decide) rfl rfl rfl rfl hl.1 rfl (Nat.le_of_ble_eq_true rfl) dX4_choice_2 ⟨Nat.le_refl _, Nat.le_refl _⟩ (fun H locs hP => ?_)
  refine r_ifz_eq (tgt := 16) hx hb dX4_choice_5 (by decide) (fun c5 => ?_) (fun c5 => ?_)
  · have h := k_nf c5 h
    refine lv_aload_n hx hb dX4_choice_16 rfl (lv_at hl 0 rfl) ?_
    refine lv_bipush (v := (-2)) hx hb dX4_choice_17 (by decide) ?_
    obtain ⟨x2, σ1, h1, h⟩ := k_ob2 h
    refine k_callVi C hP hap hAA (c_X4_no l ev ad σ (-2)   _ _ h1) Emb.same hap gz_X4_no qML_RX4_56 qIM_yX4_no qSE_yX4_no ⟨(Nat.le_of_ble_eq_true rfl), (Nat.le_of_ble_eq_true rfl)⟩ (q0 := 0) rfl (by decide) rfl rfl rfl rfl hl.1 rfl (Nat.le_of_ble_eq_true rfl) dX4_choice_19 ⟨Nat.le_refl _, Nat.le_refl _⟩ (fun H locs hP => ?_)
    exact e_iret C hend hP (k_some2 h).1 (congrArg (mw ev ad) (k_some2 h).2) dX4_choice_22
  · have h := k_if c5 h
    refine lv_aload_n hx hb dX4_choice_8 rfl (lv_at hl 0 rfl) ?_
    refine lv_iload_n hx hb dX4_choice_9 rfl (lv_at hl 1 rfl) ?_
    obtain ⟨x4, σ3, h1, h⟩ := k_ob2 h
    refine k_callVi C hP hap hAA (c_X4_choiceOf l ev ad σ a1   _ _ h1) Emb.same hap gz_X4_choiceOf qML_RX4_98 qIM_yX4_choiceOf qSE_yX4_choiceOf ⟨(Nat.le_of_ble_eq_true rfl), (Nat.le_of_ble_eq_true rfl)⟩ (q0 := 0) rfl (by decide) rfl rfl rfl rfl hl.1 rfl (Nat.le_of_ble_eq_true rfl) dX4_choice_10 ⟨Nat.le_refl _, Nat.le_refl _⟩ (fun H locs hP => ?_)
    refine lv_goto (tgt := 22) hx hb dX4_choice_13 (by decide) ?_
    exact e_iret C hend hP (k_some2 h).1 (congrArg (mw ev ad) (k_some2 h).2) dX4_choice_22
def f_X4_plays_L12_b (a1 : Int32) (a2 : Int32) (x2 : Int32)  (rec12 : Int32 → Int32 → MM → Option (Int32 × MM)) (x3 : Int32) (x4 : Int32) (σ5 : MM) : Option (Int32 × MM) :=
  if x3 = (-1) then some (x2, σ5) else ob2 (f_X4_makes σ5 x3) (fun x7 σ6 => gd (nz 2) (if (irem x4 2) = 0 then ob2 (f_X4_chosen σ6 a1) (fun x12 σ11 => lt (x4 + 1) (fun x13 => rec12 x12 x13 σ11)) else ob2 (f_X4_chosen σ6 a2) (fun x9 σ8 => lt (x4 + 1) (fun x10 => rec12 x9 x10 σ8))))
def f_X4_plays_L12 (a1 : Int32) (a2 : Int32) (x2 : Int32)  (x3 : Int32) (x4 : Int32) (σ5 : MM) : Option (Int32 × MM) :=
  lp (fun _ _ _ => none) (f_X4_plays_L12_b a1 a2 x2 ) FU x3 x4 σ5
def f_X4_plays (σ : MM) (a1 : Int32) (a2 : Int32) : Option (Int32 × MM) :=
  ob2 (f_X4_chosen σ a1) (fun x2 σ1 => f_X4_plays_L12 a1 a2 x2 x2 1 σ1)
set_option maxHeartbeats 4000000 in
set_option maxRecDepth 100000 in
theorem c_X4_plays (l : Launch) (ev : EV) (ad : Nat → Nat) (σ : MM) (a1 : Int32) (a2 : Int32)   (r : Int32) (σ' : MM) (h : f_X4_plays σ a1 a2 = some (r, σ')) : Ct l yX4_plays prog_6_method_78_code 6 (Option.some Jvm.ClassFile.FieldType.int) (rmk 7 157) ev 13 ad (mw ev ad σ) (mw ev ad σ') [.ref (ad 0), .int a1, .int a2] (some (.int r)) := by
  refine Ct.of (by decide +kernel) (Nat.le_of_ble_eq_true rfl) ?_
  intro p e s m args below meth c Qc C hap hP hend ls hl
  have hAA : ∀ j, j < 13 → inA ad 13 (ad j) := fun j hj => ⟨j, hj, rfl⟩
  have hx := C.1
  have hb := C.2.1
  have hl : lv_has ls 6 [(0, .ref (ad 0)), (1, .int a1), (2, .int a2)] := hl
  have h := (f_X4_plays.eq_1 _ _ _ ).symm.trans h
  refine lv_aload_n hx hb dX4_plays_0 rfl (lv_at hl 0 rfl) ?_
  refine lv_iload_n hx hb dX4_plays_1 rfl (lv_at hl 1 rfl) ?_
  obtain ⟨x2, σ1, h1, h⟩ := k_ob2 h
  refine k_callVi C hP hap hAA (c_X4_chosen l ev ad σ a1   _ _ h1) Emb.same hap gz_X4_chosen qML_RX4_265 qIM_yX4_chosen qSE_yX4_chosen ⟨(Nat.le_of_ble_eq_true rfl), (Nat.le_of_ble_eq_true rfl)⟩ (q0 := 0) rfl (by decide) rfl rfl rfl rfl hl.1 rfl (Nat.le_of_ble_eq_true rfl) dX4_plays_2 ⟨Nat.le_refl _, Nat.le_refl _⟩ (fun H locs hP => ?_)
  refine lv_istore_n (lv' := [(3, .int x2), (0, .ref (ad 0)), (1, .int a1), (2, .int a2)]) hx hb dX4_plays_5 rfl hl (by decide) rfl (fun ls hl => ?_)
  refine lv_iload_n hx hb dX4_plays_6 rfl (lv_at hl 0 rfl) ?_
  refine lv_istore (lv' := [(4, .int x2), (3, .int x2), (0, .ref (ad 0)), (1, .int a1), (2, .int a2)]) hx hb dX4_plays_7 hl (by decide) rfl (fun ls hl => ?_)
  refine lv_iconst (v := 1) hx hb dX4_plays_9 (by decide) ?_
  refine lv_istore (lv' := [(5, .int 1), (4, .int x2), (3, .int x2), (0, .ref (ad 0)), (1, .int a1), (2, .int a2)]) hx hb dX4_plays_10 hl (by decide) rfl (fun ls hl => ?_)
  have hL12 : ∀ (n : Nat) (x3 : Int32) (x4 : Int32) (σ5 : MM) (H : Heap) (locs : List Loc) (ls : Array Slot), lp (fun _ _ _ => none) (f_X4_plays_L12_b a1 a2 x2 ) n x3 x4 σ5 = some (r, σ') → PS ev 13 ad (mw ev ad σ5) (inA ad 13) s H locs → lv_has ls 6 [(0, .ref (ad 0)), (1, .int a1), (2, .int a2), (3, .int x3), (4, .int x2), (5, .int x4)] → WW ev p l e (rmk 7 157) s m args below meth c Qc ad 13 H locs 12 ls [] := by
    intro n
    induction n with
    | zero =>
      intro x3 x4 σ5 H locs ls h; exact k_none h
    | succ n ih =>
      intro x3 x4 σ5 H locs ls h hP hl
      have h : f_X4_plays_L12_b a1 a2 x2  (lp (fun _ _ _ => none) (f_X4_plays_L12_b a1 a2 x2 ) n) x3 x4 σ5 = some (r, σ') := h
      have h := (f_X4_plays_L12_b.eq_1 _ _ _ _ _ _ _ ).symm.trans h
      refine lv_iload_n hx hb dX4_plays_12 rfl (lv_at hl 3 rfl) ?_
      refine lv_iconst (v := (-1)) hx hb dX4_plays_13 (by decide) ?_
      refine lv_icmp_eq (tgt := 46) hx hb dX4_plays_14 (by decide) (fun c14 => ?_) (fun c14 => ?_)
      · have h := k_if c14 h
        refine lv_iload hx hb dX4_plays_46 (lv_at hl 4 rfl) ?_
        exact e_iret C hend hP (k_some2 h).1 (congrArg (mw ev ad) (k_some2 h).2) dX4_plays_48
      · have h := k_nf c14 h
        refine lv_aload_n hx hb dX4_plays_17 rfl (lv_at hl 0 rfl) ?_
        refine lv_iload_n hx hb dX4_plays_18 rfl (lv_at hl 3 rfl) ?_
        obtain ⟨x7, σ6, h1, h⟩ := k_ob2 h
        refine k_callVi C hP hap hAA (c_X4_makes l ev ad σ5 x3   _ _ h1) Emb.same hap gz_X4_makes qML_RX4_179 qIM_yX4_makes qSE_yX4_makes ⟨(Nat.le_of_ble_eq_true rfl), (Nat.le_of_ble_eq_true rfl)⟩ (q0 := 0) rfl (by decide) rfl rfl rfl rfl hl.1 rfl (Nat.le_of_ble_eq_true rfl) dX4_plays_19 ⟨Nat.le_refl _, Nat.le_refl _⟩ (fun H locs hP => ?_)
        refine lv_pop hx hb dX4_plays_22 rfl ?_
        refine lv_aload_n hx hb dX4_plays_23 rfl (lv_at hl 0 rfl) ?_
        refine lv_iload hx hb dX4_plays_24 (lv_at hl 5 rfl) ?_
        refine lv_iconst (v := 2) hx hb dX4_plays_26 (by decide) ?_
        obtain ⟨hg, h⟩ := k_gd h
        refine r_irem hx hb dX4_plays_27 (nz_ne hg) ?_
        refine lv_if_ne (tgt := 35) hx hb dX4_plays_28 (by decide) (fun c28 => ?_) (fun c28 => ?_)
        · have h := k_nf c28 h
          refine lv_iload_n hx hb dX4_plays_35 rfl (lv_at hl 2 rfl) ?_
          obtain ⟨x9, σ8, h1, h⟩ := k_ob2 h
          refine k_callVi C hP hap hAA (c_X4_chosen l ev ad σ6 a2   _ _ h1) Emb.same hap gz_X4_chosen qML_RX4_265 qIM_yX4_chosen qSE_yX4_chosen ⟨(Nat.le_of_ble_eq_true rfl), (Nat.le_of_ble_eq_true rfl)⟩ (q0 := 0) rfl (by decide) rfl rfl rfl rfl hl.1 rfl (Nat.le_of_ble_eq_true rfl) dX4_plays_36 ⟨Nat.le_refl _, Nat.le_refl _⟩ (fun H locs hP => ?_)
          refine lv_istore_n (lv' := [(3, .int x9), (0, .ref (ad 0)), (1, .int a1), (2, .int a2), (4, .int x2), (5, .int x4)]) hx hb dX4_plays_39 rfl hl (by decide) rfl (fun ls hl => ?_)
          obtain ⟨x10, ex10, h⟩ := k_ltx h
          refine lv_iinc (v := x10) (lv' := [(5, .int x10), (3, .int x9), (0, .ref (ad 0)), (1, .int a1), (2, .int a2), (4, .int x2)]) hx hb dX4_plays_40 hl (k := 5) rfl (by rw [ex10]; rfl) (by decide) rfl (fun ls hl => ?_)
          refine lv_goto (tgt := 12) hx hb dX4_plays_43 (by decide) ?_
          exact ih _ _ _ _ _ _ h hP (lv_sub hl [2, 3, 4, 1, 5, 0] rfl)
        · have h := k_if c28 h
          refine lv_iload_n hx hb dX4_plays_31 rfl (lv_at hl 1 rfl) ?_
          refine lv_goto (tgt := 36) hx hb dX4_plays_32 (by decide) ?_
          obtain ⟨x12, σ11, h1, h⟩ := k_ob2 h
          refine k_callVi C hP hap hAA (c_X4_chosen l ev ad σ6 a1   _ _ h1) Emb.same hap gz_X4_chosen qML_RX4_265 qIM_yX4_chosen qSE_yX4_chosen ⟨(Nat.le_of_ble_eq_true rfl), (Nat.le_of_ble_eq_true rfl)⟩ (q0 := 0) rfl (by decide) rfl rfl rfl rfl hl.1 rfl (Nat.le_of_ble_eq_true rfl) dX4_plays_36 ⟨Nat.le_refl _, Nat.le_refl _⟩ (fun H locs hP => ?_)
          refine lv_istore_n (lv' := [(3, .int x12), (0, .ref (ad 0)), (1, .int a1), (2, .int a2), (4, .int x2), (5, .int x4)]) hx hb dX4_plays_39 rfl hl (by decide) rfl (fun ls hl => ?_)
          obtain ⟨x13, ex13, h⟩ := k_ltx h
          refine lv_iinc (v := x13) (lv' := [(5, .int x13), (3, .int x12), (0, .ref (ad 0)), (1, .int a1), (2, .int a2), (4, .int x2)]) hx hb dX4_plays_40 hl (k := 5) rfl (by rw [ex13]; rfl) (by decide) rfl (fun ls hl => ?_)
          refine lv_goto (tgt := 12) hx hb dX4_plays_43 (by decide) ?_
          exact ih _ _ _ _ _ _ h hP (lv_sub hl [2, 3, 4, 1, 5, 0] rfl)
  exact hL12 FU _ _ _ _ _ _ h hP (lv_sub hl [3, 4, 5, 2, 1, 0] rfl)
def f_X4_leadPlayed (σ : MM) (a1 : Int32) (a2 : Int32) : Option (Int32 × MM) :=
  ob (f_X4_keep_ahead σ) (fun σ1 => ob2 (f_X4_plays σ1 a1 a2) (fun x3 σ2 => ob (f_X4_leadOf σ2 0) (fun x4 => ob (f_X4_again_ahead σ2) (fun σ5 => some (x4, σ5)))))
set_option maxHeartbeats 4000000 in
set_option maxRecDepth 100000 in
theorem c_X4_leadPlayed (l : Launch) (ev : EV) (ad : Nat → Nat) (σ : MM) (a1 : Int32) (a2 : Int32)   (r : Int32) (σ' : MM) (h : f_X4_leadPlayed σ a1 a2 = some (r, σ')) : Ct l yX4_leadPlayed prog_6_method_79_code 4 (Option.some Jvm.ClassFile.FieldType.int) (rmk 9 206) ev 13 ad (mw ev ad σ) (mw ev ad σ') [.ref (ad 0), .int a1, .int a2] (some (.int r)) := by
  refine Ct.of (by decide +kernel) (Nat.le_of_ble_eq_true rfl) ?_
  intro p e s m args below meth c Qc C hap hP hend ls hl
  have hAA : ∀ j, j < 13 → inA ad 13 (ad j) := fun j hj => ⟨j, hj, rfl⟩
  have hx := C.1
  have hb := C.2.1
  have hl : lv_has ls 4 [(0, .ref (ad 0)), (1, .int a1), (2, .int a2)] := hl
  have h := (f_X4_leadPlayed.eq_1 _ _ _ ).symm.trans h
  refine lv_aload_n hx hb dX4_leadPlayed_0 rfl (lv_at hl 0 rfl) ?_
  refine lv_aload_n hx hb dX4_leadPlayed_1 rfl (lv_at hl 0 rfl) ?_
  refine r_get C hP (ci := 4) rfl uin_X4 23 (by decide) 0 (by decide) rfl qFL_RX4_45 rfl rfl dX4_leadPlayed_2 ?_
  obtain ⟨σ1, h1, h⟩ := k_ob h
  refine k_callVv C hP hap hAA (c_X4_keep_ahead l ev ad σ   _ h1) Emb.same hap gz_X4_keep qML_RX4_185 qIM_yX4_keep qSE_yX4_keep ⟨(Nat.le_of_ble_eq_true rfl), (Nat.le_of_ble_eq_true rfl)⟩ (q0 := 0) rfl (by decide) rfl rfl rfl rfl hl.1 rfl (Nat.le_of_ble_eq_true rfl) dX4_leadPlayed_5 ⟨Nat.le_refl _, Nat.le_refl _⟩ (fun H locs hP => ?_)
  refine lv_aload_n hx hb dX4_leadPlayed_8 rfl (lv_at hl 0 rfl) ?_
  refine lv_iload_n hx hb dX4_leadPlayed_9 rfl (lv_at hl 1 rfl) ?_
  refine lv_iload_n hx hb dX4_leadPlayed_10 rfl (lv_at hl 2 rfl) ?_
  obtain ⟨x3, σ2, h1, h⟩ := k_ob2 h
  refine k_callVi C hP hap hAA (c_X4_plays l ev ad σ1 a1 a2   _ _ h1) Emb.same hap gz_X4_plays qML_RX4_268 qIM_yX4_plays qSE_yX4_plays ⟨(Nat.le_of_ble_eq_true rfl), (Nat.le_of_ble_eq_true rfl)⟩ (q0 := 0) rfl (by decide) rfl rfl rfl rfl hl.1 rfl (Nat.le_of_ble_eq_true rfl) dX4_leadPlayed_11 ⟨Nat.le_refl _, Nat.le_refl _⟩ (fun H locs hP => ?_)
  refine lv_pop hx hb dX4_leadPlayed_14 rfl ?_
  refine lv_aload_n hx hb dX4_leadPlayed_15 rfl (lv_at hl 0 rfl) ?_
  refine lv_iconst (v := 0) hx hb dX4_leadPlayed_16 (by decide) ?_
  obtain ⟨x4, h1, h⟩ := k_ob h
  refine k_callVi C hP hap hAA (c_X4_leadOf l ev ad σ2 0   _ h1) Emb.same hap gz_X4_leadOf qML_RX4_226 qIM_yX4_leadOf qSE_yX4_leadOf ⟨(Nat.le_of_ble_eq_true rfl), (Nat.le_of_ble_eq_true rfl)⟩ (q0 := 0) rfl (by decide) rfl rfl rfl rfl hl.1 rfl (Nat.le_of_ble_eq_true rfl) dX4_leadPlayed_17 ⟨Nat.le_refl _, Nat.le_refl _⟩ (fun H locs hP => ?_)
  refine lv_istore_n (lv' := [(3, .int x4), (0, .ref (ad 0)), (1, .int a1), (2, .int a2)]) hx hb dX4_leadPlayed_20 rfl hl (by decide) rfl (fun ls hl => ?_)
  refine lv_aload_n hx hb dX4_leadPlayed_21 rfl (lv_at hl 1 rfl) ?_
  refine lv_aload_n hx hb dX4_leadPlayed_22 rfl (lv_at hl 1 rfl) ?_
  refine r_get C hP (ci := 4) rfl uin_X4 23 (by decide) 0 (by decide) rfl qFL_RX4_45 rfl rfl dX4_leadPlayed_23 ?_
  obtain ⟨σ5, h1, h⟩ := k_ob h
  refine k_callVv C hP hap hAA (c_X4_again_ahead l ev ad σ2   _ h1) Emb.same hap gz_X4_again qML_RX4_193 qIM_yX4_again qSE_yX4_again ⟨(Nat.le_of_ble_eq_true rfl), (Nat.le_of_ble_eq_true rfl)⟩ (q0 := 0) rfl (by decide) rfl rfl rfl rfl hl.1 rfl (Nat.le_of_ble_eq_true rfl) dX4_leadPlayed_26 ⟨Nat.le_refl _, Nat.le_refl _⟩ (fun H locs hP => ?_)
  refine lv_iload_n hx hb dX4_leadPlayed_29 rfl (lv_at hl 0 rfl) ?_
  exact e_iret C hend hP (k_some2 h).1 (congrArg (mw ev ad) (k_some2 h).2) dX4_leadPlayed_30
def f_X4_played (σ : MM) (a1 : Int32) (a2 : Int32) (a3 : Int32) : Option (Int32 × MM) :=
  if (f_X4_isPlayer σ a1) = true then if (f_X4_isPlayer σ a2) = true then if (f_X4_within a3 0 2) = true then ob (f_X4_keep_ahead σ) (fun σ5 => lt (m_made σ5) (fun x6 => ob2 (f_X4_plays σ5 a1 a2) (fun x8 σ7 => lt ((m_made σ7) - x6) (fun x9 => ob (f_X4_leadOf σ7 0) (fun x10 => ob (f_X4_again_ahead σ7) (fun σ11 => if a3 = 0 then some (x9, σ11) else if a3 = 1 then some (x10, σ11) else some (x8, σ11))))))) else ob2 (f_X4_noLead σ (-2)) (fun x13 σ12 => some (x13, σ12)) else ob2 (f_X4_noLead σ (-2)) (fun x4 σ3 => some (x4, σ3)) else ob2 (f_X4_noLead σ (-2)) (fun x2 σ1 => some (x2, σ1))
set_option maxHeartbeats 4000000 in
set_option maxRecDepth 100000 in
theorem c_X4_played (l : Launch) (ev : EV) (ad : Nat → Nat) (σ : MM) (a1 : Int32) (a2 : Int32) (a3 : Int32)   (r : Int32) (σ' : MM) (h : f_X4_played σ a1 a2 a3 = some (r, σ')) : Ct l yX4_played prog_6_method_80_code 8 (Option.some Jvm.ClassFile.FieldType.int) (rmk 9 206) ev 13 ad (mw ev ad σ) (mw ev ad σ') [.ref (ad 0), .int a1, .int a2, .int a3] (some (.int r)) := by
  refine Ct.of (by decide +kernel) (Nat.le_of_ble_eq_true rfl) ?_
  intro p e s m args below meth c Qc C hap hP hend ls hl
  have hAA : ∀ j, j < 13 → inA ad 13 (ad j) := fun j hj => ⟨j, hj, rfl⟩
  have hx := C.1
  have hb := C.2.1
  have hl : lv_has ls 8 [(0, .ref (ad 0)), (1, .int a1), (2, .int a2), (3, .int a3)] := hl
  have h := (f_X4_played.eq_1 _ _ _ _ ).symm.trans h
  refine lv_aload_n hx hb dX4_played_0 rfl (lv_at hl 0 rfl) ?_
  refine lv_iload_n hx hb dX4_played_1 rfl (lv_at hl 1 rfl) ?_
  refine k_callVi C hP hap hAA (c_X4_isPlayer l ev ad σ a1   _ rfl) Emb.same hap gz_X4_isPlayer qML_RX4_87 qIM_yX4_isPlayer qSE_yX4_isPlayer ⟨(Nat.le_of_ble_eq_true rfl), (Nat.le_of_ble_eq_true rfl)⟩ (q0 := 0) rfl (by decide) rfl rfl rfl rfl hl.1 rfl (Nat.le_of_ble_eq_true rfl) dX4_played_2 ⟨Nat.le_refl _, Nat.le_refl _⟩ (fun H locs hP => ?_)
  refine r_ifz_eq (tgt := 25) hx hb dX4_played_5 (by decide) (fun c5 => ?_) (fun c5 => ?_)
  · have h := k_nf c5 h
    refine lv_aload_n hx hb dX4_played_25 rfl (lv_at hl 0 rfl) ?_
    refine lv_bipush (v := (-2)) hx hb dX4_played_26 (by decide) ?_
    obtain ⟨x2, σ1, h1, h⟩ := k_ob2 h
    refine k_callVi C hP hap hAA (c_X4_noLead l ev ad σ (-2)   _ _ h1) Emb.same hap gz_X4_noLead qML_RX4_229 qIM_yX4_noLead qSE_yX4_noLead ⟨(Nat.le_of_ble_eq_true rfl), (Nat.le_of_ble_eq_true rfl)⟩ (q0 := 0) rfl (by decide) rfl rfl rfl rfl hl.1 rfl (Nat.le_of_ble_eq_true rfl) dX4_played_28 ⟨Nat.le_refl _, Nat.le_refl _⟩ (fun H locs hP => ?_)
    exact e_iret C hend hP (k_some2 h).1 (congrArg (mw ev ad) (k_some2 h).2) dX4_played_31
  · have h := k_if c5 h
    refine lv_aload_n hx hb dX4_played_8 rfl (lv_at hl 0 rfl) ?_
    refine lv_iload_n hx hb dX4_played_9 rfl (lv_at hl 2 rfl) ?_
    refine k_callVi C hP hap hAA (c_X4_isPlayer l ev ad σ a2   _ rfl) Emb.same hap gz_X4_isPlayer qML_RX4_87 qIM_yX4_isPlayer qSE_yX4_isPlayer ⟨(Nat.le_of_ble_eq_true rfl), (Nat.le_of_ble_eq_true rfl)⟩ (q0 := 0) rfl (by decide) rfl rfl rfl rfl hl.1 rfl (Nat.le_of_ble_eq_true rfl) dX4_played_10 ⟨Nat.le_refl _, Nat.le_refl _⟩ (fun H locs hP => ?_)
    refine r_ifz_eq (tgt := 25) hx hb dX4_played_13 (by decide) (fun c13 => ?_) (fun c13 => ?_)
    · have h := k_nf c13 h
      refine lv_aload_n hx hb dX4_played_25 rfl (lv_at hl 0 rfl) ?_
      refine lv_bipush (v := (-2)) hx hb dX4_played_26 (by decide) ?_
      obtain ⟨x4, σ3, h1, h⟩ := k_ob2 h
      refine k_callVi C hP hap hAA (c_X4_noLead l ev ad σ (-2)   _ _ h1) Emb.same hap gz_X4_noLead qML_RX4_229 qIM_yX4_noLead qSE_yX4_noLead ⟨(Nat.le_of_ble_eq_true rfl), (Nat.le_of_ble_eq_true rfl)⟩ (q0 := 0) rfl (by decide) rfl rfl rfl rfl hl.1 rfl (Nat.le_of_ble_eq_true rfl) dX4_played_28 ⟨Nat.le_refl _, Nat.le_refl _⟩ (fun H locs hP => ?_)
      exact e_iret C hend hP (k_some2 h).1 (congrArg (mw ev ad) (k_some2 h).2) dX4_played_31
    · have h := k_if c13 h
      refine lv_iload_n hx hb dX4_played_16 rfl (lv_at hl 3 rfl) ?_
      refine lv_iconst (v := 0) hx hb dX4_played_17 (by decide) ?_
      refine lv_iconst (v := 2) hx hb dX4_played_18 (by decide) ?_
      refine k_callSi C hP hap hAA (c_X4_within l ev ad a3 0 2   _ rfl) Emb.none (apart_0 _) gz_X4_within qML_RX4_63 qSM_yX4_within ⟨(Nat.le_of_ble_eq_true rfl), (Nat.le_of_ble_eq_true rfl)⟩ rfl hl.1 rfl (Nat.le_of_ble_eq_true rfl) dX4_played_19 ⟨Nat.le_refl _, Nat.le_refl _⟩ (fun H locs hP => ?_)
      refine r_ifz_ne (tgt := 32) hx hb dX4_played_22 (by decide) (fun c22 => ?_) (fun c22 => ?_)
      · have h := k_if c22 h
        refine lv_aload_n hx hb dX4_played_32 rfl (lv_at hl 0 rfl) ?_
        refine lv_aload_n hx hb dX4_played_33 rfl (lv_at hl 0 rfl) ?_
        refine r_get C hP (ci := 4) rfl uin_X4 23 (by decide) 0 (by decide) rfl qFL_RX4_45 rfl rfl dX4_played_34 ?_
        obtain ⟨σ5, h1, h⟩ := k_ob h
        refine k_callVv C hP hap hAA (c_X4_keep_ahead l ev ad σ   _ h1) Emb.same hap gz_X4_keep qML_RX4_185 qIM_yX4_keep qSE_yX4_keep ⟨(Nat.le_of_ble_eq_true rfl), (Nat.le_of_ble_eq_true rfl)⟩ (q0 := 0) rfl (by decide) rfl rfl rfl rfl hl.1 rfl (Nat.le_of_ble_eq_true rfl) dX4_played_37 ⟨Nat.le_refl _, Nat.le_refl _⟩ (fun H locs hP => ?_)
        refine lv_aload_n hx hb dX4_played_40 rfl (lv_at hl 0 rfl) ?_
        refine r_get C hP (ci := 4) rfl uin_X4 6 (by decide) 0 (by decide) rfl qFL_RX4_104 rfl rfl dX4_played_41 ?_
        refine lv_topi (fun x6 ex6 => ?_)
        have h := k_lt ex6 h
        refine lv_istore (lv' := [(4, .int x6), (0, .ref (ad 0)), (1, .int a1), (2, .int a2), (3, .int a3)]) hx hb dX4_played_44 hl (by decide) rfl (fun ls hl => ?_)
        refine lv_aload_n hx hb dX4_played_46 rfl (lv_at hl 1 rfl) ?_
        refine lv_iload_n hx hb dX4_played_47 rfl (lv_at hl 2 rfl) ?_
        refine lv_iload_n hx hb dX4_played_48 rfl (lv_at hl 3 rfl) ?_
        obtain ⟨x8, σ7, h1, h⟩ := k_ob2 h
        refine k_callVi C hP hap hAA (c_X4_plays l ev ad σ5 a1 a2   _ _ h1) Emb.same hap gz_X4_plays qML_RX4_268 qIM_yX4_plays qSE_yX4_plays ⟨(Nat.le_of_ble_eq_true rfl), (Nat.le_of_ble_eq_true rfl)⟩ (q0 := 0) rfl (by decide) rfl rfl rfl rfl hl.1 rfl (Nat.le_of_ble_eq_true rfl) dX4_played_49 ⟨Nat.le_refl _, Nat.le_refl _⟩ (fun H locs hP => ?_)
        refine lv_istore (lv' := [(5, .int x8), (4, .int x6), (0, .ref (ad 0)), (1, .int a1), (2, .int a2), (3, .int a3)]) hx hb dX4_played_52 hl (by decide) rfl (fun ls hl => ?_)
        refine lv_aload_n hx hb dX4_played_54 rfl (lv_at hl 2 rfl) ?_
        refine r_get C hP (ci := 4) rfl uin_X4 6 (by decide) 0 (by decide) rfl qFL_RX4_104 rfl rfl dX4_played_55 ?_
        refine lv_iload hx hb dX4_played_58 (lv_at hl 1 rfl) ?_
        refine lv_isub hx hb dX4_played_60 ?_
        refine lv_topi (fun x9 ex9 => ?_)
        have h := k_lt ex9 h
        refine lv_istore (lv' := [(6, .int x9), (5, .int x8), (4, .int x6), (0, .ref (ad 0)), (1, .int a1), (2, .int a2), (3, .int a3)]) hx hb dX4_played_61 hl (by decide) rfl (fun ls hl => ?_)
        refine lv_aload_n hx hb dX4_played_63 rfl (lv_at hl 3 rfl) ?_
        refine lv_iconst (v := 0) hx hb dX4_played_64 (by decide) ?_
        obtain ⟨x10, h1, h⟩ := k_ob h
        refine k_callVi C hP hap hAA (c_X4_leadOf l ev ad σ7 0   _ h1) Emb.same hap gz_X4_leadOf qML_RX4_226 qIM_yX4_leadOf qSE_yX4_leadOf ⟨(Nat.le_of_ble_eq_true rfl), (Nat.le_of_ble_eq_true rfl)⟩ (q0 := 0) rfl (by decide) rfl rfl rfl rfl hl.1 rfl (Nat.le_of_ble_eq_true rfl) dX4_played_65 ⟨Nat.le_refl _, Nat.le_refl _⟩ (fun H locs hP => ?_)
        refine lv_istore (lv' := [(7, .int x10), (6, .int x9), (5, .int x8), (4, .int x6), (0, .ref (ad 0)), (1, .int a1), (2, .int a2), (3, .int a3)]) hx hb dX4_played_68 hl (by decide) rfl (fun ls hl => ?_)
        refine lv_aload_n hx hb dX4_played_70 rfl (lv_at hl 4 rfl) ?_
        refine lv_aload_n hx hb dX4_played_71 rfl (lv_at hl 4 rfl) ?_
        refine r_get C hP (ci := 4) rfl uin_X4 23 (by decide) 0 (by decide) rfl qFL_RX4_45 rfl rfl dX4_played_72 ?_
        obtain ⟨σ11, h1, h⟩ := k_ob h
        refine k_callVv C hP hap hAA (c_X4_again_ahead l ev ad σ7   _ h1) Emb.same hap gz_X4_again qML_RX4_193 qIM_yX4_again qSE_yX4_again ⟨(Nat.le_of_ble_eq_true rfl), (Nat.le_of_ble_eq_true rfl)⟩ (q0 := 0) rfl (by decide) rfl rfl rfl rfl hl.1 rfl (Nat.le_of_ble_eq_true rfl) dX4_played_75 ⟨Nat.le_refl _, Nat.le_refl _⟩ (fun H locs hP => ?_)
        refine lv_iload_n hx hb dX4_played_78 rfl (lv_at hl 7 rfl) ?_
        refine lv_if_ne (tgt := 87) hx hb dX4_played_79 (by decide) (fun c79 => ?_) (fun c79 => ?_)
        · have h := k_nf c79 h
          refine lv_iload_n hx hb dX4_played_87 rfl (lv_at hl 7 rfl) ?_
          refine lv_iconst (v := 1) hx hb dX4_played_88 (by decide) ?_
          refine lv_icmp_ne (tgt := 97) hx hb dX4_played_89 (by decide) (fun c89 => ?_) (fun c89 => ?_)
          · have h := k_nf c89 h
            refine lv_iload hx hb dX4_played_97 (lv_at hl 2 rfl) ?_
            exact e_iret C hend hP (k_some2 h).1 (congrArg (mw ev ad) (k_some2 h).2) dX4_played_99
          · have h := k_if c89 h
            refine lv_iload hx hb dX4_played_92 (lv_at hl 0 rfl) ?_
            refine lv_goto (tgt := 99) hx hb dX4_played_94 (by decide) ?_
            exact e_iret C hend hP (k_some2 h).1 (congrArg (mw ev ad) (k_some2 h).2) dX4_played_99
        · have h := k_if c79 h
          refine lv_iload hx hb dX4_played_82 (lv_at hl 1 rfl) ?_
          refine lv_goto (tgt := 99) hx hb dX4_played_84 (by decide) ?_
          exact e_iret C hend hP (k_some2 h).1 (congrArg (mw ev ad) (k_some2 h).2) dX4_played_99
      · have h := k_nf c22 h
        refine lv_aload_n hx hb dX4_played_25 rfl (lv_at hl 0 rfl) ?_
        refine lv_bipush (v := (-2)) hx hb dX4_played_26 (by decide) ?_
        obtain ⟨x13, σ12, h1, h⟩ := k_ob2 h
        refine k_callVi C hP hap hAA (c_X4_noLead l ev ad σ (-2)   _ _ h1) Emb.same hap gz_X4_noLead qML_RX4_229 qIM_yX4_noLead qSE_yX4_noLead ⟨(Nat.le_of_ble_eq_true rfl), (Nat.le_of_ble_eq_true rfl)⟩ (q0 := 0) rfl (by decide) rfl rfl rfl rfl hl.1 rfl (Nat.le_of_ble_eq_true rfl) dX4_played_28 ⟨Nat.le_refl _, Nat.le_refl _⟩ (fun H locs hP => ?_)
        exact e_iret C hend hP (k_some2 h).1 (congrArg (mw ev ad) (k_some2 h).2) dX4_played_31
def f_X4_turned_b61 (σ : MM) (a2 : Int32) (x4 : Int32) (x5 : Int32) : Option (Int32) :=
  gd (nz 2) (gd (nz 2) (if (irem (idiv a2 2) 2) = 1 then lt (((m_h σ) - 1) - x4) (fun x6 => some ((x6 * (m_w σ)) + x5)) else some ((x4 * (m_w σ)) + x5)))
def f_X4_turned_b41 (σ : MM) (a2 : Int32) (x2 : Int32) (x3 : Int32) : Option (Int32) :=
  gd (nz 2) (if (irem a2 2) = 1 then lt (((m_w σ) - 1) - x3) (fun x7 => f_X4_turned_b61 σ a2 x2 x7) else f_X4_turned_b61 σ a2 x2 x3)
def f_X4_turned_b20 (σ : MM) (a1 : Int32) (a2 : Int32) (x1 : Int32) : Option (Int32) :=
  if 4 ≤ a2 then gd (nz (m_w σ)) (f_X4_turned_b41 σ a2 x1 ((idiv a1 (m_w σ)))) else gd (nz (m_w σ)) (f_X4_turned_b41 σ a2 x1 ((irem a1 (m_w σ))))
def f_X4_turned (σ : MM) (a1 : Int32) (a2 : Int32) : Option (Int32) :=
  if 4 ≤ a2 then gd (nz (m_w σ)) (f_X4_turned_b20 σ a1 a2 ((irem a1 (m_w σ)))) else gd (nz (m_w σ)) (f_X4_turned_b20 σ a1 a2 ((idiv a1 (m_w σ))))
set_option maxHeartbeats 4000000 in
set_option maxRecDepth 100000 in
theorem c_X4_turned (l : Launch) (ev : EV) (ad : Nat → Nat) (σ : MM) (a1 : Int32) (a2 : Int32)   (r : Int32)  (h : f_X4_turned σ a1 a2 = some r) : Ct l yX4_turned prog_6_method_81_code 5 (Option.some Jvm.ClassFile.FieldType.int) (rmk 0 0) ev 13 ad (mw ev ad σ) (mw ev ad σ) [.ref (ad 0), .int a1, .int a2] (some (.int r)) := by
  refine Ct.of (by decide +kernel) (Nat.le_of_ble_eq_true rfl) ?_
  intro p e s m args below meth c Qc C hap hP hend ls hl
  have hAA : ∀ j, j < 13 → inA ad 13 (ad j) := fun j hj => ⟨j, hj, rfl⟩
  have hx := C.1
  have hb := C.2.1
  have hl : lv_has ls 5 [(0, .ref (ad 0)), (1, .int a1), (2, .int a2)] := hl
  have h := (f_X4_turned.eq_1 _ _ _ ).symm.trans h
  have hB61 : ∀ (x4 : Int32) (x5 : Int32) (H : Heap) (locs : List Loc) (ls : Array Slot), f_X4_turned_b61 σ a2 x4 x5 = some r → PS ev 13 ad (mw ev ad σ) (inA ad 13) s H locs → lv_has ls 5 [(0, .ref (ad 0)), (2, .int a2), (3, .int x4), (4, .int x5)] → WW ev p l e (rmk 0 0) s m args below meth c Qc ad 13 H locs 61 ls [] := by
    intro x4 x5 H locs ls h hP hl
    have h := (f_X4_turned_b61.eq_1 _ _ _ _ ).symm.trans h
    refine lv_iload_n hx hb dX4_turned_61 rfl (lv_at hl 1 rfl) ?_
    refine lv_iconst (v := 2) hx hb dX4_turned_62 (by decide) ?_
    obtain ⟨hg, h⟩ := k_gd h
    refine r_idiv hx hb dX4_turned_63 (nz_ne hg) ?_
    refine lv_iconst (v := 2) hx hb dX4_turned_64 (by decide) ?_
    obtain ⟨hg, h⟩ := k_gd h
    refine r_irem hx hb dX4_turned_65 (nz_ne hg) ?_
    refine lv_iconst (v := 1) hx hb dX4_turned_66 (by decide) ?_
    refine lv_icmp_ne (tgt := 79) hx hb dX4_turned_67 (by decide) (fun c67 => ?_) (fun c67 => ?_)
    · have h := k_nf c67 h
      refine lv_iload_n hx hb dX4_turned_79 rfl (lv_at hl 2 rfl) ?_
      refine lv_aload_n hx hb dX4_turned_80 rfl (lv_at hl 0 rfl) ?_
      refine r_get C hP (ci := 4) rfl uin_X4 0 (by decide) 0 (by decide) rfl qFL_RX4_67 rfl rfl dX4_turned_81 ?_
      refine lv_imul hx hb dX4_turned_84 ?_
      refine lv_iload hx hb dX4_turned_85 (lv_at hl 3 rfl) ?_
      refine lv_iadd hx hb dX4_turned_87 ?_
      exact e_iret C hend hP (k_some h) rfl dX4_turned_88
    · have h := k_if c67 h
      refine lv_aload_n hx hb dX4_turned_70 rfl (lv_at hl 0 rfl) ?_
      refine r_get C hP (ci := 4) rfl uin_X4 1 (by decide) 0 (by decide) rfl qFL_RX4_70 rfl rfl dX4_turned_71 ?_
      refine lv_iconst (v := 1) hx hb dX4_turned_74 (by decide) ?_
      refine lv_isub hx hb dX4_turned_75 ?_
      refine lv_iload_n hx hb dX4_turned_76 rfl (lv_at hl 2 rfl) ?_
      refine lv_isub hx hb dX4_turned_77 ?_
      refine lv_topi (fun x6 ex6 => ?_)
      have h := k_lt ex6 h
      refine lv_istore_n (lv' := [(3, .int x6), (0, .ref (ad 0)), (2, .int a2), (4, .int x5)]) hx hb dX4_turned_78 rfl hl (by decide) rfl (fun ls hl => ?_)
      refine lv_iload_n hx hb dX4_turned_79 rfl (lv_at hl 0 rfl) ?_
      refine lv_aload_n hx hb dX4_turned_80 rfl (lv_at hl 1 rfl) ?_
      refine r_get C hP (ci := 4) rfl uin_X4 0 (by decide) 0 (by decide) rfl qFL_RX4_67 rfl rfl dX4_turned_81 ?_
      refine lv_imul hx hb dX4_turned_84 ?_
      refine lv_iload hx hb dX4_turned_85 (lv_at hl 3 rfl) ?_
      refine lv_iadd hx hb dX4_turned_87 ?_
      exact e_iret C hend hP (k_some h) rfl dX4_turned_88
  have hB41 : ∀ (x2 : Int32) (x3 : Int32) (H : Heap) (locs : List Loc) (ls : Array Slot), f_X4_turned_b41 σ a2 x2 x3 = some r → PS ev 13 ad (mw ev ad σ) (inA ad 13) s H locs → lv_has ls 5 [(0, .ref (ad 0)), (2, .int a2), (3, .int x2)] → WW ev p l e (rmk 0 0) s m args below meth c Qc ad 13 H locs 41 ls [.int x3] := by
    intro x2 x3 H locs ls h hP hl
    have h := (f_X4_turned_b41.eq_1 _ _ _ _ ).symm.trans h
    refine lv_istore (lv' := [(4, .int x3), (0, .ref (ad 0)), (2, .int a2), (3, .int x2)]) hx hb dX4_turned_41 hl (by decide) rfl (fun ls hl => ?_)
    refine lv_iload_n hx hb dX4_turned_43 rfl (lv_at hl 2 rfl) ?_
    refine lv_iconst (v := 2) hx hb dX4_turned_44 (by decide) ?_
    obtain ⟨hg, h⟩ := k_gd h
    refine r_irem hx hb dX4_turned_45 (nz_ne hg) ?_
    refine lv_iconst (v := 1) hx hb dX4_turned_46 (by decide) ?_
    refine lv_icmp_ne (tgt := 61) hx hb dX4_turned_47 (by decide) (fun c47 => ?_) (fun c47 => ?_)
    · have h := k_nf c47 h
      exact hB61 _ _ _ _ _ h hP (lv_sub hl [1, 2, 3, 0] rfl)
    · have h := k_if c47 h
      refine lv_aload_n hx hb dX4_turned_50 rfl (lv_at hl 1 rfl) ?_
      refine r_get C hP (ci := 4) rfl uin_X4 0 (by decide) 0 (by decide) rfl qFL_RX4_67 rfl rfl dX4_turned_51 ?_
      refine lv_iconst (v := 1) hx hb dX4_turned_54 (by decide) ?_
      refine lv_isub hx hb dX4_turned_55 ?_
      refine lv_iload hx hb dX4_turned_56 (lv_at hl 0 rfl) ?_
      refine lv_isub hx hb dX4_turned_58 ?_
      refine lv_topi (fun x7 ex7 => ?_)
      have h := k_lt ex7 h
      refine lv_istore (lv' := [(4, .int x7), (0, .ref (ad 0)), (2, .int a2), (3, .int x2)]) hx hb dX4_turned_59 hl (by decide) rfl (fun ls hl => ?_)
      exact hB61 _ _ _ _ _ h hP (lv_sub hl [1, 2, 3, 0] rfl)
  have hB20 : ∀ (x1 : Int32) (H : Heap) (locs : List Loc) (ls : Array Slot), f_X4_turned_b20 σ a1 a2 x1 = some r → PS ev 13 ad (mw ev ad σ) (inA ad 13) s H locs → lv_has ls 5 [(0, .ref (ad 0)), (1, .int a1), (2, .int a2)] → WW ev p l e (rmk 0 0) s m args below meth c Qc ad 13 H locs 20 ls [.int x1] := by
    intro x1 H locs ls h hP hl
    have h := (f_X4_turned_b20.eq_1 _ _ _ _ ).symm.trans h
    refine lv_istore_n (lv' := [(3, .int x1), (0, .ref (ad 0)), (1, .int a1), (2, .int a2)]) hx hb dX4_turned_20 rfl hl (by decide) rfl (fun ls hl => ?_)
    refine lv_iload_n hx hb dX4_turned_21 rfl (lv_at hl 3 rfl) ?_
    refine lv_iconst (v := 4) hx hb dX4_turned_22 (by decide) ?_
    refine lv_icmp_ge (tgt := 35) hx hb dX4_turned_23 (by decide) (fun c23 => ?_) (fun c23 => ?_)
    · have h := k_if c23 h
      refine lv_iload_n hx hb dX4_turned_35 rfl (lv_at hl 2 rfl) ?_
      refine lv_aload_n hx hb dX4_turned_36 rfl (lv_at hl 1 rfl) ?_
      refine r_get C hP (ci := 4) rfl uin_X4 0 (by decide) 0 (by decide) rfl qFL_RX4_67 rfl rfl dX4_turned_37 ?_
      obtain ⟨hg, h⟩ := k_gd h
      refine r_idiv hx hb dX4_turned_40 (nz_ne hg) ?_
      exact hB41 _ _ _ _ _ h hP (lv_sub hl [1, 3, 0] rfl)
    · have h := k_nf c23 h
      refine lv_iload_n hx hb dX4_turned_26 rfl (lv_at hl 2 rfl) ?_
      refine lv_aload_n hx hb dX4_turned_27 rfl (lv_at hl 1 rfl) ?_
      refine r_get C hP (ci := 4) rfl uin_X4 0 (by decide) 0 (by decide) rfl qFL_RX4_67 rfl rfl dX4_turned_28 ?_
      obtain ⟨hg, h⟩ := k_gd h
      refine r_irem hx hb dX4_turned_31 (nz_ne hg) ?_
      refine lv_goto (tgt := 41) hx hb dX4_turned_32 (by decide) ?_
      exact hB41 _ _ _ _ _ h hP (lv_sub hl [1, 3, 0] rfl)
  refine lv_iload_n hx hb dX4_turned_0 rfl (lv_at hl 2 rfl) ?_
  refine lv_iconst (v := 4) hx hb dX4_turned_1 (by decide) ?_
  refine lv_icmp_ge (tgt := 14) hx hb dX4_turned_2 (by decide) (fun c2 => ?_) (fun c2 => ?_)
  · have h := k_if c2 h
    refine lv_iload_n hx hb dX4_turned_14 rfl (lv_at hl 1 rfl) ?_
    refine lv_aload_n hx hb dX4_turned_15 rfl (lv_at hl 0 rfl) ?_
    refine r_get C hP (ci := 4) rfl uin_X4 0 (by decide) 0 (by decide) rfl qFL_RX4_67 rfl rfl dX4_turned_16 ?_
    obtain ⟨hg, h⟩ := k_gd h
    refine r_irem hx hb dX4_turned_19 (nz_ne hg) ?_
    exact hB20 _ _ _ _ h hP (lv_sub hl [0, 1, 2] rfl)
  · have h := k_nf c2 h
    refine lv_iload_n hx hb dX4_turned_5 rfl (lv_at hl 1 rfl) ?_
    refine lv_aload_n hx hb dX4_turned_6 rfl (lv_at hl 0 rfl) ?_
    refine r_get C hP (ci := 4) rfl uin_X4 0 (by decide) 0 (by decide) rfl qFL_RX4_67 rfl rfl dX4_turned_7 ?_
    obtain ⟨hg, h⟩ := k_gd h
    refine r_idiv hx hb dX4_turned_10 (nz_ne hg) ?_
    refine lv_goto (tgt := 20) hx hb dX4_turned_11 (by decide) ?_
    exact hB20 _ _ _ _ h hP (lv_sub hl [0, 1, 2] rfl)
