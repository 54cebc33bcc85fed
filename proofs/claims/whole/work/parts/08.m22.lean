/-! functions read off, and their contracts: by program (wip/whole/gen2.py) -/
def f_X3_lead (σ : XX) (a1 : Int32) : Option (Int32 × XX) :=
  if (f_X3_isSeat a1) = true then ob (f_X0_leadOf (x_now σ) a1) (fun x3 => some (x3, σ)) else ob2 (f_X3_refuseLead σ (-2)) (fun x2 σ1 => some (x2, σ1))
set_option maxHeartbeats 4000000 in
set_option maxRecDepth 100000 in
theorem c_X3_lead (l : Launch) (ev : EV) (ad : Nat → Nat) (σ : XX) (a1 : Int32)   (r : Int32) (σ' : XX) (h : f_X3_lead σ a1 = some (r, σ')) : Ct l yX3_lead prog_1_method_21_code 2 (Option.some Jvm.ClassFile.FieldType.int) (rmk 6 145) ev 26 ad (xw ev ad σ) (xw ev ad σ') [.ref (ad 0), .int a1] (some (.int r)) := by
  refine Ct.of (by decide +kernel) (Nat.le_of_ble_eq_true rfl) ?_
  intro p e s m args below meth c Qc C hap hP hend ls hl
  have hAA : ∀ j, j < 26 → inA ad 26 (ad j) := fun j hj => ⟨j, hj, rfl⟩
  have hx := C.1
  have hb := C.2.1
  have hl : lv_has ls 2 [(0, .ref (ad 0)), (1, .int a1)] := hl
  have h := (f_X3_lead.eq_1 _ _ ).symm.trans h
  refine lv_iload_n hx hb dX3_lead_0 rfl (lv_at hl 1 rfl) ?_
  refine k_callSi C hP hap hAA (c_X3_isSeat l ev ad a1   _ rfl) Emb.none (apart_0 _) gz_X3_isSeat qML_RX3_153 qSM_yX3_isSeat ⟨(Nat.le_of_ble_eq_true rfl), (Nat.le_of_ble_eq_true rfl)⟩ rfl hl.1 rfl (Nat.le_of_ble_eq_true rfl) dX3_lead_1 ⟨Nat.le_refl _, Nat.le_refl _⟩ (fun H locs hP => ?_)
  refine r_ifz_eq (tgt := 18) hx hb dX3_lead_4 (by decide) (fun c4 => ?_) (fun c4 => ?_)
  · have h := k_nf c4 h
    refine lv_aload_n hx hb dX3_lead_18 rfl (lv_at hl 0 rfl) ?_
    refine lv_bipush (v := (-2)) hx hb dX3_lead_19 (by decide) ?_
    obtain ⟨x2, σ1, h1, h⟩ := k_ob2 h
    refine k_callVi C hP hap hAA (c_X3_refuseLead l ev ad σ (-2)   _ _ h1) Emb.same hap gz_X3_refuseLead qML_RX3_258 qIM_yX3_refuseLead qSE_yX3_refuseLead ⟨(Nat.le_of_ble_eq_true rfl), (Nat.le_of_ble_eq_true rfl)⟩ (q0 := 0) rfl (by decide) rfl rfl rfl rfl hl.1 rfl (Nat.le_of_ble_eq_true rfl) dX3_lead_21 ⟨Nat.le_refl _, Nat.le_refl _⟩ (fun H locs hP => ?_)
    exact e_iret C hend hP (k_some2 h).1 (congrArg (xw ev ad) (k_some2 h).2) dX3_lead_24
  · have h := k_if c4 h
    refine lv_aload_n hx hb dX3_lead_7 rfl (lv_at hl 0 rfl) ?_
    refine r_get C hP (ci := 3) rfl uin_X3 0 (by decide) 0 (by decide) rfl qFL_RX3_10 rfl rfl dX3_lead_8 ?_
    refine lv_iload_n hx hb dX3_lead_11 rfl (lv_at hl 1 rfl) ?_
    obtain ⟨x3, h1, h⟩ := k_ob h
    refine k_callVi C hP hap hAA (c_X0_leadOf l ev (fun j => ad (j + 1)) (x_now σ) a1   _ h1) (em_G1r) (apart_1 _) gz_X0_leadOf qML_RX3_255 qIM_yX0_leadOf qSE_yX0_leadOf ⟨(Nat.le_of_ble_eq_true rfl), (Nat.le_of_ble_eq_true rfl)⟩ (q0 := 1) rfl (by decide) rfl rfl rfl rfl hl.1 rfl (Nat.le_of_ble_eq_true rfl) dX3_lead_12 ⟨Nat.le_refl _, Nat.le_refl _⟩ (fun H locs hP => ?_)
    refine lv_goto (tgt := 24) hx hb dX3_lead_15 (by decide) ?_
    exact e_iret C hend hP (k_some2 h).1 (congrArg (xw ev ad) (k_some2 h).2) dX3_lead_24
def f_X3_lanes (σ : XX) (a1 : Int32) : Option (Int32 × XX) :=
  if (f_X3_isSeat a1) = true then ob (f_X0_tinted (x_now σ) a1) (fun x3 => some ((f_X0_lanesAmong (x_now σ) x3), σ)) else ob2 (f_X3_refuse σ (-2)) (fun x2 σ1 => some (x2, σ1))
set_option maxHeartbeats 4000000 in
set_option maxRecDepth 100000 in
theorem c_X3_lanes (l : Launch) (ev : EV) (ad : Nat → Nat) (σ : XX) (a1 : Int32)   (r : Int32) (σ' : XX) (h : f_X3_lanes σ a1 = some (r, σ')) : Ct l yX3_lanes prog_1_method_22_code 2 (Option.some Jvm.ClassFile.FieldType.int) (rmk 6 142) ev 26 ad (xw ev ad σ) (xw ev ad σ') [.ref (ad 0), .int a1] (some (.int r)) := by
  refine Ct.of (by decide +kernel) (Nat.le_of_ble_eq_true rfl) ?_
  intro p e s m args below meth c Qc C hap hP hend ls hl
  have hAA : ∀ j, j < 26 → inA ad 26 (ad j) := fun j hj => ⟨j, hj, rfl⟩
  have hx := C.1
  have hb := C.2.1
  have hl : lv_has ls 2 [(0, .ref (ad 0)), (1, .int a1)] := hl
  have h := (f_X3_lanes.eq_1 _ _ ).symm.trans h
  refine lv_iload_n hx hb dX3_lanes_0 rfl (lv_at hl 1 rfl) ?_
  refine k_callSi C hP hap hAA (c_X3_isSeat l ev ad a1   _ rfl) Emb.none (apart_0 _) gz_X3_isSeat qML_RX3_153 qSM_yX3_isSeat ⟨(Nat.le_of_ble_eq_true rfl), (Nat.le_of_ble_eq_true rfl)⟩ rfl hl.1 rfl (Nat.le_of_ble_eq_true rfl) dX3_lanes_1 ⟨Nat.le_refl _, Nat.le_refl _⟩ (fun H locs hP => ?_)
  refine r_ifz_eq (tgt := 25) hx hb dX3_lanes_4 (by decide) (fun c4 => ?_) (fun c4 => ?_)
  · have h := k_nf c4 h
    refine lv_aload_n hx hb dX3_lanes_25 rfl (lv_at hl 0 rfl) ?_
    refine lv_bipush (v := (-2)) hx hb dX3_lanes_26 (by decide) ?_
    obtain ⟨x2, σ1, h1, h⟩ := k_ob2 h
    refine k_callVi C hP hap hAA (c_X3_refuse l ev ad σ (-2)   _ _ h1) Emb.same hap gz_X3_refuse qML_RX3_60 qIM_yX3_refuse qSE_yX3_refuse ⟨(Nat.le_of_ble_eq_true rfl), (Nat.le_of_ble_eq_true rfl)⟩ (q0 := 0) rfl (by decide) rfl rfl rfl rfl hl.1 rfl (Nat.le_of_ble_eq_true rfl) dX3_lanes_28 ⟨Nat.le_refl _, Nat.le_refl _⟩ (fun H locs hP => ?_)
    exact e_iret C hend hP (k_some2 h).1 (congrArg (xw ev ad) (k_some2 h).2) dX3_lanes_31
  · have h := k_if c4 h
    refine lv_aload_n hx hb dX3_lanes_7 rfl (lv_at hl 0 rfl) ?_
    refine r_get C hP (ci := 3) rfl uin_X3 0 (by decide) 0 (by decide) rfl qFL_RX3_10 rfl rfl dX3_lanes_8 ?_
    refine lv_aload_n hx hb dX3_lanes_11 rfl (lv_at hl 0 rfl) ?_
    refine r_get C hP (ci := 3) rfl uin_X3 0 (by decide) 0 (by decide) rfl qFL_RX3_10 rfl rfl dX3_lanes_12 ?_
    refine lv_iload_n hx hb dX3_lanes_15 rfl (lv_at hl 1 rfl) ?_
    obtain ⟨x3, h1, h⟩ := k_ob h
    refine k_callVi C hP hap hAA (c_X0_tinted l ev (fun j => ad (j + 1)) (x_now σ) a1   _ h1) (em_G1r) (apart_1 _) gz_X0_tinted qML_RX3_206 qIM_yX0_tinted qSE_yX0_tinted ⟨(Nat.le_of_ble_eq_true rfl), (Nat.le_of_ble_eq_true rfl)⟩ (q0 := 1) rfl (by decide) rfl rfl rfl rfl hl.1 rfl (Nat.le_of_ble_eq_true rfl) dX3_lanes_16 ⟨Nat.le_refl _, Nat.le_refl _⟩ (fun H locs hP => ?_)
    refine k_callVi C hP hap hAA (c_X0_lanesAmong l ev (fun j => ad (j + 1)) (x_now σ) x3   _ rfl) (em_G1r) (apart_1 _) gz_X0_lanesAmong qML_RX3_261 qIM_yX0_lanesAmong qSE_yX0_lanesAmong ⟨(Nat.le_of_ble_eq_true rfl), (Nat.le_of_ble_eq_true rfl)⟩ (q0 := 1) rfl (by decide) rfl rfl rfl rfl hl.1 rfl (Nat.le_of_ble_eq_true rfl) dX3_lanes_19 ⟨Nat.le_refl _, Nat.le_refl _⟩ (fun H locs hP => ?_)
    refine lv_goto (tgt := 31) hx hb dX3_lanes_22 (by decide) ?_
    exact e_iret C hend hP (k_some2 h).1 (congrArg (xw ev ad) (k_some2 h).2) dX3_lanes_31
def f_X3_ditch (σ : XX) (a1 : Int32) : Option (Int32 × XX) :=
  if (f_X0_isField (x_now σ) a1) = true then lt (ishl 1 a1) (fun x1 => if ((g_dug (x_now σ)) &&& x1) = 0 then ob2 (f_X3_refuse σ (-5)) (fun x4 σ3 => some (x4, σ3)) else ob (f_X0_hanging (x_now σ) x1 (g_dug (x_now σ)) 0) (fun x2 => some (x2, σ))) else ob2 (f_X3_refuse σ (-2)) (fun x6 σ5 => some (x6, σ5))
set_option maxHeartbeats 4000000 in
set_option maxRecDepth 100000 in
theorem c_X3_ditch (l : Launch) (ev : EV) (ad : Nat → Nat) (σ : XX) (a1 : Int32)   (r : Int32) (σ' : XX) (h : f_X3_ditch σ a1 = some (r, σ')) : Ct l yX3_ditch prog_1_method_23_code 3 (Option.some Jvm.ClassFile.FieldType.int) (rmk 3 80) ev 26 ad (xw ev ad σ) (xw ev ad σ') [.ref (ad 0), .int a1] (some (.int r)) := by
  refine Ct.of (by decide +kernel) (Nat.le_of_ble_eq_true rfl) ?_
  intro p e s m args below meth c Qc C hap hP hend ls hl
  have hAA : ∀ j, j < 26 → inA ad 26 (ad j) := fun j hj => ⟨j, hj, rfl⟩
  have hx := C.1
  have hb := C.2.1
  have hl : lv_has ls 3 [(0, .ref (ad 0)), (1, .int a1)] := hl
  have h := (f_X3_ditch.eq_1 _ _ ).symm.trans h
  refine lv_aload_n hx hb dX3_ditch_0 rfl (lv_at hl 0 rfl) ?_
  refine r_get C hP (ci := 3) rfl uin_X3 0 (by decide) 0 (by decide) rfl qFL_RX3_10 rfl rfl dX3_ditch_1 ?_
  refine lv_iload_n hx hb dX3_ditch_4 rfl (lv_at hl 1 rfl) ?_
  refine k_callVi C hP hap hAA (c_X0_isField l ev (fun j => ad (j + 1)) (x_now σ) a1   _ rfl) (em_G1r) (apart_1 _) gz_X0_isField qML_RX3_179 qIM_yX0_isField qSE_yX0_isField ⟨(Nat.le_of_ble_eq_true rfl), (Nat.le_of_ble_eq_true rfl)⟩ (q0 := 1) rfl (by decide) rfl rfl rfl rfl hl.1 rfl (Nat.le_of_ble_eq_true rfl) dX3_ditch_5 ⟨Nat.le_refl _, Nat.le_refl _⟩ (fun H locs hP => ?_)
  refine r_ifz_ne (tgt := 18) hx hb dX3_ditch_8 (by decide) (fun c8 => ?_) (fun c8 => ?_)
  · have h := k_if c8 h
    refine lv_iconst (v := 1) hx hb dX3_ditch_18 (by decide) ?_
    refine lv_iload_n hx hb dX3_ditch_19 rfl (lv_at hl 1 rfl) ?_
    refine r_ishl hx hb dX3_ditch_20 ?_
    refine lv_topi (fun x1 ex1 => ?_)
    have h := k_lt ex1 h
    refine lv_istore_n (lv' := [(2, .int x1), (0, .ref (ad 0)), (1, .int a1)]) hx hb dX3_ditch_21 rfl hl (by decide) rfl (fun ls hl => ?_)
    refine lv_aload_n hx hb dX3_ditch_22 rfl (lv_at hl 1 rfl) ?_
    refine r_get C hP (ci := 3) rfl uin_X3 0 (by decide) 0 (by decide) rfl qFL_RX3_10 rfl rfl dX3_ditch_23 ?_
    refine r_get C hP (ci := 0) rfl uin_X0 10 (by decide) 1 (by decide) rfl qFL_RX3_189 rfl rfl dX3_ditch_26 ?_
    refine lv_iload_n hx hb dX3_ditch_29 rfl (lv_at hl 0 rfl) ?_
    refine lv_iand hx hb dX3_ditch_30 ?_
    refine lv_if_ne (tgt := 43) hx hb dX3_ditch_31 (by decide) (fun c31 => ?_) (fun c31 => ?_)
    · have h := k_nf c31 h
      refine lv_aload_n hx hb dX3_ditch_43 rfl (lv_at hl 1 rfl) ?_
      refine r_get C hP (ci := 3) rfl uin_X3 0 (by decide) 0 (by decide) rfl qFL_RX3_10 rfl rfl dX3_ditch_44 ?_
      refine lv_iload_n hx hb dX3_ditch_47 rfl (lv_at hl 0 rfl) ?_
      refine lv_aload_n hx hb dX3_ditch_48 rfl (lv_at hl 1 rfl) ?_
      refine r_get C hP (ci := 3) rfl uin_X3 0 (by decide) 0 (by decide) rfl qFL_RX3_10 rfl rfl dX3_ditch_49 ?_
      refine r_get C hP (ci := 0) rfl uin_X0 10 (by decide) 1 (by decide) rfl qFL_RX3_189 rfl rfl dX3_ditch_52 ?_
      refine lv_lconst (v := 0) hx hb dX3_ditch_55 (by decide) ?_
      obtain ⟨x2, h1, h⟩ := k_ob h
      refine k_callVi C hP hap hAA (c_X0_hanging l ev (fun j => ad (j + 1)) (x_now σ) x1 (g_dug (x_now σ)) 0   _ h1) (em_G1r) (apart_1 _) gz_X0_hanging qML_RX3_264 qIM_yX0_hanging qSE_yX0_hanging ⟨(Nat.le_of_ble_eq_true rfl), (Nat.le_of_ble_eq_true rfl)⟩ (q0 := 1) rfl (by decide) rfl rfl rfl rfl hl.1 rfl (Nat.le_of_ble_eq_true rfl) dX3_ditch_56 ⟨Nat.le_refl _, Nat.le_refl _⟩ (fun H locs hP => ?_)
      exact e_iret C hend hP (k_some2 h).1 (congrArg (xw ev ad) (k_some2 h).2) dX3_ditch_59
    · have h := k_if c31 h
      refine lv_aload_n hx hb dX3_ditch_34 rfl (lv_at hl 1 rfl) ?_
      refine lv_bipush (v := (-5)) hx hb dX3_ditch_35 (by decide) ?_
      obtain ⟨x4, σ3, h1, h⟩ := k_ob2 h
      refine k_callVi C hP hap hAA (c_X3_refuse l ev ad σ (-5)   _ _ h1) Emb.same hap gz_X3_refuse qML_RX3_60 qIM_yX3_refuse qSE_yX3_refuse ⟨(Nat.le_of_ble_eq_true rfl), (Nat.le_of_ble_eq_true rfl)⟩ (q0 := 0) rfl (by decide) rfl rfl rfl rfl hl.1 rfl (Nat.le_of_ble_eq_true rfl) dX3_ditch_37 ⟨Nat.le_refl _, Nat.le_refl _⟩ (fun H locs hP => ?_)
      refine lv_goto (tgt := 59) hx hb dX3_ditch_40 (by decide) ?_
      exact e_iret C hend hP (k_some2 h).1 (congrArg (xw ev ad) (k_some2 h).2) dX3_ditch_59
  · have h := k_nf c8 h
    refine lv_aload_n hx hb dX3_ditch_11 rfl (lv_at hl 0 rfl) ?_
    refine lv_bipush (v := (-2)) hx hb dX3_ditch_12 (by decide) ?_
    obtain ⟨x6, σ5, h1, h⟩ := k_ob2 h
    refine k_callVi C hP hap hAA (c_X3_refuse l ev ad σ (-2)   _ _ h1) Emb.same hap gz_X3_refuse qML_RX3_60 qIM_yX3_refuse qSE_yX3_refuse ⟨(Nat.le_of_ble_eq_true rfl), (Nat.le_of_ble_eq_true rfl)⟩ (q0 := 0) rfl (by decide) rfl rfl rfl rfl hl.1 rfl (Nat.le_of_ble_eq_true rfl) dX3_ditch_14 ⟨Nat.le_refl _, Nat.le_refl _⟩ (fun H locs hP => ?_)
    exact e_iret C hend hP (k_some2 h).1 (congrArg (xw ev ad) (k_some2 h).2) dX3_ditch_17
def f_X3_drained (σ : XX) : Option (Int32) :=
  ob (f_X0_drainedFields (x_now σ)) (fun x1 => some x1)
set_option maxHeartbeats 4000000 in
set_option maxRecDepth 100000 in
theorem c_X3_drained (l : Launch) (ev : EV) (ad : Nat → Nat) (σ : XX)   (r : Int32)  (h : f_X3_drained σ = some r) : Ct l yX3_drained prog_1_method_24_code 1 (Option.some Jvm.ClassFile.FieldType.int) (rmk 4 100) ev 26 ad (xw ev ad σ) (xw ev ad σ) [.ref (ad 0)] (some (.int r)) := by
  refine Ct.of (by decide +kernel) (Nat.le_of_ble_eq_true rfl) ?_
  intro p e s m args below meth c Qc C hap hP hend ls hl
  have hAA : ∀ j, j < 26 → inA ad 26 (ad j) := fun j hj => ⟨j, hj, rfl⟩
  have hx := C.1
  have hb := C.2.1
  have hl : lv_has ls 1 [(0, .ref (ad 0))] := hl
  have h := (f_X3_drained.eq_1 _ ).symm.trans h
  refine lv_aload_n hx hb dX3_drained_0 rfl (lv_at hl 0 rfl) ?_
  refine r_get C hP (ci := 3) rfl uin_X3 0 (by decide) 0 (by decide) rfl qFL_RX3_10 rfl rfl dX3_drained_1 ?_
  obtain ⟨x1, h1, h⟩ := k_ob h
  refine k_callVi C hP hap hAA (c_X0_drainedFields l ev (fun j => ad (j + 1)) (x_now σ)   _ h1) (em_G1r) (apart_1 _) gz_X0_drainedFields qML_RX3_268 qIM_yX0_drainedFields qSE_yX0_drainedFields ⟨(Nat.le_of_ble_eq_true rfl), (Nat.le_of_ble_eq_true rfl)⟩ (q0 := 1) rfl (by decide) rfl rfl rfl rfl hl.1 rfl (Nat.le_of_ble_eq_true rfl) dX3_drained_4 ⟨Nat.le_refl _, Nat.le_refl _⟩ (fun H locs hP => ?_)
  exact e_iret C hend hP (k_some h) rfl dX3_drained_7
def f_X3_thirds (σ : XX) : Option (Int32) :=
  ob (f_X0_withThree (x_now σ) (g_hedges (x_now σ))) (fun x1 => some x1)
set_option maxHeartbeats 4000000 in
set_option maxRecDepth 100000 in
theorem c_X3_thirds (l : Launch) (ev : EV) (ad : Nat → Nat) (σ : XX)   (r : Int32)  (h : f_X3_thirds σ = some r) : Ct l yX3_thirds prog_1_method_25_code 1 (Option.some Jvm.ClassFile.FieldType.int) (rmk 2 52) ev 26 ad (xw ev ad σ) (xw ev ad σ) [.ref (ad 0)] (some (.int r)) := by
  refine Ct.of (by decide +kernel) (Nat.le_of_ble_eq_true rfl) ?_
  intro p e s m args below meth c Qc C hap hP hend ls hl
  have hAA : ∀ j, j < 26 → inA ad 26 (ad j) := fun j hj => ⟨j, hj, rfl⟩
  have hx := C.1
  have hb := C.2.1
  have hl : lv_has ls 1 [(0, .ref (ad 0))] := hl
  have h := (f_X3_thirds.eq_1 _ ).symm.trans h
  refine lv_aload_n hx hb dX3_thirds_0 rfl (lv_at hl 0 rfl) ?_
  refine r_get C hP (ci := 3) rfl uin_X3 0 (by decide) 0 (by decide) rfl qFL_RX3_10 rfl rfl dX3_thirds_1 ?_
  refine lv_aload_n hx hb dX3_thirds_4 rfl (lv_at hl 0 rfl) ?_
  refine r_get C hP (ci := 3) rfl uin_X3 0 (by decide) 0 (by decide) rfl qFL_RX3_10 rfl rfl dX3_thirds_5 ?_
  refine r_get C hP (ci := 0) rfl uin_X0 9 (by decide) 1 (by decide) rfl qFL_RX3_185 rfl rfl dX3_thirds_8 ?_
  obtain ⟨x1, h1, h⟩ := k_ob h
  refine k_callVi C hP hap hAA (c_X0_withThree l ev (fun j => ad (j + 1)) (x_now σ) (g_hedges (x_now σ))   _ h1) (em_G1r) (apart_1 _) gz_X0_withThree qML_RX3_271 qIM_yX0_withThree qSE_yX0_withThree ⟨(Nat.le_of_ble_eq_true rfl), (Nat.le_of_ble_eq_true rfl)⟩ (q0 := 1) rfl (by decide) rfl rfl rfl rfl hl.1 rfl (Nat.le_of_ble_eq_true rfl) dX3_thirds_11 ⟨Nat.le_refl _, Nat.le_refl _⟩ (fun H locs hP => ?_)
  exact e_iret C hend hP (k_some h) rfl dX3_thirds_14
def f_X3_chain (σ : XX) (a1 : Int32) : Option (Int32 × XX) :=
  if (f_X0_isField (x_now σ) a1) = true then ob (f_X0_chainFrom (x_now σ) a1) (fun x3 => some (x3, σ)) else ob2 (f_X3_refuse σ (-2)) (fun x2 σ1 => some (x2, σ1))
set_option maxHeartbeats 4000000 in
set_option maxRecDepth 100000 in
theorem c_X3_chain (l : Launch) (ev : EV) (ad : Nat → Nat) (σ : XX) (a1 : Int32)   (r : Int32) (σ' : XX) (h : f_X3_chain σ a1 = some (r, σ')) : Ct l yX3_chain prog_1_method_26_code 2 (Option.some Jvm.ClassFile.FieldType.int) (rmk 3 79) ev 26 ad (xw ev ad σ) (xw ev ad σ') [.ref (ad 0), .int a1] (some (.int r)) := by
  refine Ct.of (by decide +kernel) (Nat.le_of_ble_eq_true rfl) ?_
  intro p e s m args below meth c Qc C hap hP hend ls hl
  have hAA : ∀ j, j < 26 → inA ad 26 (ad j) := fun j hj => ⟨j, hj, rfl⟩
  have hx := C.1
  have hb := C.2.1
  have hl : lv_has ls 2 [(0, .ref (ad 0)), (1, .int a1)] := hl
  have h := (f_X3_chain.eq_1 _ _ ).symm.trans h
  refine lv_aload_n hx hb dX3_chain_0 rfl (lv_at hl 0 rfl) ?_
  refine r_get C hP (ci := 3) rfl uin_X3 0 (by decide) 0 (by decide) rfl qFL_RX3_10 rfl rfl dX3_chain_1 ?_
  refine lv_iload_n hx hb dX3_chain_4 rfl (lv_at hl 1 rfl) ?_
  refine k_callVi C hP hap hAA (c_X0_isField l ev (fun j => ad (j + 1)) (x_now σ) a1   _ rfl) (em_G1r) (apart_1 _) gz_X0_isField qML_RX3_179 qIM_yX0_isField qSE_yX0_isField ⟨(Nat.le_of_ble_eq_true rfl), (Nat.le_of_ble_eq_true rfl)⟩ (q0 := 1) rfl (by decide) rfl rfl rfl rfl hl.1 rfl (Nat.le_of_ble_eq_true rfl) dX3_chain_5 ⟨Nat.le_refl _, Nat.le_refl _⟩ (fun H locs hP => ?_)
  refine r_ifz_eq (tgt := 22) hx hb dX3_chain_8 (by decide) (fun c8 => ?_) (fun c8 => ?_)
  · have h := k_nf c8 h
    refine lv_aload_n hx hb dX3_chain_22 rfl (lv_at hl 0 rfl) ?_
    refine lv_bipush (v := (-2)) hx hb dX3_chain_23 (by decide) ?_
    obtain ⟨x2, σ1, h1, h⟩ := k_ob2 h
    refine k_callVi C hP hap hAA (c_X3_refuse l ev ad σ (-2)   _ _ h1) Emb.same hap gz_X3_refuse qML_RX3_60 qIM_yX3_refuse qSE_yX3_refuse ⟨(Nat.le_of_ble_eq_true rfl), (Nat.le_of_ble_eq_true rfl)⟩ (q0 := 0) rfl (by decide) rfl rfl rfl rfl hl.1 rfl (Nat.le_of_ble_eq_true rfl) dX3_chain_25 ⟨Nat.le_refl _, Nat.le_refl _⟩ (fun H locs hP => ?_)
    exact e_iret C hend hP (k_some2 h).1 (congrArg (xw ev ad) (k_some2 h).2) dX3_chain_28
  · have h := k_if c8 h
    refine lv_aload_n hx hb dX3_chain_11 rfl (lv_at hl 0 rfl) ?_
    refine r_get C hP (ci := 3) rfl uin_X3 0 (by decide) 0 (by decide) rfl qFL_RX3_10 rfl rfl dX3_chain_12 ?_
    refine lv_iload_n hx hb dX3_chain_15 rfl (lv_at hl 1 rfl) ?_
    obtain ⟨x3, h1, h⟩ := k_ob h
    refine k_callVi C hP hap hAA (c_X0_chainFrom l ev (fun j => ad (j + 1)) (x_now σ) a1   _ h1) (em_G1r) (apart_1 _) gz_X0_chainFrom qML_RX3_274 qIM_yX0_chainFrom qSE_yX0_chainFrom ⟨(Nat.le_of_ble_eq_true rfl), (Nat.le_of_ble_eq_true rfl)⟩ (q0 := 1) rfl (by decide) rfl rfl rfl rfl hl.1 rfl (Nat.le_of_ble_eq_true rfl) dX3_chain_16 ⟨Nat.le_refl _, Nat.le_refl _⟩ (fun H locs hP => ?_)
    refine lv_goto (tgt := 28) hx hb dX3_chain_19 (by decide) ?_
    exact e_iret C hend hP (k_some2 h).1 (congrArg (xw ev ad) (k_some2 h).2) dX3_chain_28
def f_X3_longest_L6_b (σ : XX)  (rec6 : Int32 → Int32 → Int32 → Option (Int32)) (x1 : Int32) (x2 : Int32) (x3 : Int32) : Option (Int32) :=
  if (g_fields (x_now σ)) ≤ x3 then some x1 else ob (f_X0_chainFrom (x_now σ) x3) (fun x4 => if x4 ≤ x2 then lt (x3 + 1) (fun x5 => rec6 x1 x2 x5) else lt (x3 + 1) (fun x6 => rec6 x3 x4 x6))
def f_X3_longest_L6 (σ : XX)  (x1 : Int32) (x2 : Int32) (x3 : Int32) : Option (Int32) :=
  lp (fun _ _ _ => none) (f_X3_longest_L6_b σ ) FU x1 x2 x3
def f_X3_longest (σ : XX) : Option (Int32) :=
  f_X3_longest_L6 σ 0 0 0
set_option maxHeartbeats 4000000 in
set_option maxRecDepth 100000 in
theorem c_X3_longest (l : Launch) (ev : EV) (ad : Nat → Nat) (σ : XX)   (r : Int32)  (h : f_X3_longest σ = some r) : Ct l yX3_longest prog_1_method_27_code 5 (Option.some Jvm.ClassFile.FieldType.int) (rmk 3 79) ev 26 ad (xw ev ad σ) (xw ev ad σ) [.ref (ad 0)] (some (.int r)) := by
  refine Ct.of (by decide +kernel) (Nat.le_of_ble_eq_true rfl) ?_
  intro p e s m args below meth c Qc C hap hP hend ls hl
  have hAA : ∀ j, j < 26 → inA ad 26 (ad j) := fun j hj => ⟨j, hj, rfl⟩
  have hx := C.1
  have hb := C.2.1
  have hl : lv_has ls 5 [(0, .ref (ad 0))] := hl
  have h := (f_X3_longest.eq_1 _ ).symm.trans h
  refine lv_iconst (v := 0) hx hb dX3_longest_0 (by decide) ?_
  refine lv_istore_n (lv' := [(1, .int 0), (0, .ref (ad 0))]) hx hb dX3_longest_1 rfl hl (by decide) rfl (fun ls hl => ?_)
  refine lv_iconst (v := 0) hx hb dX3_longest_2 (by decide) ?_
  refine lv_istore_n (lv' := [(2, .int 0), (1, .int 0), (0, .ref (ad 0))]) hx hb dX3_longest_3 rfl hl (by decide) rfl (fun ls hl => ?_)
  refine lv_iconst (v := 0) hx hb dX3_longest_4 (by decide) ?_
  refine lv_istore_n (lv' := [(3, .int 0), (2, .int 0), (1, .int 0), (0, .ref (ad 0))]) hx hb dX3_longest_5 rfl hl (by decide) rfl (fun ls hl => ?_)
  have hL6 : ∀ (n : Nat) (x1 : Int32) (x2 : Int32) (x3 : Int32) (H : Heap) (locs : List Loc) (ls : Array Slot), lp (fun _ _ _ => none) (f_X3_longest_L6_b σ ) n x1 x2 x3 = some r → PS ev 26 ad (xw ev ad σ) (inA ad 26) s H locs → lv_has ls 5 [(0, .ref (ad 0)), (1, .int x1), (2, .int x2), (3, .int x3)] → WW ev p l e (rmk 3 79) s m args below meth c Qc ad 26 H locs 6 ls [] := by
    intro n
    induction n with
    | zero =>
      intro x1 x2 x3 H locs ls h; exact k_none h
    | succ n ih =>
      intro x1 x2 x3 H locs ls h hP hl
      have h : f_X3_longest_L6_b σ  (lp (fun _ _ _ => none) (f_X3_longest_L6_b σ ) n) x1 x2 x3 = some r := h
      have h := (f_X3_longest_L6_b.eq_1 _ _ _ _ _ ).symm.trans h
      refine lv_iload_n hx hb dX3_longest_6 rfl (lv_at hl 3 rfl) ?_
      refine lv_aload_n hx hb dX3_longest_7 rfl (lv_at hl 0 rfl) ?_
      refine r_get C hP (ci := 3) rfl uin_X3 0 (by decide) 0 (by decide) rfl qFL_RX3_10 rfl rfl dX3_longest_8 ?_
      refine r_get C hP (ci := 0) rfl uin_X0 2 (by decide) 1 (by decide) rfl qFL_RX3_277 rfl rfl dX3_longest_11 ?_
      refine lv_icmp_ge (tgt := 44) hx hb dX3_longest_14 (by decide) (fun c14 => ?_) (fun c14 => ?_)
      · have h := k_if c14 h
        refine lv_iload_n hx hb dX3_longest_44 rfl (lv_at hl 1 rfl) ?_
        exact e_iret C hend hP (k_some h) rfl dX3_longest_45
      · have h := k_nf c14 h
        refine lv_aload_n hx hb dX3_longest_17 rfl (lv_at hl 0 rfl) ?_
        refine r_get C hP (ci := 3) rfl uin_X3 0 (by decide) 0 (by decide) rfl qFL_RX3_10 rfl rfl dX3_longest_18 ?_
        refine lv_iload_n hx hb dX3_longest_21 rfl (lv_at hl 3 rfl) ?_
        obtain ⟨x4, h1, h⟩ := k_ob h
        refine k_callVi C hP hap hAA (c_X0_chainFrom l ev (fun j => ad (j + 1)) (x_now σ) x3   _ h1) (em_G1r) (apart_1 _) gz_X0_chainFrom qML_RX3_274 qIM_yX0_chainFrom qSE_yX0_chainFrom ⟨(Nat.le_of_ble_eq_true rfl), (Nat.le_of_ble_eq_true rfl)⟩ (q0 := 1) rfl (by decide) rfl rfl rfl rfl hl.1 rfl (Nat.le_of_ble_eq_true rfl) dX3_longest_22 ⟨Nat.le_refl _, Nat.le_refl _⟩ (fun H locs hP => ?_)
        refine lv_istore (lv' := [(4, .int x4), (0, .ref (ad 0)), (1, .int x1), (2, .int x2), (3, .int x3)]) hx hb dX3_longest_25 hl (by decide) rfl (fun ls hl => ?_)
        refine lv_iload hx hb dX3_longest_27 (lv_at hl 0 rfl) ?_
        refine lv_iload_n hx hb dX3_longest_29 rfl (lv_at hl 3 rfl) ?_
        refine lv_icmp_le (tgt := 38) hx hb dX3_longest_30 (by decide) (fun c30 => ?_) (fun c30 => ?_)
        · have h := k_if c30 h
          obtain ⟨x5, ex5, h⟩ := k_ltx h
          refine lv_iinc (v := x5) (lv' := [(3, .int x5), (4, .int x4), (0, .ref (ad 0)), (1, .int x1), (2, .int x2)]) hx hb dX3_longest_38 hl (k := 4) rfl (by rw [ex5]; rfl) (by decide) rfl (fun ls hl => ?_)
          refine lv_goto (tgt := 6) hx hb dX3_longest_41 (by decide) ?_
          exact ih _ _ _ _ _ _ h hP (lv_sub hl [2, 3, 4, 0] rfl)
        · have h := k_nf c30 h
          refine lv_iload hx hb dX3_longest_33 (lv_at hl 0 rfl) ?_
          refine lv_istore_n (lv' := [(2, .int x4), (4, .int x4), (0, .ref (ad 0)), (1, .int x1), (3, .int x3)]) hx hb dX3_longest_35 rfl hl (by decide) rfl (fun ls hl => ?_)
          refine lv_iload_n hx hb dX3_longest_36 rfl (lv_at hl 4 rfl) ?_
          refine lv_istore_n (lv' := [(1, .int x3), (2, .int x4), (4, .int x4), (0, .ref (ad 0)), (3, .int x3)]) hx hb dX3_longest_37 rfl hl (by decide) rfl (fun ls hl => ?_)
          obtain ⟨x6, ex6, h⟩ := k_ltx h
          refine lv_iinc (v := x6) (lv' := [(3, .int x6), (1, .int x3), (2, .int x4), (4, .int x4), (0, .ref (ad 0))]) hx hb dX3_longest_38 hl (k := 4) rfl (by rw [ex6]; rfl) (by decide) rfl (fun ls hl => ?_)
          refine lv_goto (tgt := 6) hx hb dX3_longest_41 (by decide) ?_
          exact ih _ _ _ _ _ _ h hP (lv_sub hl [4, 1, 2, 0] rfl)
  exact hL6 FU _ _ _ _ _ _ h hP (lv_sub hl [3, 2, 1, 0] rfl)
def f_X3_shuts (σ : XX) (a1 : Int32) : Option (Int32 × XX) :=
  if (f_X0_isEdge (x_now σ) a1) = true then if (f_X0_isHedged (x_now σ) a1) = true then ob2 (f_X3_refuse σ (-5)) (fun x3 σ2 => some (x3, σ2)) else ob (f_X0_closed (x_now σ) ((g_hedges (x_now σ)) ||| (lshl 1 a1))) (fun x1 => some ((f_J6_bitCount_0f7a4 (x1 &&& ((f_X0_shutFields (x_now σ)) ^^^ (-1)))), σ)) else ob2 (f_X3_refuse σ (-2)) (fun x5 σ4 => some (x5, σ4))
set_option maxHeartbeats 4000000 in
set_option maxRecDepth 100000 in
theorem c_X3_shuts (l : Launch) (ev : EV) (ad : Nat → Nat) (σ : XX) (a1 : Int32)   (r : Int32) (σ' : XX) (h : f_X3_shuts σ a1 = some (r, σ')) : Ct l yX3_shuts prog_1_method_28_code 2 (Option.some Jvm.ClassFile.FieldType.int) (rmk 2 48) ev 26 ad (xw ev ad σ) (xw ev ad σ') [.ref (ad 0), .int a1] (some (.int r)) := by
  refine Ct.of (by decide +kernel) (Nat.le_of_ble_eq_true rfl) ?_
  intro p e s m args below meth c Qc C hap hP hend ls hl
  have hAA : ∀ j, j < 26 → inA ad 26 (ad j) := fun j hj => ⟨j, hj, rfl⟩
  have hx := C.1
  have hb := C.2.1
  have hl : lv_has ls 2 [(0, .ref (ad 0)), (1, .int a1)] := hl
  have h := (f_X3_shuts.eq_1 _ _ ).symm.trans h
  refine lv_aload_n hx hb dX3_shuts_0 rfl (lv_at hl 0 rfl) ?_
  refine r_get C hP (ci := 3) rfl uin_X3 0 (by decide) 0 (by decide) rfl qFL_RX3_10 rfl rfl dX3_shuts_1 ?_
  refine lv_iload_n hx hb dX3_shuts_4 rfl (lv_at hl 1 rfl) ?_
  refine k_callVi C hP hap hAA (c_X0_isEdge l ev (fun j => ad (j + 1)) (x_now σ) a1   _ rfl) (em_G1r) (apart_1 _) gz_X0_isEdge qML_RX3_227 qIM_yX0_isEdge qSE_yX0_isEdge ⟨(Nat.le_of_ble_eq_true rfl), (Nat.le_of_ble_eq_true rfl)⟩ (q0 := 1) rfl (by decide) rfl rfl rfl rfl hl.1 rfl (Nat.le_of_ble_eq_true rfl) dX3_shuts_5 ⟨Nat.le_refl _, Nat.le_refl _⟩ (fun H locs hP => ?_)
  refine r_ifz_ne (tgt := 18) hx hb dX3_shuts_8 (by decide) (fun c8 => ?_) (fun c8 => ?_)
  · have h := k_if c8 h
    refine lv_aload_n hx hb dX3_shuts_18 rfl (lv_at hl 0 rfl) ?_
    refine r_get C hP (ci := 3) rfl uin_X3 0 (by decide) 0 (by decide) rfl qFL_RX3_10 rfl rfl dX3_shuts_19 ?_
    refine lv_iload_n hx hb dX3_shuts_22 rfl (lv_at hl 1 rfl) ?_
    refine k_callVi C hP hap hAA (c_X0_isHedged l ev (fun j => ad (j + 1)) (x_now σ) a1   _ rfl) (em_G1r) (apart_1 _) gz_X0_isHedged qML_RX3_230 qIM_yX0_isHedged qSE_yX0_isHedged ⟨(Nat.le_of_ble_eq_true rfl), (Nat.le_of_ble_eq_true rfl)⟩ (q0 := 1) rfl (by decide) rfl rfl rfl rfl hl.1 rfl (Nat.le_of_ble_eq_true rfl) dX3_shuts_23 ⟨Nat.le_refl _, Nat.le_refl _⟩ (fun H locs hP => ?_)
    refine r_ifz_eq (tgt := 36) hx hb dX3_shuts_26 (by decide) (fun c26 => ?_) (fun c26 => ?_)
    · have h := k_nf c26 h
      refine lv_aload_n hx hb dX3_shuts_36 rfl (lv_at hl 0 rfl) ?_
      refine r_get C hP (ci := 3) rfl uin_X3 0 (by decide) 0 (by decide) rfl qFL_RX3_10 rfl rfl dX3_shuts_37 ?_
      refine lv_aload_n hx hb dX3_shuts_40 rfl (lv_at hl 0 rfl) ?_
      refine r_get C hP (ci := 3) rfl uin_X3 0 (by decide) 0 (by decide) rfl qFL_RX3_10 rfl rfl dX3_shuts_41 ?_
      refine r_get C hP (ci := 0) rfl uin_X0 9 (by decide) 1 (by decide) rfl qFL_RX3_185 rfl rfl dX3_shuts_44 ?_
      refine lv_lconst (v := 1) hx hb dX3_shuts_47 (by decide) ?_
      refine lv_iload_n hx hb dX3_shuts_48 rfl (lv_at hl 1 rfl) ?_
      refine r_lshl hx hb dX3_shuts_49 ?_
      refine lv_lor hx hb dX3_shuts_50 ?_
      obtain ⟨x1, h1, h⟩ := k_ob h
      refine k_callVi C hP hap hAA (c_X0_closed l ev (fun j => ad (j + 1)) (x_now σ) ((g_hedges (x_now σ)) ||| (lshl 1 a1))   _ h1) (em_G1r) (apart_1 _) gz_X0_closed qML_RX3_280 qIM_yX0_closed qSE_yX0_closed ⟨(Nat.le_of_ble_eq_true rfl), (Nat.le_of_ble_eq_true rfl)⟩ (q0 := 1) rfl (by decide) rfl rfl rfl rfl hl.1 rfl (Nat.le_of_ble_eq_true rfl) dX3_shuts_51 ⟨Nat.le_refl _, Nat.le_refl _⟩ (fun H locs hP => ?_)
      refine lv_aload_n hx hb dX3_shuts_54 rfl (lv_at hl 0 rfl) ?_
      refine r_get C hP (ci := 3) rfl uin_X3 0 (by decide) 0 (by decide) rfl qFL_RX3_10 rfl rfl dX3_shuts_55 ?_
      refine k_callVi C hP hap hAA (c_X0_shutFields l ev (fun j => ad (j + 1)) (x_now σ)   _ rfl) (em_G1r) (apart_1 _) gz_X0_shutFields qML_RX3_283 qIM_yX0_shutFields qSE_yX0_shutFields ⟨(Nat.le_of_ble_eq_true rfl), (Nat.le_of_ble_eq_true rfl)⟩ (q0 := 1) rfl (by decide) rfl rfl rfl rfl hl.1 rfl (Nat.le_of_ble_eq_true rfl) dX3_shuts_58 ⟨Nat.le_refl _, Nat.le_refl _⟩ (fun H locs hP => ?_)
      refine lv_iconst (v := (-1)) hx hb dX3_shuts_61 (by decide) ?_
      refine lv_ixor hx hb dX3_shuts_62 ?_
      refine lv_iand hx hb dX3_shuts_63 ?_
      refine k_callSi C hP hap hAA (c_J6_bitCount_0f7a4 l ev ad (x1 &&& ((f_X0_shutFields (x_now σ)) ^^^ (-1)))   _ rfl) Emb.none (apart_0 _) gz_J6_bitCount_0f7a4 qML_RX3_286 qSM_yJ6_bitCount_0f7a4 ⟨(Nat.le_of_ble_eq_true rfl), (Nat.le_of_ble_eq_true rfl)⟩ rfl hl.1 rfl (Nat.le_of_ble_eq_true rfl) dX3_shuts_64 ⟨Nat.le_refl _, Nat.le_refl _⟩ (fun H locs hP => ?_)
      exact e_iret C hend hP (k_some2 h).1 (congrArg (xw ev ad) (k_some2 h).2) dX3_shuts_67
    · have h := k_if c26 h
      refine lv_aload_n hx hb dX3_shuts_29 rfl (lv_at hl 0 rfl) ?_
      refine lv_bipush (v := (-5)) hx hb dX3_shuts_30 (by decide) ?_
      obtain ⟨x3, σ2, h1, h⟩ := k_ob2 h
      refine k_callVi C hP hap hAA (c_X3_refuse l ev ad σ (-5)   _ _ h1) Emb.same hap gz_X3_refuse qML_RX3_60 qIM_yX3_refuse qSE_yX3_refuse ⟨(Nat.le_of_ble_eq_true rfl), (Nat.le_of_ble_eq_true rfl)⟩ (q0 := 0) rfl (by decide) rfl rfl rfl rfl hl.1 rfl (Nat.le_of_ble_eq_true rfl) dX3_shuts_32 ⟨Nat.le_refl _, Nat.le_refl _⟩ (fun H locs hP => ?_)
      exact e_iret C hend hP (k_some2 h).1 (congrArg (xw ev ad) (k_some2 h).2) dX3_shuts_35
  · have h := k_nf c8 h
    refine lv_aload_n hx hb dX3_shuts_11 rfl (lv_at hl 0 rfl) ?_
    refine lv_bipush (v := (-2)) hx hb dX3_shuts_12 (by decide) ?_
    obtain ⟨x5, σ4, h1, h⟩ := k_ob2 h
    refine k_callVi C hP hap hAA (c_X3_refuse l ev ad σ (-2)   _ _ h1) Emb.same hap gz_X3_refuse qML_RX3_60 qIM_yX3_refuse qSE_yX3_refuse ⟨(Nat.le_of_ble_eq_true rfl), (Nat.le_of_ble_eq_true rfl)⟩ (q0 := 0) rfl (by decide) rfl rfl rfl rfl hl.1 rfl (Nat.le_of_ble_eq_true rfl) dX3_shuts_14 ⟨Nat.le_refl _, Nat.le_refl _⟩ (fun H locs hP => ?_)
    exact e_iret C hend hP (k_some2 h).1 (congrArg (xw ev ad) (k_some2 h).2) dX3_shuts_17
