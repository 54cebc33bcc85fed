/-! functions read off, and their contracts: by program (wip/whole/gen2.py) -/
def f_X3_refuseLead (σ : XX) (a1 : Int32) : Option (Int32 × XX) :=
  ob2 (f_X3_refuse σ a1) (fun x2 σ1 => some (((-1000) + x2), σ1))
set_option maxHeartbeats 4000000 in
set_option maxRecDepth 100000 in
theorem c_X3_refuseLead (l : Launch) (ev : EV) (ad : Nat → Nat) (σ : XX) (a1 : Int32)   (r : Int32) (σ' : XX) (h : f_X3_refuseLead σ a1 = some (r, σ')) : Ct l yX3_refuseLead prog_1_method_61_code 2 (Option.some Jvm.ClassFile.FieldType.int) (rmk 1 22) ev 26 ad (xw ev ad σ) (xw ev ad σ') [.ref (ad 0), .int a1] (some (.int r)) := by
  refine Ct.of (by decide +kernel) (Nat.le_of_ble_eq_true rfl) ?_
  intro p e s m args below meth c Qc C hap hP hend ls hl
  have hAA : ∀ j, j < 26 → inA ad 26 (ad j) := fun j hj => ⟨j, hj, rfl⟩
  have hx := C.1
  have hb := C.2.1
  have hl : lv_has ls 2 [(0, .ref (ad 0)), (1, .int a1)] := hl
  have h := (f_X3_refuseLead.eq_1 _ _ ).symm.trans h
  refine lv_sipush (v := (-1000)) hx hb dX3_refuseLead_0 (by decide) ?_
  refine lv_aload_n hx hb dX3_refuseLead_3 rfl (lv_at hl 0 rfl) ?_
  refine lv_iload_n hx hb dX3_refuseLead_4 rfl (lv_at hl 1 rfl) ?_
  obtain ⟨x2, σ1, h1, h⟩ := k_ob2 h
  refine k_callVi C hP hap hAA (c_X3_refuse l ev ad σ a1   _ _ h1) Emb.same hap gz_X3_refuse qML_RX3_60 qIM_yX3_refuse qSE_yX3_refuse ⟨(Nat.le_of_ble_eq_true rfl), (Nat.le_of_ble_eq_true rfl)⟩ (q0 := 0) rfl (by decide) rfl rfl rfl rfl hl.1 rfl (Nat.le_of_ble_eq_true rfl) dX3_refuseLead_5 ⟨Nat.le_refl _, Nat.le_refl _⟩ (fun H locs hP => ?_)
  refine lv_iadd hx hb dX3_refuseLead_8 ?_
  exact e_iret C hend hP (k_some2 h).1 (congrArg (xw ev ad) (k_some2 h).2) dX3_refuseLead_9
def f_X3_lead (σ : XX) (a1 : Int32) : Option (Int32 × XX) :=
  if (f_X3_isSeat a1) = true then ob (f_X0_leadOf (x_now σ) a1) (fun x3 => some (x3, σ)) else ob2 (f_X3_refuseLead σ (-2)) (fun x2 σ1 => some (x2, σ1))
set_option maxHeartbeats 4000000 in
set_option maxRecDepth 100000 in
theorem c_X3_lead (l : Launch) (ev : EV) (ad : Nat → Nat) (σ : XX) (a1 : Int32)   (r : Int32) (σ' : XX) (h : f_X3_lead σ a1 = some (r, σ')) : Ct l yX3_lead prog_1_method_21_code 2 (Option.some Jvm.ClassFile.FieldType.int) (rmk 6 145) ev 26 ad (xw ev ad σ) (xw ev ad σ') [.ref (ad 0), .int a1] (some (.int r)) := by
  refine Ct.of (by decide +kernel) (Nat.le_of_ble_eq_true rfl) ?_
  intro p e s m args below meth c Qc C hap hP hend ls hl
  have hAA : ∀ j, j < 26 → inA ad 26 (ad j) := fun j hj => ⟨j, hj, rfl⟩
  have hx := C.1
  have hb := C.2.1
  have hl : lv_has ls 2 [(0, .ref (ad 0)), (1, .int a1)] := hl
  have h := (f_X3_lead.eq_1 _ _ ).symm.trans h
  refine lv_iload_n hx hb dX3_lead_0 rfl (lv_at hl 1 rfl) ?_
  refine k_callSi C hP hap hAA (c_X3_isSeat l ev ad a1   _ rfl) Emb.none (apart_0 _) gz_X3_isSeat qML_RX3_153 qSM_yX3_isSeat ⟨(Nat.le_of_ble_eq_true rfl), (Nat.le_of_ble_eq_true rfl)⟩ rfl hl.1 rfl (Nat.le_of_ble_eq_true rfl) dX3_lead_1 ⟨Nat.le_refl _, Nat.le_refl _⟩ (fun H locs hP => ?_)
  refine r_ifz_eq (tgt := 18) hx hb dX3_lead_4 (by decide) (fun c4 => ?_) (fun c4 => ?_)
  · have h := k_nf c4 h
    refine lv_aload_n hx hb dX3_lead_18 rfl (lv_at hl 0 rfl) ?_
    refine lv_bipush (v := (-2)) hx hb dX3_lead_19 (by decide) ?_
    obtain ⟨x2, σ1, h1, h⟩ := k_ob2 h
    refine k_callVi C hP hap hAA (c_X3_refuseLead l ev ad σ (-2)   _ _ h1) Emb.same hap gz_X3_refuseLead qML_RX3_258 qIM_yX3_refuseLead qSE_yX3_refuseLead ⟨(Nat.le_of_ble_eq_true rfl), (Nat.le_of_ble_eq_true rfl)⟩ (q0 := 0) rfl (by decide) rfl rfl rfl rfl hl.1 rfl (Nat.le_of_ble_eq_true rfl) dX3_lead_21 ⟨Nat.le_refl _, Nat.le_refl _⟩ (fun H locs hP => ?_)
    exact e_iret C hend hP (k_some2 h).1 (congrArg (xw ev ad) (k_some2 h).2) dX3_lead_24
  · have h := k_if c4 h
    refine lv_aload_n hx hb dX3_lead_7 rfl (lv_at hl 0 rfl) ?_
    refine r_get C hP (ci := 3) rfl uin_X3 0 (by decide) 0 (by decide) rfl qFL_RX3_10 rfl rfl dX3_lead_8 ?_
    refine lv_iload_n hx hb dX3_lead_11 rfl (lv_at hl 1 rfl) ?_
    obtain ⟨x3, h1, h⟩ := k_ob h
    refine k_callVi C hP hap hAA (c_X0_leadOf l ev (fun j => ad (j + 1)) (x_now σ) a1   _ h1) (em_G1r) (apart_1 _) gz_X0_leadOf qML_RX3_255 qIM_yX0_leadOf qSE_yX0_leadOf ⟨(Nat.le_of_ble_eq_true rfl), (Nat.le_of_ble_eq_true rfl)⟩ (q0 := 1) rfl (by decide) rfl rfl rfl rfl hl.1 rfl (Nat.le_of_ble_eq_true rfl) dX3_lead_12 ⟨Nat.le_refl _, Nat.le_refl _⟩ (fun H locs hP => ?_)
    refine lv_goto (tgt := 24) hx hb dX3_lead_15 (by decide) ?_
    exact e_iret C hend hP (k_some2 h).1 (congrArg (xw ev ad) (k_some2 h).2) dX3_lead_24
def f_X3_lanes (σ : XX) (a1 : Int32) : Option (Int32 × XX) :=
  if (f_X3_isSeat a1) = true then ob (f_X0_tinted (x_now σ) a1) (fun x3 => some ((f_X0_lanesAmong (x_now σ) x3), σ)) else ob2 (f_X3_refuse σ (-2)) (fun x2 σ1 => some (x2, σ1))
set_option maxHeartbeats 4000000 in
set_option maxRecDepth 100000 in
theorem c_X3_lanes (l : Launch) (ev : EV) (ad : Nat → Nat) (σ : XX) (a1 : Int32)   (r : Int32) (σ' : XX) (h : f_X3_lanes σ a1 = some (r, σ')) : Ct l yX3_lanes prog_1_method_22_code 2 (Option.some Jvm.ClassFile.FieldType.int) (rmk 6 142) ev 26 ad (xw ev ad σ) (xw ev ad σ') [.ref (ad 0), .int a1] (some (.int r)) := by
  refine Ct.of (by decide +kernel) (Nat.le_of_ble_eq_true rfl) ?_
  intro p e s m args below meth c Qc C hap hP hend ls hl
  have hAA : ∀ j, j < 26 → inA ad 26 (ad j) := fun j hj => ⟨j, hj, rfl⟩
  have hx := C.1
  have hb := C.2.1
  have hl : lv_has ls 2 [(0, .ref (ad 0)), (1, .int a1)] := hl
  have h := (f_X3_lanes.eq_1 _ _ ).symm.trans h
  refine lv_iload_n hx hb dX3_lanes_0 rfl (lv_at hl 1 rfl) ?_
  refine k_callSi C hP hap hAA (c_X3_isSeat l ev ad a1   _ rfl) Emb.none (apart_0 _) gz_X3_isSeat qML_RX3_153 qSM_yX3_isSeat ⟨(Nat.le_of_ble_eq_true rfl), (Nat.le_of_ble_eq_true rfl)⟩ rfl hl.1 rfl (Nat.le_of_ble_eq_true rfl) dX3_lanes_1 ⟨Nat.le_refl _, Nat.le_refl _⟩ (fun H locs hP => ?_)
  refine r_ifz_eq (tgt := 25) hx hb dX3_lanes_4 (by decide) (fun c4 => ?_) (fun c4 => ?_)
  · have h := k_nf c4 h
    refine lv_aload_n hx hb dX3_lanes_25 rfl (lv_at hl 0 rfl) ?_
    refine lv_bipush (v := (-2)) hx hb dX3_lanes_26 (by decide) ?_
    obtain ⟨x2, σ1, h1, h⟩ := k_ob2 h
    refine k_callVi C hP hap hAA (c_X3_refuse l ev ad σ (-2)   _ _ h1) Emb.same hap gz_X3_refuse qML_RX3_60 qIM_yX3_refuse qSE_yX3_refuse ⟨(Nat.le_of_ble_eq_true rfl), (Nat.le_of_ble_eq_true rfl)⟩ (q0 := 0) rfl (by decide) rfl rfl rfl rfl hl.1 rfl (Nat.le_of_ble_eq_true rfl) dX3_lanes_28 ⟨Nat.le_refl _, Nat.le_refl _⟩ (fun H locs hP => ?_)
    exact e_iret C hend hP (k_some2 h).1 (congrArg (xw ev ad) (k_some2 h).2) dX3_lanes_31
  · have h := k_if c4 h
    refine lv_aload_n hx hb dX3_lanes_7 rfl (lv_at hl 0 rfl) ?_
    refine r_get C hP (ci := 3) rfl uin_X3 0 (by decide) 0 (by decide) rfl qFL_RX3_10 rfl rfl dX3_lanes_8 ?_
    refine lv_aload_n hx hb dX3_lanes_11 rfl (lv_at hl 0 rfl) ?_
    refine r_get C hP (ci := 3) rfl uin_X3 0 (by decide) 0 (by decide) rfl qFL_RX3_10 rfl rfl dX3_lanes_12 ?_
    refine lv_iload_n hx hb dX3_lanes_15 rfl (lv_at hl 1 rfl) ?_
    obtain ⟨x3, h1, h⟩ := k_ob h
    refine k_callVi C hP hap hAA (c_X0_tinted l ev (fun j => ad (j + 1)) (x_now σ) a1   _ h1) (em_G1r) (apart_1 _) gz_X0_tinted qML_RX3_206 qIM_yX0_tinted qSE_yX0_tinted ⟨(Nat.le_of_ble_eq_true rfl), (Nat.le_of_ble_eq_true rfl)⟩ (q0 := 1) rfl (by decide) rfl rfl rfl rfl hl.1 rfl (Nat.le_of_ble_eq_true rfl) dX3_lanes_16 ⟨Nat.le_refl _, Nat.le_refl _⟩ (fun H locs hP => ?_)
    refine k_callVi C hP hap hAA (c_X0_lanesAmong l ev (fun j => ad (j + 1)) (x_now σ) x3   _ rfl) (em_G1r) (apart_1 _) gz_X0_lanesAmong qML_RX3_261 qIM_yX0_lanesAmong qSE_yX0_lanesAmong ⟨(Nat.le_of_ble_eq_true rfl), (Nat.le_of_ble_eq_true rfl)⟩ (q0 := 1) rfl (by decide) rfl rfl rfl rfl hl.1 rfl (Nat.le_of_ble_eq_true rfl) dX3_lanes_19 ⟨Nat.le_refl _, Nat.le_refl _⟩ (fun H locs hP => ?_)
    refine lv_goto (tgt := 31) hx hb dX3_lanes_22 (by decide) ?_
    exact e_iret C hend hP (k_some2 h).1 (congrArg (xw ev ad) (k_some2 h).2) dX3_lanes_31
def f_X3_ditch (σ : XX) (a1 : Int32) : Option (Int32 × XX) :=
  if (f_X0_isField (x_now σ) a1) = true then lt (ishl 1 a1) (fun x1 => if ((g_dug (x_now σ)) &&& x1) = 0 then ob2 (f_X3_refuse σ (-5)) (fun x4 σ3 => some (x4, σ3)) else ob (f_X0_hanging (x_now σ) x1 (g_dug (x_now σ)) 0) (fun x2 => some (x2, σ))) else ob2 (f_X3_refuse σ (-2)) (fun x6 σ5 => some (x6, σ5))
set_option maxHeartbeats 4000000 in
set_option maxRecDepth 100000 in
theorem c_X3_ditch (l : Launch) (ev : EV) (ad : Nat → Nat) (σ : XX) (a1 : Int32)   (r : Int32) (σ' : XX) (h : f_X3_ditch σ a1 = some (r, σ')) : Ct l yX3_ditch prog_1_method_23_code 3 (Option.some Jvm.ClassFile.FieldType.int) (rmk 3 80) ev 26 ad (xw ev ad σ) (xw ev ad σ') [.ref (ad 0), .int a1] (some (.int r)) := by
  refine Ct.of (by decide +kernel) (Nat.le_of_ble_eq_true rfl) ?_
  intro p e s m args below meth c Qc C hap hP hend ls hl
  have hAA : ∀ j, j < 26 → inA ad 26 (ad j) := fun j hj => ⟨j, hj, rfl⟩
  have hx := C.1
  have hb := C.2.1
  have hl : lv_has ls 3 [(0, .ref (ad 0)), (1, .int a1)] := hl
  have h := (f_X3_ditch.eq_1 _ _ ).symm.trans h
  refine lv_aload_n hx hb dX3_ditch_0 rfl (lv_at hl 0 rfl) ?_
  refine r_get C hP (ci := 3) rfl uin_X3 0 (by decide) 0 (by decide) rfl qFL_RX3_10 rfl rfl dX3_ditch_1 ?_
  refine lv_iload_n hx hb dX3_ditch_4 rfl (lv_at hl 1 rfl) ?_
  refine k_callVi C hP hap hAA (c_X0_isField l ev (fun j => ad (j + 1)) (x_now σ) a1   _ rfl) (em_G1r) (apart_1 _) gz_X0_isField qML_RX3_179 qIM_yX0_isField qSE_yX0_isField ⟨(Nat.le_of_ble_eq_true rfl), (Nat.le_of_ble_eq_true rfl)⟩ (q0 := 1) rfl (by decide) rfl rfl rfl rfl hl.1 rfl (Nat.le_of_ble_eq_true rfl) dX3_ditch_5 ⟨Nat.le_refl _, Nat.le_refl _⟩ (fun H locs hP => ?_)
  refine r_ifz_ne (tgt := 18) hx hb dX3_ditch_8 (by decide) (fun c8 => ?_) (fun c8 => ?_)
  · have h := k_if c8 h
    refine lv_iconst (v := 1) hx hb dX3_ditch_18 (by decide) ?_
    refine lv_iload_n hx hb dX3_ditch_19 rfl (lv_at hl 1 rfl) ?_
    refine r_ishl hx hb dX3_ditch_20 ?_
    refine lv_topi (fun x1 ex1 => ?_)
    have h := k_lt ex1 h
    refine lv_istore_n (lv' := [(2, .int x1), (0, .ref (ad 0)), (1, .int a1)]) hx hb dX3_ditch_21 rfl hl (by decide) rfl (fun ls hl => ?_)
    refine lv_aload_n hx hb dX3_ditch_22 rfl (lv_at hl 1 rfl) ?_
    refine r_get C hP (ci := 3) rfl uin_X3 0 (by decide) 0 (by decide) rfl qFL_RX3_10 rfl rfl dX3_ditch_23 ?_
    refine r_get C hP (ci := 0) rfl uin_X0 10 (by decide) 1 (by decide) rfl qFL_RX3_189 rfl rfl dX3_ditch_26 ?_
    refine lv_iload_n hx hb dX3_ditch_29 rfl (lv_at hl 0 rfl) ?_
    refine lv_iand hx hb dX3_ditch_30 ?_
    refine lv_if_ne (tgt := 43) hx hb dX3_ditch_31 (by decide) (fun c31 => ?_) (fun c31 => ?_)
    · have h := k_nf c31 h
      refine lv_aload_n hx hb dX3_ditch_43 rfl (lv_at hl 1 rfl) ?_
      refine r_get C hP (ci := 3) rfl uin_X3 0 (by decide) 0 (by decide) rfl qFL_RX3_10 rfl rfl dX3_ditch_44 ?_
      refine lv_iload_n hx hb dX3_ditch_47 rfl (lv_at hl 0 rfl) ?_
      refine lv_aload_n hx hb dX3_ditch_48 rfl (lv_at hl 1 rfl) ?_
      refine r_get C hP (ci := 3) rfl uin_X3 0 (by decide) 0 (by decide) rfl qFL_RX3_10 rfl rfl dX3_ditch_49 ?_
      refine r_get C hP (ci := 0) rfl uin_X0 10 (by decide) 1 (by decide) rfl qFL_RX3_189 rfl rfl dX3_ditch_52 ?_
      refine lv_lconst (v := 0) hx hb dX3_ditch_55 (by decide) ?_
      obtain ⟨x2, h1, h⟩ := k_ob h
      refine k_callVi C hP hap hAA (c_X0_hanging l ev (fun j => ad (j + 1)) (x_now σ) x1 (g_dug (x_now σ)) 0   _ h1) (em_G1r) (apart_1 _) gz_X0_hanging qML_RX3_264 qIM_yX0_hanging qSE_yX0_hanging ⟨(Nat.le_of_ble_eq_true rfl), (Nat.le_of_ble_eq_true rfl)⟩ (q0 := 1) rfl (by decide) rfl rfl rfl rfl hl.1 rfl (Nat.le_of_ble_eq_true rfl) dX3_ditch_56 ⟨Nat.le_refl _, Nat.le_refl _⟩ (fun H locs hP => ?_)
      exact e_iret C hend hP (k_some2 h).1 (congrArg (xw ev ad) (k_some2 h).2) dX3_ditch_59
    · have h := k_if c31 h
      refine lv_aload_n hx hb dX3_ditch_34 rfl (lv_at hl 1 rfl) ?_
      refine lv_bipush (v := (-5)) hx hb dX3_ditch_35 (by decide) ?_
      obtain ⟨x4, σ3, h1, h⟩ := k_ob2 h
      refine k_callVi C hP hap hAA (c_X3_refuse l ev ad σ (-5)   _ _ h1) Emb.same hap gz_X3_refuse qML_RX3_60 qIM_yX3_refuse qSE_yX3_refuse ⟨(Nat.le_of_ble_eq_true rfl), (Nat.le_of_ble_eq_true rfl)⟩ (q0 := 0) rfl (by decide) rfl rfl rfl rfl hl.1 rfl (Nat.le_of_ble_eq_true rfl) dX3_ditch_37 ⟨Nat.le_refl _, Nat.le_refl _⟩ (fun H locs hP => ?_)
      refine lv_goto (tgt := 59) hx hb dX3_ditch_40 (by decide) ?_
      exact e_iret C hend hP (k_some2 h).1 (congrArg (xw ev ad) (k_some2 h).2) dX3_ditch_59
  · have h := k_nf c8 h
    refine lv_aload_n hx hb dX3_ditch_11 rfl (lv_at hl 0 rfl) ?_
    refine lv_bipush (v := (-2)) hx hb dX3_ditch_12 (by decide) ?_
    obtain ⟨x6, σ5, h1, h⟩ := k_ob2 h
    refine k_callVi C hP hap hAA (c_X3_refuse l ev ad σ (-2)   _ _ h1) Emb.same hap gz_X3_refuse qML_RX3_60 qIM_yX3_refuse qSE_yX3_refuse ⟨(Nat.le_of_ble_eq_true rfl), (Nat.le_of_ble_eq_true rfl)⟩ (q0 := 0) rfl (by decide) rfl rfl rfl rfl hl.1 rfl (Nat.le_of_ble_eq_true rfl) dX3_ditch_14 ⟨Nat.le_refl _, Nat.le_refl _⟩ (fun H locs hP => ?_)
    exact e_iret C hend hP (k_some2 h).1 (congrArg (xw ev ad) (k_some2 h).2) dX3_ditch_17
def f_X3_drained (σ : XX) : Option (Int32) :=
  ob (f_X0_drainedFields (x_now σ)) (fun x1 => some x1)
set_option maxHeartbeats 4000000 in
set_option maxRecDepth 100000 in
theorem c_X3_drained (l : Launch) (ev : EV) (ad : Nat → Nat) (σ : XX)   (r : Int32)  (h : f_X3_drained σ = some r) : Ct l yX3_drained prog_1_method_24_code 1 (Option.some Jvm.ClassFile.FieldType.int) (rmk 4 100) ev 26 ad (xw ev ad σ) (xw ev ad σ) [.ref (ad 0)] (some (.int r)) := by
  refine Ct.of (by decide +kernel) (Nat.le_of_ble_eq_true rfl) ?_
  intro p e s m args below meth c Qc C hap hP hend ls hl
  have hAA : ∀ j, j < 26 → inA ad 26 (ad j) := fun j hj => ⟨j, hj, rfl⟩
  have hx := C.1
  have hb := C.2.1
  have hl : lv_has ls 1 [(0, .ref (ad 0))] := hl
  have h := (f_X3_drained.eq_1 _ ).symm.trans h
  refine lv_aload_n hx hb dX3_drained_0 rfl (lv_at hl 0 rfl) ?_
  refine r_get C hP (ci := 3) rfl uin_X3 0 (by decide) 0 (by decide) rfl qFL_RX3_10 rfl rfl dX3_drained_1 ?_
  obtain ⟨x1, h1, h⟩ := k_ob h
  refine k_callVi C hP hap hAA (c_X0_drainedFields l ev (fun j => ad (j + 1)) (x_now σ)   _ h1) (em_G1r) (apart_1 _) gz_X0_drainedFields qML_RX3_268 qIM_yX0_drainedFields qSE_yX0_drainedFields ⟨(Nat.le_of_ble_eq_true rfl), (Nat.le_of_ble_eq_true rfl)⟩ (q0 := 1) rfl (by decide) rfl rfl rfl rfl hl.1 rfl (Nat.le_of_ble_eq_true rfl) dX3_drained_4 ⟨Nat.le_refl _, Nat.le_refl _⟩ (fun H locs hP => ?_)
  exact e_iret C hend hP (k_some h) rfl dX3_drained_7
def f_X3_thirds (σ : XX) : Option (Int32) :=
  ob (f_X0_withThree (x_now σ) (g_hedges (x_now σ))) (fun x1 => some x1)
set_option maxHeartbeats 4000000 in
set_option maxRecDepth 100000 in
theorem c_X3_thirds (l : Launch) (ev : EV) (ad : Nat → Nat) (σ : XX)   (r : Int32)  (h : f_X3_thirds σ = some r) : Ct l yX3_thirds prog_1_method_25_code 1 (Option.some Jvm.ClassFile.FieldType.int) (rmk 2 52) ev 26 ad (xw ev ad σ) (xw ev ad σ) [.ref (ad 0)] (some (.int r)) := by
  refine Ct.of (by decide +kernel) (Nat.le_of_ble_eq_true rfl) ?_
  intro p e s m args below meth c Qc C hap hP hend ls hl
  have hAA : ∀ j, j < 26 → inA ad 26 (ad j) := fun j hj => ⟨j, hj, rfl⟩
  have hx := C.1
  have hb := C.2.1
  have hl : lv_has ls 1 [(0, .ref (ad 0))] := hl
  have h := (f_X3_thirds.eq_1 _ ).symm.trans h
  refine lv_aload_n hx hb dX3_thirds_0 rfl (lv_at hl 0 rfl) ?_
  refine r_get C hP (ci := 3) rfl uin_X3 0 (by decide) 0 (by decide) rfl qFL_RX3_10 rfl rfl dX3_thirds_1 ?_
  refine lv_aload_n hx hb dX3_thirds_4 rfl (lv_at hl 0 rfl) ?_
  refine r_get C hP (ci := 3) rfl uin_X3 0 (by decide) 0 (by decide) rfl qFL_RX3_10 rfl rfl dX3_thirds_5 ?_
  refine r_get C hP (ci := 0) rfl uin_X0 9 (by decide) 1 (by decide) rfl qFL_RX3_185 rfl rfl dX3_thirds_8 ?_
  obtain ⟨x1, h1, h⟩ := k_ob h
  refine k_callVi C hP hap hAA (c_X0_withThree l ev (fun j => ad (j + 1)) (x_now σ) (g_hedges (x_now σ))   _ h1) (em_G1r) (apart_1 _) gz_X0_withThree qML_RX3_271 qIM_yX0_withThree qSE_yX0_withThree ⟨(Nat.le_of_ble_eq_true rfl), (Nat.le_of_ble_eq_true rfl)⟩ (q0 := 1) rfl (by decide) rfl rfl rfl rfl hl.1 rfl (Nat.le_of_ble_eq_true rfl) dX3_thirds_11 ⟨Nat.le_refl _, Nat.le_refl _⟩ (fun H locs hP => ?_)
  exact e_iret C hend hP (k_some h) rfl dX3_thirds_14
def f_X3_chain (σ : XX) (a1 : Int32) : Option (Int32 × XX) :=
  if (f_X0_isField (x_now σ) a1) = true then ob (f_X0_chainFrom (x_now σ) a1) (fun x3 => some (x3, σ)) else ob2 (f_X3_refuse σ (-2)) (fun x2 σ1 => some (x2, σ1))
set_option maxHeartbeats 4000000 in
set_option maxRecDepth 100000 in
theorem c_X3_chain (l : Launch) (ev : EV) (ad : Nat → Nat) (σ : XX) (a1 : Int32)   (r : Int32) (σ' : XX) (h : f_X3_chain σ a1 = some (r, σ')) : Ct l yX3_chain prog_1_method_26_code 2 (Option.some Jvm.ClassFile.FieldType.int) (rmk 3 79) ev 26 ad (xw ev ad σ) (xw ev ad σ') [.ref (ad 0), .int a1] (some (.int r)) := by
  refine Ct.of (by decide +kernel) (Nat.le_of_ble_eq_true rfl) ?_
  intro p e s m args below meth c Qc C hap hP hend ls hl
  have hAA : ∀ j, j < 26 → inA ad 26 (ad j) := fun j hj => ⟨j, hj, rfl⟩
  have hx := C.1
  have hb := C.2.1
  have hl : lv_has ls 2 [(0, .ref (ad 0)), (1, .int a1)] := hl
  have h := (f_X3_chain.eq_1 _ _ ).symm.trans h
  refine lv_aload_n hx hb dX3_chain_0 rfl (lv_at hl 0 rfl) ?_
  refine r_get C hP (ci := 3) rfl uin_X3 0 (by decide) 0 (by decide) rfl qFL_RX3_10 rfl rfl dX3_chain_1 ?_
  refine lv_iload_n hx hb dX3_chain_4 rfl (lv_at hl 1 rfl) ?_
  refine k_callVi C hP hap hAA (c_X0_isField l ev (fun j => ad (j + 1)) (x_now σ) a1   _ rfl) (em_G1r) (apart_1 _) gz_X0_isField qML_RX3_179 qIM_yX0_isField qSE_yX0_isField ⟨(Nat.le_of_ble_eq_true rfl), (Nat.le_of_ble_eq_true rfl)⟩ (q0 := 1) rfl (by decide) rfl rfl rfl rfl hl.1 rfl (Nat.le_of_ble_eq_true rfl) dX3_chain_5 ⟨Nat.le_refl _, Nat.le_refl _⟩ (fun H locs hP => ?_)
  refine r_ifz_eq (tgt := 22) hx hb dX3_chain_8 (by decide) (fun c8 => ?_) (fun c8 => ?_)
  · have h := k_nf c8 h
    refine lv_aload_n hx hb dX3_chain_22 rfl (lv_at hl 0 rfl) ?_
    refine lv_bipush (v := (-2)) hx hb dX3_chain_23 (by decide) ?_
    obtain ⟨x2, σ1, h1, h⟩ := k_ob2 h
    refine k_callVi C hP hap hAA (c_X3_refuse l ev ad σ (-2)   _ _ h1) Emb.same hap gz_X3_refuse qML_RX3_60 qIM_yX3_refuse qSE_yX3_refuse ⟨(Nat.le_of_ble_eq_true rfl), (Nat.le_of_ble_eq_true rfl)⟩ (q0 := 0) rfl (by decide) rfl rfl rfl rfl hl.1 rfl (Nat.le_of_ble_eq_true rfl) dX3_chain_25 ⟨Nat.le_refl _, Nat.le_refl _⟩ (fun H locs hP => ?_)
    exact e_iret C hend hP (k_some2 h).1 (congrArg (xw ev ad) (k_some2 h).2) dX3_chain_28
  · have h := k_if c8 h
    refine lv_aload_n hx hb dX3_chain_11 rfl (lv_at hl 0 rfl) ?_
    refine r_get C hP (ci := 3) rfl uin_X3 0 (by decide) 0 (by decide) rfl qFL_RX3_10 rfl rfl dX3_chain_12 ?_
    refine lv_iload_n hx hb dX3_chain_15 rfl (lv_at hl 1 rfl) ?_
    obtain ⟨x3, h1, h⟩ := k_ob h
    refine k_callVi C hP hap hAA (c_X0_chainFrom l ev (fun j => ad (j + 1)) (x_now σ) a1   _ h1) (em_G1r) (apart_1 _) gz_X0_chainFrom qML_RX3_274 qIM_yX0_chainFrom qSE_yX0_chainFrom ⟨(Nat.le_of_ble_eq_true rfl), (Nat.le_of_ble_eq_true rfl)⟩ (q0 := 1) rfl (by decide) rfl rfl rfl rfl hl.1 rfl (Nat.le_of_ble_eq_true rfl) dX3_chain_16 ⟨Nat.le_refl _, Nat.le_refl _⟩ (fun H locs hP => ?_)
    refine lv_goto (tgt := 28) hx hb dX3_chain_19 (by decide) ?_
    exact e_iret C hend hP (k_some2 h).1 (congrArg (xw ev ad) (k_some2 h).2) dX3_chain_28
def f_X3_longest_L6_b (σ : XX)  (rec6 : Int32 → Int32 → Int32 → Option (Int32)) (x1 : Int32) (x2 : Int32) (x3 : Int32) : Option (Int32) :=
  if (g_fields (x_now σ)) ≤ x3 then some x1 else ob (f_X0_chainFrom (x_now σ) x3) (fun x4 => if x4 ≤ x2 then lt (x3 + 1) (fun x5 => rec6 x1 x2 x5) else lt (x3 + 1) (fun x6 => rec6 x3 x4 x6))
def f_X3_longest_L6 (σ : XX)  (x1 : Int32) (x2 : Int32) (x3 : Int32) : Option (Int32) :=
  lp (fun _ _ _ => none) (f_X3_longest_L6_b σ ) FU x1 x2 x3
def f_X3_longest (σ : XX) : Option (Int32) :=
  f_X3_longest_L6 σ 0 0 0
set_option maxHeartbeats 4000000 in
set_option maxRecDepth 100000 in
theorem c_X3_longest (l : Launch) (ev : EV) (ad : Nat → Nat) (σ : XX)   (r : Int32)  (h : f_X3_longest σ = some r) : Ct l yX3_longest prog_1_method_27_code 5 (Option.some Jvm.ClassFile.FieldType.int) (rmk 3 79) ev 26 ad (xw ev ad σ) (xw ev ad σ) [.ref (ad 0)] (some (.int r)) := by
  refine Ct.of (by decide +kernel) (Nat.le_of_ble_eq_true rfl) ?_
  intro p e s m args below meth c Qc C hap hP hend ls hl
  have hAA : ∀ j, j < 26 → inA ad 26 (ad j) := fun j hj => ⟨j, hj, rfl⟩
  have hx := C.1
  have hb := C.2.1
  have hl : lv_has ls 5 [(0, .ref (ad 0))] := hl
  have h := (f_X3_longest.eq_1 _ ).symm.trans h
  refine lv_iconst (v := 0) hx hb dX3_longest_0 (by decide) ?_
  refine lv_istore_n (lv' := [(1, .int 0), (0, .ref (ad 0))]) hx hb dX3_longest_1 rfl hl (by decide) rfl (fun ls hl => ?_)
  refine lv_iconst (v := 0) hx hb dX3_longest_2 (by decide) ?_
  refine lv_istore_n (lv' := [(2, .int 0), (1, .int 0), (0, .ref (ad 0))]) hx hb dX3_longest_3 rfl hl (by decide) rfl (fun ls hl => ?_)
  refine lv_iconst (v := 0) hx hb dX3_longest_4 (by decide) ?_
  refine lv_istore_n (lv' := [(3, .int 0), (2, .int 0), (1, .int 0), (0, .ref (ad 0))]) hx hb dX3_longest_5 rfl hl (by decide) rfl (fun ls hl => ?_)
  have hL6 : ∀ (n : Nat) (x1 : Int32) (x2 : Int32) (x3 : Int32) (H : Heap) (locs : List Loc) (ls : Array Slot), lp (fun _ _ _ => none) (f_X3_longest_L6_b σ ) n x1 x2 x3 = some r → PS ev 26 ad (xw ev ad σ) (inA ad 26) s H locs → lv_has ls 5 [(0, .ref (ad 0)), (1, .int x1), (2, .int x2), (3, .int x3)] → WW ev p l e (rmk 3 79) s m args below meth c Qc ad 26 H locs 6 ls [] := by
    intro n
    induction n with
    | zero =>
      intro x1 x2 x3 H locs ls h; exact k_none h
    | succ n ih =>
      intro x1 x2 x3 H locs ls h hP hl
      have h : f_X3_longest_L6_b σ  (lp (fun _ _ _ => none) (f_X3_longest_L6_b σ ) n) x1 x2 x3 = some r := h
      have h := (f_X3_longest_L6_b.eq_1 _ _ _ _ _ ).symm.trans h
      refine lv_iload_n hx hb dX3_longest_6 rfl (lv_at hl 3 rfl) ?_
      refine lv_aload_n hx hb dX3_longest_7 rfl (lv_at hl 0 rfl) ?_
      refine r_get C hP (ci := 3) rfl uin_X3 0 (by decide) 0 (by decide) rfl qFL_RX3_10 rfl rfl dX3_longest_8 ?_
      refine r_get C hP (ci := 0) rfl uin_X0 2 (by decide) 1 (by decide) rfl qFL_RX3_277 rfl rfl dX3_longest_11 ?_
      refine lv_icmp_ge (tgt := 44) hx hb dX3_longest_14 (by decide) (fun c14 => ?_) (fun c14 => ?_)
      · have h := k_if c14 h
        refine lv_iload_n hx hb dX3_longest_44 rfl (lv_at hl 1 rfl) ?_
        exact e_iret C hend hP (k_some h) rfl dX3_longest_45
      · have h := k_nf c14 h
        refine lv_aload_n hx hb dX3_longest_17 rfl (lv_at hl 0 rfl) ?_
        refine r_get C hP (ci := 3) rfl uin_X3 0 (by decide) 0 (by decide) rfl qFL_RX3_10 rfl rfl dX3_longest_18 ?_
        refine lv_iload_n hx hb dX3_longest_21 rfl (lv_at hl 3 rfl) ?_
        obtain ⟨x4, h1, h⟩ := k_ob h
        refine k_callVi C hP hap hAA (c_X0_chainFrom l ev (fun j => ad (j + 1)) (x_now σ) x3   _ h1) (em_G1r) (apart_1 _) gz_X0_chainFrom qML_RX3_274 qIM_yX0_chainFrom qSE_yX0_chainFrom ⟨(Nat.le_of_ble_eq_true rfl), (Nat.le_of_ble_eq_true rfl)⟩ (q0 := 1) rfl (by decide) rfl rfl rfl rfl hl.1 rfl (Nat.le_of_ble_eq_true rfl) dX3_longest_22 ⟨Nat.le_refl _, Nat.le_refl _⟩ (fun H locs hP => ?_)
        refine lv_istore (lv' := [(4, .int x4), (0, .ref (ad 0)), (1, .int x1), (2, .int x2), (3, .int x3)]) hx hb dX3_longest_25 hl (by decide) rfl (fun ls hl => ?_)
        refine lv_iload hx hb dX3_longest_27 (lv_at hl 0 rfl) ?_
        refine lv_iload_n hx hb dX3_longest_29 rfl (lv_at hl 3 rfl) ?_
        refine lv_icmp_le (tgt := 38) hx hb dX3_longest_30 (by decide) (fun c30 => ?_) (fun c30 => ?_)
        · have h := k_if c30 h
          obtain ⟨x5, ex5, h⟩ := k_ltx h
          refine lv_iinc (v := x5) (lv' := [(3, .int x5), (4, .int x4), (0, .ref (ad 0)), (1, .int x1), (2, .int x2)]) hx hb dX3_longest_38 hl (k := 4) rfl (by rw [ex5]; rfl) (by decide) rfl (fun ls hl => ?_)
          refine lv_goto (tgt := 6) hx hb dX3_longest_41 (by decide) ?_
          exact ih _ _ _ _ _ _ h hP (lv_sub hl [2, 3, 4, 0] rfl)
        · have h := k_nf c30 h
          refine lv_iload hx hb dX3_longest_33 (lv_at hl 0 rfl) ?_
          refine lv_istore_n (lv' := [(2, .int x4), (4, .int x4), (0, .ref (ad 0)), (1, .int x1), (3, .int x3)]) hx hb dX3_longest_35 rfl hl (by decide) rfl (fun ls hl => ?_)
          refine lv_iload_n hx hb dX3_longest_36 rfl (lv_at hl 4 rfl) ?_
          refine lv_istore_n (lv' := [(1, .int x3), (2, .int x4), (4, .int x4), (0, .ref (ad 0)), (3, .int x3)]) hx hb dX3_longest_37 rfl hl (by decide) rfl (fun ls hl => ?_)
          obtain ⟨x6, ex6, h⟩ := k_ltx h
          refine lv_iinc (v := x6) (lv' := [(3, .int x6), (1, .int x3), (2, .int x4), (4, .int x4), (0, .ref (ad 0))]) hx hb dX3_longest_38 hl (k := 4) rfl (by rw [ex6]; rfl) (by decide) rfl (fun ls hl => ?_)
          refine lv_goto (tgt := 6) hx hb dX3_longest_41 (by decide) ?_
          exact ih _ _ _ _ _ _ h hP (lv_sub hl [4, 1, 2, 0] rfl)
  exact hL6 FU _ _ _ _ _ _ h hP (lv_sub hl [3, 2, 1, 0] rfl)
def f_X3_shuts (σ : XX) (a1 : Int32) : Option (Int32 × XX) :=
  if (f_X0_isEdge (x_now σ) a1) = true then if (f_X0_isHedged (x_now σ) a1) = true then ob2 (f_X3_refuse σ (-5)) (fun x3 σ2 => some (x3, σ2)) else ob (f_X0_closed (x_now σ) ((g_hedges (x_now σ)) ||| (lshl 1 a1))) (fun x1 => some ((f_J6_bitCount_0f7a4 (x1 &&& ((f_X0_shutFields (x_now σ)) ^^^ (-1)))), σ)) else ob2 (f_X3_refuse σ (-2)) (fun x5 σ4 => some (x5, σ4))
set_option maxHeartbeats 4000000 in
set_option maxRecDepth 100000 in
theorem c_X3_shuts (l : Launch) (ev : EV) (ad : Nat → Nat) (σ : XX) (a1 : Int32)   (r : Int32) (σ' : XX) (h : f_X3_shuts σ a1 = some (r, σ')) : Ct l yX3_shuts prog_1_method_28_code 2 (Option.some Jvm.ClassFile.FieldType.int) (rmk 2 48) ev 26 ad (xw ev ad σ) (xw ev ad σ') [.ref (ad 0), .int a1] (some (.int r)) := by
  refine Ct.of (by decide +kernel) (Nat.le_of_ble_eq_true rfl) ?_
  intro p e s m args below meth c Qc C hap hP hend ls hl
  have hAA : ∀ j, j < 26 → inA ad 26 (ad j) := fun j hj => ⟨j, hj, rfl⟩
  have hx := C.1
  have hb := C.2.1
  have hl : lv_has ls 2 [(0, .ref (ad 0)), (1, .int a1)] := hl
  have h := (f_X3_shuts.eq_1 _ _ ).symm.trans h
  refine lv_aload_n hx hb dX3_shuts_0 rfl (lv_at hl 0 rfl) ?_
  refine r_get C hP (ci := 3) rfl uin_X3 0 (by decide) 0 (by decide) rfl qFL_RX3_10 rfl rfl dX3_shuts_1 ?_
  refine lv_iload_n hx hb dX3_shuts_4 rfl (lv_at hl 1 rfl) ?_
  refine k_callVi C hP hap hAA (c_X0_isEdge l ev (fun j => ad (j + 1)) (x_now σ) a1   _ rfl) (em_G1r) (apart_1 _) gz_X0_isEdge qML_RX3_227 qIM_yX0_isEdge qSE_yX0_isEdge ⟨(Nat.le_of_ble_eq_true rfl), (Nat.le_of_ble_eq_true rfl)⟩ (q0 := 1) rfl (by decide) rfl rfl rfl rfl hl.1 rfl (Nat.le_of_ble_eq_true rfl) dX3_shuts_5 ⟨Nat.le_refl _, Nat.le_refl _⟩ (fun H locs hP => ?_)
  refine r_ifz_ne (tgt := 18) hx hb dX3_shuts_8 (by decide) (fun c8 => ?_) (fun c8 => ?_)
  · have h := k_if c8 h
    refine lv_aload_n hx hb dX3_shuts_18 rfl (lv_at hl 0 rfl) ?_
    refine r_get C hP (ci := 3) rfl uin_X3 0 (by decide) 0 (by decide) rfl qFL_RX3_10 rfl rfl dX3_shuts_19 ?_
    refine lv_iload_n hx hb dX3_shuts_22 rfl (lv_at hl 1 rfl) ?_
    refine k_callVi C hP hap hAA (c_X0_isHedged l ev (fun j => ad (j + 1)) (x_now σ) a1   _ rfl) (em_G1r) (apart_1 _) gz_X0_isHedged qML_RX3_230 qIM_yX0_isHedged qSE_yX0_isHedged ⟨(Nat.le_of_ble_eq_true rfl), (Nat.le_of_ble_eq_true rfl)⟩ (q0 := 1) rfl (by decide) rfl rfl rfl rfl hl.1 rfl (Nat.le_of_ble_eq_true rfl) dX3_shuts_23 ⟨Nat.le_refl _, Nat.le_refl _⟩ (fun H locs hP => ?_)
    refine r_ifz_eq (tgt := 36) hx hb dX3_shuts_26 (by decide) (fun c26 => ?_) (fun c26 => ?_)
    · have h := k_nf c26 h
      refine lv_aload_n hx hb dX3_shuts_36 rfl (lv_at hl 0 rfl) ?_
      refine r_get C hP (ci := 3) rfl uin_X3 0 (by decide) 0 (by decide) rfl qFL_RX3_10 rfl rfl dX3_shuts_37 ?_
      refine lv_aload_n hx hb dX3_shuts_40 rfl (lv_at hl 0 rfl) ?_
      refine r_get C hP (ci := 3) rfl uin_X3 0 (by decide) 0 (by decide) rfl qFL_RX3_10 rfl rfl dX3_shuts_41 ?_
      refine r_get C hP (ci := 0) rfl uin_X0 9 (by decide) 1 (by decide) rfl qFL_RX3_185 rfl rfl dX3_shuts_44 ?_
      refine lv_lconst (v := 1) hx hb dX3_shuts_47 (by decide) ?_
      refine lv_iload_n hx hb dX3_shuts_48 rfl (lv_at hl 1 rfl) ?_
      refine r_lshl hx hb dX3_shuts_49 ?_
      refine lv_lor hx hb dX3_shuts_50 ?_
      obtain ⟨x1, h1, h⟩ := k_ob h
      refine k_callVi C hP hap hAA (c_X0_closed l ev (fun j => ad (j + 1)) (x_now σ) ((g_hedges (x_now σ)) ||| (lshl 1 a1))   _ h1) (em_G1r) (apart_1 _) gz_X0_closed qML_RX3_280 qIM_yX0_closed qSE_yX0_closed ⟨(Nat.le_of_ble_eq_true rfl), (Nat.le_of_ble_eq_true rfl)⟩ (q0 := 1) rfl (by decide) rfl rfl rfl rfl hl.1 rfl (Nat.le_of_ble_eq_true rfl) dX3_shuts_51 ⟨Nat.le_refl _, Nat.le_refl _⟩ (fun H locs hP => ?_)
      refine lv_aload_n hx hb dX3_shuts_54 rfl (lv_at hl 0 rfl) ?_
      refine r_get C hP (ci := 3) rfl uin_X3 0 (by decide) 0 (by decide) rfl qFL_RX3_10 rfl rfl dX3_shuts_55 ?_
      refine k_callVi C hP hap hAA (c_X0_shutFields l ev (fun j => ad (j + 1)) (x_now σ)   _ rfl) (em_G1r) (apart_1 _) gz_X0_shutFields qML_RX3_283 qIM_yX0_shutFields qSE_yX0_shutFields ⟨(Nat.le_of_ble_eq_true rfl), (Nat.le_of_ble_eq_true rfl)⟩ (q0 := 1) rfl (by decide) rfl rfl rfl rfl hl.1 rfl (Nat.le_of_ble_eq_true rfl) dX3_shuts_58 ⟨Nat.le_refl _, Nat.le_refl _⟩ (fun H locs hP => ?_)
      refine lv_iconst (v := (-1)) hx hb dX3_shuts_61 (by decide) ?_
      refine lv_ixor hx hb dX3_shuts_62 ?_
      refine lv_iand hx hb dX3_shuts_63 ?_
      refine k_callSi C hP hap hAA (c_J6_bitCount_0f7a4 l ev ad (x1 &&& ((f_X0_shutFields (x_now σ)) ^^^ (-1)))   _ rfl) Emb.none (apart_0 _) gz_J6_bitCount_0f7a4 qML_RX3_286 qSM_yJ6_bitCount_0f7a4 ⟨(Nat.le_of_ble_eq_true rfl), (Nat.le_of_ble_eq_true rfl)⟩ rfl hl.1 rfl (Nat.le_of_ble_eq_true rfl) dX3_shuts_64 ⟨Nat.le_refl _, Nat.le_refl _⟩ (fun H locs hP => ?_)
      exact e_iret C hend hP (k_some2 h).1 (congrArg (xw ev ad) (k_some2 h).2) dX3_shuts_67
    · have h := k_if c26 h
      refine lv_aload_n hx hb dX3_shuts_29 rfl (lv_at hl 0 rfl) ?_
      refine lv_bipush (v := (-5)) hx hb dX3_shuts_30 (by decide) ?_
      obtain ⟨x3, σ2, h1, h⟩ := k_ob2 h
      refine k_callVi C hP hap hAA (c_X3_refuse l ev ad σ (-5)   _ _ h1) Emb.same hap gz_X3_refuse qML_RX3_60 qIM_yX3_refuse qSE_yX3_refuse ⟨(Nat.le_of_ble_eq_true rfl), (Nat.le_of_ble_eq_true rfl)⟩ (q0 := 0) rfl (by decide) rfl rfl rfl rfl hl.1 rfl (Nat.le_of_ble_eq_true rfl) dX3_shuts_32 ⟨Nat.le_refl _, Nat.le_refl _⟩ (fun H locs hP => ?_)
      exact e_iret C hend hP (k_some2 h).1 (congrArg (xw ev ad) (k_some2 h).2) dX3_shuts_35
  · have h := k_nf c8 h
    refine lv_aload_n hx hb dX3_shuts_11 rfl (lv_at hl 0 rfl) ?_
    refine lv_bipush (v := (-2)) hx hb dX3_shuts_12 (by decide) ?_
    obtain ⟨x5, σ4, h1, h⟩ := k_ob2 h
    refine k_callVi C hP hap hAA (c_X3_refuse l ev ad σ (-2)   _ _ h1) Emb.same hap gz_X3_refuse qML_RX3_60 qIM_yX3_refuse qSE_yX3_refuse ⟨(Nat.le_of_ble_eq_true rfl), (Nat.le_of_ble_eq_true rfl)⟩ (q0 := 0) rfl (by decide) rfl rfl rfl rfl hl.1 rfl (Nat.le_of_ble_eq_true rfl) dX3_shuts_14 ⟨Nat.le_refl _, Nat.le_refl _⟩ (fun H locs hP => ?_)
    exact e_iret C hend hP (k_some2 h).1 (congrArg (xw ev ad) (k_some2 h).2) dX3_shuts_17
def f_X3_calm (σ : XX) : Option (Int32) :=
  ob (f_X0_calmEdges (x_now σ)) (fun y1 => some (f_J13_bitCount_95d88 y1))
set_option maxHeartbeats 4000000 in
set_option maxRecDepth 100000 in
theorem c_X3_calm (l : Launch) (ev : EV) (ad : Nat → Nat) (σ : XX)   (r : Int32)  (h : f_X3_calm σ = some r) : Ct l yX3_calm prog_1_method_29_code 1 (Option.some Jvm.ClassFile.FieldType.int) (rmk 3 77) ev 26 ad (xw ev ad σ) (xw ev ad σ) [.ref (ad 0)] (some (.int r)) := by
  refine Ct.of (by decide +kernel) (Nat.le_of_ble_eq_true rfl) ?_
  intro p e s m args below meth c Qc C hap hP hend ls hl
  have hAA : ∀ j, j < 26 → inA ad 26 (ad j) := fun j hj => ⟨j, hj, rfl⟩
  have hx := C.1
  have hb := C.2.1
  have hl : lv_has ls 1 [(0, .ref (ad 0))] := hl
  have h := (f_X3_calm.eq_1 _ ).symm.trans h
  refine lv_aload_n hx hb dX3_calm_0 rfl (lv_at hl 0 rfl) ?_
  refine r_get C hP (ci := 3) rfl uin_X3 0 (by decide) 0 (by decide) rfl qFL_RX3_10 rfl rfl dX3_calm_1 ?_
  obtain ⟨y1, h1, h⟩ := k_ob h
  refine k_callVl C hP hap hAA (c_X0_calmEdges l ev (fun j => ad (j + 1)) (x_now σ)   _ h1) (em_G1r) (apart_1 _) gz_X0_calmEdges qML_RX3_290 qIM_yX0_calmEdges qSE_yX0_calmEdges ⟨(Nat.le_of_ble_eq_true rfl), (Nat.le_of_ble_eq_true rfl)⟩ (q0 := 1) rfl (by decide) rfl rfl rfl rfl hl.1 rfl (Nat.le_of_ble_eq_true rfl) dX3_calm_4 ⟨Nat.le_refl _, Nat.le_refl _⟩ (fun H locs hP => ?_)
  refine k_callSi C hP hap hAA (c_J13_bitCount_95d88 l ev ad y1   _ rfl) Emb.none (apart_0 _) gz_J13_bitCount_95d88 qML_RX3_131 qSM_yJ13_bitCount_95d88 ⟨(Nat.le_of_ble_eq_true rfl), (Nat.le_of_ble_eq_true rfl)⟩ rfl hl.1 rfl (Nat.le_of_ble_eq_true rfl) dX3_calm_7 ⟨Nat.le_refl _, Nat.le_refl _⟩ (fun H locs hP => ?_)
  exact e_iret C hend hP (k_some h) rfl dX3_calm_10
def f_X3_part (σ : XX) (a1 : Int32) : Option (Int32 × XX) :=
  if (f_X0_isField (x_now σ) a1) = true then ob (f_X0_hanging (x_now σ) (ishl 1 a1) (g_all (x_now σ)) (g_hedges (x_now σ))) (fun x3 => some (x3, σ)) else ob2 (f_X3_refuse σ (-2)) (fun x2 σ1 => some (x2, σ1))
set_option maxHeartbeats 4000000 in
set_option maxRecDepth 100000 in
theorem c_X3_part (l : Launch) (ev : EV) (ad : Nat → Nat) (σ : XX) (a1 : Int32)   (r : Int32) (σ' : XX) (h : f_X3_part σ a1 = some (r, σ')) : Ct l yX3_part prog_1_method_30_code 2 (Option.some Jvm.ClassFile.FieldType.int) (rmk 3 80) ev 26 ad (xw ev ad σ) (xw ev ad σ') [.ref (ad 0), .int a1] (some (.int r)) := by
  refine Ct.of (by decide +kernel) (Nat.le_of_ble_eq_true rfl) ?_
  intro p e s m args below meth c Qc C hap hP hend ls hl
  have hAA : ∀ j, j < 26 → inA ad 26 (ad j) := fun j hj => ⟨j, hj, rfl⟩
  have hx := C.1
  have hb := C.2.1
  have hl : lv_has ls 2 [(0, .ref (ad 0)), (1, .int a1)] := hl
  have h := (f_X3_part.eq_1 _ _ ).symm.trans h
  refine lv_aload_n hx hb dX3_part_0 rfl (lv_at hl 0 rfl) ?_
  refine r_get C hP (ci := 3) rfl uin_X3 0 (by decide) 0 (by decide) rfl qFL_RX3_10 rfl rfl dX3_part_1 ?_
  refine lv_iload_n hx hb dX3_part_4 rfl (lv_at hl 1 rfl) ?_
  refine k_callVi C hP hap hAA (c_X0_isField l ev (fun j => ad (j + 1)) (x_now σ) a1   _ rfl) (em_G1r) (apart_1 _) gz_X0_isField qML_RX3_179 qIM_yX0_isField qSE_yX0_isField ⟨(Nat.le_of_ble_eq_true rfl), (Nat.le_of_ble_eq_true rfl)⟩ (q0 := 1) rfl (by decide) rfl rfl rfl rfl hl.1 rfl (Nat.le_of_ble_eq_true rfl) dX3_part_5 ⟨Nat.le_refl _, Nat.le_refl _⟩ (fun H locs hP => ?_)
  refine r_ifz_eq (tgt := 38) hx hb dX3_part_8 (by decide) (fun c8 => ?_) (fun c8 => ?_)
  · have h := k_nf c8 h
    refine lv_aload_n hx hb dX3_part_38 rfl (lv_at hl 0 rfl) ?_
    refine lv_bipush (v := (-2)) hx hb dX3_part_39 (by decide) ?_
    obtain ⟨x2, σ1, h1, h⟩ := k_ob2 h
    refine k_callVi C hP hap hAA (c_X3_refuse l ev ad σ (-2)   _ _ h1) Emb.same hap gz_X3_refuse qML_RX3_60 qIM_yX3_refuse qSE_yX3_refuse ⟨(Nat.le_of_ble_eq_true rfl), (Nat.le_of_ble_eq_true rfl)⟩ (q0 := 0) rfl (by decide) rfl rfl rfl rfl hl.1 rfl (Nat.le_of_ble_eq_true rfl) dX3_part_41 ⟨Nat.le_refl _, Nat.le_refl _⟩ (fun H locs hP => ?_)
    exact e_iret C hend hP (k_some2 h).1 (congrArg (xw ev ad) (k_some2 h).2) dX3_part_44
  · have h := k_if c8 h
    refine lv_aload_n hx hb dX3_part_11 rfl (lv_at hl 0 rfl) ?_
    refine r_get C hP (ci := 3) rfl uin_X3 0 (by decide) 0 (by decide) rfl qFL_RX3_10 rfl rfl dX3_part_12 ?_
    refine lv_iconst (v := 1) hx hb dX3_part_15 (by decide) ?_
    refine lv_iload_n hx hb dX3_part_16 rfl (lv_at hl 1 rfl) ?_
    refine r_ishl hx hb dX3_part_17 ?_
    refine lv_aload_n hx hb dX3_part_18 rfl (lv_at hl 0 rfl) ?_
    refine r_get C hP (ci := 3) rfl uin_X3 0 (by decide) 0 (by decide) rfl qFL_RX3_10 rfl rfl dX3_part_19 ?_
    refine r_get C hP (ci := 0) rfl uin_X0 5 (by decide) 1 (by decide) rfl qFL_RX3_293 rfl rfl dX3_part_22 ?_
    refine lv_aload_n hx hb dX3_part_25 rfl (lv_at hl 0 rfl) ?_
    refine r_get C hP (ci := 3) rfl uin_X3 0 (by decide) 0 (by decide) rfl qFL_RX3_10 rfl rfl dX3_part_26 ?_
    refine r_get C hP (ci := 0) rfl uin_X0 9 (by decide) 1 (by decide) rfl qFL_RX3_185 rfl rfl dX3_part_29 ?_
    obtain ⟨x3, h1, h⟩ := k_ob h
    refine k_callVi C hP hap hAA (c_X0_hanging l ev (fun j => ad (j + 1)) (x_now σ) (ishl 1 a1) (g_all (x_now σ)) (g_hedges (x_now σ))   _ h1) (em_G1r) (apart_1 _) gz_X0_hanging qML_RX3_264 qIM_yX0_hanging qSE_yX0_hanging ⟨(Nat.le_of_ble_eq_true rfl), (Nat.le_of_ble_eq_true rfl)⟩ (q0 := 1) rfl (by decide) rfl rfl rfl rfl hl.1 rfl (Nat.le_of_ble_eq_true rfl) dX3_part_32 ⟨Nat.le_refl _, Nat.le_refl _⟩ (fun H locs hP => ?_)
    refine lv_goto (tgt := 44) hx hb dX3_part_35 (by decide) ?_
    exact e_iret C hend hP (k_some2 h).1 (congrArg (xw ev ad) (k_some2 h).2) dX3_part_44
def f_X3_parts (σ : XX) : Option (Int32) :=
  ob (f_X0_countHanging (x_now σ) (g_all (x_now σ)) (g_hedges (x_now σ))) (fun x1 => some x1)
set_option maxHeartbeats 4000000 in
set_option maxRecDepth 100000 in
theorem c_X3_parts (l : Launch) (ev : EV) (ad : Nat → Nat) (σ : XX)   (r : Int32)  (h : f_X3_parts σ = some r) : Ct l yX3_parts prog_1_method_31_code 1 (Option.some Jvm.ClassFile.FieldType.int) (rmk 4 106) ev 26 ad (xw ev ad σ) (xw ev ad σ) [.ref (ad 0)] (some (.int r)) := by
  refine Ct.of (by decide +kernel) (Nat.le_of_ble_eq_true rfl) ?_
  intro p e s m args below meth c Qc C hap hP hend ls hl
  have hAA : ∀ j, j < 26 → inA ad 26 (ad j) := fun j hj => ⟨j, hj, rfl⟩
  have hx := C.1
  have hb := C.2.1
  have hl : lv_has ls 1 [(0, .ref (ad 0))] := hl
  have h := (f_X3_parts.eq_1 _ ).symm.trans h
  refine lv_aload_n hx hb dX3_parts_0 rfl (lv_at hl 0 rfl) ?_
  refine r_get C hP (ci := 3) rfl uin_X3 0 (by decide) 0 (by decide) rfl qFL_RX3_10 rfl rfl dX3_parts_1 ?_
  refine lv_aload_n hx hb dX3_parts_4 rfl (lv_at hl 0 rfl) ?_
  refine r_get C hP (ci := 3) rfl uin_X3 0 (by decide) 0 (by decide) rfl qFL_RX3_10 rfl rfl dX3_parts_5 ?_
  refine r_get C hP (ci := 0) rfl uin_X0 5 (by decide) 1 (by decide) rfl qFL_RX3_293 rfl rfl dX3_parts_8 ?_
  refine lv_aload_n hx hb dX3_parts_11 rfl (lv_at hl 0 rfl) ?_
  refine r_get C hP (ci := 3) rfl uin_X3 0 (by decide) 0 (by decide) rfl qFL_RX3_10 rfl rfl dX3_parts_12 ?_
  refine r_get C hP (ci := 0) rfl uin_X0 9 (by decide) 1 (by decide) rfl qFL_RX3_185 rfl rfl dX3_parts_15 ?_
  obtain ⟨x1, h1, h⟩ := k_ob h
  refine k_callVi C hP hap hAA (c_X0_countHanging l ev (fun j => ad (j + 1)) (x_now σ) (g_all (x_now σ)) (g_hedges (x_now σ))   _ h1) (em_G1r) (apart_1 _) gz_X0_countHanging qML_RX3_296 qIM_yX0_countHanging qSE_yX0_countHanging ⟨(Nat.le_of_ble_eq_true rfl), (Nat.le_of_ble_eq_true rfl)⟩ (q0 := 1) rfl (by decide) rfl rfl rfl rfl hl.1 rfl (Nat.le_of_ble_eq_true rfl) dX3_parts_18 ⟨Nat.le_refl _, Nat.le_refl _⟩ (fun H locs hP => ?_)
  exact e_iret C hend hP (k_some h) rfl dX3_parts_21
def f_X3_ditches (σ : XX) : Option (Int32) :=
  ob (f_X0_countHanging (x_now σ) (g_dug (x_now σ)) 0) (fun x1 => some x1)
set_option maxHeartbeats 4000000 in
set_option maxRecDepth 100000 in
theorem c_X3_ditches (l : Launch) (ev : EV) (ad : Nat → Nat) (σ : XX)   (r : Int32)  (h : f_X3_ditches σ = some r) : Ct l yX3_ditches prog_1_method_32_code 1 (Option.some Jvm.ClassFile.FieldType.int) (rmk 4 106) ev 26 ad (xw ev ad σ) (xw ev ad σ) [.ref (ad 0)] (some (.int r)) := by
  refine Ct.of (by decide +kernel) (Nat.le_of_ble_eq_true rfl) ?_
  intro p e s m args below meth c Qc C hap hP hend ls hl
  have hAA : ∀ j, j < 26 → inA ad 26 (ad j) := fun j hj => ⟨j, hj, rfl⟩
  have hx := C.1
  have hb := C.2.1
  have hl : lv_has ls 1 [(0, .ref (ad 0))] := hl
  have h := (f_X3_ditches.eq_1 _ ).symm.trans h
  refine lv_aload_n hx hb dX3_ditches_0 rfl (lv_at hl 0 rfl) ?_
  refine r_get C hP (ci := 3) rfl uin_X3 0 (by decide) 0 (by decide) rfl qFL_RX3_10 rfl rfl dX3_ditches_1 ?_
  refine lv_aload_n hx hb dX3_ditches_4 rfl (lv_at hl 0 rfl) ?_
  refine r_get C hP (ci := 3) rfl uin_X3 0 (by decide) 0 (by decide) rfl qFL_RX3_10 rfl rfl dX3_ditches_5 ?_
  refine r_get C hP (ci := 0) rfl uin_X0 10 (by decide) 1 (by decide) rfl qFL_RX3_189 rfl rfl dX3_ditches_8 ?_
  refine lv_lconst (v := 0) hx hb dX3_ditches_11 (by decide) ?_
  obtain ⟨x1, h1, h⟩ := k_ob h
  refine k_callVi C hP hap hAA (c_X0_countHanging l ev (fun j => ad (j + 1)) (x_now σ) (g_dug (x_now σ)) 0   _ h1) (em_G1r) (apart_1 _) gz_X0_countHanging qML_RX3_296 qIM_yX0_countHanging qSE_yX0_countHanging ⟨(Nat.le_of_ble_eq_true rfl), (Nat.le_of_ble_eq_true rfl)⟩ (q0 := 1) rfl (by decide) rfl rfl rfl rfl hl.1 rfl (Nat.le_of_ble_eq_true rfl) dX3_ditches_12 ⟨Nat.le_refl _, Nat.le_refl _⟩ (fun H locs hP => ?_)
  exact e_iret C hend hP (k_some h) rfl dX3_ditches_15
def f_X3_owned (σ : XX) (a1 : Int32) : Option (Int32 × XX) :=
  if (f_X3_isSeat a1) = true then some ((f_X0_ownedBy (x_now σ) a1), σ) else ob2 (f_X3_refuse σ (-2)) (fun x2 σ1 => some (x2, σ1))
set_option maxHeartbeats 4000000 in
set_option maxRecDepth 100000 in
theorem c_X3_owned (l : Launch) (ev : EV) (ad : Nat → Nat) (σ : XX) (a1 : Int32)   (r : Int32) (σ' : XX) (h : f_X3_owned σ a1 = some (r, σ')) : Ct l yX3_owned prog_1_method_33_code 2 (Option.some Jvm.ClassFile.FieldType.int) (rmk 1 22) ev 26 ad (xw ev ad σ) (xw ev ad σ') [.ref (ad 0), .int a1] (some (.int r)) := by
  refine Ct.of (by decide +kernel) (Nat.le_of_ble_eq_true rfl) ?_
  intro p e s m args below meth c Qc C hap hP hend ls hl
  have hAA : ∀ j, j < 26 → inA ad 26 (ad j) := fun j hj => ⟨j, hj, rfl⟩
  have hx := C.1
  have hb := C.2.1
  have hl : lv_has ls 2 [(0, .ref (ad 0)), (1, .int a1)] := hl
  have h := (f_X3_owned.eq_1 _ _ ).symm.trans h
  refine lv_iload_n hx hb dX3_owned_0 rfl (lv_at hl 1 rfl) ?_
  refine k_callSi C hP hap hAA (c_X3_isSeat l ev ad a1   _ rfl) Emb.none (apart_0 _) gz_X3_isSeat qML_RX3_153 qSM_yX3_isSeat ⟨(Nat.le_of_ble_eq_true rfl), (Nat.le_of_ble_eq_true rfl)⟩ rfl hl.1 rfl (Nat.le_of_ble_eq_true rfl) dX3_owned_1 ⟨Nat.le_refl _, Nat.le_refl _⟩ (fun H locs hP => ?_)
  refine r_ifz_eq (tgt := 18) hx hb dX3_owned_4 (by decide) (fun c4 => ?_) (fun c4 => ?_)
  · have h := k_nf c4 h
    refine lv_aload_n hx hb dX3_owned_18 rfl (lv_at hl 0 rfl) ?_
    refine lv_bipush (v := (-2)) hx hb dX3_owned_19 (by decide) ?_
    obtain ⟨x2, σ1, h1, h⟩ := k_ob2 h
    refine k_callVi C hP hap hAA (c_X3_refuse l ev ad σ (-2)   _ _ h1) Emb.same hap gz_X3_refuse qML_RX3_60 qIM_yX3_refuse qSE_yX3_refuse ⟨(Nat.le_of_ble_eq_true rfl), (Nat.le_of_ble_eq_true rfl)⟩ (q0 := 0) rfl (by decide) rfl rfl rfl rfl hl.1 rfl (Nat.le_of_ble_eq_true rfl) dX3_owned_21 ⟨Nat.le_refl _, Nat.le_refl _⟩ (fun H locs hP => ?_)
    exact e_iret C hend hP (k_some2 h).1 (congrArg (xw ev ad) (k_some2 h).2) dX3_owned_24
  · have h := k_if c4 h
    refine lv_aload_n hx hb dX3_owned_7 rfl (lv_at hl 0 rfl) ?_
    refine r_get C hP (ci := 3) rfl uin_X3 0 (by decide) 0 (by decide) rfl qFL_RX3_10 rfl rfl dX3_owned_8 ?_
    refine lv_iload_n hx hb dX3_owned_11 rfl (lv_at hl 1 rfl) ?_
    refine k_callVi C hP hap hAA (c_X0_ownedBy l ev (fun j => ad (j + 1)) (x_now σ) a1   _ rfl) (em_G1r) (apart_1 _) gz_X0_ownedBy qML_RX3_300 qIM_yX0_ownedBy qSE_yX0_ownedBy ⟨(Nat.le_of_ble_eq_true rfl), (Nat.le_of_ble_eq_true rfl)⟩ (q0 := 1) rfl (by decide) rfl rfl rfl rfl hl.1 rfl (Nat.le_of_ble_eq_true rfl) dX3_owned_12 ⟨Nat.le_refl _, Nat.le_refl _⟩ (fun H locs hP => ?_)
    refine lv_goto (tgt := 24) hx hb dX3_owned_15 (by decide) ?_
    exact e_iret C hend hP (k_some2 h).1 (congrArg (xw ev ad) (k_some2 h).2) dX3_owned_24
def f_X3_coloured (σ : XX) (a1 : Int32) : Option (Int32 × XX) :=
  if (f_X3_isSeat a1) = true then ob (f_X0_tinted (x_now σ) a1) (fun x3 => some (x3, σ)) else ob2 (f_X3_refuse σ (-2)) (fun x2 σ1 => some (x2, σ1))
set_option maxHeartbeats 4000000 in
set_option maxRecDepth 100000 in
theorem c_X3_coloured (l : Launch) (ev : EV) (ad : Nat → Nat) (σ : XX) (a1 : Int32)   (r : Int32) (σ' : XX) (h : f_X3_coloured σ a1 = some (r, σ')) : Ct l yX3_coloured prog_1_method_34_code 2 (Option.some Jvm.ClassFile.FieldType.int) (rmk 6 142) ev 26 ad (xw ev ad σ) (xw ev ad σ') [.ref (ad 0), .int a1] (some (.int r)) := by
  refine Ct.of (by decide +kernel) (Nat.le_of_ble_eq_true rfl) ?_
  intro p e s m args below meth c Qc C hap hP hend ls hl
  have hAA : ∀ j, j < 26 → inA ad 26 (ad j) := fun j hj => ⟨j, hj, rfl⟩
  have hx := C.1
  have hb := C.2.1
  have hl : lv_has ls 2 [(0, .ref (ad 0)), (1, .int a1)] := hl
  have h := (f_X3_coloured.eq_1 _ _ ).symm.trans h
  refine lv_iload_n hx hb dX3_coloured_0 rfl (lv_at hl 1 rfl) ?_
  refine k_callSi C hP hap hAA (c_X3_isSeat l ev ad a1   _ rfl) Emb.none (apart_0 _) gz_X3_isSeat qML_RX3_153 qSM_yX3_isSeat ⟨(Nat.le_of_ble_eq_true rfl), (Nat.le_of_ble_eq_true rfl)⟩ rfl hl.1 rfl (Nat.le_of_ble_eq_true rfl) dX3_coloured_1 ⟨Nat.le_refl _, Nat.le_refl _⟩ (fun H locs hP => ?_)
  refine r_ifz_eq (tgt := 18) hx hb dX3_coloured_4 (by decide) (fun c4 => ?_) (fun c4 => ?_)
  · have h := k_nf c4 h
    refine lv_aload_n hx hb dX3_coloured_18 rfl (lv_at hl 0 rfl) ?_
    refine lv_bipush (v := (-2)) hx hb dX3_coloured_19 (by decide) ?_
    obtain ⟨x2, σ1, h1, h⟩ := k_ob2 h
    refine k_callVi C hP hap hAA (c_X3_refuse l ev ad σ (-2)   _ _ h1) Emb.same hap gz_X3_refuse qML_RX3_60 qIM_yX3_refuse qSE_yX3_refuse ⟨(Nat.le_of_ble_eq_true rfl), (Nat.le_of_ble_eq_true rfl)⟩ (q0 := 0) rfl (by decide) rfl rfl rfl rfl hl.1 rfl (Nat.le_of_ble_eq_true rfl) dX3_coloured_21 ⟨Nat.le_refl _, Nat.le_refl _⟩ (fun H locs hP => ?_)
    exact e_iret C hend hP (k_some2 h).1 (congrArg (xw ev ad) (k_some2 h).2) dX3_coloured_24
  · have h := k_if c4 h
    refine lv_aload_n hx hb dX3_coloured_7 rfl (lv_at hl 0 rfl) ?_
    refine r_get C hP (ci := 3) rfl uin_X3 0 (by decide) 0 (by decide) rfl qFL_RX3_10 rfl rfl dX3_coloured_8 ?_
    refine lv_iload_n hx hb dX3_coloured_11 rfl (lv_at hl 1 rfl) ?_
    obtain ⟨x3, h1, h⟩ := k_ob h
    refine k_callVi C hP hap hAA (c_X0_tinted l ev (fun j => ad (j + 1)) (x_now σ) a1   _ h1) (em_G1r) (apart_1 _) gz_X0_tinted qML_RX3_206 qIM_yX0_tinted qSE_yX0_tinted ⟨(Nat.le_of_ble_eq_true rfl), (Nat.le_of_ble_eq_true rfl)⟩ (q0 := 1) rfl (by decide) rfl rfl rfl rfl hl.1 rfl (Nat.le_of_ble_eq_true rfl) dX3_coloured_12 ⟨Nat.le_refl _, Nat.le_refl _⟩ (fun H locs hP => ?_)
    refine lv_goto (tgt := 24) hx hb dX3_coloured_15 (by decide) ?_
    exact e_iret C hend hP (k_some2 h).1 (congrArg (xw ev ad) (k_some2 h).2) dX3_coloured_24
def f_X3_gives (σ : XX) (a1 : Int32) : Option (Int32 × XX) :=
  if (f_X0_isEdge (x_now σ) a1) = true then if (f_X0_isHedged (x_now σ) a1) = true then ob2 (f_X3_refuse σ (-5)) (fun x4 σ3 => some (x4, σ3)) else ob (f_X0_withThree (x_now σ) ((g_hedges (x_now σ)) ||| (lshl 1 a1))) (fun x1 => ob (f_X0_withThree (x_now σ) (g_hedges (x_now σ))) (fun x2 => some ((f_J6_bitCount_0f7a4 (x1 &&& (x2 ^^^ (-1)))), σ))) else ob2 (f_X3_refuse σ (-2)) (fun x6 σ5 => some (x6, σ5))
set_option maxHeartbeats 4000000 in
set_option maxRecDepth 100000 in
theorem c_X3_gives (l : Launch) (ev : EV) (ad : Nat → Nat) (σ : XX) (a1 : Int32)   (r : Int32) (σ' : XX) (h : f_X3_gives σ a1 = some (r, σ')) : Ct l yX3_gives prog_1_method_35_code 2 (Option.some Jvm.ClassFile.FieldType.int) (rmk 2 52) ev 26 ad (xw ev ad σ) (xw ev ad σ') [.ref (ad 0), .int a1] (some (.int r)) := by
  refine Ct.of (by decide +kernel) (Nat.le_of_ble_eq_true rfl) ?_
  intro p e s m args below meth c Qc C hap hP hend ls hl
  have hAA : ∀ j, j < 26 → inA ad 26 (ad j) := fun j hj => ⟨j, hj, rfl⟩
  have hx := C.1
  have hb := C.2.1
  have hl : lv_has ls 2 [(0, .ref (ad 0)), (1, .int a1)] := hl
  have h := (f_X3_gives.eq_1 _ _ ).symm.trans h
  refine lv_aload_n hx hb dX3_gives_0 rfl (lv_at hl 0 rfl) ?_
  refine r_get C hP (ci := 3) rfl uin_X3 0 (by decide) 0 (by decide) rfl qFL_RX3_10 rfl rfl dX3_gives_1 ?_
  refine lv_iload_n hx hb dX3_gives_4 rfl (lv_at hl 1 rfl) ?_
  refine k_callVi C hP hap hAA (c_X0_isEdge l ev (fun j => ad (j + 1)) (x_now σ) a1   _ rfl) (em_G1r) (apart_1 _) gz_X0_isEdge qML_RX3_227 qIM_yX0_isEdge qSE_yX0_isEdge ⟨(Nat.le_of_ble_eq_true rfl), (Nat.le_of_ble_eq_true rfl)⟩ (q0 := 1) rfl (by decide) rfl rfl rfl rfl hl.1 rfl (Nat.le_of_ble_eq_true rfl) dX3_gives_5 ⟨Nat.le_refl _, Nat.le_refl _⟩ (fun H locs hP => ?_)
  refine r_ifz_ne (tgt := 18) hx hb dX3_gives_8 (by decide) (fun c8 => ?_) (fun c8 => ?_)
  · have h := k_if c8 h
    refine lv_aload_n hx hb dX3_gives_18 rfl (lv_at hl 0 rfl) ?_
    refine r_get C hP (ci := 3) rfl uin_X3 0 (by decide) 0 (by decide) rfl qFL_RX3_10 rfl rfl dX3_gives_19 ?_
    refine lv_iload_n hx hb dX3_gives_22 rfl (lv_at hl 1 rfl) ?_
    refine k_callVi C hP hap hAA (c_X0_isHedged l ev (fun j => ad (j + 1)) (x_now σ) a1   _ rfl) (em_G1r) (apart_1 _) gz_X0_isHedged qML_RX3_230 qIM_yX0_isHedged qSE_yX0_isHedged ⟨(Nat.le_of_ble_eq_true rfl), (Nat.le_of_ble_eq_true rfl)⟩ (q0 := 1) rfl (by decide) rfl rfl rfl rfl hl.1 rfl (Nat.le_of_ble_eq_true rfl) dX3_gives_23 ⟨Nat.le_refl _, Nat.le_refl _⟩ (fun H locs hP => ?_)
    refine r_ifz_eq (tgt := 36) hx hb dX3_gives_26 (by decide) (fun c26 => ?_) (fun c26 => ?_)
    · have h := k_nf c26 h
      refine lv_aload_n hx hb dX3_gives_36 rfl (lv_at hl 0 rfl) ?_
      refine r_get C hP (ci := 3) rfl uin_X3 0 (by decide) 0 (by decide) rfl qFL_RX3_10 rfl rfl dX3_gives_37 ?_
      refine lv_aload_n hx hb dX3_gives_40 rfl (lv_at hl 0 rfl) ?_
      refine r_get C hP (ci := 3) rfl uin_X3 0 (by decide) 0 (by decide) rfl qFL_RX3_10 rfl rfl dX3_gives_41 ?_
      refine r_get C hP (ci := 0) rfl uin_X0 9 (by decide) 1 (by decide) rfl qFL_RX3_185 rfl rfl dX3_gives_44 ?_
      refine lv_lconst (v := 1) hx hb dX3_gives_47 (by decide) ?_
      refine lv_iload_n hx hb dX3_gives_48 rfl (lv_at hl 1 rfl) ?_
      refine r_lshl hx hb dX3_gives_49 ?_
      refine lv_lor hx hb dX3_gives_50 ?_
      obtain ⟨x1, h1, h⟩ := k_ob h
      refine k_callVi C hP hap hAA (c_X0_withThree l ev (fun j => ad (j + 1)) (x_now σ) ((g_hedges (x_now σ)) ||| (lshl 1 a1))   _ h1) (em_G1r) (apart_1 _) gz_X0_withThree qML_RX3_271 qIM_yX0_withThree qSE_yX0_withThree ⟨(Nat.le_of_ble_eq_true rfl), (Nat.le_of_ble_eq_true rfl)⟩ (q0 := 1) rfl (by decide) rfl rfl rfl rfl hl.1 rfl (Nat.le_of_ble_eq_true rfl) dX3_gives_51 ⟨Nat.le_refl _, Nat.le_refl _⟩ (fun H locs hP => ?_)
      refine lv_aload_n hx hb dX3_gives_54 rfl (lv_at hl 0 rfl) ?_
      refine r_get C hP (ci := 3) rfl uin_X3 0 (by decide) 0 (by decide) rfl qFL_RX3_10 rfl rfl dX3_gives_55 ?_
      refine lv_aload_n hx hb dX3_gives_58 rfl (lv_at hl 0 rfl) ?_
      refine r_get C hP (ci := 3) rfl uin_X3 0 (by decide) 0 (by decide) rfl qFL_RX3_10 rfl rfl dX3_gives_59 ?_
      refine r_get C hP (ci := 0) rfl uin_X0 9 (by decide) 1 (by decide) rfl qFL_RX3_185 rfl rfl dX3_gives_62 ?_
      obtain ⟨x2, h1, h⟩ := k_ob h
      refine k_callVi C hP hap hAA (c_X0_withThree l ev (fun j => ad (j + 1)) (x_now σ) (g_hedges (x_now σ))   _ h1) (em_G1r) (apart_1 _) gz_X0_withThree qML_RX3_271 qIM_yX0_withThree qSE_yX0_withThree ⟨(Nat.le_of_ble_eq_true rfl), (Nat.le_of_ble_eq_true rfl)⟩ (q0 := 1) rfl (by decide) rfl rfl rfl rfl hl.1 rfl (Nat.le_of_ble_eq_true rfl) dX3_gives_65 ⟨Nat.le_refl _, Nat.le_refl _⟩ (fun H locs hP => ?_)
      refine lv_iconst (v := (-1)) hx hb dX3_gives_68 (by decide) ?_
      refine lv_ixor hx hb dX3_gives_69 ?_
      refine lv_iand hx hb dX3_gives_70 ?_
      refine k_callSi C hP hap hAA (c_J6_bitCount_0f7a4 l ev ad (x1 &&& (x2 ^^^ (-1)))   _ rfl) Emb.none (apart_0 _) gz_J6_bitCount_0f7a4 qML_RX3_286 qSM_yJ6_bitCount_0f7a4 ⟨(Nat.le_of_ble_eq_true rfl), (Nat.le_of_ble_eq_true rfl)⟩ rfl hl.1 rfl (Nat.le_of_ble_eq_true rfl) dX3_gives_71 ⟨Nat.le_refl _, Nat.le_refl _⟩ (fun H locs hP => ?_)
      exact e_iret C hend hP (k_some2 h).1 (congrArg (xw ev ad) (k_some2 h).2) dX3_gives_74
    · have h := k_if c26 h
      refine lv_aload_n hx hb dX3_gives_29 rfl (lv_at hl 0 rfl) ?_
      refine lv_bipush (v := (-5)) hx hb dX3_gives_30 (by decide) ?_
      obtain ⟨x4, σ3, h1, h⟩ := k_ob2 h
      refine k_callVi C hP hap hAA (c_X3_refuse l ev ad σ (-5)   _ _ h1) Emb.same hap gz_X3_refuse qML_RX3_60 qIM_yX3_refuse qSE_yX3_refuse ⟨(Nat.le_of_ble_eq_true rfl), (Nat.le_of_ble_eq_true rfl)⟩ (q0 := 0) rfl (by decide) rfl rfl rfl rfl hl.1 rfl (Nat.le_of_ble_eq_true rfl) dX3_gives_32 ⟨Nat.le_refl _, Nat.le_refl _⟩ (fun H locs hP => ?_)
      exact e_iret C hend hP (k_some2 h).1 (congrArg (xw ev ad) (k_some2 h).2) dX3_gives_35
  · have h := k_nf c8 h
    refine lv_aload_n hx hb dX3_gives_11 rfl (lv_at hl 0 rfl) ?_
    refine lv_bipush (v := (-2)) hx hb dX3_gives_12 (by decide) ?_
    obtain ⟨x6, σ5, h1, h⟩ := k_ob2 h
    refine k_callVi C hP hap hAA (c_X3_refuse l ev ad σ (-2)   _ _ h1) Emb.same hap gz_X3_refuse qML_RX3_60 qIM_yX3_refuse qSE_yX3_refuse ⟨(Nat.le_of_ble_eq_true rfl), (Nat.le_of_ble_eq_true rfl)⟩ (q0 := 0) rfl (by decide) rfl rfl rfl rfl hl.1 rfl (Nat.le_of_ble_eq_true rfl) dX3_gives_14 ⟨Nat.le_refl _, Nat.le_refl _⟩ (fun H locs hP => ?_)
    exact e_iret C hend hP (k_some2 h).1 (congrArg (xw ev ad) (k_some2 h).2) dX3_gives_17
def f_X3_gaps (σ : XX) : Int32 :=
  (f_J13_bitCount_95d88 ((g_rimEdges (x_now σ)) &&& ((g_hedges (x_now σ)) ^^^ (-1))))
set_option maxHeartbeats 4000000 in
set_option maxRecDepth 100000 in
theorem c_X3_gaps (l : Launch) (ev : EV) (ad : Nat → Nat) (σ : XX)   (r : Int32)  (h : f_X3_gaps σ = r) : Ct l yX3_gaps prog_1_method_36_code 1 (Option.some Jvm.ClassFile.FieldType.int) (rmk 1 21) ev 26 ad (xw ev ad σ) (xw ev ad σ) [.ref (ad 0)] (some (.int r)) := by
  refine Ct.of (by decide +kernel) (Nat.le_of_ble_eq_true rfl) ?_
  intro p e s m args below meth c Qc C hap hP hend ls hl
  have hAA : ∀ j, j < 26 → inA ad 26 (ad j) := fun j hj => ⟨j, hj, rfl⟩
  have hx := C.1
  have hb := C.2.1
  have hl : lv_has ls 1 [(0, .ref (ad 0))] := hl
  have h := (f_X3_gaps.eq_1 _ ).symm.trans h
  refine lv_aload_n hx hb dX3_gaps_0 rfl (lv_at hl 0 rfl) ?_
  refine r_get C hP (ci := 3) rfl uin_X3 0 (by decide) 0 (by decide) rfl qFL_RX3_10 rfl rfl dX3_gaps_1 ?_
  refine r_get C hP (ci := 0) rfl uin_X0 8 (by decide) 1 (by decide) rfl qFL_RX3_221 rfl rfl dX3_gaps_4 ?_
  refine lv_aload_n hx hb dX3_gaps_7 rfl (lv_at hl 0 rfl) ?_
  refine r_get C hP (ci := 3) rfl uin_X3 0 (by decide) 0 (by decide) rfl qFL_RX3_10 rfl rfl dX3_gaps_8 ?_
  refine r_get C hP (ci := 0) rfl uin_X0 9 (by decide) 1 (by decide) rfl qFL_RX3_185 rfl rfl dX3_gaps_11 ?_
  refine lv_ldc2 (v := (-1)) hx hb C.2.2.2.2.2.1 (C.2.2.2.2.1 _ qCL_RX3_303) dX3_gaps_14 ?_
  refine lv_lxor hx hb dX3_gaps_17 ?_
  refine lv_land hx hb dX3_gaps_18 ?_
  refine k_callSi C hP hap hAA (c_J13_bitCount_95d88 l ev ad ((g_rimEdges (x_now σ)) &&& ((g_hedges (x_now σ)) ^^^ (-1)))   _ rfl) Emb.none (apart_0 _) gz_J13_bitCount_95d88 qML_RX3_131 qSM_yJ13_bitCount_95d88 ⟨(Nat.le_of_ble_eq_true rfl), (Nat.le_of_ble_eq_true rfl)⟩ rfl hl.1 rfl (Nat.le_of_ble_eq_true rfl) dX3_gaps_19 ⟨Nat.le_refl _, Nat.le_refl _⟩ (fun H locs hP => ?_)
  exact e_iret C hend hP h rfl dX3_gaps_22
def f_X3_rim (σ : XX) : Option (Int32) :=
  ob (f_X0_touched (x_now σ) (g_rimEdges (x_now σ))) (fun x1 => some x1)
set_option maxHeartbeats 4000000 in
set_option maxRecDepth 100000 in
theorem c_X3_rim (l : Launch) (ev : EV) (ad : Nat → Nat) (σ : XX)   (r : Int32)  (h : f_X3_rim σ = some r) : Ct l yX3_rim prog_1_method_37_code 1 (Option.some Jvm.ClassFile.FieldType.int) (rmk 2 48) ev 26 ad (xw ev ad σ) (xw ev ad σ) [.ref (ad 0)] (some (.int r)) := by
  refine Ct.of (by decide +kernel) (Nat.le_of_ble_eq_true rfl) ?_
  intro p e s m args below meth c Qc C hap hP hend ls hl
  have hAA : ∀ j, j < 26 → inA ad 26 (ad j) := fun j hj => ⟨j, hj, rfl⟩
  have hx := C.1
  have hb := C.2.1
  have hl : lv_has ls 1 [(0, .ref (ad 0))] := hl
  have h := (f_X3_rim.eq_1 _ ).symm.trans h
  refine lv_aload_n hx hb dX3_rim_0 rfl (lv_at hl 0 rfl) ?_
  refine r_get C hP (ci := 3) rfl uin_X3 0 (by decide) 0 (by decide) rfl qFL_RX3_10 rfl rfl dX3_rim_1 ?_
  refine lv_aload_n hx hb dX3_rim_4 rfl (lv_at hl 0 rfl) ?_
  refine r_get C hP (ci := 3) rfl uin_X3 0 (by decide) 0 (by decide) rfl qFL_RX3_10 rfl rfl dX3_rim_5 ?_
  refine r_get C hP (ci := 0) rfl uin_X0 8 (by decide) 1 (by decide) rfl qFL_RX3_221 rfl rfl dX3_rim_8 ?_
  obtain ⟨x1, h1, h⟩ := k_ob h
  refine k_callVi C hP hap hAA (c_X0_touched l ev (fun j => ad (j + 1)) (x_now σ) (g_rimEdges (x_now σ))   _ h1) (em_G1r) (apart_1 _) gz_X0_touched qML_RX3_224 qIM_yX0_touched qSE_yX0_touched ⟨(Nat.le_of_ble_eq_true rfl), (Nat.le_of_ble_eq_true rfl)⟩ (q0 := 1) rfl (by decide) rfl rfl rfl rfl hl.1 rfl (Nat.le_of_ble_eq_true rfl) dX3_rim_11 ⟨Nat.le_refl _, Nat.le_refl _⟩ (fun H locs hP => ?_)
  exact e_iret C hend hP (k_some h) rfl dX3_rim_14
def f_X3_leader (σ : XX) : Option (Int32) :=
  ob (f_X0_leadOf (x_now σ) 0) (fun x1 => if x1 = 0 then some (-1) else if x1 ≤ 0 then some 1 else some 0)
set_option maxHeartbeats 4000000 in
set_option maxRecDepth 100000 in
theorem c_X3_leader (l : Launch) (ev : EV) (ad : Nat → Nat) (σ : XX)   (r : Int32)  (h : f_X3_leader σ = some r) : Ct l yX3_leader prog_1_method_38_code 2 (Option.some Jvm.ClassFile.FieldType.int) (rmk 6 145) ev 26 ad (xw ev ad σ) (xw ev ad σ) [.ref (ad 0)] (some (.int r)) := by
  refine Ct.of (by decide +kernel) (Nat.le_of_ble_eq_true rfl) ?_
  intro p e s m args below meth c Qc C hap hP hend ls hl
  have hAA : ∀ j, j < 26 → inA ad 26 (ad j) := fun j hj => ⟨j, hj, rfl⟩
  have hx := C.1
  have hb := C.2.1
  have hl : lv_has ls 2 [(0, .ref (ad 0))] := hl
  have h := (f_X3_leader.eq_1 _ ).symm.trans h
  refine lv_aload_n hx hb dX3_leader_0 rfl (lv_at hl 0 rfl) ?_
  refine r_get C hP (ci := 3) rfl uin_X3 0 (by decide) 0 (by decide) rfl qFL_RX3_10 rfl rfl dX3_leader_1 ?_
  refine lv_iconst (v := 0) hx hb dX3_leader_4 (by decide) ?_
  obtain ⟨x1, h1, h⟩ := k_ob h
  refine k_callVi C hP hap hAA (c_X0_leadOf l ev (fun j => ad (j + 1)) (x_now σ) 0   _ h1) (em_G1r) (apart_1 _) gz_X0_leadOf qML_RX3_255 qIM_yX0_leadOf qSE_yX0_leadOf ⟨(Nat.le_of_ble_eq_true rfl), (Nat.le_of_ble_eq_true rfl)⟩ (q0 := 1) rfl (by decide) rfl rfl rfl rfl hl.1 rfl (Nat.le_of_ble_eq_true rfl) dX3_leader_5 ⟨Nat.le_refl _, Nat.le_refl _⟩ (fun H locs hP => ?_)
  refine lv_istore_n (lv' := [(1, .int x1), (0, .ref (ad 0))]) hx hb dX3_leader_8 rfl hl (by decide) rfl (fun ls hl => ?_)
  refine lv_iload_n hx hb dX3_leader_9 rfl (lv_at hl 0 rfl) ?_
  refine lv_if_ne (tgt := 15) hx hb dX3_leader_10 (by decide) (fun c10 => ?_) (fun c10 => ?_)
  · have h := k_nf c10 h
    refine lv_iload_n hx hb dX3_leader_15 rfl (lv_at hl 0 rfl) ?_
    refine lv_if_le (tgt := 23) hx hb dX3_leader_16 (by decide) (fun c16 => ?_) (fun c16 => ?_)
    · have h := k_if c16 h
      refine lv_iconst (v := 1) hx hb dX3_leader_23 (by decide) ?_
      exact e_iret C hend hP (k_some h) rfl dX3_leader_24
    · have h := k_nf c16 h
      refine lv_iconst (v := 0) hx hb dX3_leader_19 (by decide) ?_
      refine lv_goto (tgt := 24) hx hb dX3_leader_20 (by decide) ?_
      exact e_iret C hend hP (k_some h) rfl dX3_leader_24
  · have h := k_if c10 h
    refine lv_iconst (v := (-1)) hx hb dX3_leader_13 (by decide) ?_
    exact e_iret C hend hP (k_some h) rfl dX3_leader_14
def f_X3_bare (σ : XX) : Option (Int32) :=
  ob (f_X0_touched (x_now σ) (g_hedges (x_now σ))) (fun x1 => some ((g_all (x_now σ)) &&& (x1 ^^^ (-1))))
set_option maxHeartbeats 4000000 in
set_option maxRecDepth 100000 in
theorem c_X3_bare (l : Launch) (ev : EV) (ad : Nat → Nat) (σ : XX)   (r : Int32)  (h : f_X3_bare σ = some r) : Ct l yX3_bare prog_1_method_39_code 1 (Option.some Jvm.ClassFile.FieldType.int) (rmk 2 48) ev 26 ad (xw ev ad σ) (xw ev ad σ) [.ref (ad 0)] (some (.int r)) := by
  refine Ct.of (by decide +kernel) (Nat.le_of_ble_eq_true rfl) ?_
  intro p e s m args below meth c Qc C hap hP hend ls hl
  have hAA : ∀ j, j < 26 → inA ad 26 (ad j) := fun j hj => ⟨j, hj, rfl⟩
  have hx := C.1
  have hb := C.2.1
  have hl : lv_has ls 1 [(0, .ref (ad 0))] := hl
  have h := (f_X3_bare.eq_1 _ ).symm.trans h
  refine lv_aload_n hx hb dX3_bare_0 rfl (lv_at hl 0 rfl) ?_
  refine r_get C hP (ci := 3) rfl uin_X3 0 (by decide) 0 (by decide) rfl qFL_RX3_10 rfl rfl dX3_bare_1 ?_
  refine r_get C hP (ci := 0) rfl uin_X0 5 (by decide) 1 (by decide) rfl qFL_RX3_293 rfl rfl dX3_bare_4 ?_
  refine lv_aload_n hx hb dX3_bare_7 rfl (lv_at hl 0 rfl) ?_
  refine r_get C hP (ci := 3) rfl uin_X3 0 (by decide) 0 (by decide) rfl qFL_RX3_10 rfl rfl dX3_bare_8 ?_
  refine lv_aload_n hx hb dX3_bare_11 rfl (lv_at hl 0 rfl) ?_
  refine r_get C hP (ci := 3) rfl uin_X3 0 (by decide) 0 (by decide) rfl qFL_RX3_10 rfl rfl dX3_bare_12 ?_
  refine r_get C hP (ci := 0) rfl uin_X0 9 (by decide) 1 (by decide) rfl qFL_RX3_185 rfl rfl dX3_bare_15 ?_
  obtain ⟨x1, h1, h⟩ := k_ob h
  refine k_callVi C hP hap hAA (c_X0_touched l ev (fun j => ad (j + 1)) (x_now σ) (g_hedges (x_now σ))   _ h1) (em_G1r) (apart_1 _) gz_X0_touched qML_RX3_224 qIM_yX0_touched qSE_yX0_touched ⟨(Nat.le_of_ble_eq_true rfl), (Nat.le_of_ble_eq_true rfl)⟩ (q0 := 1) rfl (by decide) rfl rfl rfl rfl hl.1 rfl (Nat.le_of_ble_eq_true rfl) dX3_bare_18 ⟨Nat.le_refl _, Nat.le_refl _⟩ (fun H locs hP => ?_)
  refine lv_iconst (v := (-1)) hx hb dX3_bare_21 (by decide) ?_
  refine lv_ixor hx hb dX3_bare_22 ?_
  refine lv_iand hx hb dX3_bare_23 ?_
  exact e_iret C hend hP (k_some h) rfl dX3_bare_24
def f_X3_soft (σ : XX) : Int32 :=
  (f_X0_softFields (x_now σ))
set_option maxHeartbeats 4000000 in
set_option maxRecDepth 100000 in
theorem c_X3_soft (l : Launch) (ev : EV) (ad : Nat → Nat) (σ : XX)   (r : Int32)  (h : f_X3_soft σ = r) : Ct l yX3_soft prog_1_method_40_code 1 (Option.some Jvm.ClassFile.FieldType.int) (rmk 2 40) ev 26 ad (xw ev ad σ) (xw ev ad σ) [.ref (ad 0)] (some (.int r)) := by
  refine Ct.of (by decide +kernel) (Nat.le_of_ble_eq_true rfl) ?_
  intro p e s m args below meth c Qc C hap hP hend ls hl
  have hAA : ∀ j, j < 26 → inA ad 26 (ad j) := fun j hj => ⟨j, hj, rfl⟩
  have hx := C.1
  have hb := C.2.1
  have hl : lv_has ls 1 [(0, .ref (ad 0))] := hl
  have h := (f_X3_soft.eq_1 _ ).symm.trans h
  refine lv_aload_n hx hb dX3_soft_0 rfl (lv_at hl 0 rfl) ?_
  refine r_get C hP (ci := 3) rfl uin_X3 0 (by decide) 0 (by decide) rfl qFL_RX3_10 rfl rfl dX3_soft_1 ?_
  refine k_callVi C hP hap hAA (c_X0_softFields l ev (fun j => ad (j + 1)) (x_now σ)   _ rfl) (em_G1r) (apart_1 _) gz_X0_softFields qML_RX3_305 qIM_yX0_softFields qSE_yX0_softFields ⟨(Nat.le_of_ble_eq_true rfl), (Nat.le_of_ble_eq_true rfl)⟩ (q0 := 1) rfl (by decide) rfl rfl rfl rfl hl.1 rfl (Nat.le_of_ble_eq_true rfl) dX3_soft_4 ⟨Nat.le_refl _, Nat.le_refl _⟩ (fun H locs hP => ?_)
  exact e_iret C hend hP h rfl dX3_soft_7
def f_X3_isNearEnd (σ : XX) : Bool :=
  if 7 < (f_J13_bitCount_95d88 (f_X0_openSlots (x_now σ))) then false else true
set_option maxHeartbeats 4000000 in
set_option maxRecDepth 100000 in
theorem c_X3_isNearEnd (l : Launch) (ev : EV) (ad : Nat → Nat) (σ : XX)   (r : Bool)  (h : f_X3_isNearEnd σ = r) : Ct l yX3_isNearEnd prog_1_method_86_code 1 (Option.some Jvm.ClassFile.FieldType.boolean) (rmk 3 60) ev 26 ad (xw ev ad σ) (xw ev ad σ) [.ref (ad 0)] (some (.int (bi r))) := by
  refine Ct.of (by decide +kernel) (Nat.le_of_ble_eq_true rfl) ?_
  intro p e s m args below meth c Qc C hap hP hend ls hl
  have hAA : ∀ j, j < 26 → inA ad 26 (ad j) := fun j hj => ⟨j, hj, rfl⟩
  have hx := C.1
  have hb := C.2.1
  have hl : lv_has ls 1 [(0, .ref (ad 0))] := hl
  have h := (f_X3_isNearEnd.eq_1 _ ).symm.trans h
  refine lv_aload_n hx hb dX3_isNearEnd_0 rfl (lv_at hl 0 rfl) ?_
  refine r_get C hP (ci := 3) rfl uin_X3 0 (by decide) 0 (by decide) rfl qFL_RX3_10 rfl rfl dX3_isNearEnd_1 ?_
  refine k_callVl C hP hap hAA (c_X0_openSlots l ev (fun j => ad (j + 1)) (x_now σ)   _ rfl) (em_G1r) (apart_1 _) gz_X0_openSlots qML_RX3_127 qIM_yX0_openSlots qSE_yX0_openSlots ⟨(Nat.le_of_ble_eq_true rfl), (Nat.le_of_ble_eq_true rfl)⟩ (q0 := 1) rfl (by decide) rfl rfl rfl rfl hl.1 rfl (Nat.le_of_ble_eq_true rfl) dX3_isNearEnd_4 ⟨Nat.le_refl _, Nat.le_refl _⟩ (fun H locs hP => ?_)
  refine k_callSi C hP hap hAA (c_J13_bitCount_95d88 l ev ad (f_X0_openSlots (x_now σ))   _ rfl) Emb.none (apart_0 _) gz_J13_bitCount_95d88 qML_RX3_131 qSM_yJ13_bitCount_95d88 ⟨(Nat.le_of_ble_eq_true rfl), (Nat.le_of_ble_eq_true rfl)⟩ rfl hl.1 rfl (Nat.le_of_ble_eq_true rfl) dX3_isNearEnd_7 ⟨Nat.le_refl _, Nat.le_refl _⟩ (fun H locs hP => ?_)
  refine lv_bipush (v := 7) hx hb dX3_isNearEnd_10 (by decide) ?_
  refine lv_icmp_gt (tgt := 19) hx hb dX3_isNearEnd_12 (by decide) (fun c12 => ?_) (fun c12 => ?_)
  · have h := k_if c12 h
    refine lv_iconst (v := 0) hx hb dX3_isNearEnd_19 (by decide) ?_
    exact e_zret C hend hP h rfl dX3_isNearEnd_20 rfl
  · have h := k_nf c12 h
    refine lv_iconst (v := 1) hx hb dX3_isNearEnd_15 (by decide) ?_
    refine lv_goto (tgt := 20) hx hb dX3_isNearEnd_16 (by decide) ?_
    exact e_zret C hend hP h rfl dX3_isNearEnd_20 rfl
def f_X3_outcome_L57_b (a2 : Int32) (a3 : Int32) (a4 : Int32) (self : GG → Int32 → Int32 → Int32 → Option (Int32 × GG)) (y3 : Int64) (x4 : Int32) (x5 : Int32) (x6 : Int32)  (rec57 : Int64 → Int32 → Int32 → GG → Option (Int32 × GG)) (y7 : Int64) (x8 : Int32) (x9 : Int32) (σ10 : GG) : Option (Int32 × GG) :=
  if 7 ≤ x9 then some (x8, σ10) else if (lg_cmp y7 0) = 0 then some (x8, σ10) else if a3 ≤ x8 then some (x8, σ10) else ob (f_X0_make σ10 (f_X3_firstSlot y7)) (fun σ11 => ob2 (self σ11 (-a3) (-(imax a2 x8)) (a4 - 1)) (fun x13 σ12 => lt (imax x8 (-x13)) (fun x14 => ob (f_X0_unmake σ12 y3 x4 x5 x6) (fun σ15 => lt (y7 &&& (y7 - 1)) (fun y16 => lt (x9 + 1) (fun x17 => rec57 y16 x14 x17 σ15))))))
def f_X3_outcome_L57 (a2 : Int32) (a3 : Int32) (a4 : Int32) (self : GG → Int32 → Int32 → Int32 → Option (Int32 × GG)) (y3 : Int64) (x4 : Int32) (x5 : Int32) (x6 : Int32)  (y7 : Int64) (x8 : Int32) (x9 : Int32) (σ10 : GG) : Option (Int32 × GG) :=
  lp (fun _ _ _ _ => none) (f_X3_outcome_L57_b a2 a3 a4 self y3 x4 x5 x6 ) FU y7 x8 x9 σ10
def f_X3_outcome_b (self : GG → Int32 → Int32 → Int32 → Option (Int32 × GG)) (σ : GG) (a2 : Int32) (a3 : Int32) (a4 : Int32) : Option (Int32 × GG) :=
  lt (f_X0_openSlots σ) (fun y1 => if (lg_cmp y1 0) = 0 then ob (f_X0_leadOf σ (g_turn σ)) (fun x2 => some (x2, σ)) else if 0 < a4 then lt (g_hedges σ) (fun y3 => lt (g_dug σ) (fun x4 => lt (g_ownedBy0 σ) (fun x5 => lt (g_ownedBy1 σ) (fun x6 => f_X3_outcome_L57 a2 a3 a4 self y3 x4 x5 x6 y1 (-100) 0 σ)))) else ob (f_X0_leadOf σ (g_turn σ)) (fun x18 => some (x18, σ)))
def f_X3_outcome (d : Nat) : GG → Int32 → Int32 → Int32 → Option (Int32 × GG) := lp (fun _ _ _ _ => none) f_X3_outcome_b d
set_option maxHeartbeats 4000000 in
set_option maxRecDepth 100000 in
theorem c_X3_outcome (l : Launch) (ev : EV) : ∀ (d : Nat) (ad : Nat → Nat) (σ : GG) (a2 : Int32) (a3 : Int32) (a4 : Int32) (r : Int32) (σ' : GG), f_X3_outcome d σ a2 a3 a4 = some (r, σ') → Ct l yX3_outcome prog_1_method_87_code 13 (Option.some Jvm.ClassFile.FieldType.int) (rmk (d * 2 + 8) (d * 80 + 225)) ev 1 ad (gw1 σ) (gw1 σ') [.ref (ad 0), .int a2, .int a3, .int a4] (some (.int r)) := by
  intro d
  induction d with
  | zero =>
    intro ad σ a2 a3 a4 r σ' h
    exact k_none h
  | succ d ihd =>
    intro ad σ a2 a3 a4 r σ' h
    refine Ct.of (by decide +kernel) (Nat.le_of_ble_eq_true rfl) ?_
    intro p e s m args below meth c Qc C hap hP hend ls hl
    have hAA : ∀ j, j < 1 → inA ad 1 (ad j) := fun j hj => ⟨j, hj, rfl⟩
    have hx := C.1
    have hb := C.2.1
    have hl : lv_has ls 13 [(0, .ref (ad 0)), (1, .int a2), (2, .int a3), (3, .int a4)] := hl
    have h : f_X3_outcome_b (lp (fun _ _ _ _ => none) f_X3_outcome_b d) σ a2 a3 a4 = some (r, σ') := h
    have h := (f_X3_outcome_b.eq_1 _ _ _ _ _ ).symm.trans h
    refine lv_aload_n hx hb dX3_outcome_0 rfl (lv_at hl 0 rfl) ?_
    refine k_callVl C hP hap hAA (c_X0_openSlots l ev ad σ   _ rfl) Emb.same hap gz_X0_openSlots qML_RX3_127 qIM_yX0_openSlots qSE_yX0_openSlots ⟨(Nat.le_of_ble_eq_true rfl), (Nat.le_of_ble_eq_true rfl)⟩ (q0 := 0) rfl (by decide) rfl rfl rfl rfl hl.1 rfl (Nat.le_of_ble_eq_true rfl) dX3_outcome_1 ⟨Nat.le_refl _, Nat.le_refl _⟩ (fun H locs hP => ?_)
    refine lv_topl (fun y1 ey1 => ?_)
    have h := k_lt ey1 h
    refine lv_lstore (lv' := [(4, .long y1), (0, .ref (ad 0)), (1, .int a2), (2, .int a3), (3, .int a4)]) hx hb dX3_outcome_4 hl (by decide) rfl (fun ls hl => ?_)
    refine lv_lload hx hb dX3_outcome_6 (lv_at hl 0 rfl) ?_
    refine lv_lconst (v := 0) hx hb dX3_outcome_8 (by decide) ?_
    refine W.lcmp hx hb dX3_outcome_9 ?_
    refine lv_if_eq (tgt := 17) hx hb dX3_outcome_10 (by decide) (fun c10 => ?_) (fun c10 => ?_)
    · have h := k_if c10 h
      refine lv_aload_n hx hb dX3_outcome_17 rfl (lv_at hl 1 rfl) ?_
      refine lv_aload_n hx hb dX3_outcome_18 rfl (lv_at hl 1 rfl) ?_
      refine r_get C hP (ci := 0) rfl uin_X0 13 (by decide) 0 (by decide) rfl qFL_RX3_156 rfl rfl dX3_outcome_19 ?_
      obtain ⟨x2, h1, h⟩ := k_ob h
      refine k_callVi C hP hap hAA (c_X0_leadOf l ev ad σ (g_turn σ)   _ h1) Emb.same hap gz_X0_leadOf qML_RX3_255 qIM_yX0_leadOf qSE_yX0_leadOf ⟨(Nat.le_of_ble_eq_true rfl), (Nat.le_of_ble_eq_true rfl)⟩ (q0 := 0) rfl (by decide) rfl rfl rfl rfl hl.1 rfl (Nat.le_of_ble_eq_true rfl) dX3_outcome_22 ⟨Nat.le_refl _, Nat.le_refl _⟩ (fun H locs hP => ?_)
      exact e_iret C hend hP (k_some2 h).1 (congrArg (gw1) (k_some2 h).2) dX3_outcome_25
    · have h := k_nf c10 h
      refine lv_iload_n hx hb dX3_outcome_13 rfl (lv_at hl 4 rfl) ?_
      refine lv_if_gt (tgt := 26) hx hb dX3_outcome_14 (by decide) (fun c14 => ?_) (fun c14 => ?_)
      · have h := k_if c14 h
        refine lv_aload_n hx hb dX3_outcome_26 rfl (lv_at hl 1 rfl) ?_
        refine r_get C hP (ci := 0) rfl uin_X0 9 (by decide) 0 (by decide) rfl qFL_RX3_185 rfl rfl dX3_outcome_27 ?_
        refine lv_topl (fun y3 ey3 => ?_)
        have h := k_lt ey3 h
        refine lv_lstore (lv' := [(6, .long y3), (4, .long y1), (0, .ref (ad 0)), (1, .int a2), (2, .int a3), (3, .int a4)]) hx hb dX3_outcome_30 hl (by decide) rfl (fun ls hl => ?_)
        refine lv_aload_n hx hb dX3_outcome_32 rfl (lv_at hl 2 rfl) ?_
        refine r_get C hP (ci := 0) rfl uin_X0 10 (by decide) 0 (by decide) rfl qFL_RX3_189 rfl rfl dX3_outcome_33 ?_
        refine lv_topi (fun x4 ex4 => ?_)
        have h := k_lt ex4 h
        refine lv_istore (lv' := [(8, .int x4), (6, .long y3), (4, .long y1), (0, .ref (ad 0)), (1, .int a2), (2, .int a3), (3, .int a4)]) hx hb dX3_outcome_36 hl (by decide) rfl (fun ls hl => ?_)
        refine lv_aload_n hx hb dX3_outcome_38 rfl (lv_at hl 3 rfl) ?_
        refine r_get C hP (ci := 0) rfl uin_X0 11 (by decide) 0 (by decide) rfl qFL_RX3_196 rfl rfl dX3_outcome_39 ?_
        refine lv_topi (fun x5 ex5 => ?_)
        have h := k_lt ex5 h
        refine lv_istore (lv' := [(9, .int x5), (8, .int x4), (6, .long y3), (4, .long y1), (0, .ref (ad 0)), (1, .int a2), (2, .int a3), (3, .int a4)]) hx hb dX3_outcome_42 hl (by decide) rfl (fun ls hl => ?_)
        refine lv_aload_n hx hb dX3_outcome_44 rfl (lv_at hl 4 rfl) ?_
        refine r_get C hP (ci := 0) rfl uin_X0 12 (by decide) 0 (by decide) rfl qFL_RX3_199 rfl rfl dX3_outcome_45 ?_
        refine lv_topi (fun x6 ex6 => ?_)
        have h := k_lt ex6 h
        refine lv_istore (lv' := [(10, .int x6), (9, .int x5), (8, .int x4), (6, .long y3), (4, .long y1), (0, .ref (ad 0)), (1, .int a2), (2, .int a3), (3, .int a4)]) hx hb dX3_outcome_48 hl (by decide) rfl (fun ls hl => ?_)
        refine lv_bipush (v := (-100)) hx hb dX3_outcome_50 (by decide) ?_
        refine lv_istore (lv' := [(11, .int (-100)), (10, .int x6), (9, .int x5), (8, .int x4), (6, .long y3), (4, .long y1), (0, .ref (ad 0)), (1, .int a2), (2, .int a3), (3, .int a4)]) hx hb dX3_outcome_52 hl (by decide) rfl (fun ls hl => ?_)
        refine lv_iconst (v := 0) hx hb dX3_outcome_54 (by decide) ?_
        refine lv_istore (lv' := [(12, .int 0), (11, .int (-100)), (10, .int x6), (9, .int x5), (8, .int x4), (6, .long y3), (4, .long y1), (0, .ref (ad 0)), (1, .int a2), (2, .int a3), (3, .int a4)]) hx hb dX3_outcome_55 hl (by decide) rfl (fun ls hl => ?_)
        have hL57 : ∀ (n : Nat) (y7 : Int64) (x8 : Int32) (x9 : Int32) (σ10 : GG) (H : Heap) (locs : List Loc) (ls : Array Slot), lp (fun _ _ _ _ => none) (f_X3_outcome_L57_b a2 a3 a4 (lp (fun _ _ _ _ => none) f_X3_outcome_b d) y3 x4 x5 x6 ) n y7 x8 x9 σ10 = some (r, σ') → PS ev 1 ad (gw1 σ10) (inA ad 1) s H locs → lv_has ls 13 [(0, .ref (ad 0)), (1, .int a2), (2, .int a3), (3, .int a4), (4, .long y7), (6, .long y3), (8, .int x4), (9, .int x5), (10, .int x6), (11, .int x8), (12, .int x9)] → WW ev p l e (rmk ((d + 1) * 2 + 8) ((d + 1) * 80 + 225)) s m args below meth c Qc ad 1 H locs 57 ls [] := by
          intro n
          induction n with
          | zero =>
            intro y7 x8 x9 σ10 H locs ls h; exact k_none h
          | succ n ih =>
            intro y7 x8 x9 σ10 H locs ls h hP hl
            have h : f_X3_outcome_L57_b a2 a3 a4 (lp (fun _ _ _ _ => none) f_X3_outcome_b d) y3 x4 x5 x6  (lp (fun _ _ _ _ => none) (f_X3_outcome_L57_b a2 a3 a4 (lp (fun _ _ _ _ => none) f_X3_outcome_b d) y3 x4 x5 x6 ) n) y7 x8 x9 σ10 = some (r, σ') := h
            have h := (f_X3_outcome_L57_b.eq_1 _ _ _ _ _ _ _ _ _ _ _ _ _ ).symm.trans h
            refine lv_iload hx hb dX3_outcome_57 (lv_at hl 10 rfl) ?_
            refine lv_bipush (v := 7) hx hb dX3_outcome_59 (by decide) ?_
            refine lv_icmp_ge (tgt := 137) hx hb dX3_outcome_61 (by decide) (fun c61 => ?_) (fun c61 => ?_)
            · have h := k_if c61 h
              refine lv_iload hx hb dX3_outcome_137 (lv_at hl 9 rfl) ?_
              exact e_iret C hend hP (k_some2 h).1 (congrArg (gw1) (k_some2 h).2) dX3_outcome_139
            · have h := k_nf c61 h
              refine lv_lload hx hb dX3_outcome_64 (lv_at hl 4 rfl) ?_
              refine lv_lconst (v := 0) hx hb dX3_outcome_66 (by decide) ?_
              refine W.lcmp hx hb dX3_outcome_67 ?_
              refine lv_if_eq (tgt := 137) hx hb dX3_outcome_68 (by decide) (fun c68 => ?_) (fun c68 => ?_)
              · have h := k_if c68 h
                refine lv_iload hx hb dX3_outcome_137 (lv_at hl 9 rfl) ?_
                exact e_iret C hend hP (k_some2 h).1 (congrArg (gw1) (k_some2 h).2) dX3_outcome_139
              · have h := k_nf c68 h
                refine lv_iload hx hb dX3_outcome_71 (lv_at hl 9 rfl) ?_
                refine lv_iload_n hx hb dX3_outcome_73 rfl (lv_at hl 2 rfl) ?_
                refine lv_icmp_ge (tgt := 137) hx hb dX3_outcome_74 (by decide) (fun c74 => ?_) (fun c74 => ?_)
                · have h := k_if c74 h
                  refine lv_iload hx hb dX3_outcome_137 (lv_at hl 9 rfl) ?_
                  exact e_iret C hend hP (k_some2 h).1 (congrArg (gw1) (k_some2 h).2) dX3_outcome_139
                · have h := k_nf c74 h
                  refine lv_aload_n hx hb dX3_outcome_77 rfl (lv_at hl 0 rfl) ?_
                  refine lv_lload hx hb dX3_outcome_78 (lv_at hl 4 rfl) ?_
                  refine k_callSi C hP hap hAA (c_X3_firstSlot l ev ad y7   _ rfl) Emb.none (apart_0 _) gz_X3_firstSlot qML_RX3_318 qSM_yX3_firstSlot ⟨(Nat.le_of_ble_eq_true rfl), (Nat.le_of_ble_eq_true rfl)⟩ rfl hl.1 rfl (Nat.le_of_ble_eq_true rfl) dX3_outcome_80 ⟨Nat.le_refl _, Nat.le_refl _⟩ (fun H locs hP => ?_)
                  obtain ⟨σ11, h1, h⟩ := k_ob h
                  refine k_callVv C hP hap hAA (c_X0_make l ev ad σ10 (f_X3_firstSlot y7)   _ h1) Emb.same hap gz_X0_make qML_RX3_311 qIM_yX0_make qSE_yX0_make ⟨(Nat.le_of_ble_eq_true rfl), (Nat.le_of_ble_eq_true rfl)⟩ (q0 := 0) rfl (by decide) rfl rfl rfl rfl hl.1 rfl (Nat.le_of_ble_eq_true rfl) dX3_outcome_83 ⟨Nat.le_refl _, Nat.le_refl _⟩ (fun H locs hP => ?_)
                  refine lv_iload hx hb dX3_outcome_86 (lv_at hl 9 rfl) ?_
                  refine lv_aload_n hx hb dX3_outcome_88 rfl (lv_at hl 0 rfl) ?_
                  refine lv_iload_n hx hb dX3_outcome_89 rfl (lv_at hl 2 rfl) ?_
                  refine lv_ineg hx hb dX3_outcome_90 ?_
                  refine lv_iload_n hx hb dX3_outcome_91 rfl (lv_at hl 1 rfl) ?_
                  refine lv_iload hx hb dX3_outcome_92 (lv_at hl 9 rfl) ?_
                  refine r_imax C hP qML_RX3_390 qSM_yJ9_max_7cf53 qIN_RJ9 qCO_yJ9_max_7cf53 hl.1 ⟨(Nat.le_of_ble_eq_true rfl), (Nat.le_of_ble_eq_true rfl)⟩ (by exact (Nat.le_of_ble_eq_true rfl)) dX3_outcome_94 ⟨Nat.le_refl _, Nat.le_refl _⟩ ?_
                  refine lv_ineg hx hb dX3_outcome_97 ?_
                  refine lv_iload_n hx hb dX3_outcome_98 rfl (lv_at hl 3 rfl) ?_
                  refine lv_iconst (v := 1) hx hb dX3_outcome_99 (by decide) ?_
                  refine lv_isub hx hb dX3_outcome_100 ?_
                  obtain ⟨x13, σ12, h1, h⟩ := k_ob2 h
                  refine k_callSi C hP hap hAA (ihd ad σ11 (-a3) (-(imax a2 x8)) (a4 - 1) _ _ h1) Emb.same hap gz_X3_outcome qML_RX3_314 qSM_yX3_outcome ⟨by show d * 2 + 8 + 1 ≤ (d + 1) * 2 + 8; omega, by show 8 + (13 + 11) + (d * 80 + 225) ≤ (d + 1) * 80 + 225; omega⟩ rfl hl.1 rfl (Nat.le_of_ble_eq_true rfl) dX3_outcome_101 ⟨Nat.le_refl _, Nat.le_refl _⟩ (fun H locs hP => ?_)
                  refine lv_ineg hx hb dX3_outcome_104 ?_
                  refine r_imax C hP qML_RX3_390 qSM_yJ9_max_7cf53 qIN_RJ9 qCO_yJ9_max_7cf53 hl.1 ⟨(Nat.le_of_ble_eq_true rfl), (Nat.le_of_ble_eq_true rfl)⟩ (by exact (Nat.le_of_ble_eq_true rfl)) dX3_outcome_105 ⟨Nat.le_refl _, Nat.le_refl _⟩ ?_
                  refine lv_topi (fun x14 ex14 => ?_)
                  have h := k_lt ex14 h
                  refine lv_istore (lv' := [(11, .int x14), (0, .ref (ad 0)), (1, .int a2), (2, .int a3), (3, .int a4), (4, .long y7), (6, .long y3), (8, .int x4), (9, .int x5), (10, .int x6), (12, .int x9)]) hx hb dX3_outcome_108 hl (by decide) rfl (fun ls hl => ?_)
                  refine lv_aload_n hx hb dX3_outcome_110 rfl (lv_at hl 1 rfl) ?_
                  refine lv_lload hx hb dX3_outcome_111 (lv_at hl 6 rfl) ?_
                  refine lv_iload hx hb dX3_outcome_113 (lv_at hl 7 rfl) ?_
                  refine lv_iload hx hb dX3_outcome_115 (lv_at hl 8 rfl) ?_
                  refine lv_iload hx hb dX3_outcome_117 (lv_at hl 9 rfl) ?_
                  obtain ⟨σ15, h1, h⟩ := k_ob h
                  refine k_callVv C hP hap hAA (c_X0_unmake l ev ad σ12 y3 x4 x5 x6   _ h1) Emb.same hap gz_X0_unmake qML_RX3_395 qIM_yX0_unmake qSE_yX0_unmake ⟨(Nat.le_of_ble_eq_true rfl), (Nat.le_of_ble_eq_true rfl)⟩ (q0 := 0) rfl (by decide) rfl rfl rfl rfl hl.1 rfl (Nat.le_of_ble_eq_true rfl) dX3_outcome_119 ⟨Nat.le_refl _, Nat.le_refl _⟩ (fun H locs hP => ?_)
                  refine lv_lload hx hb dX3_outcome_122 (lv_at hl 5 rfl) ?_
                  refine lv_lload hx hb dX3_outcome_124 (lv_at hl 5 rfl) ?_
                  refine lv_lconst (v := 1) hx hb dX3_outcome_126 (by decide) ?_
                  refine lv_lsub hx hb dX3_outcome_127 ?_
                  refine lv_land hx hb dX3_outcome_128 ?_
                  refine lv_topl (fun y16 ey16 => ?_)
                  have h := k_lt ey16 h
                  refine lv_lstore (lv' := [(4, .long y16), (11, .int x14), (0, .ref (ad 0)), (1, .int a2), (2, .int a3), (3, .int a4), (6, .long y3), (8, .int x4), (9, .int x5), (10, .int x6), (12, .int x9)]) hx hb dX3_outcome_129 hl (by decide) rfl (fun ls hl => ?_)
                  obtain ⟨x17, ex17, h⟩ := k_ltx h
                  refine lv_iinc (v := x17) (lv' := [(12, .int x17), (4, .long y16), (11, .int x14), (0, .ref (ad 0)), (1, .int a2), (2, .int a3), (3, .int a4), (6, .long y3), (8, .int x4), (9, .int x5), (10, .int x6)]) hx hb dX3_outcome_131 hl (k := 10) rfl (by rw [ex17]; rfl) (by decide) rfl (fun ls hl => ?_)
                  refine lv_goto (tgt := 57) hx hb dX3_outcome_134 (by decide) ?_
                  exact ih _ _ _ _ _ _ _ h hP (lv_sub hl [3, 4, 5, 6, 1, 7, 8, 9, 10, 2, 0] rfl)
        exact hL57 FU _ _ _ _ _ _ _ h hP (lv_sub hl [7, 8, 9, 10, 6, 5, 4, 3, 2, 1, 0] rfl)
      · have h := k_nf c14 h
        refine lv_aload_n hx hb dX3_outcome_17 rfl (lv_at hl 1 rfl) ?_
        refine lv_aload_n hx hb dX3_outcome_18 rfl (lv_at hl 1 rfl) ?_
        refine r_get C hP (ci := 0) rfl uin_X0 13 (by decide) 0 (by decide) rfl qFL_RX3_156 rfl rfl dX3_outcome_19 ?_
        obtain ⟨x18, h1, h⟩ := k_ob h
        refine k_callVi C hP hap hAA (c_X0_leadOf l ev ad σ (g_turn σ)   _ h1) Emb.same hap gz_X0_leadOf qML_RX3_255 qIM_yX0_leadOf qSE_yX0_leadOf ⟨(Nat.le_of_ble_eq_true rfl), (Nat.le_of_ble_eq_true rfl)⟩ (q0 := 0) rfl (by decide) rfl rfl rfl rfl hl.1 rfl (Nat.le_of_ble_eq_true rfl) dX3_outcome_22 ⟨Nat.le_refl _, Nat.le_refl _⟩ (fun H locs hP => ?_)
        exact e_iret C hend hP (k_some2 h).1 (congrArg (gw1) (k_some2 h).2) dX3_outcome_25
def f_X3_after (σ : XX) (a1 : Int32) : Option (Int32 × XX) :=
  lt (f_X0_slotOf (x_now σ) a1) (fun x1 => if x1 = (-1) then ob2 (f_X3_refuseLead σ (-2)) (fun x14 σ13 => some (x14, σ13)) else if (f_X0_isOpen (x_now σ) x1) = true then if (f_X3_isNearEnd σ) = true then ob (f_X0_become (x_thought σ) (x_now σ)) (fun σ4 => lt (x_thought' σ σ4) (fun σ5 => ob (f_X0_make (x_thought σ5) x1) (fun σ6 => lt (x_thought' σ5 σ6) (fun σ7 => ob2 (f_X3_outcome 10 (x_thought σ7) (-100) 100 6) (fun x9 σ8 => lt (x_thought' σ7 σ8) (fun σ10 => some ((-x9), σ10))))))) else ob2 (f_X3_refuseLead σ (-5)) (fun x12 σ11 => some (x12, σ11)) else ob2 (f_X3_refuseLead σ (-5)) (fun x3 σ2 => some (x3, σ2)))
set_option maxHeartbeats 4000000 in
set_option maxRecDepth 100000 in
theorem c_X3_after (l : Launch) (ev : EV) (ad : Nat → Nat) (σ : XX) (a1 : Int32)   (r : Int32) (σ' : XX) (h : f_X3_after σ a1 = some (r, σ')) : Ct l yX3_after prog_1_method_41_code 3 (Option.some Jvm.ClassFile.FieldType.int) (rmk 29 1057) ev 26 ad (xw ev ad σ) (xw ev ad σ') [.ref (ad 0), .int a1] (some (.int r)) := by
  refine Ct.of (by decide +kernel) (Nat.le_of_ble_eq_true rfl) ?_
  intro p e s m args below meth c Qc C hap hP hend ls hl
  have hAA : ∀ j, j < 26 → inA ad 26 (ad j) := fun j hj => ⟨j, hj, rfl⟩
  have hx := C.1
  have hb := C.2.1
  have hl : lv_has ls 3 [(0, .ref (ad 0)), (1, .int a1)] := hl
  have h := (f_X3_after.eq_1 _ _ ).symm.trans h
  refine lv_aload_n hx hb dX3_after_0 rfl (lv_at hl 0 rfl) ?_
  refine r_get C hP (ci := 3) rfl uin_X3 0 (by decide) 0 (by decide) rfl qFL_RX3_10 rfl rfl dX3_after_1 ?_
  refine lv_iload_n hx hb dX3_after_4 rfl (lv_at hl 1 rfl) ?_
  refine k_callVi C hP hap hAA (c_X0_slotOf l ev (fun j => ad (j + 1)) (x_now σ) a1   _ rfl) (em_G1r) (apart_1 _) gz_X0_slotOf qML_RX3_239 qIM_yX0_slotOf qSE_yX0_slotOf ⟨(Nat.le_of_ble_eq_true rfl), (Nat.le_of_ble_eq_true rfl)⟩ (q0 := 1) rfl (by decide) rfl rfl rfl rfl hl.1 rfl (Nat.le_of_ble_eq_true rfl) dX3_after_5 ⟨Nat.le_refl _, Nat.le_refl _⟩ (fun H locs hP => ?_)
  refine lv_topi (fun x1 ex1 => ?_)
  have h := k_lt ex1 h
  refine lv_istore_n (lv' := [(2, .int x1), (0, .ref (ad 0)), (1, .int a1)]) hx hb dX3_after_8 rfl hl (by decide) rfl (fun ls hl => ?_)
  refine lv_iload_n hx hb dX3_after_9 rfl (lv_at hl 0 rfl) ?_
  refine lv_iconst (v := (-1)) hx hb dX3_after_10 (by decide) ?_
  refine lv_icmp_ne (tgt := 21) hx hb dX3_after_11 (by decide) (fun c11 => ?_) (fun c11 => ?_)
  · have h := k_nf c11 h
    refine lv_aload_n hx hb dX3_after_21 rfl (lv_at hl 1 rfl) ?_
    refine r_get C hP (ci := 3) rfl uin_X3 0 (by decide) 0 (by decide) rfl qFL_RX3_10 rfl rfl dX3_after_22 ?_
    refine lv_iload_n hx hb dX3_after_25 rfl (lv_at hl 0 rfl) ?_
    refine k_callVi C hP hap hAA (c_X0_isOpen l ev (fun j => ad (j + 1)) (x_now σ) x1   _ rfl) (em_G1r) (apart_1 _) gz_X0_isOpen qML_RX3_242 qIM_yX0_isOpen qSE_yX0_isOpen ⟨(Nat.le_of_ble_eq_true rfl), (Nat.le_of_ble_eq_true rfl)⟩ (q0 := 1) rfl (by decide) rfl rfl rfl rfl hl.1 rfl (Nat.le_of_ble_eq_true rfl) dX3_after_26 ⟨Nat.le_refl _, Nat.le_refl _⟩ (fun H locs hP => ?_)
    refine r_ifz_eq (tgt := 39) hx hb dX3_after_29 (by decide) (fun c29 => ?_) (fun c29 => ?_)
    · have h := k_nf c29 h
      refine lv_aload_n hx hb dX3_after_39 rfl (lv_at hl 1 rfl) ?_
      refine lv_bipush (v := (-5)) hx hb dX3_after_40 (by decide) ?_
      obtain ⟨x3, σ2, h1, h⟩ := k_ob2 h
      refine k_callVi C hP hap hAA (c_X3_refuseLead l ev ad σ (-5)   _ _ h1) Emb.same hap gz_X3_refuseLead qML_RX3_258 qIM_yX3_refuseLead qSE_yX3_refuseLead ⟨(Nat.le_of_ble_eq_true rfl), (Nat.le_of_ble_eq_true rfl)⟩ (q0 := 0) rfl (by decide) rfl rfl rfl rfl hl.1 rfl (Nat.le_of_ble_eq_true rfl) dX3_after_42 ⟨Nat.le_refl _, Nat.le_refl _⟩ (fun H locs hP => ?_)
      exact e_iret C hend hP (k_some2 h).1 (congrArg (xw ev ad) (k_some2 h).2) dX3_after_45
    · have h := k_if c29 h
      refine lv_aload_n hx hb dX3_after_32 rfl (lv_at hl 1 rfl) ?_
      refine k_callVi C hP hap hAA (c_X3_isNearEnd l ev ad σ   _ rfl) Emb.same hap gz_X3_isNearEnd qML_RX3_308 qIM_yX3_isNearEnd qSE_yX3_isNearEnd ⟨(Nat.le_of_ble_eq_true rfl), (Nat.le_of_ble_eq_true rfl)⟩ (q0 := 0) rfl (by decide) rfl rfl rfl rfl hl.1 rfl (Nat.le_of_ble_eq_true rfl) dX3_after_33 ⟨Nat.le_refl _, Nat.le_refl _⟩ (fun H locs hP => ?_)
      refine r_ifz_ne (tgt := 46) hx hb dX3_after_36 (by decide) (fun c36 => ?_) (fun c36 => ?_)
      · have h := k_if c36 h
        refine lv_aload_n hx hb dX3_after_46 rfl (lv_at hl 1 rfl) ?_
        refine r_get C hP (ci := 3) rfl uin_X3 1 (by decide) 0 (by decide) rfl qFL_RX3_16 rfl rfl dX3_after_47 ?_
        refine lv_aload_n hx hb dX3_after_50 rfl (lv_at hl 1 rfl) ?_
        refine r_get C hP (ci := 3) rfl uin_X3 0 (by decide) 0 (by decide) rfl qFL_RX3_10 rfl rfl dX3_after_51 ?_
        obtain ⟨σ4, h1, h⟩ := k_ob h
        refine k_callVv C hP hap hAA (c_X0_become l ev (fun j => if j = 0 then ad 2 else ad 1) (x_thought σ) (x_now σ)   _ h1) (em_GG21) (apart_GG hap (by decide) (by decide) (by decide)) gz_X0_become qML_RX3_165 qIM_yX0_become qSE_yX0_become ⟨(Nat.le_of_ble_eq_true rfl), (Nat.le_of_ble_eq_true rfl)⟩ (q0 := 2) rfl (by decide) rfl rfl rfl rfl hl.1 rfl (Nat.le_of_ble_eq_true rfl) dX3_after_54 ⟨Nat.le_refl _, Nat.le_refl _⟩ (fun H locs hP => ?_)
        obtain ⟨σ5, eσ5, h⟩ := k_ltx h
        rw [← eσ5] at hP
        refine lv_aload_n hx hb dX3_after_57 rfl (lv_at hl 1 rfl) ?_
        refine r_get C hP (ci := 3) rfl uin_X3 1 (by decide) 0 (by decide) rfl qFL_RX3_16 rfl rfl dX3_after_58 ?_
        refine lv_iload_n hx hb dX3_after_61 rfl (lv_at hl 0 rfl) ?_
        obtain ⟨σ6, h1, h⟩ := k_ob h
        refine k_callVv C hP hap hAA (c_X0_make l ev (fun j => ad (j + 2)) (x_thought σ5) x1   _ h1) (em_G2) (apart_1 _) gz_X0_make qML_RX3_311 qIM_yX0_make qSE_yX0_make ⟨(Nat.le_of_ble_eq_true rfl), (Nat.le_of_ble_eq_true rfl)⟩ (q0 := 2) rfl (by decide) rfl rfl rfl rfl hl.1 rfl (Nat.le_of_ble_eq_true rfl) dX3_after_62 ⟨Nat.le_refl _, Nat.le_refl _⟩ (fun H locs hP => ?_)
        obtain ⟨σ7, eσ7, h⟩ := k_ltx h
        rw [← eσ7] at hP
        refine lv_aload_n hx hb dX3_after_65 rfl (lv_at hl 1 rfl) ?_
        refine r_get C hP (ci := 3) rfl uin_X3 1 (by decide) 0 (by decide) rfl qFL_RX3_16 rfl rfl dX3_after_66 ?_
        refine lv_bipush (v := (-100)) hx hb dX3_after_69 (by decide) ?_
        refine lv_bipush (v := 100) hx hb dX3_after_71 (by decide) ?_
        refine lv_bipush (v := 6) hx hb dX3_after_73 (by decide) ?_
        obtain ⟨x9, σ8, h1, h⟩ := k_ob2 h
        refine k_callSi C hP hap hAA (c_X3_outcome l ev 10 (fun j => ad (j + 2)) (x_thought σ7) (-100) 100 6   _ _ h1) (em_G2) (apart_1 _) gz_X3_outcome qML_RX3_314 qSM_yX3_outcome ⟨(Nat.le_of_ble_eq_true rfl), (Nat.le_of_ble_eq_true rfl)⟩ rfl hl.1 rfl (Nat.le_of_ble_eq_true rfl) dX3_after_75 ⟨Nat.le_refl _, Nat.le_refl _⟩ (fun H locs hP => ?_)
        obtain ⟨σ10, eσ10, h⟩ := k_ltx h
        rw [← eσ10] at hP
        refine lv_ineg hx hb dX3_after_78 ?_
        exact e_iret C hend hP (k_some2 h).1 (congrArg (xw ev ad) (k_some2 h).2) dX3_after_79
      · have h := k_nf c36 h
        refine lv_aload_n hx hb dX3_after_39 rfl (lv_at hl 1 rfl) ?_
        refine lv_bipush (v := (-5)) hx hb dX3_after_40 (by decide) ?_
        obtain ⟨x12, σ11, h1, h⟩ := k_ob2 h
        refine k_callVi C hP hap hAA (c_X3_refuseLead l ev ad σ (-5)   _ _ h1) Emb.same hap gz_X3_refuseLead qML_RX3_258 qIM_yX3_refuseLead qSE_yX3_refuseLead ⟨(Nat.le_of_ble_eq_true rfl), (Nat.le_of_ble_eq_true rfl)⟩ (q0 := 0) rfl (by decide) rfl rfl rfl rfl hl.1 rfl (Nat.le_of_ble_eq_true rfl) dX3_after_42 ⟨Nat.le_refl _, Nat.le_refl _⟩ (fun H locs hP => ?_)
        exact e_iret C hend hP (k_some2 h).1 (congrArg (xw ev ad) (k_some2 h).2) dX3_after_45
  · have h := k_if c11 h
    refine lv_aload_n hx hb dX3_after_14 rfl (lv_at hl 1 rfl) ?_
    refine lv_bipush (v := (-2)) hx hb dX3_after_15 (by decide) ?_
    obtain ⟨x14, σ13, h1, h⟩ := k_ob2 h
    refine k_callVi C hP hap hAA (c_X3_refuseLead l ev ad σ (-2)   _ _ h1) Emb.same hap gz_X3_refuseLead qML_RX3_258 qIM_yX3_refuseLead qSE_yX3_refuseLead ⟨(Nat.le_of_ble_eq_true rfl), (Nat.le_of_ble_eq_true rfl)⟩ (q0 := 0) rfl (by decide) rfl rfl rfl rfl hl.1 rfl (Nat.le_of_ble_eq_true rfl) dX3_after_17 ⟨Nat.le_refl _, Nat.le_refl _⟩ (fun H locs hP => ?_)
    exact e_iret C hend hP (k_some2 h).1 (congrArg (xw ev ad) (k_some2 h).2) dX3_after_20
