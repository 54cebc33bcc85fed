/-! functions read off, and their contracts: by program (wip/whole/gen2.py) -/
def f_X3_calm (σ : XX) : Option (Int32) :=
  ob (f_X0_calmEdges (x_now σ)) (fun y1 => some (f_J13_bitCount_95d88 y1))
set_option maxHeartbeats 4000000 in
set_option maxRecDepth 100000 in
theorem c_X3_calm (l : Launch) (ev : EV) (ad : Nat → Nat) (σ : XX)   (r : Int32)  (h : f_X3_calm σ = some r) : Ct l yX3_calm prog_1_method_29_code 1 (Option.some Jvm.ClassFile.FieldType.int) (rmk 3 77) ev 26 ad (xw ev ad σ) (xw ev ad σ) [.ref (ad 0)] (some (.int r)) := by
  refine Ct.of (by decide +kernel) (Nat.le_of_ble_eq_true rfl) ?_
  intro p e s m args below meth c Qc C hap hP hend ls hl
  have hAA : ∀ j, j < 26 → inA ad 26 (ad j) := fun j hj => ⟨j, hj, rfl⟩
  have hx := C.1
  have hb := C.2.1
  have hl : lv_has ls 1 [(0, .ref (ad 0))] := hl
  have h := (f_X3_calm.eq_1 _ ).symm.trans h
  refine lv_aload_n hx hb dX3_calm_0 rfl (lv_at hl 0 rfl) ?_
  refine r_get C hP (ci := 3) rfl uin_X3 0 (by decide) 0 (by decide) rfl qFL_RX3_10 rfl rfl dX3_calm_1 ?_
  obtain ⟨y1, h1, h⟩ := k_ob h
  refine k_callVl C hP hap hAA (c_X0_calmEdges l ev (fun j => ad (j + 1)) (x_now σ)   _ h1) (em_G1r) (apart_1 _) gz_X0_calmEdges qML_RX3_290 qIM_yX0_calmEdges qSE_yX0_calmEdges ⟨(Nat.le_of_ble_eq_true rfl), (Nat.le_of_ble_eq_true rfl)⟩ (q0 := 1) rfl (by decide) rfl rfl rfl rfl hl.1 rfl (Nat.le_of_ble_eq_true rfl) dX3_calm_4 ⟨Nat.le_refl _, Nat.le_refl _⟩ (fun H locs hP => ?_)
  refine k_callSi C hP hap hAA (c_J13_bitCount_95d88 l ev ad y1   _ rfl) Emb.none (apart_0 _) gz_J13_bitCount_95d88 qML_RX3_131 qSM_yJ13_bitCount_95d88 ⟨(Nat.le_of_ble_eq_true rfl), (Nat.le_of_ble_eq_true rfl)⟩ rfl hl.1 rfl (Nat.le_of_ble_eq_true rfl) dX3_calm_7 ⟨Nat.le_refl _, Nat.le_refl _⟩ (fun H locs hP => ?_)
  exact e_iret C hend hP (k_some h) rfl dX3_calm_10
def f_X3_part (σ : XX) (a1 : Int32) : Option (Int32 × XX) :=
  if (f_X0_isField (x_now σ) a1) = true then ob (f_X0_hanging (x_now σ) (ishl 1 a1) (g_all (x_now σ)) (g_hedges (x_now σ))) (fun x3 => some (x3, σ)) else ob2 (f_X3_refuse σ (-2)) (fun x2 σ1 => some (x2, σ1))
set_option maxHeartbeats 4000000 in
set_option maxRecDepth 100000 in
theorem c_X3_part (l : Launch) (ev : EV) (ad : Nat → Nat) (σ : XX) (a1 : Int32)   (r : Int32) (σ' : XX) (h : f_X3_part σ a1 = some (r, σ')) : Ct l yX3_part prog_1_method_30_code 2 (Option.some Jvm.ClassFile.FieldType.int) (rmk 3 80) ev 26 ad (xw ev ad σ) (xw ev ad σ') [.ref (ad 0), .int a1] (some (.int r)) := by
  refine Ct.of (by decide +kernel) (Nat.le_of_ble_eq_true rfl) ?_
  intro p e s m args below meth c Qc C hap hP hend ls hl
  have hAA : ∀ j, j < 26 → inA ad 26 (ad j) := fun j hj => ⟨j, hj, rfl⟩
  have hx := C.1
  have hb := C.2.1
  have hl : lv_has ls 2 [(0, .ref (ad 0)), (1, .int a1)] := hl
  have h := (f_X3_part.eq_1 _ _ ).symm.trans h
  refine lv_aload_n hx hb dX3_part_0 rfl (lv_at hl 0 rfl) ?_
  refine r_get C hP (ci := 3) rfl uin_X3 0 (by decide) 0 (by decide) rfl qFL_RX3_10 rfl rfl dX3_part_1 ?_
  refine lv_iload_n hx hb dX3_part_4 rfl (lv_at hl 1 rfl) ?_
  refine k_callVi C hP hap hAA (c_X0_isField l ev (fun j => ad (j + 1)) (x_now σ) a1   _ rfl) (em_G1r) (apart_1 _) gz_X0_isField qML_RX3_179 qIM_yX0_isField qSE_yX0_isField ⟨(Nat.le_of_ble_eq_true rfl), (Nat.le_of_ble_eq_true rfl)⟩ (q0 := 1) rfl (by decide) rfl rfl rfl rfl hl.1 rfl (Nat.le_of_ble_eq_true rfl) dX3_part_5 ⟨Nat.le_refl _, Nat.le_refl _⟩ (fun H locs hP => ?_)
  refine r_ifz_eq (tgt := 38) hx hb dX3_part_8 (by decide) (fun c8 => ?_) (fun c8 => ?_)
  · have h := k_nf c8 h
    refine lv_aload_n hx hb dX3_part_38 rfl (lv_at hl 0 rfl) ?_
    refine lv_bipush (v := (-2)) hx hb dX3_part_39 (by decide) ?_
    obtain ⟨x2, σ1, h1, h⟩ := k_ob2 h
    refine k_callVi C hP hap hAA (c_X3_refuse l ev ad σ (-2)   _ _ h1) Emb.same hap gz_X3_refuse qML_RX3_60 qIM_yX3_refuse qSE_yX3_refuse ⟨(Nat.le_of_ble_eq_true rfl), (Nat.le_of_ble_eq_true rfl)⟩ (q0 := 0) rfl (by decide) rfl rfl rfl rfl hl.1 rfl (Nat.le_of_ble_eq_true rfl) dX3_part_41 ⟨Nat.le_refl _, Nat.le_refl _⟩ (fun H locs hP => ?_)
    exact e_iret C hend hP (k_some2 h).1 (congrArg (xw ev ad) (k_some2 h).2) dX3_part_44
  · have h := k_if c8 h
    refine lv_aload_n hx hb dX3_part_11 rfl (lv_at hl 0 rfl) ?_
    refine r_get C hP (ci := 3) rfl uin_X3 0 (by decide) 0 (by decide) rfl qFL_RX3_10 rfl rfl dX3_part_12 ?_
    refine lv_iconst (v := 1) hx hb dX3_part_15 (by decide) ?_
    refine lv_iload_n hx hb dX3_part_16 rfl (lv_at hl 1 rfl) ?_
    refine r_ishl hx hb dX3_part_17 ?_
    refine lv_aload_n hx hb dX3_part_18 rfl (lv_at hl 0 rfl) ?_
    refine r_get C hP (ci := 3) rfl uin_X3 0 (by decide) 0 (by decide) rfl qFL_RX3_10 rfl rfl dX3_part_19 ?_
    refine r_get C hP (ci := 0) rfl uin_X0 5 (by decide) 1 (by decide) rfl qFL_RX3_293 rfl rfl dX3_part_22 ?_
    refine lv_aload_n hx hb dX3_part_25 rfl (lv_at hl 0 rfl) ?_
    refine r_get C hP (ci := 3) rfl uin_X3 0 (by decide) 0 (by decide) rfl qFL_RX3_10 rfl rfl dX3_part_26 ?_
    refine r_get C hP (ci := 0) rfl uin_X0 9 (by decide) 1 (by decide) rfl qFL_RX3_185 rfl rfl dX3_part_29 ?_
    obtain ⟨x3, h1, h⟩ := k_ob h
    refine k_callVi C hP hap hAA (c_X0_hanging l ev (fun j => ad (j + 1)) (x_now σ) (ishl 1 a1) (g_all (x_now σ)) (g_hedges (x_now σ))   _ h1) (em_G1r) (apart_1 _) gz_X0_hanging qML_RX3_264 qIM_yX0_hanging qSE_yX0_hanging ⟨(Nat.le_of_ble_eq_true rfl), (Nat.le_of_ble_eq_true rfl)⟩ (q0 := 1) rfl (by decide) rfl rfl rfl rfl hl.1 rfl (Nat.le_of_ble_eq_true rfl) dX3_part_32 ⟨Nat.le_refl _, Nat.le_refl _⟩ (fun H locs hP => ?_)
    refine lv_goto (tgt := 44) hx hb dX3_part_35 (by decide) ?_
    exact e_iret C hend hP (k_some2 h).1 (congrArg (xw ev ad) (k_some2 h).2) dX3_part_44
def f_X3_parts (σ : XX) : Option (Int32) :=
  ob (f_X0_countHanging (x_now σ) (g_all (x_now σ)) (g_hedges (x_now σ))) (fun x1 => some x1)
set_option maxHeartbeats 4000000 in
set_option maxRecDepth 100000 in
theorem c_X3_parts (l : Launch) (ev : EV) (ad : Nat → Nat) (σ : XX)   (r : Int32)  (h : f_X3_parts σ = some r) : Ct l yX3_parts prog_1_method_31_code 1 (Option.some Jvm.ClassFile.FieldType.int) (rmk 4 106) ev 26 ad (xw ev ad σ) (xw ev ad σ) [.ref (ad 0)] (some (.int r)) := by
  refine Ct.of (by decide +kernel) (Nat.le_of_ble_eq_true rfl) ?_
  intro p e s m args below meth c Qc C hap hP hend ls hl
  have hAA : ∀ j, j < 26 → inA ad 26 (ad j) := fun j hj => ⟨j, hj, rfl⟩
  have hx := C.1
  have hb := C.2.1
  have hl : lv_has ls 1 [(0, .ref (ad 0))] := hl
  have h := (f_X3_parts.eq_1 _ ).symm.trans h
  refine lv_aload_n hx hb dX3_parts_0 rfl (lv_at hl 0 rfl) ?_
  refine r_get C hP (ci := 3) rfl uin_X3 0 (by decide) 0 (by decide) rfl qFL_RX3_10 rfl rfl dX3_parts_1 ?_
  refine lv_aload_n hx hb dX3_parts_4 rfl (lv_at hl 0 rfl) ?_
  refine r_get C hP (ci := 3) rfl uin_X3 0 (by decide) 0 (by decide) rfl qFL_RX3_10 rfl rfl dX3_parts_5 ?_
  refine r_get C hP (ci := 0) rfl uin_X0 5 (by decide) 1 (by decide) rfl qFL_RX3_293 rfl rfl dX3_parts_8 ?_
  refine lv_aload_n hx hb dX3_parts_11 rfl (lv_at hl 0 rfl) ?_
  refine r_get C hP (ci := 3) rfl uin_X3 0 (by decide) 0 (by decide) rfl qFL_RX3_10 rfl rfl dX3_parts_12 ?_
  refine r_get C hP (ci := 0) rfl uin_X0 9 (by decide) 1 (by decide) rfl qFL_RX3_185 rfl rfl dX3_parts_15 ?_
  obtain ⟨x1, h1, h⟩ := k_ob h
  refine k_callVi C hP hap hAA (c_X0_countHanging l ev (fun j => ad (j + 1)) (x_now σ) (g_all (x_now σ)) (g_hedges (x_now σ))   _ h1) (em_G1r) (apart_1 _) gz_X0_countHanging qML_RX3_296 qIM_yX0_countHanging qSE_yX0_countHanging ⟨(Nat.le_of_ble_eq_true rfl), (Nat.le_of_ble_eq_true rfl)⟩ (q0 := 1) rfl (by decide) rfl rfl rfl rfl hl.1 rfl (Nat.le_of_ble_eq_true rfl) dX3_parts_18 ⟨Nat.le_refl _, Nat.le_refl _⟩ (fun H locs hP => ?_)
  exact e_iret C hend hP (k_some h) rfl dX3_parts_21
def f_X3_ditches (σ : XX) : Option (Int32) :=
  ob (f_X0_countHanging (x_now σ) (g_dug (x_now σ)) 0) (fun x1 => some x1)
set_option maxHeartbeats 4000000 in
set_option maxRecDepth 100000 in
theorem c_X3_ditches (l : Launch) (ev : EV) (ad : Nat → Nat) (σ : XX)   (r : Int32)  (h : f_X3_ditches σ = some r) : Ct l yX3_ditches prog_1_method_32_code 1 (Option.some Jvm.ClassFile.FieldType.int) (rmk 4 106) ev 26 ad (xw ev ad σ) (xw ev ad σ) [.ref (ad 0)] (some (.int r)) := by
  refine Ct.of (by decide +kernel) (Nat.le_of_ble_eq_true rfl) ?_
  intro p e s m args below meth c Qc C hap hP hend ls hl
  have hAA : ∀ j, j < 26 → inA ad 26 (ad j) := fun j hj => ⟨j, hj, rfl⟩
  have hx := C.1
  have hb := C.2.1
  have hl : lv_has ls 1 [(0, .ref (ad 0))] := hl
  have h := (f_X3_ditches.eq_1 _ ).symm.trans h
  refine lv_aload_n hx hb dX3_ditches_0 rfl (lv_at hl 0 rfl) ?_
  refine r_get C hP (ci := 3) rfl uin_X3 0 (by decide) 0 (by decide) rfl qFL_RX3_10 rfl rfl dX3_ditches_1 ?_
  refine lv_aload_n hx hb dX3_ditches_4 rfl (lv_at hl 0 rfl) ?_
  refine r_get C hP (ci := 3) rfl uin_X3 0 (by decide) 0 (by decide) rfl qFL_RX3_10 rfl rfl dX3_ditches_5 ?_
  refine r_get C hP (ci := 0) rfl uin_X0 10 (by decide) 1 (by decide) rfl qFL_RX3_189 rfl rfl dX3_ditches_8 ?_
  refine lv_lconst (v := 0) hx hb dX3_ditches_11 (by decide) ?_
  obtain ⟨x1, h1, h⟩ := k_ob h
  refine k_callVi C hP hap hAA (c_X0_countHanging l ev (fun j => ad (j + 1)) (x_now σ) (g_dug (x_now σ)) 0   _ h1) (em_G1r) (apart_1 _) gz_X0_countHanging qML_RX3_296 qIM_yX0_countHanging qSE_yX0_countHanging ⟨(Nat.le_of_ble_eq_true rfl), (Nat.le_of_ble_eq_true rfl)⟩ (q0 := 1) rfl (by decide) rfl rfl rfl rfl hl.1 rfl (Nat.le_of_ble_eq_true rfl) dX3_ditches_12 ⟨Nat.le_refl _, Nat.le_refl _⟩ (fun H locs hP => ?_)
  exact e_iret C hend hP (k_some h) rfl dX3_ditches_15
def f_X3_owned (σ : XX) (a1 : Int32) : Option (Int32 × XX) :=
  if (f_X3_isSeat a1) = true then some ((f_X0_ownedBy (x_now σ) a1), σ) else ob2 (f_X3_refuse σ (-2)) (fun x2 σ1 => some (x2, σ1))
set_option maxHeartbeats 4000000 in
set_option maxRecDepth 100000 in
theorem c_X3_owned (l : Launch) (ev : EV) (ad : Nat → Nat) (σ : XX) (a1 : Int32)   (r : Int32) (σ' : XX) (h : f_X3_owned σ a1 = some (r, σ')) : Ct l yX3_owned prog_1_method_33_code 2 (Option.some Jvm.ClassFile.FieldType.int) (rmk 1 22) ev 26 ad (xw ev ad σ) (xw ev ad σ') [.ref (ad 0), .int a1] (some (.int r)) := by
  refine Ct.of (by decide +kernel) (Nat.le_of_ble_eq_true rfl) ?_
  intro p e s m args below meth c Qc C hap hP hend ls hl
  have hAA : ∀ j, j < 26 → inA ad 26 (ad j) := fun j hj => ⟨j, hj, rfl⟩
  have hx := C.1
  have hb := C.2.1
  have hl : lv_has ls 2 [(0, .ref (ad 0)), (1, .int a1)] := hl
  have h := (f_X3_owned.eq_1 _ _ ).symm.trans h
  refine lv_iload_n hx hb dX3_owned_0 rfl (lv_at hl 1 rfl) ?_
  refine k_callSi C hP hap hAA (c_X3_isSeat l ev ad a1   _ rfl) Emb.none (apart_0 _) gz_X3_isSeat qML_RX3_153 qSM_yX3_isSeat ⟨(Nat.le_of_ble_eq_true rfl), (Nat.le_of_ble_eq_true rfl)⟩ rfl hl.1 rfl (Nat.le_of_ble_eq_true rfl) dX3_owned_1 ⟨Nat.le_refl _, Nat.le_refl _⟩ (fun H locs hP => ?_)
  refine r_ifz_eq (tgt := 18) hx hb dX3_owned_4 (by decide) (fun c4 => ?_) (fun c4 => ?_)
  · have h := k_nf c4 h
    refine lv_aload_n hx hb dX3_owned_18 rfl (lv_at hl 0 rfl) ?_
    refine lv_bipush (v := (-2)) hx hb dX3_owned_19 (by decide) ?_
    obtain ⟨x2, σ1, h1, h⟩ := k_ob2 h
    refine k_callVi C hP hap hAA (c_X3_refuse l ev ad σ (-2)   _ _ h1) Emb.same hap gz_X3_refuse qML_RX3_60 qIM_yX3_refuse qSE_yX3_refuse ⟨(Nat.le_of_ble_eq_true rfl), (Nat.le_of_ble_eq_true rfl)⟩ (q0 := 0) rfl (by decide) rfl rfl rfl rfl hl.1 rfl (Nat.le_of_ble_eq_true rfl) dX3_owned_21 ⟨Nat.le_refl _, Nat.le_refl _⟩ (fun H locs hP => ?_)
    exact e_iret C hend hP (k_some2 h).1 (congrArg (xw ev ad) (k_some2 h).2) dX3_owned_24
  · have h := k_if c4 h
    refine lv_aload_n hx hb dX3_owned_7 rfl (lv_at hl 0 rfl) ?_
    refine r_get C hP (ci := 3) rfl uin_X3 0 (by decide) 0 (by decide) rfl qFL_RX3_10 rfl rfl dX3_owned_8 ?_
    refine lv_iload_n hx hb dX3_owned_11 rfl (lv_at hl 1 rfl) ?_
    refine k_callVi C hP hap hAA (c_X0_ownedBy l ev (fun j => ad (j + 1)) (x_now σ) a1   _ rfl) (em_G1r) (apart_1 _) gz_X0_ownedBy qML_RX3_300 qIM_yX0_ownedBy qSE_yX0_ownedBy ⟨(Nat.le_of_ble_eq_true rfl), (Nat.le_of_ble_eq_true rfl)⟩ (q0 := 1) rfl (by decide) rfl rfl rfl rfl hl.1 rfl (Nat.le_of_ble_eq_true rfl) dX3_owned_12 ⟨Nat.le_refl _, Nat.le_refl _⟩ (fun H locs hP => ?_)
    refine lv_goto (tgt := 24) hx hb dX3_owned_15 (by decide) ?_
    exact e_iret C hend hP (k_some2 h).1 (congrArg (xw ev ad) (k_some2 h).2) dX3_owned_24
def f_X3_coloured (σ : XX) (a1 : Int32) : Option (Int32 × XX) :=
  if (f_X3_isSeat a1) = true then ob (f_X0_tinted (x_now σ) a1) (fun x3 => some (x3, σ)) else ob2 (f_X3_refuse σ (-2)) (fun x2 σ1 => some (x2, σ1))
set_option maxHeartbeats 4000000 in
set_option maxRecDepth 100000 in
theorem c_X3_coloured (l : Launch) (ev : EV) (ad : Nat → Nat) (σ : XX) (a1 : Int32)   (r : Int32) (σ' : XX) (h : f_X3_coloured σ a1 = some (r, σ')) : Ct l yX3_coloured prog_1_method_34_code 2 (Option.some Jvm.ClassFile.FieldType.int) (rmk 6 142) ev 26 ad (xw ev ad σ) (xw ev ad σ') [.ref (ad 0), .int a1] (some (.int r)) := by
  refine Ct.of (by decide +kernel) (Nat.le_of_ble_eq_true rfl) ?_
  intro p e s m args below meth c Qc C hap hP hend ls hl
  have hAA : ∀ j, j < 26 → inA ad 26 (ad j) := fun j hj => ⟨j, hj, rfl⟩
  have hx := C.1
  have hb := C.2.1
  have hl : lv_has ls 2 [(0, .ref (ad 0)), (1, .int a1)] := hl
  have h := (f_X3_coloured.eq_1 _ _ ).symm.trans h
  refine lv_iload_n hx hb dX3_coloured_0 rfl (lv_at hl 1 rfl) ?_
  refine k_callSi C hP hap hAA (c_X3_isSeat l ev ad a1   _ rfl) Emb.none (apart_0 _) gz_X3_isSeat qML_RX3_153 qSM_yX3_isSeat ⟨(Nat.le_of_ble_eq_true rfl), (Nat.le_of_ble_eq_true rfl)⟩ rfl hl.1 rfl (Nat.le_of_ble_eq_true rfl) dX3_coloured_1 ⟨Nat.le_refl _, Nat.le_refl _⟩ (fun H locs hP => ?_)
  refine r_ifz_eq (tgt := 18) hx hb dX3_coloured_4 (by decide) (fun c4 => ?_) (fun c4 => ?_)
  · have h := k_nf c4 h
    refine lv_aload_n hx hb dX3_coloured_18 rfl (lv_at hl 0 rfl) ?_
    refine lv_bipush (v := (-2)) hx hb dX3_coloured_19 (by decide) ?_
    obtain ⟨x2, σ1, h1, h⟩ := k_ob2 h
    refine k_callVi C hP hap hAA (c_X3_refuse l ev ad σ (-2)   _ _ h1) Emb.same hap gz_X3_refuse qML_RX3_60 qIM_yX3_refuse qSE_yX3_refuse ⟨(Nat.le_of_ble_eq_true rfl), (Nat.le_of_ble_eq_true rfl)⟩ (q0 := 0) rfl (by decide) rfl rfl rfl rfl hl.1 rfl (Nat.le_of_ble_eq_true rfl) dX3_coloured_21 ⟨Nat.le_refl _, Nat.le_refl _⟩ (fun H locs hP => ?_)
    exact e_iret C hend hP (k_some2 h).1 (congrArg (xw ev ad) (k_some2 h).2) dX3_coloured_24
  · have h := k_if c4 h
    refine lv_aload_n hx hb dX3_coloured_7 rfl (lv_at hl 0 rfl) ?_
    refine r_get C hP (ci := 3) rfl uin_X3 0 (by decide) 0 (by decide) rfl qFL_RX3_10 rfl rfl dX3_coloured_8 ?_
    refine lv_iload_n hx hb dX3_coloured_11 rfl (lv_at hl 1 rfl) ?_
    obtain ⟨x3, h1, h⟩ := k_ob h
    refine k_callVi C hP hap hAA (c_X0_tinted l ev (fun j => ad (j + 1)) (x_now σ) a1   _ h1) (em_G1r) (apart_1 _) gz_X0_tinted qML_RX3_206 qIM_yX0_tinted qSE_yX0_tinted ⟨(Nat.le_of_ble_eq_true rfl), (Nat.le_of_ble_eq_true rfl)⟩ (q0 := 1) rfl (by decide) rfl rfl rfl rfl hl.1 rfl (Nat.le_of_ble_eq_true rfl) dX3_coloured_12 ⟨Nat.le_refl _, Nat.le_refl _⟩ (fun H locs hP => ?_)
    refine lv_goto (tgt := 24) hx hb dX3_coloured_15 (by decide) ?_
    exact e_iret C hend hP (k_some2 h).1 (congrArg (xw ev ad) (k_some2 h).2) dX3_coloured_24
def f_X3_gives (σ : XX) (a1 : Int32) : Option (Int32 × XX) :=
  if (f_X0_isEdge (x_now σ) a1) = true then if (f_X0_isHedged (x_now σ) a1) = true then ob2 (f_X3_refuse σ (-5)) (fun x4 σ3 => some (x4, σ3)) else ob (f_X0_withThree (x_now σ) ((g_hedges (x_now σ)) ||| (lshl 1 a1))) (fun x1 => ob (f_X0_withThree (x_now σ) (g_hedges (x_now σ))) (fun x2 => some ((f_J6_bitCount_0f7a4 (x1 &&& (x2 ^^^ (-1)))), σ))) else ob2 (f_X3_refuse σ (-2)) (fun x6 σ5 => some (x6, σ5))
set_option maxHeartbeats 4000000 in
set_option maxRecDepth 100000 in
theorem c_X3_gives (l : Launch) (ev : EV) (ad : Nat → Nat) (σ : XX) (a1 : Int32)   (r : Int32) (σ' : XX) (h : f_X3_gives σ a1 = some (r, σ')) : Ct l yX3_gives prog_1_method_35_code 2 (Option.some Jvm.ClassFile.FieldType.int) (rmk 2 52) ev 26 ad (xw ev ad σ) (xw ev ad σ') [.ref (ad 0), .int a1] (some (.int r)) := by
  refine Ct.of (by decide +kernel) (Nat.le_of_ble_eq_true rfl) ?_
  intro p e s m args below meth c Qc C hap hP hend ls hl
  have hAA : ∀ j, j < 26 → inA ad 26 (ad j) := fun j hj => ⟨j, hj, rfl⟩
  have hx := C.1
  have hb := C.2.1
  have hl : lv_has ls 2 [(0, .ref (ad 0)), (1, .int a1)] := hl
  have h := (f_X3_gives.eq_1 _ _ ).symm.trans h
  refine lv_aload_n hx hb dX3_gives_0 rfl (lv_at hl 0 rfl) ?_
  refine r_get C hP (ci := 3) rfl uin_X3 0 (by decide) 0 (by decide) rfl qFL_RX3_10 rfl rfl dX3_gives_1 ?_
  refine lv_iload_n hx hb dX3_gives_4 rfl (lv_at hl 1 rfl) ?_
  refine k_callVi C hP hap hAA (c_X0_isEdge l ev (fun j => ad (j + 1)) (x_now σ) a1   _ rfl) (em_G1r) (apart_1 _) gz_X0_isEdge qML_RX3_227 qIM_yX0_isEdge qSE_yX0_isEdge ⟨(Nat.le_of_ble_eq_true rfl), (Nat.le_of_ble_eq_true rfl)⟩ (q0 := 1) rfl (by decide) rfl rfl rfl rfl hl.1 rfl (Nat.le_of_ble_eq_true rfl) dX3_gives_5 ⟨Nat.le_refl _, Nat.le_refl _⟩ (fun H locs hP => ?_)
  refine r_ifz_ne (tgt := 18) hx hb dX3_gives_8 (by decide) (fun c8 => ?_) (fun c8 => ?_)
  · have h := k_if c8 h
    refine lv_aload_n hx hb dX3_gives_18 rfl (lv_at hl 0 rfl) ?_
    refine r_get C hP (ci := 3) rfl uin_X3 0 (by decide) 0 (by decide) rfl qFL_RX3_10 rfl rfl dX3_gives_19 ?_
    refine lv_iload_n hx hb dX3_gives_22 rfl (lv_at hl 1 rfl) ?_
    refine k_callVi C hP hap hAA (c_X0_isHedged l ev (fun j => ad (j + 1)) (x_now σ) a1   _ rfl) (em_G1r) (apart_1 _) gz_X0_isHedged qML_RX3_230 qIM_yX0_isHedged qSE_yX0_isHedged ⟨(Nat.le_of_ble_eq_true rfl), (Nat.le_of_ble_eq_true rfl)⟩ (q0 := 1) rfl (by decide) rfl rfl rfl rfl hl.1 rfl (Nat.le_of_ble_eq_true rfl) dX3_gives_23 ⟨Nat.le_refl _, Nat.le_refl _⟩ (fun H locs hP => ?_)
    refine r_ifz_eq (tgt := 36) hx hb dX3_gives_26 (by decide) (fun c26 => ?_) (fun c26 => ?_)
    · have h := k_nf c26 h
      refine lv_aload_n hx hb dX3_gives_36 rfl (lv_at hl 0 rfl) ?_
      refine r_get C hP (ci := 3) rfl uin_X3 0 (by decide) 0 (by decide) rfl qFL_RX3_10 rfl rfl dX3_gives_37 ?_
      refine lv_aload_n hx hb dX3_gives_40 rfl (lv_at hl 0 rfl) ?_
      refine r_get C hP (ci := 3) rfl uin_X3 0 (by decide) 0 (by decide) rfl qFL_RX3_10 rfl rfl dX3_gives_41 ?_
      refine r_get C hP (ci := 0) rfl uin_X0 9 (by decide) 1 (by decide) rfl qFL_RX3_185 rfl rfl dX3_gives_44 ?_
      refine lv_lconst (v := 1) hx hb dX3_gives_47 (by decide) ?_
      refine lv_iload_n hx hb dX3_gives_48 rfl (lv_at hl 1 rfl) ?_
      refine r_lshl hx hb dX3_gives_49 ?_
      refine lv_lor hx hb dX3_gives_50 ?_
      obtain ⟨x1, h1, h⟩ := k_ob h
      refine k_callVi C hP hap hAA (c_X0_withThree l ev (fun j => ad (j + 1)) (x_now σ) ((g_hedges (x_now σ)) ||| (lshl 1 a1))   _ h1) (em_G1r) (apart_1 _) gz_X0_withThree qML_RX3_271 qIM_yX0_withThree qSE_yX0_withThree ⟨(Nat.le_of_ble_eq_true rfl), (Nat.le_of_ble_eq_true rfl)⟩ (q0 := 1) rfl (by decide) rfl rfl rfl rfl hl.1 rfl (Nat.le_of_ble_eq_true rfl) dX3_gives_51 ⟨Nat.le_refl _, Nat.le_refl _⟩ (fun H locs hP => ?_)
      refine lv_aload_n hx hb dX3_gives_54 rfl (lv_at hl 0 rfl) ?_
      refine r_get C hP (ci := 3) rfl uin_X3 0 (by decide) 0 (by decide) rfl qFL_RX3_10 rfl rfl dX3_gives_55 ?_
      refine lv_aload_n hx hb dX3_gives_58 rfl (lv_at hl 0 rfl) ?_
      refine r_get C hP (ci := 3) rfl uin_X3 0 (by decide) 0 (by decide) rfl qFL_RX3_10 rfl rfl dX3_gives_59 ?_
      refine r_get C hP (ci := 0) rfl uin_X0 9 (by decide) 1 (by decide) rfl qFL_RX3_185 rfl rfl dX3_gives_62 ?_
      obtain ⟨x2, h1, h⟩ := k_ob h
      refine k_callVi C hP hap hAA (c_X0_withThree l ev (fun j => ad (j + 1)) (x_now σ) (g_hedges (x_now σ))   _ h1) (em_G1r) (apart_1 _) gz_X0_withThree qML_RX3_271 qIM_yX0_withThree qSE_yX0_withThree ⟨(Nat.le_of_ble_eq_true rfl), (Nat.le_of_ble_eq_true rfl)⟩ (q0 := 1) rfl (by decide) rfl rfl rfl rfl hl.1 rfl (Nat.le_of_ble_eq_true rfl) dX3_gives_65 ⟨Nat.le_refl _, Nat.le_refl _⟩ (fun H locs hP => ?_)
      refine lv_iconst (v := (-1)) hx hb dX3_gives_68 (by decide) ?_
      refine lv_ixor hx hb dX3_gives_69 ?_
      refine lv_iand hx hb dX3_gives_70 ?_
      refine k_callSi C hP hap hAA (c_J6_bitCount_0f7a4 l ev ad (x1 &&& (x2 ^^^ (-1)))   _ rfl) Emb.none (apart_0 _) gz_J6_bitCount_0f7a4 qML_RX3_286 qSM_yJ6_bitCount_0f7a4 ⟨(Nat.le_of_ble_eq_true rfl), (Nat.le_of_ble_eq_true rfl)⟩ rfl hl.1 rfl (Nat.le_of_ble_eq_true rfl) dX3_gives_71 ⟨Nat.le_refl _, Nat.le_refl _⟩ (fun H locs hP => ?_)
      exact e_iret C hend hP (k_some2 h).1 (congrArg (xw ev ad) (k_some2 h).2) dX3_gives_74
    · have h := k_if c26 h
      refine lv_aload_n hx hb dX3_gives_29 rfl (lv_at hl 0 rfl) ?_
      refine lv_bipush (v := (-5)) hx hb dX3_gives_30 (by decide) ?_
      obtain ⟨x4, σ3, h1, h⟩ := k_ob2 h
      refine k_callVi C hP hap hAA (c_X3_refuse l ev ad σ (-5)   _ _ h1) Emb.same hap gz_X3_refuse qML_RX3_60 qIM_yX3_refuse qSE_yX3_refuse ⟨(Nat.le_of_ble_eq_true rfl), (Nat.le_of_ble_eq_true rfl)⟩ (q0 := 0) rfl (by decide) rfl rfl rfl rfl hl.1 rfl (Nat.le_of_ble_eq_true rfl) dX3_gives_32 ⟨Nat.le_refl _, Nat.le_refl _⟩ (fun H locs hP => ?_)
      exact e_iret C hend hP (k_some2 h).1 (congrArg (xw ev ad) (k_some2 h).2) dX3_gives_35
  · have h := k_nf c8 h
    refine lv_aload_n hx hb dX3_gives_11 rfl (lv_at hl 0 rfl) ?_
    refine lv_bipush (v := (-2)) hx hb dX3_gives_12 (by decide) ?_
    obtain ⟨x6, σ5, h1, h⟩ := k_ob2 h
    refine k_callVi C hP hap hAA (c_X3_refuse l ev ad σ (-2)   _ _ h1) Emb.same hap gz_X3_refuse qML_RX3_60 qIM_yX3_refuse qSE_yX3_refuse ⟨(Nat.le_of_ble_eq_true rfl), (Nat.le_of_ble_eq_true rfl)⟩ (q0 := 0) rfl (by decide) rfl rfl rfl rfl hl.1 rfl (Nat.le_of_ble_eq_true rfl) dX3_gives_14 ⟨Nat.le_refl _, Nat.le_refl _⟩ (fun H locs hP => ?_)
    exact e_iret C hend hP (k_some2 h).1 (congrArg (xw ev ad) (k_some2 h).2) dX3_gives_17
def f_X3_gaps (σ : XX) : Int32 :=
  (f_J13_bitCount_95d88 ((g_rimEdges (x_now σ)) &&& ((g_hedges (x_now σ)) ^^^ (-1))))
set_option maxHeartbeats 4000000 in
set_option maxRecDepth 100000 in
theorem c_X3_gaps (l : Launch) (ev : EV) (ad : Nat → Nat) (σ : XX)   (r : Int32)  (h : f_X3_gaps σ = r) : Ct l yX3_gaps prog_1_method_36_code 1 (Option.some Jvm.ClassFile.FieldType.int) (rmk 1 21) ev 26 ad (xw ev ad σ) (xw ev ad σ) [.ref (ad 0)] (some (.int r)) := by
  refine Ct.of (by decide +kernel) (Nat.le_of_ble_eq_true rfl) ?_
  intro p e s m args below meth c Qc C hap hP hend ls hl
  have hAA : ∀ j, j < 26 → inA ad 26 (ad j) := fun j hj => ⟨j, hj, rfl⟩
  have hx := C.1
  have hb := C.2.1
  have hl : lv_has ls 1 [(0, .ref (ad 0))] := hl
  have h := (f_X3_gaps.eq_1 _ ).symm.trans h
  refine lv_aload_n hx hb dX3_gaps_0 rfl (lv_at hl 0 rfl) ?_
  refine r_get C hP (ci := 3) rfl uin_X3 0 (by decide) 0 (by decide) rfl qFL_RX3_10 rfl rfl dX3_gaps_1 ?_
  refine r_get C hP (ci := 0) rfl uin_X0 8 (by decide) 1 (by decide) rfl qFL_RX3_221 rfl rfl dX3_gaps_4 ?_
  refine lv_aload_n hx hb dX3_gaps_7 rfl (lv_at hl 0 rfl) ?_
  refine r_get C hP (ci := 3) rfl uin_X3 0 (by decide) 0 (by decide) rfl qFL_RX3_10 rfl rfl dX3_gaps_8 ?_
  refine r_get C hP (ci := 0) rfl uin_X0 9 (by decide) 1 (by decide) rfl qFL_RX3_185 rfl rfl dX3_gaps_11 ?_
  refine lv_ldc2 (v := (-1)) hx hb C.2.2.2.2.2.1 (C.2.2.2.2.1 _ qCL_RX3_303) dX3_gaps_14 ?_
  refine lv_lxor hx hb dX3_gaps_17 ?_
  refine lv_land hx hb dX3_gaps_18 ?_
  refine k_callSi C hP hap hAA (c_J13_bitCount_95d88 l ev ad ((g_rimEdges (x_now σ)) &&& ((g_hedges (x_now σ)) ^^^ (-1)))   _ rfl) Emb.none (apart_0 _) gz_J13_bitCount_95d88 qML_RX3_131 qSM_yJ13_bitCount_95d88 ⟨(Nat.le_of_ble_eq_true rfl), (Nat.le_of_ble_eq_true rfl)⟩ rfl hl.1 rfl (Nat.le_of_ble_eq_true rfl) dX3_gaps_19 ⟨Nat.le_refl _, Nat.le_refl _⟩ (fun H locs hP => ?_)
  exact e_iret C hend hP h rfl dX3_gaps_22
def f_X3_rim (σ : XX) : Option (Int32) :=
  ob (f_X0_touched (x_now σ) (g_rimEdges (x_now σ))) (fun x1 => some x1)
set_option maxHeartbeats 4000000 in
set_option maxRecDepth 100000 in
theorem c_X3_rim (l : Launch) (ev : EV) (ad : Nat → Nat) (σ : XX)   (r : Int32)  (h : f_X3_rim σ = some r) : Ct l yX3_rim prog_1_method_37_code 1 (Option.some Jvm.ClassFile.FieldType.int) (rmk 2 48) ev 26 ad (xw ev ad σ) (xw ev ad σ) [.ref (ad 0)] (some (.int r)) := by
  refine Ct.of (by decide +kernel) (Nat.le_of_ble_eq_true rfl) ?_
  intro p e s m args below meth c Qc C hap hP hend ls hl
  have hAA : ∀ j, j < 26 → inA ad 26 (ad j) := fun j hj => ⟨j, hj, rfl⟩
  have hx := C.1
  have hb := C.2.1
  have hl : lv_has ls 1 [(0, .ref (ad 0))] := hl
  have h := (f_X3_rim.eq_1 _ ).symm.trans h
  refine lv_aload_n hx hb dX3_rim_0 rfl (lv_at hl 0 rfl) ?_
  refine r_get C hP (ci := 3) rfl uin_X3 0 (by decide) 0 (by decide) rfl qFL_RX3_10 rfl rfl dX3_rim_1 ?_
  refine lv_aload_n hx hb dX3_rim_4 rfl (lv_at hl 0 rfl) ?_
  refine r_get C hP (ci := 3) rfl uin_X3 0 (by decide) 0 (by decide) rfl qFL_RX3_10 rfl rfl dX3_rim_5 ?_
  refine r_get C hP (ci := 0) rfl uin_X0 8 (by decide) 1 (by decide) rfl qFL_RX3_221 rfl rfl dX3_rim_8 ?_
  obtain ⟨x1, h1, h⟩ := k_ob h
  refine k_callVi C hP hap hAA (c_X0_touched l ev (fun j => ad (j + 1)) (x_now σ) (g_rimEdges (x_now σ))   _ h1) (em_G1r) (apart_1 _) gz_X0_touched qML_RX3_224 qIM_yX0_touched qSE_yX0_touched ⟨(Nat.le_of_ble_eq_true rfl), (Nat.le_of_ble_eq_true rfl)⟩ (q0 := 1) rfl (by decide) rfl rfl rfl rfl hl.1 rfl (Nat.le_of_ble_eq_true rfl) dX3_rim_11 ⟨Nat.le_refl _, Nat.le_refl _⟩ (fun H locs hP => ?_)
  exact e_iret C hend hP (k_some h) rfl dX3_rim_14
