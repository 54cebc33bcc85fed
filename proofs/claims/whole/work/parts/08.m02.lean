/-! functions read off, and their contracts: by program (wip/whole/gen2.py) -/
def f_X0_scoreOf (σ : GG) (a1 : Int32) : Option (Int32) :=
  ob (f_X0_tinted σ a1) (fun x1 => ob (f_X0_tinted σ (1 - a1)) (fun x2 => some ((f_J6_bitCount_0f7a4 x1) + (f_X0_lanesAmong σ x2))))
set_option maxHeartbeats 4000000 in
set_option maxRecDepth 100000 in
theorem c_X0_scoreOf (l : Launch) (ev : EV) (ad : Nat → Nat) (σ : GG) (a1 : Int32)   (r : Int32)  (h : f_X0_scoreOf σ a1 = some r) : Ct l yX0_scoreOf prog_2_method_40_code 2 (Option.some Jvm.ClassFile.FieldType.int) (rmk 6 142) ev 1 ad (gw1 σ) (gw1 σ) [.ref (ad 0), .int a1] (some (.int r)) := by
  refine Ct.of (by decide +kernel) (Nat.le_of_ble_eq_true rfl) ?_
  intro p e s m args below meth c Qc C hap hP hend ls hl
  have hAA : ∀ j, j < 1 → inA ad 1 (ad j) := fun j hj => ⟨j, hj, rfl⟩
  have hx := C.1
  have hb := C.2.1
  have hl : lv_has ls 2 [(0, .ref (ad 0)), (1, .int a1)] := hl
  have h := (f_X0_scoreOf.eq_1 _ _ ).symm.trans h
  refine lv_aload_n hx hb dX0_scoreOf_0 rfl (lv_at hl 0 rfl) ?_
  refine lv_iload_n hx hb dX0_scoreOf_1 rfl (lv_at hl 1 rfl) ?_
  obtain ⟨x1, h1, h⟩ := k_ob h
  refine k_callVi C hP hap hAA (c_X0_tinted l ev ad σ a1   _ h1) Emb.same hap gz_X0_tinted qML_RX0_146 qIM_yX0_tinted qSE_yX0_tinted ⟨(Nat.le_of_ble_eq_true rfl), (Nat.le_of_ble_eq_true rfl)⟩ (q0 := 0) rfl (by decide) rfl rfl rfl rfl hl.1 rfl (Nat.le_of_ble_eq_true rfl) dX0_scoreOf_2 ⟨Nat.le_refl _, Nat.le_refl _⟩ (fun H locs hP => ?_)
  refine k_callSi C hP hap hAA (c_J6_bitCount_0f7a4 l ev ad x1   _ rfl) Emb.none (apart_0 _) gz_J6_bitCount_0f7a4 qML_RX0_141 qSM_yJ6_bitCount_0f7a4 ⟨(Nat.le_of_ble_eq_true rfl), (Nat.le_of_ble_eq_true rfl)⟩ rfl hl.1 rfl (Nat.le_of_ble_eq_true rfl) dX0_scoreOf_5 ⟨Nat.le_refl _, Nat.le_refl _⟩ (fun H locs hP => ?_)
  refine lv_aload_n hx hb dX0_scoreOf_8 rfl (lv_at hl 0 rfl) ?_
  refine lv_aload_n hx hb dX0_scoreOf_9 rfl (lv_at hl 0 rfl) ?_
  refine lv_iconst (v := 1) hx hb dX0_scoreOf_10 (by decide) ?_
  refine lv_iload_n hx hb dX0_scoreOf_11 rfl (lv_at hl 1 rfl) ?_
  refine lv_isub hx hb dX0_scoreOf_12 ?_
  obtain ⟨x2, h1, h⟩ := k_ob h
  refine k_callVi C hP hap hAA (c_X0_tinted l ev ad σ (1 - a1)   _ h1) Emb.same hap gz_X0_tinted qML_RX0_146 qIM_yX0_tinted qSE_yX0_tinted ⟨(Nat.le_of_ble_eq_true rfl), (Nat.le_of_ble_eq_true rfl)⟩ (q0 := 0) rfl (by decide) rfl rfl rfl rfl hl.1 rfl (Nat.le_of_ble_eq_true rfl) dX0_scoreOf_13 ⟨Nat.le_refl _, Nat.le_refl _⟩ (fun H locs hP => ?_)
  refine k_callVi C hP hap hAA (c_X0_lanesAmong l ev ad σ x2   _ rfl) Emb.same hap gz_X0_lanesAmong qML_RX0_149 qIM_yX0_lanesAmong qSE_yX0_lanesAmong ⟨(Nat.le_of_ble_eq_true rfl), (Nat.le_of_ble_eq_true rfl)⟩ (q0 := 0) rfl (by decide) rfl rfl rfl rfl hl.1 rfl (Nat.le_of_ble_eq_true rfl) dX0_scoreOf_16 ⟨Nat.le_refl _, Nat.le_refl _⟩ (fun H locs hP => ?_)
  refine lv_iadd hx hb dX0_scoreOf_19 ?_
  exact e_iret C hend hP (k_some h) rfl dX0_scoreOf_20
def f_X0_leadOf (σ : GG) (a1 : Int32) : Option (Int32) :=
  ob (f_X0_dryFields σ) (fun x1 => lt ((f_X0_ownedBy σ a1) &&& x1) (fun x2 => lt ((f_X0_ownedBy σ (1 - a1)) &&& x1) (fun x3 => some ((((f_J6_bitCount_0f7a4 x2) + (f_X0_lanesAmong σ x3)) - (f_J6_bitCount_0f7a4 x3)) - (f_X0_lanesAmong σ x2)))))
set_option maxHeartbeats 4000000 in
set_option maxRecDepth 100000 in
theorem c_X0_leadOf (l : Launch) (ev : EV) (ad : Nat → Nat) (σ : GG) (a1 : Int32)   (r : Int32)  (h : f_X0_leadOf σ a1 = some r) : Ct l yX0_leadOf prog_2_method_41_code 5 (Option.some Jvm.ClassFile.FieldType.int) (rmk 5 121) ev 1 ad (gw1 σ) (gw1 σ) [.ref (ad 0), .int a1] (some (.int r)) := by
  refine Ct.of (by decide +kernel) (Nat.le_of_ble_eq_true rfl) ?_
  intro p e s m args below meth c Qc C hap hP hend ls hl
  have hAA : ∀ j, j < 1 → inA ad 1 (ad j) := fun j hj => ⟨j, hj, rfl⟩
  have hx := C.1
  have hb := C.2.1
  have hl : lv_has ls 5 [(0, .ref (ad 0)), (1, .int a1)] := hl
  have h := (f_X0_leadOf.eq_1 _ _ ).symm.trans h
  refine lv_aload_n hx hb dX0_leadOf_0 rfl (lv_at hl 0 rfl) ?_
  obtain ⟨x1, h1, h⟩ := k_ob h
  refine k_callVi C hP hap hAA (c_X0_dryFields l ev ad σ   _ h1) Emb.same hap gz_X0_dryFields qML_RX0_138 qIM_yX0_dryFields qSE_yX0_dryFields ⟨(Nat.le_of_ble_eq_true rfl), (Nat.le_of_ble_eq_true rfl)⟩ (q0 := 0) rfl (by decide) rfl rfl rfl rfl hl.1 rfl (Nat.le_of_ble_eq_true rfl) dX0_leadOf_1 ⟨Nat.le_refl _, Nat.le_refl _⟩ (fun H locs hP => ?_)
  refine lv_istore_n (lv' := [(2, .int x1), (0, .ref (ad 0)), (1, .int a1)]) hx hb dX0_leadOf_4 rfl hl (by decide) rfl (fun ls hl => ?_)
  refine lv_aload_n hx hb dX0_leadOf_5 rfl (lv_at hl 1 rfl) ?_
  refine lv_iload_n hx hb dX0_leadOf_6 rfl (lv_at hl 2 rfl) ?_
  refine k_callVi C hP hap hAA (c_X0_ownedBy l ev ad σ a1   _ rfl) Emb.same hap gz_X0_ownedBy qML_RX0_135 qIM_yX0_ownedBy qSE_yX0_ownedBy ⟨(Nat.le_of_ble_eq_true rfl), (Nat.le_of_ble_eq_true rfl)⟩ (q0 := 0) rfl (by decide) rfl rfl rfl rfl hl.1 rfl (Nat.le_of_ble_eq_true rfl) dX0_leadOf_7 ⟨Nat.le_refl _, Nat.le_refl _⟩ (fun H locs hP => ?_)
  refine lv_iload_n hx hb dX0_leadOf_10 rfl (lv_at hl 0 rfl) ?_
  refine lv_iand hx hb dX0_leadOf_11 ?_
  refine lv_topi (fun x2 ex2 => ?_)
  have h := k_lt ex2 h
  refine lv_istore_n (lv' := [(3, .int x2), (2, .int x1), (0, .ref (ad 0)), (1, .int a1)]) hx hb dX0_leadOf_12 rfl hl (by decide) rfl (fun ls hl => ?_)
  refine lv_aload_n hx hb dX0_leadOf_13 rfl (lv_at hl 2 rfl) ?_
  refine lv_iconst (v := 1) hx hb dX0_leadOf_14 (by decide) ?_
  refine lv_iload_n hx hb dX0_leadOf_15 rfl (lv_at hl 3 rfl) ?_
  refine lv_isub hx hb dX0_leadOf_16 ?_
  refine k_callVi C hP hap hAA (c_X0_ownedBy l ev ad σ (1 - a1)   _ rfl) Emb.same hap gz_X0_ownedBy qML_RX0_135 qIM_yX0_ownedBy qSE_yX0_ownedBy ⟨(Nat.le_of_ble_eq_true rfl), (Nat.le_of_ble_eq_true rfl)⟩ (q0 := 0) rfl (by decide) rfl rfl rfl rfl hl.1 rfl (Nat.le_of_ble_eq_true rfl) dX0_leadOf_17 ⟨Nat.le_refl _, Nat.le_refl _⟩ (fun H locs hP => ?_)
  refine lv_iload_n hx hb dX0_leadOf_20 rfl (lv_at hl 1 rfl) ?_
  refine lv_iand hx hb dX0_leadOf_21 ?_
  refine lv_topi (fun x3 ex3 => ?_)
  have h := k_lt ex3 h
  refine lv_istore (lv' := [(4, .int x3), (3, .int x2), (2, .int x1), (0, .ref (ad 0)), (1, .int a1)]) hx hb dX0_leadOf_22 hl (by decide) rfl (fun ls hl => ?_)
  refine lv_iload_n hx hb dX0_leadOf_24 rfl (lv_at hl 1 rfl) ?_
  refine k_callSi C hP hap hAA (c_J6_bitCount_0f7a4 l ev ad x2   _ rfl) Emb.none (apart_0 _) gz_J6_bitCount_0f7a4 qML_RX0_141 qSM_yJ6_bitCount_0f7a4 ⟨(Nat.le_of_ble_eq_true rfl), (Nat.le_of_ble_eq_true rfl)⟩ rfl hl.1 rfl (Nat.le_of_ble_eq_true rfl) dX0_leadOf_25 ⟨Nat.le_refl _, Nat.le_refl _⟩ (fun H locs hP => ?_)
  refine lv_aload_n hx hb dX0_leadOf_28 rfl (lv_at hl 3 rfl) ?_
  refine lv_iload hx hb dX0_leadOf_29 (lv_at hl 0 rfl) ?_
  refine k_callVi C hP hap hAA (c_X0_lanesAmong l ev ad σ x3   _ rfl) Emb.same hap gz_X0_lanesAmong qML_RX0_149 qIM_yX0_lanesAmong qSE_yX0_lanesAmong ⟨(Nat.le_of_ble_eq_true rfl), (Nat.le_of_ble_eq_true rfl)⟩ (q0 := 0) rfl (by decide) rfl rfl rfl rfl hl.1 rfl (Nat.le_of_ble_eq_true rfl) dX0_leadOf_31 ⟨Nat.le_refl _, Nat.le_refl _⟩ (fun H locs hP => ?_)
  refine lv_iadd hx hb dX0_leadOf_34 ?_
  refine lv_iload hx hb dX0_leadOf_35 (lv_at hl 0 rfl) ?_
  refine k_callSi C hP hap hAA (c_J6_bitCount_0f7a4 l ev ad x3   _ rfl) Emb.none (apart_0 _) gz_J6_bitCount_0f7a4 qML_RX0_141 qSM_yJ6_bitCount_0f7a4 ⟨(Nat.le_of_ble_eq_true rfl), (Nat.le_of_ble_eq_true rfl)⟩ rfl hl.1 rfl (Nat.le_of_ble_eq_true rfl) dX0_leadOf_37 ⟨Nat.le_refl _, Nat.le_refl _⟩ (fun H locs hP => ?_)
  refine lv_isub hx hb dX0_leadOf_40 ?_
  refine lv_aload_n hx hb dX0_leadOf_41 rfl (lv_at hl 3 rfl) ?_
  refine lv_iload_n hx hb dX0_leadOf_42 rfl (lv_at hl 1 rfl) ?_
  refine k_callVi C hP hap hAA (c_X0_lanesAmong l ev ad σ x2   _ rfl) Emb.same hap gz_X0_lanesAmong qML_RX0_149 qIM_yX0_lanesAmong qSE_yX0_lanesAmong ⟨(Nat.le_of_ble_eq_true rfl), (Nat.le_of_ble_eq_true rfl)⟩ (q0 := 0) rfl (by decide) rfl rfl rfl rfl hl.1 rfl (Nat.le_of_ble_eq_true rfl) dX0_leadOf_43 ⟨Nat.le_refl _, Nat.le_refl _⟩ (fun H locs hP => ?_)
  refine lv_isub hx hb dX0_leadOf_46 ?_
  exact e_iret C hend hP (k_some h) rfl dX0_leadOf_47
def f_X0_shuttingEdges (σ : GG) : Option (Int64) :=
  ob (f_X0_withThree σ (g_hedges σ)) (fun x1 => ob (f_X0_around σ x1) (fun y2 => some (y2 &&& (f_X0_freeEdges σ))))
set_option maxHeartbeats 4000000 in
set_option maxRecDepth 100000 in
theorem c_X0_shuttingEdges (l : Launch) (ev : EV) (ad : Nat → Nat) (σ : GG)   (r : Int64)  (h : f_X0_shuttingEdges σ = some r) : Ct l yX0_shuttingEdges prog_2_method_42_code 1 (Option.some Jvm.ClassFile.FieldType.long) (rmk 2 52) ev 1 ad (gw1 σ) (gw1 σ) [.ref (ad 0)] (some (.long r)) := by
  refine Ct.of (by decide +kernel) (Nat.le_of_ble_eq_true rfl) ?_
  intro p e s m args below meth c Qc C hap hP hend ls hl
  have hAA : ∀ j, j < 1 → inA ad 1 (ad j) := fun j hj => ⟨j, hj, rfl⟩
  have hx := C.1
  have hb := C.2.1
  have hl : lv_has ls 1 [(0, .ref (ad 0))] := hl
  have h := (f_X0_shuttingEdges.eq_1 _ ).symm.trans h
  refine lv_aload_n hx hb dX0_shuttingEdges_0 rfl (lv_at hl 0 rfl) ?_
  refine lv_aload_n hx hb dX0_shuttingEdges_1 rfl (lv_at hl 0 rfl) ?_
  refine lv_aload_n hx hb dX0_shuttingEdges_2 rfl (lv_at hl 0 rfl) ?_
  refine r_get C hP (ci := 0) rfl uin_X0 9 (by decide) 0 (by decide) rfl qFL_RX0_57 rfl rfl dX0_shuttingEdges_3 ?_
  obtain ⟨x1, h1, h⟩ := k_ob h
  refine k_callVi C hP hap hAA (c_X0_withThree l ev ad σ (g_hedges σ)   _ h1) Emb.same hap gz_X0_withThree qML_RX0_152 qIM_yX0_withThree qSE_yX0_withThree ⟨(Nat.le_of_ble_eq_true rfl), (Nat.le_of_ble_eq_true rfl)⟩ (q0 := 0) rfl (by decide) rfl rfl rfl rfl hl.1 rfl (Nat.le_of_ble_eq_true rfl) dX0_shuttingEdges_6 ⟨Nat.le_refl _, Nat.le_refl _⟩ (fun H locs hP => ?_)
  obtain ⟨y2, h1, h⟩ := k_ob h
  refine k_callVl C hP hap hAA (c_X0_around l ev ad σ x1   _ h1) Emb.same hap gz_X0_around qML_RX0_155 qIM_yX0_around qSE_yX0_around ⟨(Nat.le_of_ble_eq_true rfl), (Nat.le_of_ble_eq_true rfl)⟩ (q0 := 0) rfl (by decide) rfl rfl rfl rfl hl.1 rfl (Nat.le_of_ble_eq_true rfl) dX0_shuttingEdges_9 ⟨Nat.le_refl _, Nat.le_refl _⟩ (fun H locs hP => ?_)
  refine lv_aload_n hx hb dX0_shuttingEdges_12 rfl (lv_at hl 0 rfl) ?_
  refine k_callVl C hP hap hAA (c_X0_freeEdges l ev ad σ   _ rfl) Emb.same hap gz_X0_freeEdges qML_RX0_116 qIM_yX0_freeEdges qSE_yX0_freeEdges ⟨(Nat.le_of_ble_eq_true rfl), (Nat.le_of_ble_eq_true rfl)⟩ (q0 := 0) rfl (by decide) rfl rfl rfl rfl hl.1 rfl (Nat.le_of_ble_eq_true rfl) dX0_shuttingEdges_13 ⟨Nat.le_refl _, Nat.le_refl _⟩ (fun H locs hP => ?_)
  refine lv_land hx hb dX0_shuttingEdges_16 ?_
  exact e_lret C hend hP (k_some h) rfl dX0_shuttingEdges_17
def f_X0_calmEdges_L34_b (σ : GG)  (rec34 : Int64 → Int32 → Int32 → Option (Int64)) (y5 : Int64) (x6 : Int32) (x7 : Int32) : Option (Int64) :=
  if 16 ≤ x7 then some y5 else if x6 = 0 then some y5 else lt (x6 &&& (-x6)) (fun x8 => ob (f_X0_around σ x8) (fun y9 => lt (y5 &&& y9) (fun y10 => lt (x6 ^^^ x8) (fun x11 => lt (x7 + 1) (fun x12 => rec34 y10 x11 x12)))))
def f_X0_calmEdges_L34 (σ : GG)  (y5 : Int64) (x6 : Int32) (x7 : Int32) : Option (Int64) :=
  lp (fun _ _ _ => none) (f_X0_calmEdges_L34_b σ ) FU y5 x6 x7
def f_X0_calmEdges (σ : GG) : Option (Int64) :=
  ob (f_X0_withTwo σ (g_hedges σ)) (fun x1 => ob (f_X0_around σ x1) (fun y2 => lt ((f_X0_freeEdges σ) &&& (y2 ^^^ (-1))) (fun y3 => ob (f_X0_withThree σ (g_hedges σ)) (fun x4 => f_X0_calmEdges_L34 σ y3 x4 0))))
set_option maxHeartbeats 4000000 in
set_option maxRecDepth 100000 in
theorem c_X0_calmEdges (l : Launch) (ev : EV) (ad : Nat → Nat) (σ : GG)   (r : Int64)  (h : f_X0_calmEdges σ = some r) : Ct l yX0_calmEdges prog_2_method_43_code 6 (Option.some Jvm.ClassFile.FieldType.long) (rmk 2 52) ev 1 ad (gw1 σ) (gw1 σ) [.ref (ad 0)] (some (.long r)) := by
  refine Ct.of (by decide +kernel) (Nat.le_of_ble_eq_true rfl) ?_
  intro p e s m args below meth c Qc C hap hP hend ls hl
  have hAA : ∀ j, j < 1 → inA ad 1 (ad j) := fun j hj => ⟨j, hj, rfl⟩
  have hx := C.1
  have hb := C.2.1
  have hl : lv_has ls 6 [(0, .ref (ad 0))] := hl
  have h := (f_X0_calmEdges.eq_1 _ ).symm.trans h
  refine lv_aload_n hx hb dX0_calmEdges_0 rfl (lv_at hl 0 rfl) ?_
  refine k_callVl C hP hap hAA (c_X0_freeEdges l ev ad σ   _ rfl) Emb.same hap gz_X0_freeEdges qML_RX0_116 qIM_yX0_freeEdges qSE_yX0_freeEdges ⟨(Nat.le_of_ble_eq_true rfl), (Nat.le_of_ble_eq_true rfl)⟩ (q0 := 0) rfl (by decide) rfl rfl rfl rfl hl.1 rfl (Nat.le_of_ble_eq_true rfl) dX0_calmEdges_1 ⟨Nat.le_refl _, Nat.le_refl _⟩ (fun H locs hP => ?_)
  refine lv_aload_n hx hb dX0_calmEdges_4 rfl (lv_at hl 0 rfl) ?_
  refine lv_aload_n hx hb dX0_calmEdges_5 rfl (lv_at hl 0 rfl) ?_
  refine lv_aload_n hx hb dX0_calmEdges_6 rfl (lv_at hl 0 rfl) ?_
  refine r_get C hP (ci := 0) rfl uin_X0 9 (by decide) 0 (by decide) rfl qFL_RX0_57 rfl rfl dX0_calmEdges_7 ?_
  obtain ⟨x1, h1, h⟩ := k_ob h
  refine k_callVi C hP hap hAA (c_X0_withTwo l ev ad σ (g_hedges σ)   _ h1) Emb.same hap gz_X0_withTwo qML_RX0_159 qIM_yX0_withTwo qSE_yX0_withTwo ⟨(Nat.le_of_ble_eq_true rfl), (Nat.le_of_ble_eq_true rfl)⟩ (q0 := 0) rfl (by decide) rfl rfl rfl rfl hl.1 rfl (Nat.le_of_ble_eq_true rfl) dX0_calmEdges_10 ⟨Nat.le_refl _, Nat.le_refl _⟩ (fun H locs hP => ?_)
  obtain ⟨y2, h1, h⟩ := k_ob h
  refine k_callVl C hP hap hAA (c_X0_around l ev ad σ x1   _ h1) Emb.same hap gz_X0_around qML_RX0_155 qIM_yX0_around qSE_yX0_around ⟨(Nat.le_of_ble_eq_true rfl), (Nat.le_of_ble_eq_true rfl)⟩ (q0 := 0) rfl (by decide) rfl rfl rfl rfl hl.1 rfl (Nat.le_of_ble_eq_true rfl) dX0_calmEdges_13 ⟨Nat.le_refl _, Nat.le_refl _⟩ (fun H locs hP => ?_)
  refine lv_ldc2 (v := (-1)) hx hb C.2.2.2.2.2.1 (C.2.2.2.2.1 _ qCL_RX0_110) dX0_calmEdges_16 ?_
  refine lv_lxor hx hb dX0_calmEdges_19 ?_
  refine lv_land hx hb dX0_calmEdges_20 ?_
  refine lv_topl (fun y3 ey3 => ?_)
  have h := k_lt ey3 h
  refine lv_lstore_n (lv' := [(1, .long y3), (0, .ref (ad 0))]) hx hb dX0_calmEdges_21 rfl hl (by decide) rfl (fun ls hl => ?_)
  refine lv_aload_n hx hb dX0_calmEdges_22 rfl (lv_at hl 1 rfl) ?_
  refine lv_aload_n hx hb dX0_calmEdges_23 rfl (lv_at hl 1 rfl) ?_
  refine r_get C hP (ci := 0) rfl uin_X0 9 (by decide) 0 (by decide) rfl qFL_RX0_57 rfl rfl dX0_calmEdges_24 ?_
  obtain ⟨x4, h1, h⟩ := k_ob h
  refine k_callVi C hP hap hAA (c_X0_withThree l ev ad σ (g_hedges σ)   _ h1) Emb.same hap gz_X0_withThree qML_RX0_152 qIM_yX0_withThree qSE_yX0_withThree ⟨(Nat.le_of_ble_eq_true rfl), (Nat.le_of_ble_eq_true rfl)⟩ (q0 := 0) rfl (by decide) rfl rfl rfl rfl hl.1 rfl (Nat.le_of_ble_eq_true rfl) dX0_calmEdges_27 ⟨Nat.le_refl _, Nat.le_refl _⟩ (fun H locs hP => ?_)
  refine lv_istore_n (lv' := [(3, .int x4), (1, .long y3), (0, .ref (ad 0))]) hx hb dX0_calmEdges_30 rfl hl (by decide) rfl (fun ls hl => ?_)
  refine lv_iconst (v := 0) hx hb dX0_calmEdges_31 (by decide) ?_
  refine lv_istore (lv' := [(4, .int 0), (3, .int x4), (1, .long y3), (0, .ref (ad 0))]) hx hb dX0_calmEdges_32 hl (by decide) rfl (fun ls hl => ?_)
  have hL34 : ∀ (n : Nat) (y5 : Int64) (x6 : Int32) (x7 : Int32) (H : Heap) (locs : List Loc) (ls : Array Slot), lp (fun _ _ _ => none) (f_X0_calmEdges_L34_b σ ) n y5 x6 x7 = some r → PS ev 1 ad (gw1 σ) (inA ad 1) s H locs → lv_has ls 6 [(0, .ref (ad 0)), (1, .long y5), (3, .int x6), (4, .int x7)] → WW ev p l e (rmk 2 52) s m args below meth c Qc ad 1 H locs 34 ls [] := by
    intro n
    induction n with
    | zero =>
      intro y5 x6 x7 H locs ls h; exact k_none h
    | succ n ih =>
      intro y5 x6 x7 H locs ls h hP hl
      have h : f_X0_calmEdges_L34_b σ  (lp (fun _ _ _ => none) (f_X0_calmEdges_L34_b σ ) n) y5 x6 x7 = some r := h
      have h := (f_X0_calmEdges_L34_b.eq_1 _ _ _ _ _ ).symm.trans h
      refine lv_iload hx hb dX0_calmEdges_34 (lv_at hl 3 rfl) ?_
      refine lv_bipush (v := 16) hx hb dX0_calmEdges_36 (by decide) ?_
      refine lv_icmp_ge (tgt := 71) hx hb dX0_calmEdges_38 (by decide) (fun c38 => ?_) (fun c38 => ?_)
      · have h := k_if c38 h
        refine lv_lload_n hx hb dX0_calmEdges_71 rfl (lv_at hl 1 rfl) ?_
        exact e_lret C hend hP (k_some h) rfl dX0_calmEdges_72
      · have h := k_nf c38 h
        refine lv_iload_n hx hb dX0_calmEdges_41 rfl (lv_at hl 2 rfl) ?_
        refine lv_if_eq (tgt := 71) hx hb dX0_calmEdges_42 (by decide) (fun c42 => ?_) (fun c42 => ?_)
        · have h := k_if c42 h
          refine lv_lload_n hx hb dX0_calmEdges_71 rfl (lv_at hl 1 rfl) ?_
          exact e_lret C hend hP (k_some h) rfl dX0_calmEdges_72
        · have h := k_nf c42 h
          refine lv_iload_n hx hb dX0_calmEdges_45 rfl (lv_at hl 2 rfl) ?_
          refine lv_iload_n hx hb dX0_calmEdges_46 rfl (lv_at hl 2 rfl) ?_
          refine lv_ineg hx hb dX0_calmEdges_47 ?_
          refine lv_iand hx hb dX0_calmEdges_48 ?_
          refine lv_topi (fun x8 ex8 => ?_)
          have h := k_lt ex8 h
          refine lv_istore (lv' := [(5, .int x8), (0, .ref (ad 0)), (1, .long y5), (3, .int x6), (4, .int x7)]) hx hb dX0_calmEdges_49 hl (by decide) rfl (fun ls hl => ?_)
          refine lv_lload_n hx hb dX0_calmEdges_51 rfl (lv_at hl 2 rfl) ?_
          refine lv_aload_n hx hb dX0_calmEdges_52 rfl (lv_at hl 1 rfl) ?_
          refine lv_iload hx hb dX0_calmEdges_53 (lv_at hl 0 rfl) ?_
          obtain ⟨y9, h1, h⟩ := k_ob h
          refine k_callVl C hP hap hAA (c_X0_around l ev ad σ x8   _ h1) Emb.same hap gz_X0_around qML_RX0_155 qIM_yX0_around qSE_yX0_around ⟨(Nat.le_of_ble_eq_true rfl), (Nat.le_of_ble_eq_true rfl)⟩ (q0 := 0) rfl (by decide) rfl rfl rfl rfl hl.1 rfl (Nat.le_of_ble_eq_true rfl) dX0_calmEdges_55 ⟨Nat.le_refl _, Nat.le_refl _⟩ (fun H locs hP => ?_)
          refine lv_land hx hb dX0_calmEdges_58 ?_
          refine lv_topl (fun y10 ey10 => ?_)
          have h := k_lt ey10 h
          refine lv_lstore_n (lv' := [(1, .long y10), (5, .int x8), (0, .ref (ad 0)), (3, .int x6), (4, .int x7)]) hx hb dX0_calmEdges_59 rfl hl (by decide) rfl (fun ls hl => ?_)
          refine lv_iload_n hx hb dX0_calmEdges_60 rfl (lv_at hl 3 rfl) ?_
          refine lv_iload hx hb dX0_calmEdges_61 (lv_at hl 1 rfl) ?_
          refine lv_ixor hx hb dX0_calmEdges_63 ?_
          refine lv_topi (fun x11 ex11 => ?_)
          have h := k_lt ex11 h
          refine lv_istore_n (lv' := [(3, .int x11), (1, .long y10), (5, .int x8), (0, .ref (ad 0)), (4, .int x7)]) hx hb dX0_calmEdges_64 rfl hl (by decide) rfl (fun ls hl => ?_)
          obtain ⟨x12, ex12, h⟩ := k_ltx h
          refine lv_iinc (v := x12) (lv' := [(4, .int x12), (3, .int x11), (1, .long y10), (5, .int x8), (0, .ref (ad 0))]) hx hb dX0_calmEdges_65 hl (k := 4) rfl (by rw [ex12]; rfl) (by decide) rfl (fun ls hl => ?_)
          refine lv_goto (tgt := 34) hx hb dX0_calmEdges_68 (by decide) ?_
          exact ih _ _ _ _ _ _ h hP (lv_sub hl [4, 2, 1, 0] rfl)
  exact hL34 FU _ _ _ _ _ _ h hP (lv_sub hl [3, 2, 1, 0] rfl)
def f_X0_digsBelow (σ : GG) (a1 : Int32) (a2 : Int32) : Int64 :=
  if a1 ≤ (f_J6_bitCount_0f7a4 (g_dug σ)) then 0 else (lshl (Int32.toInt64 ((f_X0_softFields σ) &&& a2)) 40)
set_option maxHeartbeats 4000000 in
set_option maxRecDepth 100000 in
theorem c_X0_digsBelow (l : Launch) (ev : EV) (ad : Nat → Nat) (σ : GG) (a1 : Int32) (a2 : Int32)   (r : Int64)  (h : f_X0_digsBelow σ a1 a2 = r) : Ct l yX0_digsBelow prog_2_method_44_code 3 (Option.some Jvm.ClassFile.FieldType.long) (rmk 2 40) ev 1 ad (gw1 σ) (gw1 σ) [.ref (ad 0), .int a1, .int a2] (some (.long r)) := by
  refine Ct.of (by decide +kernel) (Nat.le_of_ble_eq_true rfl) ?_
  intro p e s m args below meth c Qc C hap hP hend ls hl
  have hAA : ∀ j, j < 1 → inA ad 1 (ad j) := fun j hj => ⟨j, hj, rfl⟩
  have hx := C.1
  have hb := C.2.1
  have hl : lv_has ls 3 [(0, .ref (ad 0)), (1, .int a1), (2, .int a2)] := hl
  have h := (f_X0_digsBelow.eq_1 _ _ _ ).symm.trans h
  refine lv_aload_n hx hb dX0_digsBelow_0 rfl (lv_at hl 0 rfl) ?_
  refine r_get C hP (ci := 0) rfl uin_X0 10 (by decide) 0 (by decide) rfl qFL_RX0_60 rfl rfl dX0_digsBelow_1 ?_
  refine k_callSi C hP hap hAA (c_J6_bitCount_0f7a4 l ev ad (g_dug σ)   _ rfl) Emb.none (apart_0 _) gz_J6_bitCount_0f7a4 qML_RX0_141 qSM_yJ6_bitCount_0f7a4 ⟨(Nat.le_of_ble_eq_true rfl), (Nat.le_of_ble_eq_true rfl)⟩ rfl hl.1 rfl (Nat.le_of_ble_eq_true rfl) dX0_digsBelow_4 ⟨Nat.le_refl _, Nat.le_refl _⟩ (fun H locs hP => ?_)
  refine lv_iload_n hx hb dX0_digsBelow_7 rfl (lv_at hl 1 rfl) ?_
  refine lv_icmp_ge (tgt := 24) hx hb dX0_digsBelow_8 (by decide) (fun c8 => ?_) (fun c8 => ?_)
  · have h := k_if c8 h
    refine lv_lconst (v := 0) hx hb dX0_digsBelow_24 (by decide) ?_
    exact e_lret C hend hP h rfl dX0_digsBelow_25
  · have h := k_nf c8 h
    refine lv_aload_n hx hb dX0_digsBelow_11 rfl (lv_at hl 0 rfl) ?_
    refine k_callVi C hP hap hAA (c_X0_softFields l ev ad σ   _ rfl) Emb.same hap gz_X0_softFields qML_RX0_120 qIM_yX0_softFields qSE_yX0_softFields ⟨(Nat.le_of_ble_eq_true rfl), (Nat.le_of_ble_eq_true rfl)⟩ (q0 := 0) rfl (by decide) rfl rfl rfl rfl hl.1 rfl (Nat.le_of_ble_eq_true rfl) dX0_digsBelow_12 ⟨Nat.le_refl _, Nat.le_refl _⟩ (fun H locs hP => ?_)
    refine lv_iload_n hx hb dX0_digsBelow_15 rfl (lv_at hl 2 rfl) ?_
    refine lv_iand hx hb dX0_digsBelow_16 ?_
    refine lv_i2l hx hb dX0_digsBelow_17 rfl ?_
    refine lv_bipush (v := 40) hx hb dX0_digsBelow_18 (by decide) ?_
    refine r_lshl hx hb dX0_digsBelow_20 ?_
    refine lv_goto (tgt := 25) hx hb dX0_digsBelow_21 (by decide) ?_
    exact e_lret C hend hP h rfl dX0_digsBelow_25
def f_X0_drawBelow (σ : GG) (a1 : Int32) : Option (Int32 × GG) :=
  lt (g_seed' σ (((g_seed σ) * 1103515245) + 12345)) (fun σ1 => if a1 ≤ 0 then some (0, σ1) else gd (nz a1) (some ((irem (iushr (g_seed σ1) 16) a1), σ1)))
set_option maxHeartbeats 4000000 in
set_option maxRecDepth 100000 in
theorem c_X0_drawBelow (l : Launch) (ev : EV) (ad : Nat → Nat) (σ : GG) (a1 : Int32)   (r : Int32) (σ' : GG) (h : f_X0_drawBelow σ a1 = some (r, σ')) : Ct l yX0_drawBelow prog_2_method_45_code 2 (Option.some Jvm.ClassFile.FieldType.int) (rmk 0 0) ev 1 ad (gw1 σ) (gw1 σ') [.ref (ad 0), .int a1] (some (.int r)) := by
  refine Ct.of (by decide +kernel) (Nat.le_of_ble_eq_true rfl) ?_
  intro p e s m args below meth c Qc C hap hP hend ls hl
  have hAA : ∀ j, j < 1 → inA ad 1 (ad j) := fun j hj => ⟨j, hj, rfl⟩
  have hx := C.1
  have hb := C.2.1
  have hl : lv_has ls 2 [(0, .ref (ad 0)), (1, .int a1)] := hl
  have h := (f_X0_drawBelow.eq_1 _ _ ).symm.trans h
  refine lv_aload_n hx hb dX0_drawBelow_0 rfl (lv_at hl 0 rfl) ?_
  refine lv_aload_n hx hb dX0_drawBelow_1 rfl (lv_at hl 0 rfl) ?_
  refine r_get C hP (ci := 0) rfl uin_X0 15 (by decide) 0 (by decide) rfl qFL_RX0_9 rfl rfl dX0_drawBelow_2 ?_
  refine lv_ldc (v := 1103515245) hx hb C.2.2.2.2.2.1 (C.2.2.2.2.1 _ qCT_RX0_162) dX0_drawBelow_5 ?_
  refine lv_imul hx hb dX0_drawBelow_7 ?_
  refine lv_sipush (v := 12345) hx hb dX0_drawBelow_8 (by decide) ?_
  refine lv_iadd hx hb dX0_drawBelow_11 ?_
  obtain ⟨σ1, eσ1, h⟩ := k_ltx h
  refine pt_G_X0_seed C hP hap hAA eσ1 qFL_RX0_9 dX0_drawBelow_12 (fun H locs hP => ?_)
  refine lv_iload_n hx hb dX0_drawBelow_15 rfl (lv_at hl 1 rfl) ?_
  refine lv_if_le (tgt := 31) hx hb dX0_drawBelow_16 (by decide) (fun c16 => ?_) (fun c16 => ?_)
  · have h := k_if c16 h
    refine lv_iconst (v := 0) hx hb dX0_drawBelow_31 (by decide) ?_
    exact e_iret C hend hP (k_some2 h).1 (congrArg (gw1) (k_some2 h).2) dX0_drawBelow_32
  · have h := k_nf c16 h
    refine lv_aload_n hx hb dX0_drawBelow_19 rfl (lv_at hl 0 rfl) ?_
    refine r_get C hP (ci := 0) rfl uin_X0 15 (by decide) 0 (by decide) rfl qFL_RX0_9 rfl rfl dX0_drawBelow_20 ?_
    refine lv_bipush (v := 16) hx hb dX0_drawBelow_23 (by decide) ?_
    refine r_iushr hx hb dX0_drawBelow_25 ?_
    refine lv_iload_n hx hb dX0_drawBelow_26 rfl (lv_at hl 1 rfl) ?_
    obtain ⟨hg, h⟩ := k_gd h
    refine r_irem hx hb dX0_drawBelow_27 (nz_ne hg) ?_
    refine lv_goto (tgt := 32) hx hb dX0_drawBelow_28 (by decide) ?_
    exact e_iret C hend hP (k_some2 h).1 (congrArg (gw1) (k_some2 h).2) dX0_drawBelow_32
def f_J13_bitCount_95d88 (a1 : Int64) : Int32 :=
  lt (a1 - ((lushr a1 1) &&& 6148914691236517205)) (fun y1 => lt ((y1 &&& 3689348814741910323) + ((lushr y1 2) &&& 3689348814741910323)) (fun y2 => lt ((y2 + (lushr y2 4)) &&& 1085102592571150095) (fun y3 => lt (y3 + (lushr y3 8)) (fun y4 => lt (y4 + (lushr y4 16)) (fun y5 => lt (y5 + (lushr y5 32)) (fun y6 => ((Int64.toInt32 y6) &&& 127)))))))
set_option maxHeartbeats 4000000 in
set_option maxRecDepth 100000 in
theorem c_J13_bitCount_95d88 (l : Launch) (ev : EV) (ad : Nat → Nat) (a1 : Int64)   (r : Int32)  (h : f_J13_bitCount_95d88 a1 = r) : Ct l yJ13_bitCount_95d88 prog_8_method_50_code 2 (Option.some Jvm.ClassFile.FieldType.int) (rmk 0 0) ev 0 ad w00 w00 [.long a1] (some (.int r)) := by
  refine Ct.of (by decide +kernel) (Nat.le_of_ble_eq_true rfl) ?_
  intro p e s m args below meth c Qc C hap hP hend ls hl
  have hAA : ∀ j, j < 0 → inA ad 0 (ad j) := fun j hj => ⟨j, hj, rfl⟩
  have hx := C.1
  have hb := C.2.1
  have hl : lv_has ls 2 [(0, .long a1)] := hl
  have h := (f_J13_bitCount_95d88.eq_1 _ ).symm.trans h
  refine lv_lload_n hx hb dJ13_bitCount_95d88_0 rfl (lv_at hl 0 rfl) ?_
  refine lv_lload_n hx hb dJ13_bitCount_95d88_1 rfl (lv_at hl 0 rfl) ?_
  refine lv_iconst (v := 1) hx hb dJ13_bitCount_95d88_2 (by decide) ?_
  refine r_lushr hx hb dJ13_bitCount_95d88_3 ?_
  refine lv_ldc2 (v := 6148914691236517205) hx hb C.2.2.2.2.2.1 (C.2.2.2.2.1 _ qCL_RJ13_314) dJ13_bitCount_95d88_4 ?_
  refine lv_land hx hb dJ13_bitCount_95d88_7 ?_
  refine lv_lsub hx hb dJ13_bitCount_95d88_8 ?_
  refine lv_topl (fun y1 ey1 => ?_)
  have h := k_lt ey1 h
  refine lv_lstore_n (lv' := [(0, .long y1)]) hx hb dJ13_bitCount_95d88_9 rfl hl (by decide) rfl (fun ls hl => ?_)
  refine lv_lload_n hx hb dJ13_bitCount_95d88_10 rfl (lv_at hl 0 rfl) ?_
  refine lv_ldc2 (v := 3689348814741910323) hx hb C.2.2.2.2.2.1 (C.2.2.2.2.1 _ qCL_RJ13_316) dJ13_bitCount_95d88_11 ?_
  refine lv_land hx hb dJ13_bitCount_95d88_14 ?_
  refine lv_lload_n hx hb dJ13_bitCount_95d88_15 rfl (lv_at hl 0 rfl) ?_
  refine lv_iconst (v := 2) hx hb dJ13_bitCount_95d88_16 (by decide) ?_
  refine r_lushr hx hb dJ13_bitCount_95d88_17 ?_
  refine lv_ldc2 (v := 3689348814741910323) hx hb C.2.2.2.2.2.1 (C.2.2.2.2.1 _ qCL_RJ13_316) dJ13_bitCount_95d88_18 ?_
  refine lv_land hx hb dJ13_bitCount_95d88_21 ?_
  refine lv_ladd hx hb dJ13_bitCount_95d88_22 ?_
  refine lv_topl (fun y2 ey2 => ?_)
  have h := k_lt ey2 h
  refine lv_lstore_n (lv' := [(0, .long y2)]) hx hb dJ13_bitCount_95d88_23 rfl hl (by decide) rfl (fun ls hl => ?_)
  refine lv_lload_n hx hb dJ13_bitCount_95d88_24 rfl (lv_at hl 0 rfl) ?_
  refine lv_lload_n hx hb dJ13_bitCount_95d88_25 rfl (lv_at hl 0 rfl) ?_
  refine lv_iconst (v := 4) hx hb dJ13_bitCount_95d88_26 (by decide) ?_
  refine r_lushr hx hb dJ13_bitCount_95d88_27 ?_
  refine lv_ladd hx hb dJ13_bitCount_95d88_28 ?_
  refine lv_ldc2 (v := 1085102592571150095) hx hb C.2.2.2.2.2.1 (C.2.2.2.2.1 _ qCL_RJ13_318) dJ13_bitCount_95d88_29 ?_
  refine lv_land hx hb dJ13_bitCount_95d88_32 ?_
  refine lv_topl (fun y3 ey3 => ?_)
  have h := k_lt ey3 h
  refine lv_lstore_n (lv' := [(0, .long y3)]) hx hb dJ13_bitCount_95d88_33 rfl hl (by decide) rfl (fun ls hl => ?_)
  refine lv_lload_n hx hb dJ13_bitCount_95d88_34 rfl (lv_at hl 0 rfl) ?_
  refine lv_lload_n hx hb dJ13_bitCount_95d88_35 rfl (lv_at hl 0 rfl) ?_
  refine lv_bipush (v := 8) hx hb dJ13_bitCount_95d88_36 (by decide) ?_
  refine r_lushr hx hb dJ13_bitCount_95d88_38 ?_
  refine lv_ladd hx hb dJ13_bitCount_95d88_39 ?_
  refine lv_topl (fun y4 ey4 => ?_)
  have h := k_lt ey4 h
  refine lv_lstore_n (lv' := [(0, .long y4)]) hx hb dJ13_bitCount_95d88_40 rfl hl (by decide) rfl (fun ls hl => ?_)
  refine lv_lload_n hx hb dJ13_bitCount_95d88_41 rfl (lv_at hl 0 rfl) ?_
  refine lv_lload_n hx hb dJ13_bitCount_95d88_42 rfl (lv_at hl 0 rfl) ?_
  refine lv_bipush (v := 16) hx hb dJ13_bitCount_95d88_43 (by decide) ?_
  refine r_lushr hx hb dJ13_bitCount_95d88_45 ?_
  refine lv_ladd hx hb dJ13_bitCount_95d88_46 ?_
  refine lv_topl (fun y5 ey5 => ?_)
  have h := k_lt ey5 h
  refine lv_lstore_n (lv' := [(0, .long y5)]) hx hb dJ13_bitCount_95d88_47 rfl hl (by decide) rfl (fun ls hl => ?_)
  refine lv_lload_n hx hb dJ13_bitCount_95d88_48 rfl (lv_at hl 0 rfl) ?_
  refine lv_lload_n hx hb dJ13_bitCount_95d88_49 rfl (lv_at hl 0 rfl) ?_
  refine lv_bipush (v := 32) hx hb dJ13_bitCount_95d88_50 (by decide) ?_
  refine r_lushr hx hb dJ13_bitCount_95d88_52 ?_
  refine lv_ladd hx hb dJ13_bitCount_95d88_53 ?_
  refine lv_topl (fun y6 ey6 => ?_)
  have h := k_lt ey6 h
  refine lv_lstore_n (lv' := [(0, .long y6)]) hx hb dJ13_bitCount_95d88_54 rfl hl (by decide) rfl (fun ls hl => ?_)
  refine lv_lload_n hx hb dJ13_bitCount_95d88_55 rfl (lv_at hl 0 rfl) ?_
  refine lv_l2i hx hb dJ13_bitCount_95d88_56 rfl ?_
  refine lv_bipush (v := 127) hx hb dJ13_bitCount_95d88_57 (by decide) ?_
  refine lv_iand hx hb dJ13_bitCount_95d88_59 ?_
  exact e_iret C hend hP h rfl dJ13_bitCount_95d88_60
def f_X3_firstSlot (a1 : Int64) : Int32 :=
  if (lg_cmp a1 0) = 0 then (-1) else (f_J13_bitCount_95d88 ((a1 &&& (-a1)) - 1))
set_option maxHeartbeats 4000000 in
set_option maxRecDepth 100000 in
theorem c_X3_firstSlot (l : Launch) (ev : EV) (ad : Nat → Nat) (a1 : Int64)   (r : Int32)  (h : f_X3_firstSlot a1 = r) : Ct l yX3_firstSlot prog_1_method_68_code 2 (Option.some Jvm.ClassFile.FieldType.int) (rmk 1 21) ev 0 ad w00 w00 [.long a1] (some (.int r)) := by
  refine Ct.of (by decide +kernel) (Nat.le_of_ble_eq_true rfl) ?_
  intro p e s m args below meth c Qc C hap hP hend ls hl
  have hAA : ∀ j, j < 0 → inA ad 0 (ad j) := fun j hj => ⟨j, hj, rfl⟩
  have hx := C.1
  have hb := C.2.1
  have hl : lv_has ls 2 [(0, .long a1)] := hl
  have h := (f_X3_firstSlot.eq_1 _ ).symm.trans h
  refine lv_lload_n hx hb dX3_firstSlot_0 rfl (lv_at hl 0 rfl) ?_
  refine lv_lconst (v := 0) hx hb dX3_firstSlot_1 (by decide) ?_
  refine W.lcmp hx hb dX3_firstSlot_2 ?_
  refine lv_if_ne (tgt := 10) hx hb dX3_firstSlot_3 (by decide) (fun c3 => ?_) (fun c3 => ?_)
  · have h := k_nf c3 h
    refine lv_lload_n hx hb dX3_firstSlot_10 rfl (lv_at hl 0 rfl) ?_
    refine lv_lload_n hx hb dX3_firstSlot_11 rfl (lv_at hl 0 rfl) ?_
    refine lv_lneg hx hb dX3_firstSlot_12 ?_
    refine lv_land hx hb dX3_firstSlot_13 ?_
    refine lv_lconst (v := 1) hx hb dX3_firstSlot_14 (by decide) ?_
    refine lv_lsub hx hb dX3_firstSlot_15 ?_
    refine k_callSi C hP hap hAA (c_J13_bitCount_95d88 l ev ad ((a1 &&& (-a1)) - 1)   _ rfl) Emb.none (apart_0 _) gz_J13_bitCount_95d88 qML_RX3_131 qSM_yJ13_bitCount_95d88 ⟨(Nat.le_of_ble_eq_true rfl), (Nat.le_of_ble_eq_true rfl)⟩ rfl hl.1 rfl (Nat.le_of_ble_eq_true rfl) dX3_firstSlot_16 ⟨Nat.le_refl _, Nat.le_refl _⟩ (fun H locs hP => ?_)
    exact e_iret C hend hP h rfl dX3_firstSlot_19
  · have h := k_if c3 h
    refine lv_iconst (v := (-1)) hx hb dX3_firstSlot_6 (by decide) ?_
    refine lv_goto (tgt := 19) hx hb dX3_firstSlot_7 (by decide) ?_
    exact e_iret C hend hP h rfl dX3_firstSlot_19
def f_X3_slotAt_L5_b (a2 : Int32) (k30 : Int64 → Option (Int32)) (rec5 : Int64 → Int32 → Option (Int32)) (y1 : Int64) (x2 : Int32) : Option (Int32) :=
  if a2 ≤ x2 then k30 y1 else if 56 ≤ x2 then k30 y1 else lt (y1 &&& (y1 - 1)) (fun y3 => lt (x2 + 1) (fun x4 => rec5 y3 x4))
def f_X3_slotAt_L5 (a2 : Int32) (k30 : Int64 → Option (Int32)) (y1 : Int64) (x2 : Int32) : Option (Int32) :=
  lp (fun _ _ => none) (f_X3_slotAt_L5_b a2 k30) FU y1 x2
def f_X3_slotAt (a1 : Int64) (a2 : Int32) : Option (Int32) :=
  f_X3_slotAt_L5 a2 (fun y6 => some (f_X3_firstSlot y6)) a1 0
set_option maxHeartbeats 4000000 in
set_option maxRecDepth 100000 in
theorem c_X3_slotAt (l : Launch) (ev : EV) (ad : Nat → Nat) (a1 : Int64) (a2 : Int32)   (r : Int32)  (h : f_X3_slotAt a1 a2 = some r) : Ct l yX3_slotAt prog_1_method_69_code 6 (Option.some Jvm.ClassFile.FieldType.int) (rmk 2 42) ev 0 ad w00 w00 [.long a1, .int a2] (some (.int r)) := by
  refine Ct.of (by decide +kernel) (Nat.le_of_ble_eq_true rfl) ?_
  intro p e s m args below meth c Qc C hap hP hend ls hl
  have hAA : ∀ j, j < 0 → inA ad 0 (ad j) := fun j hj => ⟨j, hj, rfl⟩
  have hx := C.1
  have hb := C.2.1
  have hl : lv_has ls 6 [(0, .long a1), (2, .int a2)] := hl
  have h := (f_X3_slotAt.eq_1 _ _ ).symm.trans h
  refine lv_lload_n hx hb dX3_slotAt_0 rfl (lv_at hl 0 rfl) ?_
  refine lv_lstore_n (lv' := [(3, .long a1), (0, .long a1), (2, .int a2)]) hx hb dX3_slotAt_1 rfl hl (by decide) rfl (fun ls hl => ?_)
  refine lv_iconst (v := 0) hx hb dX3_slotAt_2 (by decide) ?_
  refine lv_istore (lv' := [(5, .int 0), (3, .long a1), (0, .long a1), (2, .int a2)]) hx hb dX3_slotAt_3 hl (by decide) rfl (fun ls hl => ?_)
  have hL5 : ∀ (k30 : Int64 → Option (Int32)) (hk30 : ∀ (z5 : Int64) (H : Heap) (locs : List Loc) (ls : Array Slot), k30 z5 = some r → PS ev 0 ad w00 (inA ad 0) s H locs → lv_has ls 6 [(3, .long z5)] → WW ev p l e (rmk 2 42) s m args below meth c Qc ad 0 H locs 30 ls []) (n : Nat) (y1 : Int64) (x2 : Int32) (H : Heap) (locs : List Loc) (ls : Array Slot), lp (fun _ _ => none) (f_X3_slotAt_L5_b a2 k30) n y1 x2 = some r → PS ev 0 ad w00 (inA ad 0) s H locs → lv_has ls 6 [(2, .int a2), (3, .long y1), (5, .int x2)] → WW ev p l e (rmk 2 42) s m args below meth c Qc ad 0 H locs 5 ls [] := by
    intro k30 hk30 n
    induction n with
    | zero =>
      intro y1 x2 H locs ls h; exact k_none h
    | succ n ih =>
      intro y1 x2 H locs ls h hP hl
      have h : f_X3_slotAt_L5_b a2 k30 (lp (fun _ _ => none) (f_X3_slotAt_L5_b a2 k30) n) y1 x2 = some r := h
      have h := (f_X3_slotAt_L5_b.eq_1 _ _ _ _ _ ).symm.trans h
      refine lv_iload hx hb dX3_slotAt_5 (lv_at hl 2 rfl) ?_
      refine lv_iload_n hx hb dX3_slotAt_7 rfl (lv_at hl 0 rfl) ?_
      refine lv_icmp_ge (tgt := 30) hx hb dX3_slotAt_8 (by decide) (fun c8 => ?_) (fun c8 => ?_)
      · have h := k_if c8 h
        exact hk30 _ _ _ _ h hP (lv_sub hl [1] rfl)
      · have h := k_nf c8 h
        refine lv_iload hx hb dX3_slotAt_11 (lv_at hl 2 rfl) ?_
        refine lv_bipush (v := 56) hx hb dX3_slotAt_13 (by decide) ?_
        refine lv_icmp_ge (tgt := 30) hx hb dX3_slotAt_15 (by decide) (fun c15 => ?_) (fun c15 => ?_)
        · have h := k_if c15 h
          exact hk30 _ _ _ _ h hP (lv_sub hl [1] rfl)
        · have h := k_nf c15 h
          refine lv_lload_n hx hb dX3_slotAt_18 rfl (lv_at hl 1 rfl) ?_
          refine lv_lload_n hx hb dX3_slotAt_19 rfl (lv_at hl 1 rfl) ?_
          refine lv_lconst (v := 1) hx hb dX3_slotAt_20 (by decide) ?_
          refine lv_lsub hx hb dX3_slotAt_21 ?_
          refine lv_land hx hb dX3_slotAt_22 ?_
          refine lv_topl (fun y3 ey3 => ?_)
          have h := k_lt ey3 h
          refine lv_lstore_n (lv' := [(3, .long y3), (2, .int a2), (5, .int x2)]) hx hb dX3_slotAt_23 rfl hl (by decide) rfl (fun ls hl => ?_)
          obtain ⟨x4, ex4, h⟩ := k_ltx h
          refine lv_iinc (v := x4) (lv' := [(5, .int x4), (3, .long y3), (2, .int a2)]) hx hb dX3_slotAt_24 hl (k := 2) rfl (by rw [ex4]; rfl) (by decide) rfl (fun ls hl => ?_)
          refine lv_goto (tgt := 5) hx hb dX3_slotAt_27 (by decide) ?_
          exact ih _ _ _ _ _ h hP (lv_sub hl [2, 1, 0] rfl)
  refine hL5 _ (fun y6 H locs ls h hP hl => ?_) FU _ _ _ _ _ h hP (lv_sub hl [3, 1, 0] rfl)
  refine lv_lload_n hx hb dX3_slotAt_30 rfl (lv_at hl 0 rfl) ?_
  refine k_callSi C hP hap hAA (c_X3_firstSlot l ev ad y6   _ rfl) Emb.none (apart_0 _) gz_X3_firstSlot qML_RX3_318 qSM_yX3_firstSlot ⟨(Nat.le_of_ble_eq_true rfl), (Nat.le_of_ble_eq_true rfl)⟩ rfl hl.1 rfl (Nat.le_of_ble_eq_true rfl) dX3_slotAt_31 ⟨Nat.le_refl _, Nat.le_refl _⟩ (fun H locs hP => ?_)
  exact e_iret C hend hP (k_some h) rfl dX3_slotAt_34
def f_X0_drawnSlot (σ : GG) (a1 : Int64) : Option (Int32 × GG) :=
  if (lg_cmp a1 0) = 0 then some ((-1), σ) else ob2 (f_X0_drawBelow σ (f_J13_bitCount_95d88 a1)) (fun x2 σ1 => ob (f_X3_slotAt a1 x2) (fun x3 => some (x3, σ1)))
set_option maxHeartbeats 4000000 in
set_option maxRecDepth 100000 in
theorem c_X0_drawnSlot (l : Launch) (ev : EV) (ad : Nat → Nat) (σ : GG) (a1 : Int64)   (r : Int32) (σ' : GG) (h : f_X0_drawnSlot σ a1 = some (r, σ')) : Ct l yX0_drawnSlot prog_2_method_46_code 3 (Option.some Jvm.ClassFile.FieldType.int) (rmk 3 67) ev 1 ad (gw1 σ) (gw1 σ') [.ref (ad 0), .long a1] (some (.int r)) := by
  refine Ct.of (by decide +kernel) (Nat.le_of_ble_eq_true rfl) ?_
  intro p e s m args below meth c Qc C hap hP hend ls hl
  have hAA : ∀ j, j < 1 → inA ad 1 (ad j) := fun j hj => ⟨j, hj, rfl⟩
  have hx := C.1
  have hb := C.2.1
  have hl : lv_has ls 3 [(0, .ref (ad 0)), (1, .long a1)] := hl
  have h := (f_X0_drawnSlot.eq_1 _ _ ).symm.trans h
  refine lv_lload_n hx hb dX0_drawnSlot_0 rfl (lv_at hl 1 rfl) ?_
  refine lv_lconst (v := 0) hx hb dX0_drawnSlot_1 (by decide) ?_
  refine W.lcmp hx hb dX0_drawnSlot_2 ?_
  refine lv_if_ne (tgt := 10) hx hb dX0_drawnSlot_3 (by decide) (fun c3 => ?_) (fun c3 => ?_)
  · have h := k_nf c3 h
    refine lv_lload_n hx hb dX0_drawnSlot_10 rfl (lv_at hl 1 rfl) ?_
    refine lv_aload_n hx hb dX0_drawnSlot_11 rfl (lv_at hl 0 rfl) ?_
    refine lv_lload_n hx hb dX0_drawnSlot_12 rfl (lv_at hl 1 rfl) ?_
    refine k_callSi C hP hap hAA (c_J13_bitCount_95d88 l ev ad a1   _ rfl) Emb.none (apart_0 _) gz_J13_bitCount_95d88 qML_RX0_163 qSM_yJ13_bitCount_95d88 ⟨(Nat.le_of_ble_eq_true rfl), (Nat.le_of_ble_eq_true rfl)⟩ rfl hl.1 rfl (Nat.le_of_ble_eq_true rfl) dX0_drawnSlot_13 ⟨Nat.le_refl _, Nat.le_refl _⟩ (fun H locs hP => ?_)
    obtain ⟨x2, σ1, h1, h⟩ := k_ob2 h
    refine k_callVi C hP hap hAA (c_X0_drawBelow l ev ad σ (f_J13_bitCount_95d88 a1)   _ _ h1) Emb.same hap gz_X0_drawBelow qML_RX0_167 qIM_yX0_drawBelow qSE_yX0_drawBelow ⟨(Nat.le_of_ble_eq_true rfl), (Nat.le_of_ble_eq_true rfl)⟩ (q0 := 0) rfl (by decide) rfl rfl rfl rfl hl.1 rfl (Nat.le_of_ble_eq_true rfl) dX0_drawnSlot_16 ⟨Nat.le_refl _, Nat.le_refl _⟩ (fun H locs hP => ?_)
    obtain ⟨x3, h1, h⟩ := k_ob h
    refine k_callNi (host := "HedgesAndDitches") C hP hap hAA (c_X3_slotAt l ev ad a1 x2   _ h1) Emb.none (apart_0 _) gz_X3_slotAt (by decide +kernel) qSM_yX3_slotAt ⟨(Nat.le_of_ble_eq_true rfl), (Nat.le_of_ble_eq_true rfl)⟩ rfl hl.1 rfl (Nat.le_of_ble_eq_true rfl) dX0_drawnSlot_19 ⟨Nat.le_refl _, Nat.le_refl _⟩ (fun H locs hP => ?_)
    exact e_iret C hend hP (k_some2 h).1 (congrArg (gw1) (k_some2 h).2) dX0_drawnSlot_22
  · have h := k_if c3 h
    refine lv_iconst (v := (-1)) hx hb dX0_drawnSlot_6 (by decide) ?_
    refine lv_goto (tgt := 22) hx hb dX0_drawnSlot_7 (by decide) ?_
    exact e_iret C hend hP (k_some2 h).1 (congrArg (gw1) (k_some2 h).2) dX0_drawnSlot_22
def f_X0_chainFrom_L14_b (σ : GG)  (rec14 : Int64 → Int32 → Int32 → Int32 → Option (Int32)) (y2 : Int64) (x3 : Int32) (x4 : Int32) (x5 : Int32) : Option (Int32) :=
  if 16 ≤ x5 then some x4 else if (f_X0_isField σ x3) = true then ob (f_X0_withThree σ y2) (fun x6 => if ((iushr x6 x3) &&& 1) = 0 then some x4 else ob (f_X0_around σ (ishl 1 x3)) (fun y7 => lt (f_X3_firstSlot (y7 &&& (y2 ^^^ (-1)))) (fun x8 => lt (y2 ||| (lshl 1 x8)) (fun y9 => lt (x4 + 1) (fun x10 => ob (f_X0_fieldAhead σ x8) (fun x11 => if x11 = x3 then ob (f_X0_fieldBeyond σ x8) (fun x14 => lt (x5 + 1) (fun x15 => rec14 y9 x14 x10 x15)) else ob (f_X0_fieldAhead σ x8) (fun x12 => lt (x5 + 1) (fun x13 => rec14 y9 x12 x10 x13)))))))) else some x4
def f_X0_chainFrom_L14 (σ : GG)  (y2 : Int64) (x3 : Int32) (x4 : Int32) (x5 : Int32) : Option (Int32) :=
  lp (fun _ _ _ _ => none) (f_X0_chainFrom_L14_b σ ) FU y2 x3 x4 x5
def f_X0_chainFrom (σ : GG) (a1 : Int32) : Option (Int32) :=
  lt (g_hedges σ) (fun y1 => f_X0_chainFrom_L14 σ y1 a1 0 0)
set_option maxHeartbeats 4000000 in
set_option maxRecDepth 100000 in
theorem c_X0_chainFrom (l : Launch) (ev : EV) (ad : Nat → Nat) (σ : GG) (a1 : Int32)   (r : Int32)  (h : f_X0_chainFrom σ a1 = some r) : Ct l yX0_chainFrom prog_2_method_47_code 8 (Option.some Jvm.ClassFile.FieldType.int) (rmk 2 52) ev 1 ad (gw1 σ) (gw1 σ) [.ref (ad 0), .int a1] (some (.int r)) := by
  refine Ct.of (by decide +kernel) (Nat.le_of_ble_eq_true rfl) ?_
  intro p e s m args below meth c Qc C hap hP hend ls hl
  have hAA : ∀ j, j < 1 → inA ad 1 (ad j) := fun j hj => ⟨j, hj, rfl⟩
  have hx := C.1
  have hb := C.2.1
  have hl : lv_has ls 8 [(0, .ref (ad 0)), (1, .int a1)] := hl
  have h := (f_X0_chainFrom.eq_1 _ _ ).symm.trans h
  refine lv_aload_n hx hb dX0_chainFrom_0 rfl (lv_at hl 0 rfl) ?_
  refine r_get C hP (ci := 0) rfl uin_X0 9 (by decide) 0 (by decide) rfl qFL_RX0_57 rfl rfl dX0_chainFrom_1 ?_
  refine lv_topl (fun y1 ey1 => ?_)
  have h := k_lt ey1 h
  refine lv_lstore_n (lv' := [(2, .long y1), (0, .ref (ad 0)), (1, .int a1)]) hx hb dX0_chainFrom_4 rfl hl (by decide) rfl (fun ls hl => ?_)
  refine lv_iload_n hx hb dX0_chainFrom_5 rfl (lv_at hl 2 rfl) ?_
  refine lv_istore (lv' := [(4, .int a1), (2, .long y1), (0, .ref (ad 0)), (1, .int a1)]) hx hb dX0_chainFrom_6 hl (by decide) rfl (fun ls hl => ?_)
  refine lv_iconst (v := 0) hx hb dX0_chainFrom_8 (by decide) ?_
  refine lv_istore (lv' := [(5, .int 0), (4, .int a1), (2, .long y1), (0, .ref (ad 0)), (1, .int a1)]) hx hb dX0_chainFrom_9 hl (by decide) rfl (fun ls hl => ?_)
  refine lv_iconst (v := 0) hx hb dX0_chainFrom_11 (by decide) ?_
  refine lv_istore (lv' := [(6, .int 0), (5, .int 0), (4, .int a1), (2, .long y1), (0, .ref (ad 0)), (1, .int a1)]) hx hb dX0_chainFrom_12 hl (by decide) rfl (fun ls hl => ?_)
  have hL14 : ∀ (n : Nat) (y2 : Int64) (x3 : Int32) (x4 : Int32) (x5 : Int32) (H : Heap) (locs : List Loc) (ls : Array Slot), lp (fun _ _ _ _ => none) (f_X0_chainFrom_L14_b σ ) n y2 x3 x4 x5 = some r → PS ev 1 ad (gw1 σ) (inA ad 1) s H locs → lv_has ls 8 [(0, .ref (ad 0)), (2, .long y2), (4, .int x3), (5, .int x4), (6, .int x5)] → WW ev p l e (rmk 2 52) s m args below meth c Qc ad 1 H locs 14 ls [] := by
    intro n
    induction n with
    | zero =>
      intro y2 x3 x4 x5 H locs ls h; exact k_none h
    | succ n ih =>
      intro y2 x3 x4 x5 H locs ls h hP hl
      have h : f_X0_chainFrom_L14_b σ  (lp (fun _ _ _ _ => none) (f_X0_chainFrom_L14_b σ ) n) y2 x3 x4 x5 = some r := h
      have h := (f_X0_chainFrom_L14_b.eq_1 _ _ _ _ _ _ ).symm.trans h
      refine lv_iload hx hb dX0_chainFrom_14 (lv_at hl 4 rfl) ?_
      refine lv_bipush (v := 16) hx hb dX0_chainFrom_16 (by decide) ?_
      refine lv_icmp_ge (tgt := 109) hx hb dX0_chainFrom_18 (by decide) (fun c18 => ?_) (fun c18 => ?_)
      · have h := k_if c18 h
        refine lv_iload hx hb dX0_chainFrom_109 (lv_at hl 3 rfl) ?_
        exact e_iret C hend hP (k_some h) rfl dX0_chainFrom_111
      · have h := k_nf c18 h
        refine lv_aload_n hx hb dX0_chainFrom_21 rfl (lv_at hl 0 rfl) ?_
        refine lv_iload hx hb dX0_chainFrom_22 (lv_at hl 2 rfl) ?_
        refine k_callVi C hP hap hAA (c_X0_isField l ev ad σ x3   _ rfl) Emb.same hap gz_X0_isField qML_RX0_107 qIM_yX0_isField qSE_yX0_isField ⟨(Nat.le_of_ble_eq_true rfl), (Nat.le_of_ble_eq_true rfl)⟩ (q0 := 0) rfl (by decide) rfl rfl rfl rfl hl.1 rfl (Nat.le_of_ble_eq_true rfl) dX0_chainFrom_24 ⟨Nat.le_refl _, Nat.le_refl _⟩ (fun H locs hP => ?_)
        refine r_ifz_eq (tgt := 109) hx hb dX0_chainFrom_27 (by decide) (fun c27 => ?_) (fun c27 => ?_)
        · have h := k_nf c27 h
          refine lv_iload hx hb dX0_chainFrom_109 (lv_at hl 3 rfl) ?_
          exact e_iret C hend hP (k_some h) rfl dX0_chainFrom_111
        · have h := k_if c27 h
          refine lv_aload_n hx hb dX0_chainFrom_30 rfl (lv_at hl 0 rfl) ?_
          refine lv_lload_n hx hb dX0_chainFrom_31 rfl (lv_at hl 1 rfl) ?_
          obtain ⟨x6, h1, h⟩ := k_ob h
          refine k_callVi C hP hap hAA (c_X0_withThree l ev ad σ y2   _ h1) Emb.same hap gz_X0_withThree qML_RX0_152 qIM_yX0_withThree qSE_yX0_withThree ⟨(Nat.le_of_ble_eq_true rfl), (Nat.le_of_ble_eq_true rfl)⟩ (q0 := 0) rfl (by decide) rfl rfl rfl rfl hl.1 rfl (Nat.le_of_ble_eq_true rfl) dX0_chainFrom_32 ⟨Nat.le_refl _, Nat.le_refl _⟩ (fun H locs hP => ?_)
          refine lv_iload hx hb dX0_chainFrom_35 (lv_at hl 2 rfl) ?_
          refine r_iushr hx hb dX0_chainFrom_37 ?_
          refine lv_iconst (v := 1) hx hb dX0_chainFrom_38 (by decide) ?_
          refine lv_iand hx hb dX0_chainFrom_39 ?_
          refine lv_if_ne (tgt := 46) hx hb dX0_chainFrom_40 (by decide) (fun c40 => ?_) (fun c40 => ?_)
          · have h := k_nf c40 h
            refine lv_aload_n hx hb dX0_chainFrom_46 rfl (lv_at hl 0 rfl) ?_
            refine lv_iconst (v := 1) hx hb dX0_chainFrom_47 (by decide) ?_
            refine lv_iload hx hb dX0_chainFrom_48 (lv_at hl 2 rfl) ?_
            refine r_ishl hx hb dX0_chainFrom_50 ?_
            obtain ⟨y7, h1, h⟩ := k_ob h
            refine k_callVl C hP hap hAA (c_X0_around l ev ad σ (ishl 1 x3)   _ h1) Emb.same hap gz_X0_around qML_RX0_155 qIM_yX0_around qSE_yX0_around ⟨(Nat.le_of_ble_eq_true rfl), (Nat.le_of_ble_eq_true rfl)⟩ (q0 := 0) rfl (by decide) rfl rfl rfl rfl hl.1 rfl (Nat.le_of_ble_eq_true rfl) dX0_chainFrom_51 ⟨Nat.le_refl _, Nat.le_refl _⟩ (fun H locs hP => ?_)
            refine lv_lload_n hx hb dX0_chainFrom_54 rfl (lv_at hl 1 rfl) ?_
            refine lv_ldc2 (v := (-1)) hx hb C.2.2.2.2.2.1 (C.2.2.2.2.1 _ qCL_RX0_110) dX0_chainFrom_55 ?_
            refine lv_lxor hx hb dX0_chainFrom_58 ?_
            refine lv_land hx hb dX0_chainFrom_59 ?_
            refine k_callNi (host := "HedgesAndDitches") C hP hap hAA (c_X3_firstSlot l ev ad (y7 &&& (y2 ^^^ (-1)))   _ rfl) Emb.none (apart_0 _) gz_X3_firstSlot (by decide +kernel) qSM_yX3_firstSlot ⟨(Nat.le_of_ble_eq_true rfl), (Nat.le_of_ble_eq_true rfl)⟩ rfl hl.1 rfl (Nat.le_of_ble_eq_true rfl) dX0_chainFrom_60 ⟨Nat.le_refl _, Nat.le_refl _⟩ (fun H locs hP => ?_)
            refine lv_topi (fun x8 ex8 => ?_)
            have h := k_lt ex8 h
            refine lv_istore (lv' := [(7, .int x8), (0, .ref (ad 0)), (2, .long y2), (4, .int x3), (5, .int x4), (6, .int x5)]) hx hb dX0_chainFrom_63 hl (by decide) rfl (fun ls hl => ?_)
            refine lv_lload_n hx hb dX0_chainFrom_65 rfl (lv_at hl 2 rfl) ?_
            refine lv_lconst (v := 1) hx hb dX0_chainFrom_66 (by decide) ?_
            refine lv_iload hx hb dX0_chainFrom_67 (lv_at hl 0 rfl) ?_
            refine r_lshl hx hb dX0_chainFrom_69 ?_
            refine lv_lor hx hb dX0_chainFrom_70 ?_
            refine lv_topl (fun y9 ey9 => ?_)
            have h := k_lt ey9 h
            refine lv_lstore_n (lv' := [(2, .long y9), (7, .int x8), (0, .ref (ad 0)), (4, .int x3), (5, .int x4), (6, .int x5)]) hx hb dX0_chainFrom_71 rfl hl (by decide) rfl (fun ls hl => ?_)
            obtain ⟨x10, ex10, h⟩ := k_ltx h
            refine lv_iinc (v := x10) (lv' := [(5, .int x10), (2, .long y9), (7, .int x8), (0, .ref (ad 0)), (4, .int x3), (6, .int x5)]) hx hb dX0_chainFrom_72 hl (k := 4) rfl (by rw [ex10]; rfl) (by decide) rfl (fun ls hl => ?_)
            refine lv_aload_n hx hb dX0_chainFrom_75 rfl (lv_at hl 3 rfl) ?_
            refine lv_iload hx hb dX0_chainFrom_76 (lv_at hl 2 rfl) ?_
            obtain ⟨x11, h1, h⟩ := k_ob h
            refine k_callVi C hP hap hAA (c_X0_fieldAhead l ev ad σ x8   _ h1) Emb.same hap gz_X0_fieldAhead qML_RX0_47 qIM_yX0_fieldAhead qSE_yX0_fieldAhead ⟨(Nat.le_of_ble_eq_true rfl), (Nat.le_of_ble_eq_true rfl)⟩ (q0 := 0) rfl (by decide) rfl rfl rfl rfl hl.1 rfl (Nat.le_of_ble_eq_true rfl) dX0_chainFrom_78 ⟨Nat.le_refl _, Nat.le_refl _⟩ (fun H locs hP => ?_)
            refine lv_iload hx hb dX0_chainFrom_81 (lv_at hl 4 rfl) ?_
            refine lv_icmp_ne (tgt := 95) hx hb dX0_chainFrom_83 (by decide) (fun c83 => ?_) (fun c83 => ?_)
            · have h := k_nf c83 h
              refine lv_aload_n hx hb dX0_chainFrom_95 rfl (lv_at hl 3 rfl) ?_
              refine lv_iload hx hb dX0_chainFrom_96 (lv_at hl 2 rfl) ?_
              obtain ⟨x12, h1, h⟩ := k_ob h
              refine k_callVi C hP hap hAA (c_X0_fieldAhead l ev ad σ x8   _ h1) Emb.same hap gz_X0_fieldAhead qML_RX0_47 qIM_yX0_fieldAhead qSE_yX0_fieldAhead ⟨(Nat.le_of_ble_eq_true rfl), (Nat.le_of_ble_eq_true rfl)⟩ (q0 := 0) rfl (by decide) rfl rfl rfl rfl hl.1 rfl (Nat.le_of_ble_eq_true rfl) dX0_chainFrom_98 ⟨Nat.le_refl _, Nat.le_refl _⟩ (fun H locs hP => ?_)
              refine lv_istore (lv' := [(4, .int x12), (5, .int x10), (2, .long y9), (7, .int x8), (0, .ref (ad 0)), (6, .int x5)]) hx hb dX0_chainFrom_101 hl (by decide) rfl (fun ls hl => ?_)
              obtain ⟨x13, ex13, h⟩ := k_ltx h
              refine lv_iinc (v := x13) (lv' := [(6, .int x13), (4, .int x12), (5, .int x10), (2, .long y9), (7, .int x8), (0, .ref (ad 0))]) hx hb dX0_chainFrom_103 hl (k := 5) rfl (by rw [ex13]; rfl) (by decide) rfl (fun ls hl => ?_)
              refine lv_goto (tgt := 14) hx hb dX0_chainFrom_106 (by decide) ?_
              exact ih _ _ _ _ _ _ _ h hP (lv_sub hl [5, 3, 1, 2, 0] rfl)
            · have h := k_if c83 h
              refine lv_aload_n hx hb dX0_chainFrom_86 rfl (lv_at hl 3 rfl) ?_
              refine lv_iload hx hb dX0_chainFrom_87 (lv_at hl 2 rfl) ?_
              obtain ⟨x14, h1, h⟩ := k_ob h
              refine k_callVi C hP hap hAA (c_X0_fieldBeyond l ev ad σ x8   _ h1) Emb.same hap gz_X0_fieldBeyond qML_RX0_51 qIM_yX0_fieldBeyond qSE_yX0_fieldBeyond ⟨(Nat.le_of_ble_eq_true rfl), (Nat.le_of_ble_eq_true rfl)⟩ (q0 := 0) rfl (by decide) rfl rfl rfl rfl hl.1 rfl (Nat.le_of_ble_eq_true rfl) dX0_chainFrom_89 ⟨Nat.le_refl _, Nat.le_refl _⟩ (fun H locs hP => ?_)
              refine lv_goto (tgt := 101) hx hb dX0_chainFrom_92 (by decide) ?_
              refine lv_istore (lv' := [(4, .int x14), (5, .int x10), (2, .long y9), (7, .int x8), (0, .ref (ad 0)), (6, .int x5)]) hx hb dX0_chainFrom_101 hl (by decide) rfl (fun ls hl => ?_)
              obtain ⟨x15, ex15, h⟩ := k_ltx h
              refine lv_iinc (v := x15) (lv' := [(6, .int x15), (4, .int x14), (5, .int x10), (2, .long y9), (7, .int x8), (0, .ref (ad 0))]) hx hb dX0_chainFrom_103 hl (k := 5) rfl (by rw [ex15]; rfl) (by decide) rfl (fun ls hl => ?_)
              refine lv_goto (tgt := 14) hx hb dX0_chainFrom_106 (by decide) ?_
              exact ih _ _ _ _ _ _ _ h hP (lv_sub hl [5, 3, 1, 2, 0] rfl)
          · have h := k_if c40 h
            refine lv_goto (tgt := 109) hx hb dX0_chainFrom_43 (by decide) ?_
            refine lv_iload hx hb dX0_chainFrom_109 (lv_at hl 3 rfl) ?_
            exact e_iret C hend hP (k_some h) rfl dX0_chainFrom_111
  exact hL14 FU _ _ _ _ _ _ _ h hP (lv_sub hl [4, 3, 2, 1, 0] rfl)
def f_X0_placeTurned_b42 (a3 : Int32) (a4 : Int32) (a5 : Int32) (x4 : Int32) (x5 : Int32) : Int32 :=
  if (a5 &&& 2) = 0 then ((x4 * a4) + x5) else lt ((a3 - 1) - x4) (fun x6 => ((x6 * a4) + x5))
def f_X0_placeTurned_b24 (a3 : Int32) (a4 : Int32) (a5 : Int32) (x2 : Int32) (x3 : Int32) : Int32 :=
  if (a5 &&& 1) = 0 then f_X0_placeTurned_b42 a3 a4 a5 x2 x3 else lt ((a4 - 1) - x3) (fun x7 => f_X0_placeTurned_b42 a3 a4 a5 x2 x7)
def f_X0_placeTurned_b11 (a1 : Int32) (a2 : Int32) (a3 : Int32) (a4 : Int32) (a5 : Int32) (x1 : Int32) : Int32 :=
  if 4 ≤ a5 then f_X0_placeTurned_b24 a3 a4 a5 x1 a1 else f_X0_placeTurned_b24 a3 a4 a5 x1 a2
def f_X0_placeTurned (σ : GG) (a1 : Int32) (a2 : Int32) (a3 : Int32) (a4 : Int32) (a5 : Int32) : Int32 :=
  if 4 ≤ a5 then f_X0_placeTurned_b11 a1 a2 a3 a4 a5 a2 else f_X0_placeTurned_b11 a1 a2 a3 a4 a5 a1
set_option maxHeartbeats 4000000 in
set_option maxRecDepth 100000 in
theorem c_X0_placeTurned (l : Launch) (ev : EV) (ad : Nat → Nat) (σ : GG) (a1 : Int32) (a2 : Int32) (a3 : Int32) (a4 : Int32) (a5 : Int32)   (r : Int32)  (h : f_X0_placeTurned σ a1 a2 a3 a4 a5 = r) : Ct l yX0_placeTurned prog_2_method_52_code 8 (Option.some Jvm.ClassFile.FieldType.int) (rmk 0 0) ev 1 ad (gw1 σ) (gw1 σ) [.ref (ad 0), .int a1, .int a2, .int a3, .int a4, .int a5] (some (.int r)) := by
  refine Ct.of (by decide +kernel) (Nat.le_of_ble_eq_true rfl) ?_
  intro p e s m args below meth c Qc C hap hP hend ls hl
  have hAA : ∀ j, j < 1 → inA ad 1 (ad j) := fun j hj => ⟨j, hj, rfl⟩
  have hx := C.1
  have hb := C.2.1
  have hl : lv_has ls 8 [(0, .ref (ad 0)), (1, .int a1), (2, .int a2), (3, .int a3), (4, .int a4), (5, .int a5)] := hl
  have h := (f_X0_placeTurned.eq_1 _ _ _ _ _ _ ).symm.trans h
  have hB42 : ∀ (x4 : Int32) (x5 : Int32) (H : Heap) (locs : List Loc) (ls : Array Slot), f_X0_placeTurned_b42 a3 a4 a5 x4 x5 = r → PS ev 1 ad (gw1 σ) (inA ad 1) s H locs → lv_has ls 8 [(3, .int a3), (4, .int a4), (5, .int a5), (6, .int x4), (7, .int x5)] → WW ev p l e (rmk 0 0) s m args below meth c Qc ad 1 H locs 42 ls [] := by
    intro x4 x5 H locs ls h hP hl
    have h := (f_X0_placeTurned_b42.eq_1 _ _ _ _ _ ).symm.trans h
    refine lv_iload hx hb dX0_placeTurned_42 (lv_at hl 2 rfl) ?_
    refine lv_iconst (v := 2) hx hb dX0_placeTurned_44 (by decide) ?_
    refine lv_iand hx hb dX0_placeTurned_45 ?_
    refine lv_if_eq (tgt := 57) hx hb dX0_placeTurned_46 (by decide) (fun c46 => ?_) (fun c46 => ?_)
    · have h := k_if c46 h
      refine lv_iload hx hb dX0_placeTurned_57 (lv_at hl 3 rfl) ?_
      refine lv_iload hx hb dX0_placeTurned_59 (lv_at hl 1 rfl) ?_
      refine lv_imul hx hb dX0_placeTurned_61 ?_
      refine lv_iload hx hb dX0_placeTurned_62 (lv_at hl 4 rfl) ?_
      refine lv_iadd hx hb dX0_placeTurned_64 ?_
      exact e_iret C hend hP h rfl dX0_placeTurned_65
    · have h := k_nf c46 h
      refine lv_iload_n hx hb dX0_placeTurned_49 rfl (lv_at hl 0 rfl) ?_
      refine lv_iconst (v := 1) hx hb dX0_placeTurned_50 (by decide) ?_
      refine lv_isub hx hb dX0_placeTurned_51 ?_
      refine lv_iload hx hb dX0_placeTurned_52 (lv_at hl 3 rfl) ?_
      refine lv_isub hx hb dX0_placeTurned_54 ?_
      refine lv_topi (fun x6 ex6 => ?_)
      have h := k_lt ex6 h
      refine lv_istore (lv' := [(6, .int x6), (3, .int a3), (4, .int a4), (5, .int a5), (7, .int x5)]) hx hb dX0_placeTurned_55 hl (by decide) rfl (fun ls hl => ?_)
      refine lv_iload hx hb dX0_placeTurned_57 (lv_at hl 0 rfl) ?_
      refine lv_iload hx hb dX0_placeTurned_59 (lv_at hl 2 rfl) ?_
      refine lv_imul hx hb dX0_placeTurned_61 ?_
      refine lv_iload hx hb dX0_placeTurned_62 (lv_at hl 4 rfl) ?_
      refine lv_iadd hx hb dX0_placeTurned_64 ?_
      exact e_iret C hend hP h rfl dX0_placeTurned_65
  have hB24 : ∀ (x2 : Int32) (x3 : Int32) (H : Heap) (locs : List Loc) (ls : Array Slot), f_X0_placeTurned_b24 a3 a4 a5 x2 x3 = r → PS ev 1 ad (gw1 σ) (inA ad 1) s H locs → lv_has ls 8 [(3, .int a3), (4, .int a4), (5, .int a5), (6, .int x2)] → WW ev p l e (rmk 0 0) s m args below meth c Qc ad 1 H locs 24 ls [.int x3] := by
    intro x2 x3 H locs ls h hP hl
    have h := (f_X0_placeTurned_b24.eq_1 _ _ _ _ _ ).symm.trans h
    refine lv_istore (lv' := [(7, .int x3), (3, .int a3), (4, .int a4), (5, .int a5), (6, .int x2)]) hx hb dX0_placeTurned_24 hl (by decide) rfl (fun ls hl => ?_)
    refine lv_iload hx hb dX0_placeTurned_26 (lv_at hl 3 rfl) ?_
    refine lv_iconst (v := 1) hx hb dX0_placeTurned_28 (by decide) ?_
    refine lv_iand hx hb dX0_placeTurned_29 ?_
    refine lv_if_eq (tgt := 42) hx hb dX0_placeTurned_30 (by decide) (fun c30 => ?_) (fun c30 => ?_)
    · have h := k_if c30 h
      exact hB42 _ _ _ _ _ h hP (lv_sub hl [1, 2, 3, 4, 0] rfl)
    · have h := k_nf c30 h
      refine lv_iload hx hb dX0_placeTurned_33 (lv_at hl 2 rfl) ?_
      refine lv_iconst (v := 1) hx hb dX0_placeTurned_35 (by decide) ?_
      refine lv_isub hx hb dX0_placeTurned_36 ?_
      refine lv_iload hx hb dX0_placeTurned_37 (lv_at hl 0 rfl) ?_
      refine lv_isub hx hb dX0_placeTurned_39 ?_
      refine lv_topi (fun x7 ex7 => ?_)
      have h := k_lt ex7 h
      refine lv_istore (lv' := [(7, .int x7), (3, .int a3), (4, .int a4), (5, .int a5), (6, .int x2)]) hx hb dX0_placeTurned_40 hl (by decide) rfl (fun ls hl => ?_)
      exact hB42 _ _ _ _ _ h hP (lv_sub hl [1, 2, 3, 4, 0] rfl)
  have hB11 : ∀ (x1 : Int32) (H : Heap) (locs : List Loc) (ls : Array Slot), f_X0_placeTurned_b11 a1 a2 a3 a4 a5 x1 = r → PS ev 1 ad (gw1 σ) (inA ad 1) s H locs → lv_has ls 8 [(1, .int a1), (2, .int a2), (3, .int a3), (4, .int a4), (5, .int a5)] → WW ev p l e (rmk 0 0) s m args below meth c Qc ad 1 H locs 11 ls [.int x1] := by
    intro x1 H locs ls h hP hl
    have h := (f_X0_placeTurned_b11.eq_1 _ _ _ _ _ _ ).symm.trans h
    refine lv_istore (lv' := [(6, .int x1), (1, .int a1), (2, .int a2), (3, .int a3), (4, .int a4), (5, .int a5)]) hx hb dX0_placeTurned_11 hl (by decide) rfl (fun ls hl => ?_)
    refine lv_iload hx hb dX0_placeTurned_13 (lv_at hl 5 rfl) ?_
    refine lv_iconst (v := 4) hx hb dX0_placeTurned_15 (by decide) ?_
    refine lv_icmp_ge (tgt := 23) hx hb dX0_placeTurned_16 (by decide) (fun c16 => ?_) (fun c16 => ?_)
    · have h := k_if c16 h
      refine lv_iload_n hx hb dX0_placeTurned_23 rfl (lv_at hl 1 rfl) ?_
      exact hB24 _ _ _ _ _ h hP (lv_sub hl [3, 4, 5, 0] rfl)
    · have h := k_nf c16 h
      refine lv_iload_n hx hb dX0_placeTurned_19 rfl (lv_at hl 2 rfl) ?_
      refine lv_goto (tgt := 24) hx hb dX0_placeTurned_20 (by decide) ?_
      exact hB24 _ _ _ _ _ h hP (lv_sub hl [3, 4, 5, 0] rfl)
  refine lv_iload hx hb dX0_placeTurned_0 (lv_at hl 5 rfl) ?_
  refine lv_iconst (v := 4) hx hb dX0_placeTurned_2 (by decide) ?_
  refine lv_icmp_ge (tgt := 10) hx hb dX0_placeTurned_3 (by decide) (fun c3 => ?_) (fun c3 => ?_)
  · have h := k_if c3 h
    refine lv_iload_n hx hb dX0_placeTurned_10 rfl (lv_at hl 2 rfl) ?_
    exact hB11 _ _ _ _ h hP (lv_sub hl [1, 2, 3, 4, 5] rfl)
  · have h := k_nf c3 h
    refine lv_iload_n hx hb dX0_placeTurned_6 rfl (lv_at hl 1 rfl) ?_
    refine lv_goto (tgt := 11) hx hb dX0_placeTurned_7 (by decide) ?_
    exact hB11 _ _ _ _ h hP (lv_sub hl [1, 2, 3, 4, 5] rfl)
def f_X0_edgeTurned_b126 (σ : GG) (a2 : Int32) (x19 : Int32) (x20 : Int32) (x21 : Int32) (x22 : Int32) (x23 : Int32) : Option (Int32) :=
  if x21 = 0 then some ((g_uprights σ) + (f_X0_placeTurned σ x19 x20 x22 x23 a2)) else some (0 + (f_X0_placeTurned σ x19 x20 x22 x23 a2))
def f_X0_edgeTurned_b106 (σ : GG) (a2 : Int32) (x15 : Int32) (x16 : Int32) (x17 : Int32) (x18 : Int32) : Option (Int32) :=
  if x17 = 0 then f_X0_edgeTurned_b126 σ a2 x15 x16 x17 x18 (((g_width σ) + 1)) else f_X0_edgeTurned_b126 σ a2 x15 x16 x17 x18 ((g_width σ))
def f_X0_edgeTurned_b86 (σ : GG) (a2 : Int32) (x12 : Int32) (x13 : Int32) (x14 : Int32) : Option (Int32) :=
  if x14 = 0 then f_X0_edgeTurned_b106 σ a2 x12 x13 x14 ((g_height σ)) else f_X0_edgeTurned_b106 σ a2 x12 x13 x14 (((g_height σ) + 1))
def f_X0_edgeTurned_b78 (σ : GG) (a2 : Int32) (x8 : Int32) (x9 : Int32) (x10 : Int32) (x11 : Int32) : Option (Int32) :=
  if x11 = x10 then f_X0_edgeTurned_b86 σ a2 x8 x9 1 else f_X0_edgeTurned_b86 σ a2 x8 x9 0
def f_X0_edgeTurned_b65 (σ : GG) (a2 : Int32) (x5 : Int32) (x6 : Int32) (x7 : Int32) : Option (Int32) :=
  if 4 ≤ a2 then f_X0_edgeTurned_b78 σ a2 x6 x7 0 x5 else f_X0_edgeTurned_b78 σ a2 x6 x7 1 x5
def f_X0_edgeTurned_b31 (σ : GG) (a1 : Int32) (a2 : Int32) (x3 : Int32) (x4 : Int32) : Option (Int32) :=
  if x3 = 0 then f_X0_edgeTurned_b65 σ a2 x3 x4 (((a1 - (g_uprights σ)) - (x4 * ((g_width σ) + 1)))) else f_X0_edgeTurned_b65 σ a2 x3 x4 ((a1 - (x4 * (g_width σ))))
def f_X0_edgeTurned_b13 (σ : GG) (a1 : Int32) (a2 : Int32) (x1 : Int32) : Option (Int32) :=
  if x1 = 0 then ob (f_X0_uprightRow σ a1) (fun x2 => f_X0_edgeTurned_b31 σ a1 a2 x1 x2) else ob (f_X0_rowOf σ a1) (fun x24 => f_X0_edgeTurned_b31 σ a1 a2 x1 x24)
def f_X0_edgeTurned (σ : GG) (a1 : Int32) (a2 : Int32) : Option (Int32) :=
  if (g_uprights σ) ≤ a1 then f_X0_edgeTurned_b13 σ a1 a2 0 else f_X0_edgeTurned_b13 σ a1 a2 1
set_option maxHeartbeats 4000000 in
set_option maxRecDepth 100000 in
theorem c_X0_edgeTurned (l : Launch) (ev : EV) (ad : Nat → Nat) (σ : GG) (a1 : Int32) (a2 : Int32)   (r : Int32)  (h : f_X0_edgeTurned σ a1 a2 = some r) : Ct l yX0_edgeTurned prog_2_method_51_code 9 (Option.some Jvm.ClassFile.FieldType.int) (rmk 1 27) ev 1 ad (gw1 σ) (gw1 σ) [.ref (ad 0), .int a1, .int a2] (some (.int r)) := by
  refine Ct.of (by decide +kernel) (Nat.le_of_ble_eq_true rfl) ?_
  intro p e s m args below meth c Qc C hap hP hend ls hl
  have hAA : ∀ j, j < 1 → inA ad 1 (ad j) := fun j hj => ⟨j, hj, rfl⟩
  have hx := C.1
  have hb := C.2.1
  have hl : lv_has ls 9 [(0, .ref (ad 0)), (1, .int a1), (2, .int a2)] := hl
  have h := (f_X0_edgeTurned.eq_1 _ _ _ ).symm.trans h
  have hB126 : ∀ (x19 : Int32) (x20 : Int32) (x21 : Int32) (x22 : Int32) (x23 : Int32) (H : Heap) (locs : List Loc) (ls : Array Slot), f_X0_edgeTurned_b126 σ a2 x19 x20 x21 x22 x23 = some r → PS ev 1 ad (gw1 σ) (inA ad 1) s H locs → lv_has ls 9 [(0, .ref (ad 0)), (2, .int a2), (4, .int x19), (5, .int x20), (6, .int x21), (7, .int x22)] → WW ev p l e (rmk 1 27) s m args below meth c Qc ad 1 H locs 126 ls [.int x23] := by
    intro x19 x20 x21 x22 x23 H locs ls h hP hl
    have h := (f_X0_edgeTurned_b126.eq_1 _ _ _ _ _ _ _ ).symm.trans h
    refine lv_istore (lv' := [(8, .int x23), (0, .ref (ad 0)), (2, .int a2), (4, .int x19), (5, .int x20), (6, .int x21), (7, .int x22)]) hx hb dX0_edgeTurned_126 hl (by decide) rfl (fun ls hl => ?_)
    refine lv_iload hx hb dX0_edgeTurned_128 (lv_at hl 5 rfl) ?_
    refine lv_if_eq (tgt := 137) hx hb dX0_edgeTurned_130 (by decide) (fun c130 => ?_) (fun c130 => ?_)
    · have h := k_if c130 h
      refine lv_aload_n hx hb dX0_edgeTurned_137 rfl (lv_at hl 1 rfl) ?_
      refine r_get C hP (ci := 0) rfl uin_X0 4 (by decide) 0 (by decide) rfl qFL_RX0_28 rfl rfl dX0_edgeTurned_138 ?_
      refine lv_aload_n hx hb dX0_edgeTurned_141 rfl (lv_at hl 1 rfl) ?_
      refine lv_iload hx hb dX0_edgeTurned_142 (lv_at hl 3 rfl) ?_
      refine lv_iload hx hb dX0_edgeTurned_144 (lv_at hl 4 rfl) ?_
      refine lv_iload hx hb dX0_edgeTurned_146 (lv_at hl 6 rfl) ?_
      refine lv_iload hx hb dX0_edgeTurned_148 (lv_at hl 0 rfl) ?_
      refine lv_iload_n hx hb dX0_edgeTurned_150 rfl (lv_at hl 2 rfl) ?_
      refine k_callVi C hP hap hAA (c_X0_placeTurned l ev ad σ x19 x20 x22 x23 a2   _ rfl) Emb.same hap gz_X0_placeTurned qML_RX0_184 qIM_yX0_placeTurned qSE_yX0_placeTurned ⟨(Nat.le_of_ble_eq_true rfl), (Nat.le_of_ble_eq_true rfl)⟩ (q0 := 0) rfl (by decide) rfl rfl rfl rfl hl.1 rfl (Nat.le_of_ble_eq_true rfl) dX0_edgeTurned_151 ⟨Nat.le_refl _, Nat.le_refl _⟩ (fun H locs hP => ?_)
      refine lv_iadd hx hb dX0_edgeTurned_154 ?_
      exact e_iret C hend hP (k_some h) rfl dX0_edgeTurned_155
    · have h := k_nf c130 h
      refine lv_iconst (v := 0) hx hb dX0_edgeTurned_133 (by decide) ?_
      refine lv_goto (tgt := 141) hx hb dX0_edgeTurned_134 (by decide) ?_
      refine lv_aload_n hx hb dX0_edgeTurned_141 rfl (lv_at hl 1 rfl) ?_
      refine lv_iload hx hb dX0_edgeTurned_142 (lv_at hl 3 rfl) ?_
      refine lv_iload hx hb dX0_edgeTurned_144 (lv_at hl 4 rfl) ?_
      refine lv_iload hx hb dX0_edgeTurned_146 (lv_at hl 6 rfl) ?_
      refine lv_iload hx hb dX0_edgeTurned_148 (lv_at hl 0 rfl) ?_
      refine lv_iload_n hx hb dX0_edgeTurned_150 rfl (lv_at hl 2 rfl) ?_
      refine k_callVi C hP hap hAA (c_X0_placeTurned l ev ad σ x19 x20 x22 x23 a2   _ rfl) Emb.same hap gz_X0_placeTurned qML_RX0_184 qIM_yX0_placeTurned qSE_yX0_placeTurned ⟨(Nat.le_of_ble_eq_true rfl), (Nat.le_of_ble_eq_true rfl)⟩ (q0 := 0) rfl (by decide) rfl rfl rfl rfl hl.1 rfl (Nat.le_of_ble_eq_true rfl) dX0_edgeTurned_151 ⟨Nat.le_refl _, Nat.le_refl _⟩ (fun H locs hP => ?_)
      refine lv_iadd hx hb dX0_edgeTurned_154 ?_
      exact e_iret C hend hP (k_some h) rfl dX0_edgeTurned_155
  have hB106 : ∀ (x15 : Int32) (x16 : Int32) (x17 : Int32) (x18 : Int32) (H : Heap) (locs : List Loc) (ls : Array Slot), f_X0_edgeTurned_b106 σ a2 x15 x16 x17 x18 = some r → PS ev 1 ad (gw1 σ) (inA ad 1) s H locs → lv_has ls 9 [(0, .ref (ad 0)), (2, .int a2), (4, .int x15), (5, .int x16), (6, .int x17)] → WW ev p l e (rmk 1 27) s m args below meth c Qc ad 1 H locs 106 ls [.int x18] := by
    intro x15 x16 x17 x18 H locs ls h hP hl
    have h := (f_X0_edgeTurned_b106.eq_1 _ _ _ _ _ _ ).symm.trans h
    refine lv_istore (lv' := [(7, .int x18), (0, .ref (ad 0)), (2, .int a2), (4, .int x15), (5, .int x16), (6, .int x17)]) hx hb dX0_edgeTurned_106 hl (by decide) rfl (fun ls hl => ?_)
    refine lv_iload hx hb dX0_edgeTurned_108 (lv_at hl 5 rfl) ?_
    refine lv_if_eq (tgt := 120) hx hb dX0_edgeTurned_110 (by decide) (fun c110 => ?_) (fun c110 => ?_)
    · have h := k_if c110 h
      refine lv_aload_n hx hb dX0_edgeTurned_120 rfl (lv_at hl 1 rfl) ?_
      refine r_get C hP (ci := 0) rfl uin_X0 0 (by decide) 0 (by decide) rfl qFL_RX0_19 rfl rfl dX0_edgeTurned_121 ?_
      refine lv_iconst (v := 1) hx hb dX0_edgeTurned_124 (by decide) ?_
      refine lv_iadd hx hb dX0_edgeTurned_125 ?_
      exact hB126 _ _ _ _ _ _ _ _ h hP (lv_sub hl [1, 2, 3, 4, 5, 0] rfl)
    · have h := k_nf c110 h
      refine lv_aload_n hx hb dX0_edgeTurned_113 rfl (lv_at hl 1 rfl) ?_
      refine r_get C hP (ci := 0) rfl uin_X0 0 (by decide) 0 (by decide) rfl qFL_RX0_19 rfl rfl dX0_edgeTurned_114 ?_
      refine lv_goto (tgt := 126) hx hb dX0_edgeTurned_117 (by decide) ?_
      exact hB126 _ _ _ _ _ _ _ _ h hP (lv_sub hl [1, 2, 3, 4, 5, 0] rfl)
  have hB86 : ∀ (x12 : Int32) (x13 : Int32) (x14 : Int32) (H : Heap) (locs : List Loc) (ls : Array Slot), f_X0_edgeTurned_b86 σ a2 x12 x13 x14 = some r → PS ev 1 ad (gw1 σ) (inA ad 1) s H locs → lv_has ls 9 [(0, .ref (ad 0)), (2, .int a2), (4, .int x12), (5, .int x13)] → WW ev p l e (rmk 1 27) s m args below meth c Qc ad 1 H locs 86 ls [.int x14] := by
    intro x12 x13 x14 H locs ls h hP hl
    have h := (f_X0_edgeTurned_b86.eq_1 _ _ _ _ _ ).symm.trans h
    refine lv_istore (lv' := [(6, .int x14), (0, .ref (ad 0)), (2, .int a2), (4, .int x12), (5, .int x13)]) hx hb dX0_edgeTurned_86 hl (by decide) rfl (fun ls hl => ?_)
    refine lv_iload hx hb dX0_edgeTurned_88 (lv_at hl 0 rfl) ?_
    refine lv_if_eq (tgt := 102) hx hb dX0_edgeTurned_90 (by decide) (fun c90 => ?_) (fun c90 => ?_)
    · have h := k_if c90 h
      refine lv_aload_n hx hb dX0_edgeTurned_102 rfl (lv_at hl 1 rfl) ?_
      refine r_get C hP (ci := 0) rfl uin_X0 1 (by decide) 0 (by decide) rfl qFL_RX0_22 rfl rfl dX0_edgeTurned_103 ?_
      exact hB106 _ _ _ _ _ _ _ h hP (lv_sub hl [1, 2, 3, 4, 0] rfl)
    · have h := k_nf c90 h
      refine lv_aload_n hx hb dX0_edgeTurned_93 rfl (lv_at hl 1 rfl) ?_
      refine r_get C hP (ci := 0) rfl uin_X0 1 (by decide) 0 (by decide) rfl qFL_RX0_22 rfl rfl dX0_edgeTurned_94 ?_
      refine lv_iconst (v := 1) hx hb dX0_edgeTurned_97 (by decide) ?_
      refine lv_iadd hx hb dX0_edgeTurned_98 ?_
      refine lv_goto (tgt := 106) hx hb dX0_edgeTurned_99 (by decide) ?_
      exact hB106 _ _ _ _ _ _ _ h hP (lv_sub hl [1, 2, 3, 4, 0] rfl)
  have hB78 : ∀ (x8 : Int32) (x9 : Int32) (x10 : Int32) (x11 : Int32) (H : Heap) (locs : List Loc) (ls : Array Slot), f_X0_edgeTurned_b78 σ a2 x8 x9 x10 x11 = some r → PS ev 1 ad (gw1 σ) (inA ad 1) s H locs → lv_has ls 9 [(0, .ref (ad 0)), (2, .int a2), (4, .int x8), (5, .int x9)] → WW ev p l e (rmk 1 27) s m args below meth c Qc ad 1 H locs 78 ls [.int x10, .int x11] := by
    intro x8 x9 x10 x11 H locs ls h hP hl
    have h := (f_X0_edgeTurned_b78.eq_1 _ _ _ _ _ _ ).symm.trans h
    refine lv_icmp_ne (tgt := 85) hx hb dX0_edgeTurned_78 (by decide) (fun c78 => ?_) (fun c78 => ?_)
    · have h := k_nf c78 h
      refine lv_iconst (v := 0) hx hb dX0_edgeTurned_85 (by decide) ?_
      exact hB86 _ _ _ _ _ _ h hP (lv_sub hl [0, 1, 2, 3] rfl)
    · have h := k_if c78 h
      refine lv_iconst (v := 1) hx hb dX0_edgeTurned_81 (by decide) ?_
      refine lv_goto (tgt := 86) hx hb dX0_edgeTurned_82 (by decide) ?_
      exact hB86 _ _ _ _ _ _ h hP (lv_sub hl [0, 1, 2, 3] rfl)
  have hB65 : ∀ (x5 : Int32) (x6 : Int32) (x7 : Int32) (H : Heap) (locs : List Loc) (ls : Array Slot), f_X0_edgeTurned_b65 σ a2 x5 x6 x7 = some r → PS ev 1 ad (gw1 σ) (inA ad 1) s H locs → lv_has ls 9 [(0, .ref (ad 0)), (2, .int a2), (3, .int x5), (4, .int x6)] → WW ev p l e (rmk 1 27) s m args below meth c Qc ad 1 H locs 65 ls [.int x7] := by
    intro x5 x6 x7 H locs ls h hP hl
    have h := (f_X0_edgeTurned_b65.eq_1 _ _ _ _ _ ).symm.trans h
    refine lv_istore (lv' := [(5, .int x7), (0, .ref (ad 0)), (2, .int a2), (3, .int x5), (4, .int x6)]) hx hb dX0_edgeTurned_65 hl (by decide) rfl (fun ls hl => ?_)
    refine lv_iload_n hx hb dX0_edgeTurned_67 rfl (lv_at hl 3 rfl) ?_
    refine lv_iload_n hx hb dX0_edgeTurned_68 rfl (lv_at hl 2 rfl) ?_
    refine lv_iconst (v := 4) hx hb dX0_edgeTurned_69 (by decide) ?_
    refine lv_icmp_ge (tgt := 77) hx hb dX0_edgeTurned_70 (by decide) (fun c70 => ?_) (fun c70 => ?_)
    · have h := k_if c70 h
      refine lv_iconst (v := 0) hx hb dX0_edgeTurned_77 (by decide) ?_
      exact hB78 _ _ _ _ _ _ _ h hP (lv_sub hl [1, 2, 4, 0] rfl)
    · have h := k_nf c70 h
      refine lv_iconst (v := 1) hx hb dX0_edgeTurned_73 (by decide) ?_
      refine lv_goto (tgt := 78) hx hb dX0_edgeTurned_74 (by decide) ?_
      exact hB78 _ _ _ _ _ _ _ h hP (lv_sub hl [1, 2, 4, 0] rfl)
  have hB31 : ∀ (x3 : Int32) (x4 : Int32) (H : Heap) (locs : List Loc) (ls : Array Slot), f_X0_edgeTurned_b31 σ a1 a2 x3 x4 = some r → PS ev 1 ad (gw1 σ) (inA ad 1) s H locs → lv_has ls 9 [(0, .ref (ad 0)), (1, .int a1), (2, .int a2), (3, .int x3)] → WW ev p l e (rmk 1 27) s m args below meth c Qc ad 1 H locs 31 ls [.int x4] := by
    intro x3 x4 H locs ls h hP hl
    have h := (f_X0_edgeTurned_b31.eq_1 _ _ _ _ _ ).symm.trans h
    refine lv_istore (lv' := [(4, .int x4), (0, .ref (ad 0)), (1, .int a1), (2, .int a2), (3, .int x3)]) hx hb dX0_edgeTurned_31 hl (by decide) rfl (fun ls hl => ?_)
    refine lv_iload_n hx hb dX0_edgeTurned_33 rfl (lv_at hl 4 rfl) ?_
    refine lv_if_eq (tgt := 49) hx hb dX0_edgeTurned_34 (by decide) (fun c34 => ?_) (fun c34 => ?_)
    · have h := k_if c34 h
      refine lv_iload_n hx hb dX0_edgeTurned_49 rfl (lv_at hl 2 rfl) ?_
      refine lv_aload_n hx hb dX0_edgeTurned_50 rfl (lv_at hl 1 rfl) ?_
      refine r_get C hP (ci := 0) rfl uin_X0 4 (by decide) 0 (by decide) rfl qFL_RX0_28 rfl rfl dX0_edgeTurned_51 ?_
      refine lv_isub hx hb dX0_edgeTurned_54 ?_
      refine lv_iload hx hb dX0_edgeTurned_55 (lv_at hl 0 rfl) ?_
      refine lv_aload_n hx hb dX0_edgeTurned_57 rfl (lv_at hl 1 rfl) ?_
      refine r_get C hP (ci := 0) rfl uin_X0 0 (by decide) 0 (by decide) rfl qFL_RX0_19 rfl rfl dX0_edgeTurned_58 ?_
      refine lv_iconst (v := 1) hx hb dX0_edgeTurned_61 (by decide) ?_
      refine lv_iadd hx hb dX0_edgeTurned_62 ?_
      refine lv_imul hx hb dX0_edgeTurned_63 ?_
      refine lv_isub hx hb dX0_edgeTurned_64 ?_
      exact hB65 _ _ _ _ _ _ h hP (lv_sub hl [1, 3, 4, 0] rfl)
    · have h := k_nf c34 h
      refine lv_iload_n hx hb dX0_edgeTurned_37 rfl (lv_at hl 2 rfl) ?_
      refine lv_iload hx hb dX0_edgeTurned_38 (lv_at hl 0 rfl) ?_
      refine lv_aload_n hx hb dX0_edgeTurned_40 rfl (lv_at hl 1 rfl) ?_
      refine r_get C hP (ci := 0) rfl uin_X0 0 (by decide) 0 (by decide) rfl qFL_RX0_19 rfl rfl dX0_edgeTurned_41 ?_
      refine lv_imul hx hb dX0_edgeTurned_44 ?_
      refine lv_isub hx hb dX0_edgeTurned_45 ?_
      refine lv_goto (tgt := 65) hx hb dX0_edgeTurned_46 (by decide) ?_
      exact hB65 _ _ _ _ _ _ h hP (lv_sub hl [1, 3, 4, 0] rfl)
  have hB13 : ∀ (x1 : Int32) (H : Heap) (locs : List Loc) (ls : Array Slot), f_X0_edgeTurned_b13 σ a1 a2 x1 = some r → PS ev 1 ad (gw1 σ) (inA ad 1) s H locs → lv_has ls 9 [(0, .ref (ad 0)), (1, .int a1), (2, .int a2)] → WW ev p l e (rmk 1 27) s m args below meth c Qc ad 1 H locs 13 ls [.int x1] := by
    intro x1 H locs ls h hP hl
    have h := (f_X0_edgeTurned_b13.eq_1 _ _ _ _ ).symm.trans h
    refine lv_istore_n (lv' := [(3, .int x1), (0, .ref (ad 0)), (1, .int a1), (2, .int a2)]) hx hb dX0_edgeTurned_13 rfl hl (by decide) rfl (fun ls hl => ?_)
    refine lv_iload_n hx hb dX0_edgeTurned_14 rfl (lv_at hl 0 rfl) ?_
    refine lv_if_eq (tgt := 26) hx hb dX0_edgeTurned_15 (by decide) (fun c15 => ?_) (fun c15 => ?_)
    · have h := k_if c15 h
      refine lv_aload_n hx hb dX0_edgeTurned_26 rfl (lv_at hl 1 rfl) ?_
      refine lv_iload_n hx hb dX0_edgeTurned_27 rfl (lv_at hl 2 rfl) ?_
      obtain ⟨x2, h1, h⟩ := k_ob h
      refine k_callVi C hP hap hAA (c_X0_uprightRow l ev ad σ a1   _ h1) Emb.same hap gz_X0_uprightRow qML_RX0_81 qIM_yX0_uprightRow qSE_yX0_uprightRow ⟨(Nat.le_of_ble_eq_true rfl), (Nat.le_of_ble_eq_true rfl)⟩ (q0 := 0) rfl (by decide) rfl rfl rfl rfl hl.1 rfl (Nat.le_of_ble_eq_true rfl) dX0_edgeTurned_28 ⟨Nat.le_refl _, Nat.le_refl _⟩ (fun H locs hP => ?_)
      exact hB31 _ _ _ _ _ h hP (lv_sub hl [1, 2, 3, 0] rfl)
    · have h := k_nf c15 h
      refine lv_aload_n hx hb dX0_edgeTurned_18 rfl (lv_at hl 1 rfl) ?_
      refine lv_iload_n hx hb dX0_edgeTurned_19 rfl (lv_at hl 2 rfl) ?_
      obtain ⟨x24, h1, h⟩ := k_ob h
      refine k_callVi C hP hap hAA (c_X0_rowOf l ev ad σ a1   _ h1) Emb.same hap gz_X0_rowOf qML_RX0_75 qIM_yX0_rowOf qSE_yX0_rowOf ⟨(Nat.le_of_ble_eq_true rfl), (Nat.le_of_ble_eq_true rfl)⟩ (q0 := 0) rfl (by decide) rfl rfl rfl rfl hl.1 rfl (Nat.le_of_ble_eq_true rfl) dX0_edgeTurned_20 ⟨Nat.le_refl _, Nat.le_refl _⟩ (fun H locs hP => ?_)
      refine lv_goto (tgt := 31) hx hb dX0_edgeTurned_23 (by decide) ?_
      exact hB31 _ _ _ _ _ h hP (lv_sub hl [1, 2, 3, 0] rfl)
  refine lv_iload_n hx hb dX0_edgeTurned_0 rfl (lv_at hl 1 rfl) ?_
  refine lv_aload_n hx hb dX0_edgeTurned_1 rfl (lv_at hl 0 rfl) ?_
  refine r_get C hP (ci := 0) rfl uin_X0 4 (by decide) 0 (by decide) rfl qFL_RX0_28 rfl rfl dX0_edgeTurned_2 ?_
  refine lv_icmp_ge (tgt := 12) hx hb dX0_edgeTurned_5 (by decide) (fun c5 => ?_) (fun c5 => ?_)
  · have h := k_if c5 h
    refine lv_iconst (v := 0) hx hb dX0_edgeTurned_12 (by decide) ?_
    exact hB13 _ _ _ _ h hP (lv_sub hl [0, 1, 2] rfl)
  · have h := k_nf c5 h
    refine lv_iconst (v := 1) hx hb dX0_edgeTurned_8 (by decide) ?_
    refine lv_goto (tgt := 13) hx hb dX0_edgeTurned_9 (by decide) ?_
    exact hB13 _ _ _ _ h hP (lv_sub hl [0, 1, 2] rfl)
def f_X0_turnedEdges_L6_b (σ : GG) (a1 : Int64) (a2 : Int32)  (rec6 : Int64 → Int32 → Option (Int64)) (y1 : Int64) (x2 : Int32) : Option (Int64) :=
  if (g_edges σ) ≤ x2 then some y1 else if (lg_cmp ((lushr a1 x2) &&& 1) 0) = 0 then lt (x2 + 1) (fun x3 => rec6 y1 x3) else ob (f_X0_edgeTurned σ x2 a2) (fun x4 => lt (y1 ||| (lshl 1 x4)) (fun y5 => lt (x2 + 1) (fun x6 => rec6 y5 x6)))
def f_X0_turnedEdges_L6 (σ : GG) (a1 : Int64) (a2 : Int32)  (y1 : Int64) (x2 : Int32) : Option (Int64) :=
  lp (fun _ _ => none) (f_X0_turnedEdges_L6_b σ a1 a2 ) FU y1 x2
def f_X0_turnedEdges (σ : GG) (a1 : Int64) (a2 : Int32) : Option (Int64) :=
  f_X0_turnedEdges_L6 σ a1 a2 0 0
set_option maxHeartbeats 4000000 in
set_option maxRecDepth 100000 in
theorem c_X0_turnedEdges (l : Launch) (ev : EV) (ad : Nat → Nat) (σ : GG) (a1 : Int64) (a2 : Int32)   (r : Int64)  (h : f_X0_turnedEdges σ a1 a2 = some r) : Ct l yX0_turnedEdges prog_2_method_50_code 7 (Option.some Jvm.ClassFile.FieldType.long) (rmk 2 55) ev 1 ad (gw1 σ) (gw1 σ) [.ref (ad 0), .long a1, .int a2] (some (.long r)) := by
  refine Ct.of (by decide +kernel) (Nat.le_of_ble_eq_true rfl) ?_
  intro p e s m args below meth c Qc C hap hP hend ls hl
  have hAA : ∀ j, j < 1 → inA ad 1 (ad j) := fun j hj => ⟨j, hj, rfl⟩
  have hx := C.1
  have hb := C.2.1
  have hl : lv_has ls 7 [(0, .ref (ad 0)), (1, .long a1), (3, .int a2)] := hl
  have h := (f_X0_turnedEdges.eq_1 _ _ _ ).symm.trans h
  refine lv_lconst (v := 0) hx hb dX0_turnedEdges_0 (by decide) ?_
  refine lv_lstore (lv' := [(4, .long 0), (0, .ref (ad 0)), (1, .long a1), (3, .int a2)]) hx hb dX0_turnedEdges_1 hl (by decide) rfl (fun ls hl => ?_)
  refine lv_iconst (v := 0) hx hb dX0_turnedEdges_3 (by decide) ?_
  refine lv_istore (lv' := [(6, .int 0), (4, .long 0), (0, .ref (ad 0)), (1, .long a1), (3, .int a2)]) hx hb dX0_turnedEdges_4 hl (by decide) rfl (fun ls hl => ?_)
  have hL6 : ∀ (n : Nat) (y1 : Int64) (x2 : Int32) (H : Heap) (locs : List Loc) (ls : Array Slot), lp (fun _ _ => none) (f_X0_turnedEdges_L6_b σ a1 a2 ) n y1 x2 = some r → PS ev 1 ad (gw1 σ) (inA ad 1) s H locs → lv_has ls 7 [(0, .ref (ad 0)), (1, .long a1), (3, .int a2), (4, .long y1), (6, .int x2)] → WW ev p l e (rmk 2 55) s m args below meth c Qc ad 1 H locs 6 ls [] := by
    intro n
    induction n with
    | zero =>
      intro y1 x2 H locs ls h; exact k_none h
    | succ n ih =>
      intro y1 x2 H locs ls h hP hl
      have h : f_X0_turnedEdges_L6_b σ a1 a2  (lp (fun _ _ => none) (f_X0_turnedEdges_L6_b σ a1 a2 ) n) y1 x2 = some r := h
      have h := (f_X0_turnedEdges_L6_b.eq_1 _ _ _ _ _ _ ).symm.trans h
      refine lv_iload hx hb dX0_turnedEdges_6 (lv_at hl 4 rfl) ?_
      refine lv_aload_n hx hb dX0_turnedEdges_8 rfl (lv_at hl 0 rfl) ?_
      refine r_get C hP (ci := 0) rfl uin_X0 3 (by decide) 0 (by decide) rfl qFL_RX0_31 rfl rfl dX0_turnedEdges_9 ?_
      refine lv_icmp_ge (tgt := 46) hx hb dX0_turnedEdges_12 (by decide) (fun c12 => ?_) (fun c12 => ?_)
      · have h := k_if c12 h
        refine lv_lload hx hb dX0_turnedEdges_46 (lv_at hl 3 rfl) ?_
        exact e_lret C hend hP (k_some h) rfl dX0_turnedEdges_48
      · have h := k_nf c12 h
        refine lv_lload_n hx hb dX0_turnedEdges_15 rfl (lv_at hl 1 rfl) ?_
        refine lv_iload hx hb dX0_turnedEdges_16 (lv_at hl 4 rfl) ?_
        refine r_lushr hx hb dX0_turnedEdges_18 ?_
        refine lv_lconst (v := 1) hx hb dX0_turnedEdges_19 (by decide) ?_
        refine lv_land hx hb dX0_turnedEdges_20 ?_
        refine lv_lconst (v := 0) hx hb dX0_turnedEdges_21 (by decide) ?_
        refine W.lcmp hx hb dX0_turnedEdges_22 ?_
        refine lv_if_eq (tgt := 40) hx hb dX0_turnedEdges_23 (by decide) (fun c23 => ?_) (fun c23 => ?_)
        · have h := k_if c23 h
          obtain ⟨x3, ex3, h⟩ := k_ltx h
          refine lv_iinc (v := x3) (lv' := [(6, .int x3), (0, .ref (ad 0)), (1, .long a1), (3, .int a2), (4, .long y1)]) hx hb dX0_turnedEdges_40 hl (k := 4) rfl (by rw [ex3]; rfl) (by decide) rfl (fun ls hl => ?_)
          refine lv_goto (tgt := 6) hx hb dX0_turnedEdges_43 (by decide) ?_
          exact ih _ _ _ _ _ h hP (lv_sub hl [1, 2, 3, 4, 0] rfl)
        · have h := k_nf c23 h
          refine lv_lload hx hb dX0_turnedEdges_26 (lv_at hl 3 rfl) ?_
          refine lv_lconst (v := 1) hx hb dX0_turnedEdges_28 (by decide) ?_
          refine lv_aload_n hx hb dX0_turnedEdges_29 rfl (lv_at hl 0 rfl) ?_
          refine lv_iload hx hb dX0_turnedEdges_30 (lv_at hl 4 rfl) ?_
          refine lv_iload_n hx hb dX0_turnedEdges_32 rfl (lv_at hl 2 rfl) ?_
          obtain ⟨x4, h1, h⟩ := k_ob h
          refine k_callVi C hP hap hAA (c_X0_edgeTurned l ev ad σ x2 a2   _ h1) Emb.same hap gz_X0_edgeTurned qML_RX0_188 qIM_yX0_edgeTurned qSE_yX0_edgeTurned ⟨(Nat.le_of_ble_eq_true rfl), (Nat.le_of_ble_eq_true rfl)⟩ (q0 := 0) rfl (by decide) rfl rfl rfl rfl hl.1 rfl (Nat.le_of_ble_eq_true rfl) dX0_turnedEdges_33 ⟨Nat.le_refl _, Nat.le_refl _⟩ (fun H locs hP => ?_)
          refine r_lshl hx hb dX0_turnedEdges_36 ?_
          refine lv_lor hx hb dX0_turnedEdges_37 ?_
          refine lv_topl (fun y5 ey5 => ?_)
          have h := k_lt ey5 h
          refine lv_lstore (lv' := [(4, .long y5), (0, .ref (ad 0)), (1, .long a1), (3, .int a2), (6, .int x2)]) hx hb dX0_turnedEdges_38 hl (by decide) rfl (fun ls hl => ?_)
          obtain ⟨x6, ex6, h⟩ := k_ltx h
          refine lv_iinc (v := x6) (lv' := [(6, .int x6), (4, .long y5), (0, .ref (ad 0)), (1, .long a1), (3, .int a2)]) hx hb dX0_turnedEdges_40 hl (k := 4) rfl (by rw [ex6]; rfl) (by decide) rfl (fun ls hl => ?_)
          refine lv_goto (tgt := 6) hx hb dX0_turnedEdges_43 (by decide) ?_
          exact ih _ _ _ _ _ h hP (lv_sub hl [2, 3, 4, 1, 0] rfl)
  exact hL6 FU _ _ _ _ _ h hP (lv_sub hl [2, 3, 4, 1, 0] rfl)
def f_X0_turnedFields_L5_b (σ : GG) (a1 : Int32) (a2 : Int32)  (rec5 : Int32 → Int32 → Option (Int32)) (x1 : Int32) (x2 : Int32) : Option (Int32) :=
  if (g_fields σ) ≤ x2 then some x1 else if ((iushr a1 x2) &&& 1) = 0 then lt (x2 + 1) (fun x3 => rec5 x1 x3) else ob (f_X0_rowOf σ x2) (fun x4 => lt (x1 ||| (ishl 1 (f_X0_placeTurned σ x4 (x2 - (x4 * (g_width σ))) (g_height σ) (g_width σ) a2))) (fun x5 => lt (x2 + 1) (fun x6 => rec5 x5 x6)))
def f_X0_turnedFields_L5 (σ : GG) (a1 : Int32) (a2 : Int32)  (x1 : Int32) (x2 : Int32) : Option (Int32) :=
  lp (fun _ _ => none) (f_X0_turnedFields_L5_b σ a1 a2 ) FU x1 x2
def f_X0_turnedFields (σ : GG) (a1 : Int32) (a2 : Int32) : Option (Int32) :=
  f_X0_turnedFields_L5 σ a1 a2 0 0
set_option maxHeartbeats 4000000 in
set_option maxRecDepth 100000 in
theorem c_X0_turnedFields (l : Launch) (ev : EV) (ad : Nat → Nat) (σ : GG) (a1 : Int32) (a2 : Int32)   (r : Int32)  (h : f_X0_turnedFields σ a1 a2 = some r) : Ct l yX0_turnedFields prog_2_method_49_code 6 (Option.some Jvm.ClassFile.FieldType.int) (rmk 1 27) ev 1 ad (gw1 σ) (gw1 σ) [.ref (ad 0), .int a1, .int a2] (some (.int r)) := by
  refine Ct.of (by decide +kernel) (Nat.le_of_ble_eq_true rfl) ?_
  intro p e s m args below meth c Qc C hap hP hend ls hl
  have hAA : ∀ j, j < 1 → inA ad 1 (ad j) := fun j hj => ⟨j, hj, rfl⟩
  have hx := C.1
  have hb := C.2.1
  have hl : lv_has ls 6 [(0, .ref (ad 0)), (1, .int a1), (2, .int a2)] := hl
  have h := (f_X0_turnedFields.eq_1 _ _ _ ).symm.trans h
  refine lv_iconst (v := 0) hx hb dX0_turnedFields_0 (by decide) ?_
  refine lv_istore_n (lv' := [(3, .int 0), (0, .ref (ad 0)), (1, .int a1), (2, .int a2)]) hx hb dX0_turnedFields_1 rfl hl (by decide) rfl (fun ls hl => ?_)
  refine lv_iconst (v := 0) hx hb dX0_turnedFields_2 (by decide) ?_
  refine lv_istore (lv' := [(4, .int 0), (3, .int 0), (0, .ref (ad 0)), (1, .int a1), (2, .int a2)]) hx hb dX0_turnedFields_3 hl (by decide) rfl (fun ls hl => ?_)
  have hL5 : ∀ (n : Nat) (x1 : Int32) (x2 : Int32) (H : Heap) (locs : List Loc) (ls : Array Slot), lp (fun _ _ => none) (f_X0_turnedFields_L5_b σ a1 a2 ) n x1 x2 = some r → PS ev 1 ad (gw1 σ) (inA ad 1) s H locs → lv_has ls 6 [(0, .ref (ad 0)), (1, .int a1), (2, .int a2), (3, .int x1), (4, .int x2)] → WW ev p l e (rmk 1 27) s m args below meth c Qc ad 1 H locs 5 ls [] := by
    intro n
    induction n with
    | zero =>
      intro x1 x2 H locs ls h; exact k_none h
    | succ n ih =>
      intro x1 x2 H locs ls h hP hl
      have h : f_X0_turnedFields_L5_b σ a1 a2  (lp (fun _ _ => none) (f_X0_turnedFields_L5_b σ a1 a2 ) n) x1 x2 = some r := h
      have h := (f_X0_turnedFields_L5_b.eq_1 _ _ _ _ _ _ ).symm.trans h
      refine lv_iload hx hb dX0_turnedFields_5 (lv_at hl 4 rfl) ?_
      refine lv_aload_n hx hb dX0_turnedFields_7 rfl (lv_at hl 0 rfl) ?_
      refine r_get C hP (ci := 0) rfl uin_X0 2 (by decide) 0 (by decide) rfl qFL_RX0_25 rfl rfl dX0_turnedFields_8 ?_
      refine lv_icmp_ge (tgt := 67) hx hb dX0_turnedFields_11 (by decide) (fun c11 => ?_) (fun c11 => ?_)
      · have h := k_if c11 h
        refine lv_iload_n hx hb dX0_turnedFields_67 rfl (lv_at hl 3 rfl) ?_
        exact e_iret C hend hP (k_some h) rfl dX0_turnedFields_68
      · have h := k_nf c11 h
        refine lv_iload_n hx hb dX0_turnedFields_14 rfl (lv_at hl 1 rfl) ?_
        refine lv_iload hx hb dX0_turnedFields_15 (lv_at hl 4 rfl) ?_
        refine r_iushr hx hb dX0_turnedFields_17 ?_
        refine lv_iconst (v := 1) hx hb dX0_turnedFields_18 (by decide) ?_
        refine lv_iand hx hb dX0_turnedFields_19 ?_
        refine lv_if_eq (tgt := 61) hx hb dX0_turnedFields_20 (by decide) (fun c20 => ?_) (fun c20 => ?_)
        · have h := k_if c20 h
          obtain ⟨x3, ex3, h⟩ := k_ltx h
          refine lv_iinc (v := x3) (lv' := [(4, .int x3), (0, .ref (ad 0)), (1, .int a1), (2, .int a2), (3, .int x1)]) hx hb dX0_turnedFields_61 hl (k := 4) rfl (by rw [ex3]; rfl) (by decide) rfl (fun ls hl => ?_)
          refine lv_goto (tgt := 5) hx hb dX0_turnedFields_64 (by decide) ?_
          exact ih _ _ _ _ _ h hP (lv_sub hl [1, 2, 3, 4, 0] rfl)
        · have h := k_nf c20 h
          refine lv_aload_n hx hb dX0_turnedFields_23 rfl (lv_at hl 0 rfl) ?_
          refine lv_iload hx hb dX0_turnedFields_24 (lv_at hl 4 rfl) ?_
          obtain ⟨x4, h1, h⟩ := k_ob h
          refine k_callVi C hP hap hAA (c_X0_rowOf l ev ad σ x2   _ h1) Emb.same hap gz_X0_rowOf qML_RX0_75 qIM_yX0_rowOf qSE_yX0_rowOf ⟨(Nat.le_of_ble_eq_true rfl), (Nat.le_of_ble_eq_true rfl)⟩ (q0 := 0) rfl (by decide) rfl rfl rfl rfl hl.1 rfl (Nat.le_of_ble_eq_true rfl) dX0_turnedFields_26 ⟨Nat.le_refl _, Nat.le_refl _⟩ (fun H locs hP => ?_)
          refine lv_istore (lv' := [(5, .int x4), (0, .ref (ad 0)), (1, .int a1), (2, .int a2), (3, .int x1), (4, .int x2)]) hx hb dX0_turnedFields_29 hl (by decide) rfl (fun ls hl => ?_)
          refine lv_iload_n hx hb dX0_turnedFields_31 rfl (lv_at hl 4 rfl) ?_
          refine lv_iconst (v := 1) hx hb dX0_turnedFields_32 (by decide) ?_
          refine lv_aload_n hx hb dX0_turnedFields_33 rfl (lv_at hl 1 rfl) ?_
          refine lv_iload hx hb dX0_turnedFields_34 (lv_at hl 0 rfl) ?_
          refine lv_iload hx hb dX0_turnedFields_36 (lv_at hl 5 rfl) ?_
          refine lv_iload hx hb dX0_turnedFields_38 (lv_at hl 0 rfl) ?_
          refine lv_aload_n hx hb dX0_turnedFields_40 rfl (lv_at hl 1 rfl) ?_
          refine r_get C hP (ci := 0) rfl uin_X0 0 (by decide) 0 (by decide) rfl qFL_RX0_19 rfl rfl dX0_turnedFields_41 ?_
          refine lv_imul hx hb dX0_turnedFields_44 ?_
          refine lv_isub hx hb dX0_turnedFields_45 ?_
          refine lv_aload_n hx hb dX0_turnedFields_46 rfl (lv_at hl 1 rfl) ?_
          refine r_get C hP (ci := 0) rfl uin_X0 1 (by decide) 0 (by decide) rfl qFL_RX0_22 rfl rfl dX0_turnedFields_47 ?_
          refine lv_aload_n hx hb dX0_turnedFields_50 rfl (lv_at hl 1 rfl) ?_
          refine r_get C hP (ci := 0) rfl uin_X0 0 (by decide) 0 (by decide) rfl qFL_RX0_19 rfl rfl dX0_turnedFields_51 ?_
          refine lv_iload_n hx hb dX0_turnedFields_54 rfl (lv_at hl 3 rfl) ?_
          refine k_callVi C hP hap hAA (c_X0_placeTurned l ev ad σ x4 (x2 - (x4 * (g_width σ))) (g_height σ) (g_width σ) a2   _ rfl) Emb.same hap gz_X0_placeTurned qML_RX0_184 qIM_yX0_placeTurned qSE_yX0_placeTurned ⟨(Nat.le_of_ble_eq_true rfl), (Nat.le_of_ble_eq_true rfl)⟩ (q0 := 0) rfl (by decide) rfl rfl rfl rfl hl.1 rfl (Nat.le_of_ble_eq_true rfl) dX0_turnedFields_55 ⟨Nat.le_refl _, Nat.le_refl _⟩ (fun H locs hP => ?_)
          refine r_ishl hx hb dX0_turnedFields_58 ?_
          refine lv_ior hx hb dX0_turnedFields_59 ?_
          refine lv_topi (fun x5 ex5 => ?_)
          have h := k_lt ex5 h
          refine lv_istore_n (lv' := [(3, .int x5), (5, .int x4), (0, .ref (ad 0)), (1, .int a1), (2, .int a2), (4, .int x2)]) hx hb dX0_turnedFields_60 rfl hl (by decide) rfl (fun ls hl => ?_)
          obtain ⟨x6, ex6, h⟩ := k_ltx h
          refine lv_iinc (v := x6) (lv' := [(4, .int x6), (3, .int x5), (5, .int x4), (0, .ref (ad 0)), (1, .int a1), (2, .int a2)]) hx hb dX0_turnedFields_61 hl (k := 5) rfl (by rw [ex6]; rfl) (by decide) rfl (fun ls hl => ?_)
          refine lv_goto (tgt := 5) hx hb dX0_turnedFields_64 (by decide) ?_
          exact ih _ _ _ _ _ h hP (lv_sub hl [3, 4, 5, 1, 0] rfl)
  exact hL5 FU _ _ _ _ _ h hP (lv_sub hl [2, 3, 4, 1, 0] rfl)
