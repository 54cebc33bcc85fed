/-! functions read off, and their contracts: by program (wip/whole/gen2.py) -/
def f_X0_scoreOf (σ : GG) (a1 : Int32) : Option (Int32) :=
  ob (f_X0_tinted σ a1) (fun x1 => ob (f_X0_tinted σ (1 - a1)) (fun x2 => some ((f_J6_bitCount_0f7a4 x1) + (f_X0_lanesAmong σ x2))))
set_option maxHeartbeats 4000000 in
set_option maxRecDepth 100000 in
theorem c_X0_scoreOf (l : Launch) (ev : EV) (ad : Nat → Nat) (σ : GG) (a1 : Int32)   (r : Int32)  (h : f_X0_scoreOf σ a1 = some r) : Ct l yX0_scoreOf prog_2_method_40_code 2 (Option.some Jvm.ClassFile.FieldType.int) (rmk 6 142) ev 1 ad (gw1 σ) (gw1 σ) [.ref (ad 0), .int a1] (some (.int r)) := by
  refine Ct.of (by decide +kernel) (Nat.le_of_ble_eq_true rfl) ?_
  intro p e s m args below meth c Qc C hap hP hend ls hl
  have hAA : ∀ j, j < 1 → inA ad 1 (ad j) := fun j hj => ⟨j, hj, rfl⟩
  have hx := C.1
  have hb := C.2.1
  have hl : lv_has ls 2 [(0, .ref (ad 0)), (1, .int a1)] := hl
  have h := (f_X0_scoreOf.eq_1 _ _ ).symm.trans h
  refine lv_aload_n hx hb dX0_scoreOf_0 rfl (lv_at hl 0 rfl) ?_
  refine lv_iload_n hx hb dX0_scoreOf_1 rfl (lv_at hl 1 rfl) ?_
  obtain ⟨x1, h1, h⟩ := k_ob h
  refine k_callVi C hP hap hAA (c_X0_tinted l ev ad σ a1   _ h1) Emb.same hap gz_X0_tinted qML_RX0_146 qIM_yX0_tinted qSE_yX0_tinted ⟨(Nat.le_of_ble_eq_true rfl), (Nat.le_of_ble_eq_true rfl)⟩ (q0 := 0) rfl (by decide) rfl rfl rfl rfl hl.1 rfl (Nat.le_of_ble_eq_true rfl) dX0_scoreOf_2 ⟨Nat.le_refl _, Nat.le_refl _⟩ (fun H locs hP => ?_)
  refine k_callSi C hP hap hAA (c_J6_bitCount_0f7a4 l ev ad x1   _ rfl) Emb.none (apart_0 _) gz_J6_bitCount_0f7a4 qML_RX0_141 qSM_yJ6_bitCount_0f7a4 ⟨(Nat.le_of_ble_eq_true rfl), (Nat.le_of_ble_eq_true rfl)⟩ rfl hl.1 rfl (Nat.le_of_ble_eq_true rfl) dX0_scoreOf_5 ⟨Nat.le_refl _, Nat.le_refl _⟩ (fun H locs hP => ?_)
  refine lv_aload_n hx hb dX0_scoreOf_8 rfl (lv_at hl 0 rfl) ?_
  refine lv_aload_n hx hb dX0_scoreOf_9 rfl (lv_at hl 0 rfl) ?_
  refine lv_iconst (v := 1) hx hb dX0_scoreOf_10 (by decide) ?_
  refine lv_iload_n hx hb dX0_scoreOf_11 rfl (lv_at hl 1 rfl) ?_
  refine lv_isub hx hb dX0_scoreOf_12 ?_
  obtain ⟨x2, h1, h⟩ := k_ob h
  refine k_callVi C hP hap hAA (c_X0_tinted l ev ad σ (1 - a1)   _ h1) Emb.same hap gz_X0_tinted qML_RX0_146 qIM_yX0_tinted qSE_yX0_tinted ⟨(Nat.le_of_ble_eq_true rfl), (Nat.le_of_ble_eq_true rfl)⟩ (q0 := 0) rfl (by decide) rfl rfl rfl rfl hl.1 rfl (Nat.le_of_ble_eq_true rfl) dX0_scoreOf_13 ⟨Nat.le_refl _, Nat.le_refl _⟩ (fun H locs hP => ?_)
  refine k_callVi C hP hap hAA (c_X0_lanesAmong l ev ad σ x2   _ rfl) Emb.same hap gz_X0_lanesAmong qML_RX0_149 qIM_yX0_lanesAmong qSE_yX0_lanesAmong ⟨(Nat.le_of_ble_eq_true rfl), (Nat.le_of_ble_eq_true rfl)⟩ (q0 := 0) rfl (by decide) rfl rfl rfl rfl hl.1 rfl (Nat.le_of_ble_eq_true rfl) dX0_scoreOf_16 ⟨Nat.le_refl _, Nat.le_refl _⟩ (fun H locs hP => ?_)
  refine lv_iadd hx hb dX0_scoreOf_19 ?_
  exact e_iret C hend hP (k_some h) rfl dX0_scoreOf_20
def f_X0_leadOf (σ : GG) (a1 : Int32) : Option (Int32) :=
  ob (f_X0_dryFields σ) (fun x1 => lt ((f_X0_ownedBy σ a1) &&& x1) (fun x2 => lt ((f_X0_ownedBy σ (1 - a1)) &&& x1) (fun x3 => some ((((f_J6_bitCount_0f7a4 x2) + (f_X0_lanesAmong σ x3)) - (f_J6_bitCount_0f7a4 x3)) - (f_X0_lanesAmong σ x2)))))
set_option maxHeartbeats 4000000 in
set_option maxRecDepth 100000 in
theorem c_X0_leadOf (l : Launch) (ev : EV) (ad : Nat → Nat) (σ : GG) (a1 : Int32)   (r : Int32)  (h : f_X0_leadOf σ a1 = some r) : Ct l yX0_leadOf prog_2_method_41_code 5 (Option.some Jvm.ClassFile.FieldType.int) (rmk 5 121) ev 1 ad (gw1 σ) (gw1 σ) [.ref (ad 0), .int a1] (some (.int r)) := by
  refine Ct.of (by decide +kernel) (Nat.le_of_ble_eq_true rfl) ?_
  intro p e s m args below meth c Qc C hap hP hend ls hl
  have hAA : ∀ j, j < 1 → inA ad 1 (ad j) := fun j hj => ⟨j, hj, rfl⟩
  have hx := C.1
  have hb := C.2.1
  have hl : lv_has ls 5 [(0, .ref (ad 0)), (1, .int a1)] := hl
  have h := (f_X0_leadOf.eq_1 _ _ ).symm.trans h
  refine lv_aload_n hx hb dX0_leadOf_0 rfl (lv_at hl 0 rfl) ?_
  obtain ⟨x1, h1, h⟩ := k_ob h
  refine k_callVi C hP hap hAA (c_X0_dryFields l ev ad σ   _ h1) Emb.same hap gz_X0_dryFields qML_RX0_138 qIM_yX0_dryFields qSE_yX0_dryFields ⟨(Nat.le_of_ble_eq_true rfl), (Nat.le_of_ble_eq_true rfl)⟩ (q0 := 0) rfl (by decide) rfl rfl rfl rfl hl.1 rfl (Nat.le_of_ble_eq_true rfl) dX0_leadOf_1 ⟨Nat.le_refl _, Nat.le_refl _⟩ (fun H locs hP => ?_)
  refine lv_istore_n (lv' := [(2, .int x1), (0, .ref (ad 0)), (1, .int a1)]) hx hb dX0_leadOf_4 rfl hl (by decide) rfl (fun ls hl => ?_)
  refine lv_aload_n hx hb dX0_leadOf_5 rfl (lv_at hl 1 rfl) ?_
  refine lv_iload_n hx hb dX0_leadOf_6 rfl (lv_at hl 2 rfl) ?_
  refine k_callVi C hP hap hAA (c_X0_ownedBy l ev ad σ a1   _ rfl) Emb.same hap gz_X0_ownedBy qML_RX0_135 qIM_yX0_ownedBy qSE_yX0_ownedBy ⟨(Nat.le_of_ble_eq_true rfl), (Nat.le_of_ble_eq_true rfl)⟩ (q0 := 0) rfl (by decide) rfl rfl rfl rfl hl.1 rfl (Nat.le_of_ble_eq_true rfl) dX0_leadOf_7 ⟨Nat.le_refl _, Nat.le_refl _⟩ (fun H locs hP => ?_)
  refine lv_iload_n hx hb dX0_leadOf_10 rfl (lv_at hl 0 rfl) ?_
  refine lv_iand hx hb dX0_leadOf_11 ?_
  refine lv_topi (fun x2 ex2 => ?_)
  have h := k_lt ex2 h
  refine lv_istore_n (lv' := [(3, .int x2), (2, .int x1), (0, .ref (ad 0)), (1, .int a1)]) hx hb dX0_leadOf_12 rfl hl (by decide) rfl (fun ls hl => ?_)
  refine lv_aload_n hx hb dX0_leadOf_13 rfl (lv_at hl 2 rfl) ?_
  refine lv_iconst (v := 1) hx hb dX0_leadOf_14 (by decide) ?_
  refine lv_iload_n hx hb dX0_leadOf_15 rfl (lv_at hl 3 rfl) ?_
  refine lv_isub hx hb dX0_leadOf_16 ?_
  refine k_callVi C hP hap hAA (c_X0_ownedBy l ev ad σ (1 - a1)   _ rfl) Emb.same hap gz_X0_ownedBy qML_RX0_135 qIM_yX0_ownedBy qSE_yX0_ownedBy ⟨(Nat.le_of_ble_eq_true rfl), (Nat.le_of_ble_eq_true rfl)⟩ (q0 := 0) rfl (by decide) rfl rfl rfl rfl hl.1 rfl (Nat.le_of_ble_eq_true rfl) dX0_leadOf_17 ⟨Nat.le_refl _, Nat.le_refl _⟩ (fun H locs hP => ?_)
  refine lv_iload_n hx hb dX0_leadOf_20 rfl (lv_at hl 1 rfl) ?_
  refine lv_iand hx hb dX0_leadOf_21 ?_
  refine lv_topi (fun x3 ex3 => ?_)
  have h := k_lt ex3 h
  refine lv_istore (lv' := [(4, .int x3), (3, .int x2), (2, .int x1), (0, .ref (ad 0)), (1, .int a1)]) hx hb dX0_leadOf_22 hl (by decide) rfl (fun ls hl => ?_)
  refine lv_iload_n hx hb dX0_leadOf_24 rfl (lv_at hl 1 rfl) ?_
  refine k_callSi C hP hap hAA (c_J6_bitCount_0f7a4 l ev ad x2   _ rfl) Emb.none (apart_0 _) gz_J6_bitCount_0f7a4 qML_RX0_141 qSM_yJ6_bitCount_0f7a4 ⟨(Nat.le_of_ble_eq_true rfl), (Nat.le_of_ble_eq_true rfl)⟩ rfl hl.1 rfl (Nat.le_of_ble_eq_true rfl) dX0_leadOf_25 ⟨Nat.le_refl _, Nat.le_refl _⟩ (fun H locs hP => ?_)
  refine lv_aload_n hx hb dX0_leadOf_28 rfl (lv_at hl 3 rfl) ?_
  refine lv_iload hx hb dX0_leadOf_29 (lv_at hl 0 rfl) ?_
  refine k_callVi C hP hap hAA (c_X0_lanesAmong l ev ad σ x3   _ rfl) Emb.same hap gz_X0_lanesAmong qML_RX0_149 qIM_yX0_lanesAmong qSE_yX0_lanesAmong ⟨(Nat.le_of_ble_eq_true rfl), (Nat.le_of_ble_eq_true rfl)⟩ (q0 := 0) rfl (by decide) rfl rfl rfl rfl hl.1 rfl (Nat.le_of_ble_eq_true rfl) dX0_leadOf_31 ⟨Nat.le_refl _, Nat.le_refl _⟩ (fun H locs hP => ?_)
  refine lv_iadd hx hb dX0_leadOf_34 ?_
  refine lv_iload hx hb dX0_leadOf_35 (lv_at hl 0 rfl) ?_
  refine k_callSi C hP hap hAA (c_J6_bitCount_0f7a4 l ev ad x3   _ rfl) Emb.none (apart_0 _) gz_J6_bitCount_0f7a4 qML_RX0_141 qSM_yJ6_bitCount_0f7a4 ⟨(Nat.le_of_ble_eq_true rfl), (Nat.le_of_ble_eq_true rfl)⟩ rfl hl.1 rfl (Nat.le_of_ble_eq_true rfl) dX0_leadOf_37 ⟨Nat.le_refl _, Nat.le_refl _⟩ (fun H locs hP => ?_)
  refine lv_isub hx hb dX0_leadOf_40 ?_
  refine lv_aload_n hx hb dX0_leadOf_41 rfl (lv_at hl 3 rfl) ?_
  refine lv_iload_n hx hb dX0_leadOf_42 rfl (lv_at hl 1 rfl) ?_
  refine k_callVi C hP hap hAA (c_X0_lanesAmong l ev ad σ x2   _ rfl) Emb.same hap gz_X0_lanesAmong qML_RX0_149 qIM_yX0_lanesAmong qSE_yX0_lanesAmong ⟨(Nat.le_of_ble_eq_true rfl), (Nat.le_of_ble_eq_true rfl)⟩ (q0 := 0) rfl (by decide) rfl rfl rfl rfl hl.1 rfl (Nat.le_of_ble_eq_true rfl) dX0_leadOf_43 ⟨Nat.le_refl _, Nat.le_refl _⟩ (fun H locs hP => ?_)
  refine lv_isub hx hb dX0_leadOf_46 ?_
  exact e_iret C hend hP (k_some h) rfl dX0_leadOf_47
def f_X0_shuttingEdges (σ : GG) : Option (Int64) :=
  ob (f_X0_withThree σ (g_hedges σ)) (fun x1 => ob (f_X0_around σ x1) (fun y2 => some (y2 &&& (f_X0_freeEdges σ))))
set_option maxHeartbeats 4000000 in
set_option maxRecDepth 100000 in
theorem c_X0_shuttingEdges (l : Launch) (ev : EV) (ad : Nat → Nat) (σ : GG)   (r : Int64)  (h : f_X0_shuttingEdges σ = some r) : Ct l yX0_shuttingEdges prog_2_method_42_code 1 (Option.some Jvm.ClassFile.FieldType.long) (rmk 2 52) ev 1 ad (gw1 σ) (gw1 σ) [.ref (ad 0)] (some (.long r)) := by
  refine Ct.of (by decide +kernel) (Nat.le_of_ble_eq_true rfl) ?_
  intro p e s m args below meth c Qc C hap hP hend ls hl
  have hAA : ∀ j, j < 1 → inA ad 1 (ad j) := fun j hj => ⟨j, hj, rfl⟩
  have hx := C.1
  have hb := C.2.1
  have hl : lv_has ls 1 [(0, .ref (ad 0))] := hl
  have h := (f_X0_shuttingEdges.eq_1 _ ).symm.trans h
  refine lv_aload_n hx hb dX0_shuttingEdges_0 rfl (lv_at hl 0 rfl) ?_
  refine lv_aload_n hx hb dX0_shuttingEdges_1 rfl (lv_at hl 0 rfl) ?_
  refine lv_aload_n hx hb dX0_shuttingEdges_2 rfl (lv_at hl 0 rfl) ?_
  refine r_get C hP (ci := 0) rfl uin_X0 9 (by decide) 0 (by decide) rfl qFL_RX0_57 rfl rfl dX0_shuttingEdges_3 ?_
  obtain ⟨x1, h1, h⟩ := k_ob h
  refine k_callVi C hP hap hAA (c_X0_withThree l ev ad σ (g_hedges σ)   _ h1) Emb.same hap gz_X0_withThree qML_RX0_152 qIM_yX0_withThree qSE_yX0_withThree ⟨(Nat.le_of_ble_eq_true rfl), (Nat.le_of_ble_eq_true rfl)⟩ (q0 := 0) rfl (by decide) rfl rfl rfl rfl hl.1 rfl (Nat.le_of_ble_eq_true rfl) dX0_shuttingEdges_6 ⟨Nat.le_refl _, Nat.le_refl _⟩ (fun H locs hP => ?_)
  obtain ⟨y2, h1, h⟩ := k_ob h
  refine k_callVl C hP hap hAA (c_X0_around l ev ad σ x1   _ h1) Emb.same hap gz_X0_around qML_RX0_155 qIM_yX0_around qSE_yX0_around ⟨(Nat.le_of_ble_eq_true rfl), (Nat.le_of_ble_eq_true rfl)⟩ (q0 := 0) rfl (by decide) rfl rfl rfl rfl hl.1 rfl (Nat.le_of_ble_eq_true rfl) dX0_shuttingEdges_9 ⟨Nat.le_refl _, Nat.le_refl _⟩ (fun H locs hP => ?_)
  refine lv_aload_n hx hb dX0_shuttingEdges_12 rfl (lv_at hl 0 rfl) ?_
  refine k_callVl C hP hap hAA (c_X0_freeEdges l ev ad σ   _ rfl) Emb.same hap gz_X0_freeEdges qML_RX0_116 qIM_yX0_freeEdges qSE_yX0_freeEdges ⟨(Nat.le_of_ble_eq_true rfl), (Nat.le_of_ble_eq_true rfl)⟩ (q0 := 0) rfl (by decide) rfl rfl rfl rfl hl.1 rfl (Nat.le_of_ble_eq_true rfl) dX0_shuttingEdges_13 ⟨Nat.le_refl _, Nat.le_refl _⟩ (fun H locs hP => ?_)
  refine lv_land hx hb dX0_shuttingEdges_16 ?_
  exact e_lret C hend hP (k_some h) rfl dX0_shuttingEdges_17
def f_X0_calmEdges_L34_b (σ : GG)  (rec34 : Int64 → Int32 → Int32 → Option (Int64)) (y5 : Int64) (x6 : Int32) (x7 : Int32) : Option (Int64) :=
  if 16 ≤ x7 then some y5 else if x6 = 0 then some y5 else lt (x6 &&& (-x6)) (fun x8 => ob (f_X0_around σ x8) (fun y9 => lt (y5 &&& y9) (fun y10 => lt (x6 ^^^ x8) (fun x11 => lt (x7 + 1) (fun x12 => rec34 y10 x11 x12)))))
def f_X0_calmEdges_L34 (σ : GG)  (y5 : Int64) (x6 : Int32) (x7 : Int32) : Option (Int64) :=
  lp (fun _ _ _ => none) (f_X0_calmEdges_L34_b σ ) FU y5 x6 x7
def f_X0_calmEdges (σ : GG) : Option (Int64) :=
  ob (f_X0_withTwo σ (g_hedges σ)) (fun x1 => ob (f_X0_around σ x1) (fun y2 => lt ((f_X0_freeEdges σ) &&& (y2 ^^^ (-1))) (fun y3 => ob (f_X0_withThree σ (g_hedges σ)) (fun x4 => f_X0_calmEdges_L34 σ y3 x4 0))))
set_option maxHeartbeats 4000000 in
set_option maxRecDepth 100000 in
theorem c_X0_calmEdges (l : Launch) (ev : EV) (ad : Nat → Nat) (σ : GG)   (r : Int64)  (h : f_X0_calmEdges σ = some r) : Ct l yX0_calmEdges prog_2_method_43_code 6 (Option.some Jvm.ClassFile.FieldType.long) (rmk 2 52) ev 1 ad (gw1 σ) (gw1 σ) [.ref (ad 0)] (some (.long r)) := by
  refine Ct.of (by decide +kernel) (Nat.le_of_ble_eq_true rfl) ?_
  intro p e s m args below meth c Qc C hap hP hend ls hl
  have hAA : ∀ j, j < 1 → inA ad 1 (ad j) := fun j hj => ⟨j, hj, rfl⟩
  have hx := C.1
  have hb := C.2.1
  have hl : lv_has ls 6 [(0, .ref (ad 0))] := hl
  have h := (f_X0_calmEdges.eq_1 _ ).symm.trans h
  refine lv_aload_n hx hb dX0_calmEdges_0 rfl (lv_at hl 0 rfl) ?_
  refine k_callVl C hP hap hAA (c_X0_freeEdges l ev ad σ   _ rfl) Emb.same hap gz_X0_freeEdges qML_RX0_116 qIM_yX0_freeEdges qSE_yX0_freeEdges ⟨(Nat.le_of_ble_eq_true rfl), (Nat.le_of_ble_eq_true rfl)⟩ (q0 := 0) rfl (by decide) rfl rfl rfl rfl hl.1 rfl (Nat.le_of_ble_eq_true rfl) dX0_calmEdges_1 ⟨Nat.le_refl _, Nat.le_refl _⟩ (fun H locs hP => ?_)
  refine lv_aload_n hx hb dX0_calmEdges_4 rfl (lv_at hl 0 rfl) ?_
  refine lv_aload_n hx hb dX0_calmEdges_5 rfl (lv_at hl 0 rfl) ?_
  refine lv_aload_n hx hb dX0_calmEdges_6 rfl (lv_at hl 0 rfl) ?_
  refine r_get C hP (ci := 0) rfl uin_X0 9 (by decide) 0 (by decide) rfl qFL_RX0_57 rfl rfl dX0_calmEdges_7 ?_
  obtain ⟨x1, h1, h⟩ := k_ob h
  refine k_callVi C hP hap hAA (c_X0_withTwo l ev ad σ (g_hedges σ)   _ h1) Emb.same hap gz_X0_withTwo qML_RX0_159 qIM_yX0_withTwo qSE_yX0_withTwo ⟨(Nat.le_of_ble_eq_true rfl), (Nat.le_of_ble_eq_true rfl)⟩ (q0 := 0) rfl (by decide) rfl rfl rfl rfl hl.1 rfl (Nat.le_of_ble_eq_true rfl) dX0_calmEdges_10 ⟨Nat.le_refl _, Nat.le_refl _⟩ (fun H locs hP => ?_)
  obtain ⟨y2, h1, h⟩ := k_ob h
  refine k_callVl C hP hap hAA (c_X0_around l ev ad σ x1   _ h1) Emb.same hap gz_X0_around qML_RX0_155 qIM_yX0_around qSE_yX0_around ⟨(Nat.le_of_ble_eq_true rfl), (Nat.le_of_ble_eq_true rfl)⟩ (q0 := 0) rfl (by decide) rfl rfl rfl rfl hl.1 rfl (Nat.le_of_ble_eq_true rfl) dX0_calmEdges_13 ⟨Nat.le_refl _, Nat.le_refl _⟩ (fun H locs hP => ?_)
  refine lv_ldc2 (v := (-1)) hx hb C.2.2.2.2.2.1 (C.2.2.2.2.1 _ qCL_RX0_110) dX0_calmEdges_16 ?_
  refine lv_lxor hx hb dX0_calmEdges_19 ?_
  refine lv_land hx hb dX0_calmEdges_20 ?_
  refine lv_topl (fun y3 ey3 => ?_)
  have h := k_lt ey3 h
  refine lv_lstore_n (lv' := [(1, .long y3), (0, .ref (ad 0))]) hx hb dX0_calmEdges_21 rfl hl (by decide) rfl (fun ls hl => ?_)
  refine lv_aload_n hx hb dX0_calmEdges_22 rfl (lv_at hl 1 rfl) ?_
  refine lv_aload_n hx hb dX0_calmEdges_23 rfl (lv_at hl 1 rfl) ?_
  refine r_get C hP (ci := 0) rfl uin_X0 9 (by decide) 0 (by decide) rfl qFL_RX0_57 rfl rfl dX0_calmEdges_24 ?_
  obtain ⟨x4, h1, h⟩ := k_ob h
  refine k_callVi C hP hap hAA (c_X0_withThree l ev ad σ (g_hedges σ)   _ h1) Emb.same hap gz_X0_withThree qML_RX0_152 qIM_yX0_withThree qSE_yX0_withThree ⟨(Nat.le_of_ble_eq_true rfl), (Nat.le_of_ble_eq_true rfl)⟩ (q0 := 0) rfl (by decide) rfl rfl rfl rfl hl.1 rfl (Nat.le_of_ble_eq_true rfl) dX0_calmEdges_27 ⟨Nat.le_refl _, Nat.le_refl _⟩ (fun H locs hP => ?_)
  refine lv_istore_n (lv' := [(3, .int x4), (1, .long y3), (0, .ref (ad 0))]) hx hb dX0_calmEdges_30 rfl hl (by decide) rfl (fun ls hl => ?_)
  refine lv_iconst (v := 0) hx hb dX0_calmEdges_31 (by decide) ?_
  refine lv_istore (lv' := [(4, .int 0), (3, .int x4), (1, .long y3), (0, .ref (ad 0))]) hx hb dX0_calmEdges_32 hl (by decide) rfl (fun ls hl => ?_)
  have hL34 : ∀ (n : Nat) (y5 : Int64) (x6 : Int32) (x7 : Int32) (H : Heap) (locs : List Loc) (ls : Array Slot), lp (fun _ _ _ => none) (f_X0_calmEdges_L34_b σ ) n y5 x6 x7 = some r → PS ev 1 ad (gw1 σ) (inA ad 1) s H locs → lv_has ls 6 [(0, .ref (ad 0)), (1, .long y5), (3, .int x6), (4, .int x7)] → WW ev p l e (rmk 2 52) s m args below meth c Qc ad 1 H locs 34 ls [] := by
    intro n
    induction n with
    | zero =>
      intro y5 x6 x7 H locs ls h; exact k_none h
    | succ n ih =>
      intro y5 x6 x7 H locs ls h hP hl
      have h : f_X0_calmEdges_L34_b σ  (lp (fun _ _ _ => none) (f_X0_calmEdges_L34_b σ ) n) y5 x6 x7 = some r := h
      have h := (f_X0_calmEdges_L34_b.eq_1 _ _ _ _ _ ).symm.trans h
      refine lv_iload hx hb dX0_calmEdges_34 (lv_at hl 3 rfl) ?_
      refine lv_bipush (v := 16) hx hb dX0_calmEdges_36 (by decide) ?_
      refine lv_icmp_ge (tgt := 71) hx hb dX0_calmEdges_38 (by decide) (fun c38 => ?_) (fun c38 => ?_)
      · have h := k_if c38 h
        refine lv_lload_n hx hb dX0_calmEdges_71 rfl (lv_at hl 1 rfl) ?_
        exact e_lret C hend hP (k_some h) rfl dX0_calmEdges_72
      · have h := k_nf c38 h
        refine lv_iload_n hx hb dX0_calmEdges_41 rfl (lv_at hl 2 rfl) ?_
        refine lv_if_eq (tgt := 71) hx hb dX0_calmEdges_42 (by decide) (fun c42 => ?_) (fun c42 => ?_)
        · have h := k_if c42 h
          refine lv_lload_n hx hb dX0_calmEdges_71 rfl (lv_at hl 1 rfl) ?_
          exact e_lret C hend hP (k_some h) rfl dX0_calmEdges_72
        · have h := k_nf c42 h
          refine lv_iload_n hx hb dX0_calmEdges_45 rfl (lv_at hl 2 rfl) ?_
          refine lv_iload_n hx hb dX0_calmEdges_46 rfl (lv_at hl 2 rfl) ?_
          refine lv_ineg hx hb dX0_calmEdges_47 ?_
          refine lv_iand hx hb dX0_calmEdges_48 ?_
          refine lv_topi (fun x8 ex8 => ?_)
          have h := k_lt ex8 h
          refine lv_istore (lv' := [(5, .int x8), (0, .ref (ad 0)), (1, .long y5), (3, .int x6), (4, .int x7)]) hx hb dX0_calmEdges_49 hl (by decide) rfl (fun ls hl => ?_)
          refine lv_lload_n hx hb dX0_calmEdges_51 rfl (lv_at hl 2 rfl) ?_
          refine lv_aload_n hx hb dX0_calmEdges_52 rfl (lv_at hl 1 rfl) ?_
          refine lv_iload hx hb dX0_calmEdges_53 (lv_at hl 0 rfl) ?_
          obtain ⟨y9, h1, h⟩ := k_ob h
          refine k_callVl C hP hap hAA (c_X0_around l ev ad σ x8   _ h1) Emb.same hap gz_X0_around qML_RX0_155 qIM_yX0_around qSE_yX0_around ⟨(Nat.le_of_ble_eq_true rfl), (Nat.le_of_ble_eq_true rfl)⟩ (q0 := 0) rfl (by decide) rfl rfl rfl rfl hl.1 rfl (Nat.le_of_ble_eq_true rfl) dX0_calmEdges_55 ⟨Nat.le_refl _, Nat.le_refl _⟩ (fun H locs hP => ?_)
          refine lv_land hx hb dX0_calmEdges_58 ?_
          refine lv_topl (fun y10 ey10 => ?_)
          have h := k_lt ey10 h
          refine lv_lstore_n (lv' := [(1, .long y10), (5, .int x8), (0, .ref (ad 0)), (3, .int x6), (4, .int x7)]) hx hb dX0_calmEdges_59 rfl hl (by decide) rfl (fun ls hl => ?_)
          refine lv_iload_n hx hb dX0_calmEdges_60 rfl (lv_at hl 3 rfl) ?_
          refine lv_iload hx hb dX0_calmEdges_61 (lv_at hl 1 rfl) ?_
          refine lv_ixor hx hb dX0_calmEdges_63 ?_
          refine lv_topi (fun x11 ex11 => ?_)
          have h := k_lt ex11 h
          refine lv_istore_n (lv' := [(3, .int x11), (1, .long y10), (5, .int x8), (0, .ref (ad 0)), (4, .int x7)]) hx hb dX0_calmEdges_64 rfl hl (by decide) rfl (fun ls hl => ?_)
          obtain ⟨x12, ex12, h⟩ := k_ltx h
          refine lv_iinc (v := x12) (lv' := [(4, .int x12), (3, .int x11), (1, .long y10), (5, .int x8), (0, .ref (ad 0))]) hx hb dX0_calmEdges_65 hl (k := 4) rfl (by rw [ex12]; rfl) (by decide) rfl (fun ls hl => ?_)
          refine lv_goto (tgt := 34) hx hb dX0_calmEdges_68 (by decide) ?_
          exact ih _ _ _ _ _ _ h hP (lv_sub hl [4, 2, 1, 0] rfl)
  exact hL34 FU _ _ _ _ _ _ h hP (lv_sub hl [3, 2, 1, 0] rfl)
def f_X0_digsBelow (σ : GG) (a1 : Int32) (a2 : Int32) : Int64 :=
  if a1 ≤ (f_J6_bitCount_0f7a4 (g_dug σ)) then 0 else (lshl (Int32.toInt64 ((f_X0_softFields σ) &&& a2)) 40)
set_option maxHeartbeats 4000000 in
set_option maxRecDepth 100000 in
theorem c_X0_digsBelow (l : Launch) (ev : EV) (ad : Nat → Nat) (σ : GG) (a1 : Int32) (a2 : Int32)   (r : Int64)  (h : f_X0_digsBelow σ a1 a2 = r) : Ct l yX0_digsBelow prog_2_method_44_code 3 (Option.some Jvm.ClassFile.FieldType.long) (rmk 2 40) ev 1 ad (gw1 σ) (gw1 σ) [.ref (ad 0), .int a1, .int a2] (some (.long r)) := by
  refine Ct.of (by decide +kernel) (Nat.le_of_ble_eq_true rfl) ?_
  intro p e s m args below meth c Qc C hap hP hend ls hl
  have hAA : ∀ j, j < 1 → inA ad 1 (ad j) := fun j hj => ⟨j, hj, rfl⟩
  have hx := C.1
  have hb := C.2.1
  have hl : lv_has ls 3 [(0, .ref (ad 0)), (1, .int a1), (2, .int a2)] := hl
  have h := (f_X0_digsBelow.eq_1 _ _ _ ).symm.trans h
  refine lv_aload_n hx hb dX0_digsBelow_0 rfl (lv_at hl 0 rfl) ?_
  refine r_get C hP (ci := 0) rfl uin_X0 10 (by decide) 0 (by decide) rfl qFL_RX0_60 rfl rfl dX0_digsBelow_1 ?_
  refine k_callSi C hP hap hAA (c_J6_bitCount_0f7a4 l ev ad (g_dug σ)   _ rfl) Emb.none (apart_0 _) gz_J6_bitCount_0f7a4 qML_RX0_141 qSM_yJ6_bitCount_0f7a4 ⟨(Nat.le_of_ble_eq_true rfl), (Nat.le_of_ble_eq_true rfl)⟩ rfl hl.1 rfl (Nat.le_of_ble_eq_true rfl) dX0_digsBelow_4 ⟨Nat.le_refl _, Nat.le_refl _⟩ (fun H locs hP => ?_)
  refine lv_iload_n hx hb dX0_digsBelow_7 rfl (lv_at hl 1 rfl) ?_
  refine lv_icmp_ge (tgt := 24) hx hb dX0_digsBelow_8 (by decide) (fun c8 => ?_) (fun c8 => ?_)
  · have h := k_if c8 h
    refine lv_lconst (v := 0) hx hb dX0_digsBelow_24 (by decide) ?_
    exact e_lret C hend hP h rfl dX0_digsBelow_25
  · have h := k_nf c8 h
    refine lv_aload_n hx hb dX0_digsBelow_11 rfl (lv_at hl 0 rfl) ?_
    refine k_callVi C hP hap hAA (c_X0_softFields l ev ad σ   _ rfl) Emb.same hap gz_X0_softFields qML_RX0_120 qIM_yX0_softFields qSE_yX0_softFields ⟨(Nat.le_of_ble_eq_true rfl), (Nat.le_of_ble_eq_true rfl)⟩ (q0 := 0) rfl (by decide) rfl rfl rfl rfl hl.1 rfl (Nat.le_of_ble_eq_true rfl) dX0_digsBelow_12 ⟨Nat.le_refl _, Nat.le_refl _⟩ (fun H locs hP => ?_)
    refine lv_iload_n hx hb dX0_digsBelow_15 rfl (lv_at hl 2 rfl) ?_
    refine lv_iand hx hb dX0_digsBelow_16 ?_
    refine lv_i2l hx hb dX0_digsBelow_17 rfl ?_
    refine lv_bipush (v := 40) hx hb dX0_digsBelow_18 (by decide) ?_
    refine r_lshl hx hb dX0_digsBelow_20 ?_
    refine lv_goto (tgt := 25) hx hb dX0_digsBelow_21 (by decide) ?_
    exact e_lret C hend hP h rfl dX0_digsBelow_25
def f_X0_drawBelow (σ : GG) (a1 : Int32) : Option (Int32 × GG) :=
  lt (g_seed' σ (((g_seed σ) * 1103515245) + 12345)) (fun σ1 => if a1 ≤ 0 then some (0, σ1) else gd (nz a1) (some ((irem (iushr (g_seed σ1) 16) a1), σ1)))
set_option maxHeartbeats 4000000 in
set_option maxRecDepth 100000 in
theorem c_X0_drawBelow (l : Launch) (ev : EV) (ad : Nat → Nat) (σ : GG) (a1 : Int32)   (r : Int32) (σ' : GG) (h : f_X0_drawBelow σ a1 = some (r, σ')) : Ct l yX0_drawBelow prog_2_method_45_code 2 (Option.some Jvm.ClassFile.FieldType.int) (rmk 0 0) ev 1 ad (gw1 σ) (gw1 σ') [.ref (ad 0), .int a1] (some (.int r)) := by
  refine Ct.of (by decide +kernel) (Nat.le_of_ble_eq_true rfl) ?_
  intro p e s m args below meth c Qc C hap hP hend ls hl
  have hAA : ∀ j, j < 1 → inA ad 1 (ad j) := fun j hj => ⟨j, hj, rfl⟩
  have hx := C.1
  have hb := C.2.1
  have hl : lv_has ls 2 [(0, .ref (ad 0)), (1, .int a1)] := hl
  have h := (f_X0_drawBelow.eq_1 _ _ ).symm.trans h
  refine lv_aload_n hx hb dX0_drawBelow_0 rfl (lv_at hl 0 rfl) ?_
  refine lv_aload_n hx hb dX0_drawBelow_1 rfl (lv_at hl 0 rfl) ?_
  refine r_get C hP (ci := 0) rfl uin_X0 15 (by decide) 0 (by decide) rfl qFL_RX0_9 rfl rfl dX0_drawBelow_2 ?_
  refine lv_ldc (v := 1103515245) hx hb C.2.2.2.2.2.1 (C.2.2.2.2.1 _ qCT_RX0_162) dX0_drawBelow_5 ?_
  refine lv_imul hx hb dX0_drawBelow_7 ?_
  refine lv_sipush (v := 12345) hx hb dX0_drawBelow_8 (by decide) ?_
  refine lv_iadd hx hb dX0_drawBelow_11 ?_
  obtain ⟨σ1, eσ1, h⟩ := k_ltx h
  refine pt_G_X0_seed C hP hap hAA eσ1 qFL_RX0_9 dX0_drawBelow_12 (fun H locs hP => ?_)
  refine lv_iload_n hx hb dX0_drawBelow_15 rfl (lv_at hl 1 rfl) ?_
  refine lv_if_le (tgt := 31) hx hb dX0_drawBelow_16 (by decide) (fun c16 => ?_) (fun c16 => ?_)
  · have h := k_if c16 h
    refine lv_iconst (v := 0) hx hb dX0_drawBelow_31 (by decide) ?_
    exact e_iret C hend hP (k_some2 h).1 (congrArg (gw1) (k_some2 h).2) dX0_drawBelow_32
  · have h := k_nf c16 h
    refine lv_aload_n hx hb dX0_drawBelow_19 rfl (lv_at hl 0 rfl) ?_
    refine r_get C hP (ci := 0) rfl uin_X0 15 (by decide) 0 (by decide) rfl qFL_RX0_9 rfl rfl dX0_drawBelow_20 ?_
    refine lv_bipush (v := 16) hx hb dX0_drawBelow_23 (by decide) ?_
    refine r_iushr hx hb dX0_drawBelow_25 ?_
    refine lv_iload_n hx hb dX0_drawBelow_26 rfl (lv_at hl 1 rfl) ?_
    obtain ⟨hg, h⟩ := k_gd h
    refine r_irem hx hb dX0_drawBelow_27 (nz_ne hg) ?_
    refine lv_goto (tgt := 32) hx hb dX0_drawBelow_28 (by decide) ?_
    exact e_iret C hend hP (k_some2 h).1 (congrArg (gw1) (k_some2 h).2) dX0_drawBelow_32
