/-! functions read off, and their contracts: by program (wip/whole/gen2.py) -/
def f_X0_unmake (σ : GG) (a1 : Int64) (a2 : Int32) (a3 : Int32) (a4 : Int32) : Option GG :=
  lt (g_hedges' σ a1) (fun σ1 => lt (g_dug' σ1 a2) (fun σ2 => lt (g_ownedBy0' σ2 a3) (fun σ3 => lt (g_ownedBy1' σ3 a4) (fun σ4 => lt (g_turn' σ4 (1 - (g_turn σ4))) (fun σ5 => lt (g_made' σ5 ((g_made σ5) - 1)) (fun σ6 => some σ6))))))
set_option maxHeartbeats 4000000 in
set_option maxRecDepth 100000 in
theorem c_X0_unmake (l : Launch) (ev : EV) (ad : Nat → Nat) (σ : GG) (a1 : Int64) (a2 : Int32) (a3 : Int32) (a4 : Int32)    (σ' : GG) (h : f_X0_unmake σ a1 a2 a3 a4 = some σ') : Ct l yX0_unmake prog_2_method_33_code 6 (Option.none : Option Jvm.ClassFile.FieldType) (rmk 0 0) ev 1 ad (gw1 σ) (gw1 σ') [.ref (ad 0), .long a1, .int a2, .int a3, .int a4] none := by
  refine Ct.of (by decide +kernel) (Nat.le_of_ble_eq_true rfl) ?_
  intro p e s m args below meth c Qc C hap hP hend ls hl
  have hAA : ∀ j, j < 1 → inA ad 1 (ad j) := fun j hj => ⟨j, hj, rfl⟩
  have hx := C.1
  have hb := C.2.1
  have hl : lv_has ls 6 [(0, .ref (ad 0)), (1, .long a1), (3, .int a2), (4, .int a3), (5, .int a4)] := hl
  have h := (f_X0_unmake.eq_1 _ _ _ _ _ ).symm.trans h
  refine lv_aload_n hx hb dX0_unmake_0 rfl (lv_at hl 0 rfl) ?_
  refine lv_lload_n hx hb dX0_unmake_1 rfl (lv_at hl 1 rfl) ?_
  obtain ⟨σ1, eσ1, h⟩ := k_ltx h
  refine pt_G_X0_hedges C hP hap hAA eσ1 qFL_RX0_57 dX0_unmake_2 (fun H locs hP => ?_)
  refine lv_aload_n hx hb dX0_unmake_5 rfl (lv_at hl 0 rfl) ?_
  refine lv_iload_n hx hb dX0_unmake_6 rfl (lv_at hl 2 rfl) ?_
  obtain ⟨σ2, eσ2, h⟩ := k_ltx h
  refine pt_G_X0_dug C hP hap hAA eσ2 qFL_RX0_60 dX0_unmake_7 (fun H locs hP => ?_)
  refine lv_aload_n hx hb dX0_unmake_10 rfl (lv_at hl 0 rfl) ?_
  refine lv_iload hx hb dX0_unmake_11 (lv_at hl 3 rfl) ?_
  obtain ⟨σ3, eσ3, h⟩ := k_ltx h
  refine pt_G_X0_ownedBy0 C hP hap hAA eσ3 qFL_RX0_63 dX0_unmake_13 (fun H locs hP => ?_)
  refine lv_aload_n hx hb dX0_unmake_16 rfl (lv_at hl 0 rfl) ?_
  refine lv_iload hx hb dX0_unmake_17 (lv_at hl 4 rfl) ?_
  obtain ⟨σ4, eσ4, h⟩ := k_ltx h
  refine pt_G_X0_ownedBy1 C hP hap hAA eσ4 qFL_RX0_66 dX0_unmake_19 (fun H locs hP => ?_)
  refine lv_aload_n hx hb dX0_unmake_22 rfl (lv_at hl 0 rfl) ?_
  refine lv_iconst (v := 1) hx hb dX0_unmake_23 (by decide) ?_
  refine lv_aload_n hx hb dX0_unmake_24 rfl (lv_at hl 0 rfl) ?_
  refine r_get C hP (ci := 0) rfl uin_X0 13 (by decide) 0 (by decide) rfl qFL_RX0_69 rfl rfl dX0_unmake_25 ?_
  refine lv_isub hx hb dX0_unmake_28 ?_
  obtain ⟨σ5, eσ5, h⟩ := k_ltx h
  refine pt_G_X0_turn C hP hap hAA eσ5 qFL_RX0_69 dX0_unmake_29 (fun H locs hP => ?_)
  refine lv_aload_n hx hb dX0_unmake_32 rfl (lv_at hl 0 rfl) ?_
  refine lv_dup hx hb dX0_unmake_33 rfl ?_
  refine r_get C hP (ci := 0) rfl uin_X0 14 (by decide) 0 (by decide) rfl qFL_RX0_72 rfl rfl dX0_unmake_34 ?_
  refine lv_iconst (v := 1) hx hb dX0_unmake_37 (by decide) ?_
  refine lv_isub hx hb dX0_unmake_38 ?_
  obtain ⟨σ6, eσ6, h⟩ := k_ltx h
  refine pt_G_X0_made C hP hap hAA eσ6 qFL_RX0_72 dX0_unmake_39 (fun H locs hP => ?_)
  exact e_vret C hend hP (congrArg (gw1) (k_some h)) dX0_unmake_42
def f_X0_ownedBy (σ : GG) (a1 : Int32) : Int32 :=
  if a1 = 0 then (g_ownedBy0 σ) else (g_ownedBy1 σ)
set_option maxHeartbeats 4000000 in
set_option maxRecDepth 100000 in
theorem c_X0_ownedBy (l : Launch) (ev : EV) (ad : Nat → Nat) (σ : GG) (a1 : Int32)   (r : Int32)  (h : f_X0_ownedBy σ a1 = r) : Ct l yX0_ownedBy prog_2_method_35_code 2 (Option.some Jvm.ClassFile.FieldType.int) (rmk 0 0) ev 1 ad (gw1 σ) (gw1 σ) [.ref (ad 0), .int a1] (some (.int r)) := by
  refine Ct.of (by decide +kernel) (Nat.le_of_ble_eq_true rfl) ?_
  intro p e s m args below meth c Qc C hap hP hend ls hl
  have hAA : ∀ j, j < 1 → inA ad 1 (ad j) := fun j hj => ⟨j, hj, rfl⟩
  have hx := C.1
  have hb := C.2.1
  have hl : lv_has ls 2 [(0, .ref (ad 0)), (1, .int a1)] := hl
  have h := (f_X0_ownedBy.eq_1 _ _ ).symm.trans h
  refine lv_iload_n hx hb dX0_ownedBy_0 rfl (lv_at hl 1 rfl) ?_
  refine lv_if_ne (tgt := 11) hx hb dX0_ownedBy_1 (by decide) (fun c1 => ?_) (fun c1 => ?_)
  · have h := k_nf c1 h
    refine lv_aload_n hx hb dX0_ownedBy_11 rfl (lv_at hl 0 rfl) ?_
    refine r_get C hP (ci := 0) rfl uin_X0 12 (by decide) 0 (by decide) rfl qFL_RX0_66 rfl rfl dX0_ownedBy_12 ?_
    exact e_iret C hend hP h rfl dX0_ownedBy_15
  · have h := k_if c1 h
    refine lv_aload_n hx hb dX0_ownedBy_4 rfl (lv_at hl 0 rfl) ?_
    refine r_get C hP (ci := 0) rfl uin_X0 11 (by decide) 0 (by decide) rfl qFL_RX0_63 rfl rfl dX0_ownedBy_5 ?_
    refine lv_goto (tgt := 15) hx hb dX0_ownedBy_8 (by decide) ?_
    exact e_iret C hend hP h rfl dX0_ownedBy_15
def f_X0_drainedFields (σ : GG) : Option (Int32) :=
  ob (f_X0_touched σ ((g_rimEdges σ) &&& ((g_hedges σ) ^^^ (-1)))) (fun x1 => ob (f_X0_hanging σ x1 (g_dug σ) 0) (fun x2 => some x2))
set_option maxHeartbeats 4000000 in
set_option maxRecDepth 100000 in
theorem c_X0_drainedFields (l : Launch) (ev : EV) (ad : Nat → Nat) (σ : GG)   (r : Int32)  (h : f_X0_drainedFields σ = some r) : Ct l yX0_drainedFields prog_2_method_36_code 1 (Option.some Jvm.ClassFile.FieldType.int) (rmk 3 80) ev 1 ad (gw1 σ) (gw1 σ) [.ref (ad 0)] (some (.int r)) := by
  refine Ct.of (by decide +kernel) (Nat.le_of_ble_eq_true rfl) ?_
  intro p e s m args below meth c Qc C hap hP hend ls hl
  have hAA : ∀ j, j < 1 → inA ad 1 (ad j) := fun j hj => ⟨j, hj, rfl⟩
  have hx := C.1
  have hb := C.2.1
  have hl : lv_has ls 1 [(0, .ref (ad 0))] := hl
  have h := (f_X0_drainedFields.eq_1 _ ).symm.trans h
  refine lv_aload_n hx hb dX0_drainedFields_0 rfl (lv_at hl 0 rfl) ?_
  refine lv_aload_n hx hb dX0_drainedFields_1 rfl (lv_at hl 0 rfl) ?_
  refine lv_aload_n hx hb dX0_drainedFields_2 rfl (lv_at hl 0 rfl) ?_
  refine r_get C hP (ci := 0) rfl uin_X0 8 (by decide) 0 (by decide) rfl qFL_RX0_43 rfl rfl dX0_drainedFields_3 ?_
  refine lv_aload_n hx hb dX0_drainedFields_6 rfl (lv_at hl 0 rfl) ?_
  refine r_get C hP (ci := 0) rfl uin_X0 9 (by decide) 0 (by decide) rfl qFL_RX0_57 rfl rfl dX0_drainedFields_7 ?_
  refine lv_ldc2 (v := (-1)) hx hb C.2.2.2.2.2.1 (C.2.2.2.2.1 _ qCL_RX0_110) dX0_drainedFields_10 ?_
  refine lv_lxor hx hb dX0_drainedFields_13 ?_
  refine lv_land hx hb dX0_drainedFields_14 ?_
  obtain ⟨x1, h1, h⟩ := k_ob h
  refine k_callVi C hP hap hAA (c_X0_touched l ev ad σ ((g_rimEdges σ) &&& ((g_hedges σ) ^^^ (-1)))   _ h1) Emb.same hap gz_X0_touched qML_RX0_129 qIM_yX0_touched qSE_yX0_touched ⟨(Nat.le_of_ble_eq_true rfl), (Nat.le_of_ble_eq_true rfl)⟩ (q0 := 0) rfl (by decide) rfl rfl rfl rfl hl.1 rfl (Nat.le_of_ble_eq_true rfl) dX0_drainedFields_15 ⟨Nat.le_refl _, Nat.le_refl _⟩ (fun H locs hP => ?_)
  refine lv_aload_n hx hb dX0_drainedFields_18 rfl (lv_at hl 0 rfl) ?_
  refine r_get C hP (ci := 0) rfl uin_X0 10 (by decide) 0 (by decide) rfl qFL_RX0_60 rfl rfl dX0_drainedFields_19 ?_
  refine lv_lconst (v := 0) hx hb dX0_drainedFields_22 (by decide) ?_
  obtain ⟨x2, h1, h⟩ := k_ob h
  refine k_callVi C hP hap hAA (c_X0_hanging l ev ad σ x1 (g_dug σ) 0   _ h1) Emb.same hap gz_X0_hanging qML_RX0_99 qIM_yX0_hanging qSE_yX0_hanging ⟨(Nat.le_of_ble_eq_true rfl), (Nat.le_of_ble_eq_true rfl)⟩ (q0 := 0) rfl (by decide) rfl rfl rfl rfl hl.1 rfl (Nat.le_of_ble_eq_true rfl) dX0_drainedFields_23 ⟨Nat.le_refl _, Nat.le_refl _⟩ (fun H locs hP => ?_)
  exact e_iret C hend hP (k_some h) rfl dX0_drainedFields_26
def f_X0_dryFields (σ : GG) : Option (Int32) :=
  ob (f_X0_drainedFields σ) (fun x1 => ob (f_X0_beside σ x1 0) (fun x2 => some ((g_all σ) &&& ((x1 ||| x2) ^^^ (-1)))))
set_option maxHeartbeats 4000000 in
set_option maxRecDepth 100000 in
theorem c_X0_dryFields (l : Launch) (ev : EV) (ad : Nat → Nat) (σ : GG)   (r : Int32)  (h : f_X0_dryFields σ = some r) : Ct l yX0_dryFields prog_2_method_37_code 2 (Option.some Jvm.ClassFile.FieldType.int) (rmk 4 100) ev 1 ad (gw1 σ) (gw1 σ) [.ref (ad 0)] (some (.int r)) := by
  refine Ct.of (by decide +kernel) (Nat.le_of_ble_eq_true rfl) ?_
  intro p e s m args below meth c Qc C hap hP hend ls hl
  have hAA : ∀ j, j < 1 → inA ad 1 (ad j) := fun j hj => ⟨j, hj, rfl⟩
  have hx := C.1
  have hb := C.2.1
  have hl : lv_has ls 2 [(0, .ref (ad 0))] := hl
  have h := (f_X0_dryFields.eq_1 _ ).symm.trans h
  refine lv_aload_n hx hb dX0_dryFields_0 rfl (lv_at hl 0 rfl) ?_
  obtain ⟨x1, h1, h⟩ := k_ob h
  refine k_callVi C hP hap hAA (c_X0_drainedFields l ev ad σ   _ h1) Emb.same hap gz_X0_drainedFields qML_RX0_132 qIM_yX0_drainedFields qSE_yX0_drainedFields ⟨(Nat.le_of_ble_eq_true rfl), (Nat.le_of_ble_eq_true rfl)⟩ (q0 := 0) rfl (by decide) rfl rfl rfl rfl hl.1 rfl (Nat.le_of_ble_eq_true rfl) dX0_dryFields_1 ⟨Nat.le_refl _, Nat.le_refl _⟩ (fun H locs hP => ?_)
  refine lv_istore_n (lv' := [(1, .int x1), (0, .ref (ad 0))]) hx hb dX0_dryFields_4 rfl hl (by decide) rfl (fun ls hl => ?_)
  refine lv_aload_n hx hb dX0_dryFields_5 rfl (lv_at hl 1 rfl) ?_
  refine r_get C hP (ci := 0) rfl uin_X0 5 (by decide) 0 (by decide) rfl qFL_RX0_34 rfl rfl dX0_dryFields_6 ?_
  refine lv_iload_n hx hb dX0_dryFields_9 rfl (lv_at hl 0 rfl) ?_
  refine lv_aload_n hx hb dX0_dryFields_10 rfl (lv_at hl 1 rfl) ?_
  refine lv_iload_n hx hb dX0_dryFields_11 rfl (lv_at hl 0 rfl) ?_
  refine lv_lconst (v := 0) hx hb dX0_dryFields_12 (by decide) ?_
  obtain ⟨x2, h1, h⟩ := k_ob h
  refine k_callVi C hP hap hAA (c_X0_beside l ev ad σ x1 0   _ h1) Emb.same hap gz_X0_beside qML_RX0_95 qIM_yX0_beside qSE_yX0_beside ⟨(Nat.le_of_ble_eq_true rfl), (Nat.le_of_ble_eq_true rfl)⟩ (q0 := 0) rfl (by decide) rfl rfl rfl rfl hl.1 rfl (Nat.le_of_ble_eq_true rfl) dX0_dryFields_13 ⟨Nat.le_refl _, Nat.le_refl _⟩ (fun H locs hP => ?_)
  refine lv_ior hx hb dX0_dryFields_16 ?_
  refine lv_iconst (v := (-1)) hx hb dX0_dryFields_17 (by decide) ?_
  refine lv_ixor hx hb dX0_dryFields_18 ?_
  refine lv_iand hx hb dX0_dryFields_19 ?_
  exact e_iret C hend hP (k_some h) rfl dX0_dryFields_20
def f_X0_tinted (σ : GG) (a1 : Int32) : Option (Int32) :=
  ob (f_X0_dryFields σ) (fun x1 => some ((f_X0_ownedBy σ a1) &&& x1))
set_option maxHeartbeats 4000000 in
set_option maxRecDepth 100000 in
theorem c_X0_tinted (l : Launch) (ev : EV) (ad : Nat → Nat) (σ : GG) (a1 : Int32)   (r : Int32)  (h : f_X0_tinted σ a1 = some r) : Ct l yX0_tinted prog_2_method_38_code 2 (Option.some Jvm.ClassFile.FieldType.int) (rmk 5 121) ev 1 ad (gw1 σ) (gw1 σ) [.ref (ad 0), .int a1] (some (.int r)) := by
  refine Ct.of (by decide +kernel) (Nat.le_of_ble_eq_true rfl) ?_
  intro p e s m args below meth c Qc C hap hP hend ls hl
  have hAA : ∀ j, j < 1 → inA ad 1 (ad j) := fun j hj => ⟨j, hj, rfl⟩
  have hx := C.1
  have hb := C.2.1
  have hl : lv_has ls 2 [(0, .ref (ad 0)), (1, .int a1)] := hl
  have h := (f_X0_tinted.eq_1 _ _ ).symm.trans h
  refine lv_aload_n hx hb dX0_tinted_0 rfl (lv_at hl 0 rfl) ?_
  refine lv_iload_n hx hb dX0_tinted_1 rfl (lv_at hl 1 rfl) ?_
  refine k_callVi C hP hap hAA (c_X0_ownedBy l ev ad σ a1   _ rfl) Emb.same hap gz_X0_ownedBy qML_RX0_135 qIM_yX0_ownedBy qSE_yX0_ownedBy ⟨(Nat.le_of_ble_eq_true rfl), (Nat.le_of_ble_eq_true rfl)⟩ (q0 := 0) rfl (by decide) rfl rfl rfl rfl hl.1 rfl (Nat.le_of_ble_eq_true rfl) dX0_tinted_2 ⟨Nat.le_refl _, Nat.le_refl _⟩ (fun H locs hP => ?_)
  refine lv_aload_n hx hb dX0_tinted_5 rfl (lv_at hl 0 rfl) ?_
  obtain ⟨x1, h1, h⟩ := k_ob h
  refine k_callVi C hP hap hAA (c_X0_dryFields l ev ad σ   _ h1) Emb.same hap gz_X0_dryFields qML_RX0_138 qIM_yX0_dryFields qSE_yX0_dryFields ⟨(Nat.le_of_ble_eq_true rfl), (Nat.le_of_ble_eq_true rfl)⟩ (q0 := 0) rfl (by decide) rfl rfl rfl rfl hl.1 rfl (Nat.le_of_ble_eq_true rfl) dX0_tinted_6 ⟨Nat.le_refl _, Nat.le_refl _⟩ (fun H locs hP => ?_)
  refine lv_iand hx hb dX0_tinted_9 ?_
  exact e_iret C hend hP (k_some h) rfl dX0_tinted_10
def f_J6_bitCount_0f7a4 (a1 : Int32) : Int32 :=
  lt (a1 - ((iushr a1 1) &&& 1431655765)) (fun x1 => lt ((x1 &&& 858993459) + ((iushr x1 2) &&& 858993459)) (fun x2 => lt ((x2 + (iushr x2 4)) &&& 252645135) (fun x3 => lt (x3 + (iushr x3 8)) (fun x4 => lt (x4 + (iushr x4 16)) (fun x5 => (x5 &&& 63))))))
set_option maxHeartbeats 4000000 in
set_option maxRecDepth 100000 in
theorem c_J6_bitCount_0f7a4 (l : Launch) (ev : EV) (ad : Nat → Nat) (a1 : Int32)   (r : Int32)  (h : f_J6_bitCount_0f7a4 a1 = r) : Ct l yJ6_bitCount_0f7a4 prog_7_method_49_code 1 (Option.some Jvm.ClassFile.FieldType.int) (rmk 0 0) ev 0 ad w00 w00 [.int a1] (some (.int r)) := by
  refine Ct.of (by decide +kernel) (Nat.le_of_ble_eq_true rfl) ?_
  intro p e s m args below meth c Qc C hap hP hend ls hl
  have hAA : ∀ j, j < 0 → inA ad 0 (ad j) := fun j hj => ⟨j, hj, rfl⟩
  have hx := C.1
  have hb := C.2.1
  have hl : lv_has ls 1 [(0, .int a1)] := hl
  have h := (f_J6_bitCount_0f7a4.eq_1 _ ).symm.trans h
  refine lv_iload_n hx hb dJ6_bitCount_0f7a4_0 rfl (lv_at hl 0 rfl) ?_
  refine lv_iload_n hx hb dJ6_bitCount_0f7a4_1 rfl (lv_at hl 0 rfl) ?_
  refine lv_iconst (v := 1) hx hb dJ6_bitCount_0f7a4_2 (by decide) ?_
  refine r_iushr hx hb dJ6_bitCount_0f7a4_3 ?_
  refine lv_ldcw (v := 1431655765) hx hb C.2.2.2.2.2.1 (C.2.2.2.2.1 _ qCT_RJ6_265) dJ6_bitCount_0f7a4_4 ?_
  refine lv_iand hx hb dJ6_bitCount_0f7a4_7 ?_
  refine lv_isub hx hb dJ6_bitCount_0f7a4_8 ?_
  refine lv_topi (fun x1 ex1 => ?_)
  have h := k_lt ex1 h
  refine lv_istore_n (lv' := [(0, .int x1)]) hx hb dJ6_bitCount_0f7a4_9 rfl hl (by decide) rfl (fun ls hl => ?_)
  refine lv_iload_n hx hb dJ6_bitCount_0f7a4_10 rfl (lv_at hl 0 rfl) ?_
  refine lv_ldcw (v := 858993459) hx hb C.2.2.2.2.2.1 (C.2.2.2.2.1 _ qCT_RJ6_266) dJ6_bitCount_0f7a4_11 ?_
  refine lv_iand hx hb dJ6_bitCount_0f7a4_14 ?_
  refine lv_iload_n hx hb dJ6_bitCount_0f7a4_15 rfl (lv_at hl 0 rfl) ?_
  refine lv_iconst (v := 2) hx hb dJ6_bitCount_0f7a4_16 (by decide) ?_
  refine r_iushr hx hb dJ6_bitCount_0f7a4_17 ?_
  refine lv_ldcw (v := 858993459) hx hb C.2.2.2.2.2.1 (C.2.2.2.2.1 _ qCT_RJ6_266) dJ6_bitCount_0f7a4_18 ?_
  refine lv_iand hx hb dJ6_bitCount_0f7a4_21 ?_
  refine lv_iadd hx hb dJ6_bitCount_0f7a4_22 ?_
  refine lv_topi (fun x2 ex2 => ?_)
  have h := k_lt ex2 h
  refine lv_istore_n (lv' := [(0, .int x2)]) hx hb dJ6_bitCount_0f7a4_23 rfl hl (by decide) rfl (fun ls hl => ?_)
  refine lv_iload_n hx hb dJ6_bitCount_0f7a4_24 rfl (lv_at hl 0 rfl) ?_
  refine lv_iload_n hx hb dJ6_bitCount_0f7a4_25 rfl (lv_at hl 0 rfl) ?_
  refine lv_iconst (v := 4) hx hb dJ6_bitCount_0f7a4_26 (by decide) ?_
  refine r_iushr hx hb dJ6_bitCount_0f7a4_27 ?_
  refine lv_iadd hx hb dJ6_bitCount_0f7a4_28 ?_
  refine lv_ldcw (v := 252645135) hx hb C.2.2.2.2.2.1 (C.2.2.2.2.1 _ qCT_RJ6_267) dJ6_bitCount_0f7a4_29 ?_
  refine lv_iand hx hb dJ6_bitCount_0f7a4_32 ?_
  refine lv_topi (fun x3 ex3 => ?_)
  have h := k_lt ex3 h
  refine lv_istore_n (lv' := [(0, .int x3)]) hx hb dJ6_bitCount_0f7a4_33 rfl hl (by decide) rfl (fun ls hl => ?_)
  refine lv_iload_n hx hb dJ6_bitCount_0f7a4_34 rfl (lv_at hl 0 rfl) ?_
  refine lv_iload_n hx hb dJ6_bitCount_0f7a4_35 rfl (lv_at hl 0 rfl) ?_
  refine lv_bipush (v := 8) hx hb dJ6_bitCount_0f7a4_36 (by decide) ?_
  refine r_iushr hx hb dJ6_bitCount_0f7a4_38 ?_
  refine lv_iadd hx hb dJ6_bitCount_0f7a4_39 ?_
  refine lv_topi (fun x4 ex4 => ?_)
  have h := k_lt ex4 h
  refine lv_istore_n (lv' := [(0, .int x4)]) hx hb dJ6_bitCount_0f7a4_40 rfl hl (by decide) rfl (fun ls hl => ?_)
  refine lv_iload_n hx hb dJ6_bitCount_0f7a4_41 rfl (lv_at hl 0 rfl) ?_
  refine lv_iload_n hx hb dJ6_bitCount_0f7a4_42 rfl (lv_at hl 0 rfl) ?_
  refine lv_bipush (v := 16) hx hb dJ6_bitCount_0f7a4_43 (by decide) ?_
  refine r_iushr hx hb dJ6_bitCount_0f7a4_45 ?_
  refine lv_iadd hx hb dJ6_bitCount_0f7a4_46 ?_
  refine lv_topi (fun x5 ex5 => ?_)
  have h := k_lt ex5 h
  refine lv_istore_n (lv' := [(0, .int x5)]) hx hb dJ6_bitCount_0f7a4_47 rfl hl (by decide) rfl (fun ls hl => ?_)
  refine lv_iload_n hx hb dJ6_bitCount_0f7a4_48 rfl (lv_at hl 0 rfl) ?_
  refine lv_bipush (v := 63) hx hb dJ6_bitCount_0f7a4_49 (by decide) ?_
  refine lv_iand hx hb dJ6_bitCount_0f7a4_51 ?_
  exact e_iret C hend hP h rfl dJ6_bitCount_0f7a4_52
def f_X0_lanesAmong (σ : GG) (a1 : Int32) : Int32 :=
  lt ((((a1 &&& (iushr a1 1)) &&& (iushr a1 2)) &&& ((g_rightmost σ) ^^^ (-1))) &&& ((iushr (g_rightmost σ) 1) ^^^ (-1))) (fun x1 => lt ((a1 &&& (iushr a1 (g_width σ))) &&& (iushr a1 (2 * (g_width σ)))) (fun x2 => ((f_J6_bitCount_0f7a4 x1) + (f_J6_bitCount_0f7a4 x2))))
set_option maxHeartbeats 4000000 in
set_option maxRecDepth 100000 in
theorem c_X0_lanesAmong (l : Launch) (ev : EV) (ad : Nat → Nat) (σ : GG) (a1 : Int32)   (r : Int32)  (h : f_X0_lanesAmong σ a1 = r) : Ct l yX0_lanesAmong prog_2_method_39_code 4 (Option.some Jvm.ClassFile.FieldType.int) (rmk 1 20) ev 1 ad (gw1 σ) (gw1 σ) [.ref (ad 0), .int a1] (some (.int r)) := by
  refine Ct.of (by decide +kernel) (Nat.le_of_ble_eq_true rfl) ?_
  intro p e s m args below meth c Qc C hap hP hend ls hl
  have hAA : ∀ j, j < 1 → inA ad 1 (ad j) := fun j hj => ⟨j, hj, rfl⟩
  have hx := C.1
  have hb := C.2.1
  have hl : lv_has ls 4 [(0, .ref (ad 0)), (1, .int a1)] := hl
  have h := (f_X0_lanesAmong.eq_1 _ _ ).symm.trans h
  refine lv_iload_n hx hb dX0_lanesAmong_0 rfl (lv_at hl 1 rfl) ?_
  refine lv_iload_n hx hb dX0_lanesAmong_1 rfl (lv_at hl 1 rfl) ?_
  refine lv_iconst (v := 1) hx hb dX0_lanesAmong_2 (by decide) ?_
  refine r_iushr hx hb dX0_lanesAmong_3 ?_
  refine lv_iand hx hb dX0_lanesAmong_4 ?_
  refine lv_iload_n hx hb dX0_lanesAmong_5 rfl (lv_at hl 1 rfl) ?_
  refine lv_iconst (v := 2) hx hb dX0_lanesAmong_6 (by decide) ?_
  refine r_iushr hx hb dX0_lanesAmong_7 ?_
  refine lv_iand hx hb dX0_lanesAmong_8 ?_
  refine lv_aload_n hx hb dX0_lanesAmong_9 rfl (lv_at hl 0 rfl) ?_
  refine r_get C hP (ci := 0) rfl uin_X0 7 (by decide) 0 (by decide) rfl qFL_RX0_40 rfl rfl dX0_lanesAmong_10 ?_
  refine lv_iconst (v := (-1)) hx hb dX0_lanesAmong_13 (by decide) ?_
  refine lv_ixor hx hb dX0_lanesAmong_14 ?_
  refine lv_iand hx hb dX0_lanesAmong_15 ?_
  refine lv_aload_n hx hb dX0_lanesAmong_16 rfl (lv_at hl 0 rfl) ?_
  refine r_get C hP (ci := 0) rfl uin_X0 7 (by decide) 0 (by decide) rfl qFL_RX0_40 rfl rfl dX0_lanesAmong_17 ?_
  refine lv_iconst (v := 1) hx hb dX0_lanesAmong_20 (by decide) ?_
  refine r_iushr hx hb dX0_lanesAmong_21 ?_
  refine lv_iconst (v := (-1)) hx hb dX0_lanesAmong_22 (by decide) ?_
  refine lv_ixor hx hb dX0_lanesAmong_23 ?_
  refine lv_iand hx hb dX0_lanesAmong_24 ?_
  refine lv_topi (fun x1 ex1 => ?_)
  have h := k_lt ex1 h
  refine lv_istore_n (lv' := [(2, .int x1), (0, .ref (ad 0)), (1, .int a1)]) hx hb dX0_lanesAmong_25 rfl hl (by decide) rfl (fun ls hl => ?_)
  refine lv_iload_n hx hb dX0_lanesAmong_26 rfl (lv_at hl 2 rfl) ?_
  refine lv_iload_n hx hb dX0_lanesAmong_27 rfl (lv_at hl 2 rfl) ?_
  refine lv_aload_n hx hb dX0_lanesAmong_28 rfl (lv_at hl 1 rfl) ?_
  refine r_get C hP (ci := 0) rfl uin_X0 0 (by decide) 0 (by decide) rfl qFL_RX0_19 rfl rfl dX0_lanesAmong_29 ?_
  refine r_iushr hx hb dX0_lanesAmong_32 ?_
  refine lv_iand hx hb dX0_lanesAmong_33 ?_
  refine lv_iload_n hx hb dX0_lanesAmong_34 rfl (lv_at hl 2 rfl) ?_
  refine lv_iconst (v := 2) hx hb dX0_lanesAmong_35 (by decide) ?_
  refine lv_aload_n hx hb dX0_lanesAmong_36 rfl (lv_at hl 1 rfl) ?_
  refine r_get C hP (ci := 0) rfl uin_X0 0 (by decide) 0 (by decide) rfl qFL_RX0_19 rfl rfl dX0_lanesAmong_37 ?_
  refine lv_imul hx hb dX0_lanesAmong_40 ?_
  refine r_iushr hx hb dX0_lanesAmong_41 ?_
  refine lv_iand hx hb dX0_lanesAmong_42 ?_
  refine lv_topi (fun x2 ex2 => ?_)
  have h := k_lt ex2 h
  refine lv_istore_n (lv' := [(3, .int x2), (2, .int x1), (0, .ref (ad 0)), (1, .int a1)]) hx hb dX0_lanesAmong_43 rfl hl (by decide) rfl (fun ls hl => ?_)
  refine lv_iload_n hx hb dX0_lanesAmong_44 rfl (lv_at hl 1 rfl) ?_
  refine k_callSi C hP hap hAA (c_J6_bitCount_0f7a4 l ev ad x1   _ rfl) Emb.none (apart_0 _) gz_J6_bitCount_0f7a4 qML_RX0_141 qSM_yJ6_bitCount_0f7a4 ⟨(Nat.le_of_ble_eq_true rfl), (Nat.le_of_ble_eq_true rfl)⟩ rfl hl.1 rfl (Nat.le_of_ble_eq_true rfl) dX0_lanesAmong_45 ⟨Nat.le_refl _, Nat.le_refl _⟩ (fun H locs hP => ?_)
  refine lv_iload_n hx hb dX0_lanesAmong_48 rfl (lv_at hl 0 rfl) ?_
  refine k_callSi C hP hap hAA (c_J6_bitCount_0f7a4 l ev ad x2   _ rfl) Emb.none (apart_0 _) gz_J6_bitCount_0f7a4 qML_RX0_141 qSM_yJ6_bitCount_0f7a4 ⟨(Nat.le_of_ble_eq_true rfl), (Nat.le_of_ble_eq_true rfl)⟩ rfl hl.1 rfl (Nat.le_of_ble_eq_true rfl) dX0_lanesAmong_49 ⟨Nat.le_refl _, Nat.le_refl _⟩ (fun H locs hP => ?_)
  refine lv_iadd hx hb dX0_lanesAmong_52 ?_
  exact e_iret C hend hP h rfl dX0_lanesAmong_53
