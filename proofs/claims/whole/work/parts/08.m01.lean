/-! functions read off, and their contracts: by program (wip/whole/gen2.py) -/
def f_X0_become (σ : GG) (g2 : GG) : Option GG :=
  lt (g_width' σ (g_width g2)) (fun σ1 => lt (g_height' σ1 (g_height g2)) (fun σ2 => lt (g_fields' σ2 (g_fields g2)) (fun σ3 => lt (g_edges' σ3 (g_edges g2)) (fun σ4 => lt (g_uprights' σ4 (g_uprights g2)) (fun σ5 => lt (g_all' σ5 (g_all g2)) (fun σ6 => lt (g_leftmost' σ6 (g_leftmost g2)) (fun σ7 => lt (g_rightmost' σ7 (g_rightmost g2)) (fun σ8 => lt (g_rimEdges' σ8 (g_rimEdges g2)) (fun σ9 => lt (g_hedges' σ9 (g_hedges g2)) (fun σ10 => lt (g_dug' σ10 (g_dug g2)) (fun σ11 => lt (g_ownedBy0' σ11 (g_ownedBy0 g2)) (fun σ12 => lt (g_ownedBy1' σ12 (g_ownedBy1 g2)) (fun σ13 => lt (g_turn' σ13 (g_turn g2)) (fun σ14 => lt (g_made' σ14 (g_made g2)) (fun σ15 => lt (g_seed' σ15 (g_seed g2)) (fun σ16 => some σ16))))))))))))))))
set_option maxHeartbeats 4000000 in
set_option maxRecDepth 100000 in
theorem c_X0_become (l : Launch) (ev : EV) (ad : Nat → Nat) (σ : GG) (g2 : GG)    (σ' : GG) (h : f_X0_become σ g2 = some σ') : Ct l yX0_become prog_2_method_4_code 2 (Option.none : Option Jvm.ClassFile.FieldType) (rmk 0 0) ev 2 ad (gw2 σ g2) (gw2 σ' g2) [.ref (ad 0), .ref (ad 1)] none := by
  refine Ct.of (by decide +kernel) (Nat.le_of_ble_eq_true rfl) ?_
  intro p e s m args below meth c Qc C hap hP hend ls hl
  have hAA : ∀ j, j < 2 → inA ad 2 (ad j) := fun j hj => ⟨j, hj, rfl⟩
  have hx := C.1
  have hb := C.2.1
  have hl : lv_has ls 2 [(0, .ref (ad 0)), (1, .ref (ad 1))] := hl
  have h := (f_X0_become.eq_1 _ _ ).symm.trans h
  refine lv_aload_n hx hb dX0_become_0 rfl (lv_at hl 0 rfl) ?_
  refine lv_aload_n hx hb dX0_become_1 rfl (lv_at hl 1 rfl) ?_
  refine r_get C hP (ci := 0) rfl uin_X0 0 (by decide) 1 (by decide) rfl qFL_RX0_19 rfl rfl dX0_become_2 ?_
  obtain ⟨σ1, eσ1, h⟩ := k_ltx h
  refine pt_GG_X0_width C hP hap hAA eσ1 qFL_RX0_19 dX0_become_5 (fun H locs hP => ?_)
  refine lv_aload_n hx hb dX0_become_8 rfl (lv_at hl 0 rfl) ?_
  refine lv_aload_n hx hb dX0_become_9 rfl (lv_at hl 1 rfl) ?_
  refine r_get C hP (ci := 0) rfl uin_X0 1 (by decide) 1 (by decide) rfl qFL_RX0_22 rfl rfl dX0_become_10 ?_
  obtain ⟨σ2, eσ2, h⟩ := k_ltx h
  refine pt_GG_X0_height C hP hap hAA eσ2 qFL_RX0_22 dX0_become_13 (fun H locs hP => ?_)
  refine lv_aload_n hx hb dX0_become_16 rfl (lv_at hl 0 rfl) ?_
  refine lv_aload_n hx hb dX0_become_17 rfl (lv_at hl 1 rfl) ?_
  refine r_get C hP (ci := 0) rfl uin_X0 2 (by decide) 1 (by decide) rfl qFL_RX0_25 rfl rfl dX0_become_18 ?_
  obtain ⟨σ3, eσ3, h⟩ := k_ltx h
  refine pt_GG_X0_fields C hP hap hAA eσ3 qFL_RX0_25 dX0_become_21 (fun H locs hP => ?_)
  refine lv_aload_n hx hb dX0_become_24 rfl (lv_at hl 0 rfl) ?_
  refine lv_aload_n hx hb dX0_become_25 rfl (lv_at hl 1 rfl) ?_
  refine r_get C hP (ci := 0) rfl uin_X0 3 (by decide) 1 (by decide) rfl qFL_RX0_31 rfl rfl dX0_become_26 ?_
  obtain ⟨σ4, eσ4, h⟩ := k_ltx h
  refine pt_GG_X0_edges C hP hap hAA eσ4 qFL_RX0_31 dX0_become_29 (fun H locs hP => ?_)
  refine lv_aload_n hx hb dX0_become_32 rfl (lv_at hl 0 rfl) ?_
  refine lv_aload_n hx hb dX0_become_33 rfl (lv_at hl 1 rfl) ?_
  refine r_get C hP (ci := 0) rfl uin_X0 4 (by decide) 1 (by decide) rfl qFL_RX0_28 rfl rfl dX0_become_34 ?_
  obtain ⟨σ5, eσ5, h⟩ := k_ltx h
  refine pt_GG_X0_uprights C hP hap hAA eσ5 qFL_RX0_28 dX0_become_37 (fun H locs hP => ?_)
  refine lv_aload_n hx hb dX0_become_40 rfl (lv_at hl 0 rfl) ?_
  refine lv_aload_n hx hb dX0_become_41 rfl (lv_at hl 1 rfl) ?_
  refine r_get C hP (ci := 0) rfl uin_X0 5 (by decide) 1 (by decide) rfl qFL_RX0_34 rfl rfl dX0_become_42 ?_
  obtain ⟨σ6, eσ6, h⟩ := k_ltx h
  refine pt_GG_X0_all C hP hap hAA eσ6 qFL_RX0_34 dX0_become_45 (fun H locs hP => ?_)
  refine lv_aload_n hx hb dX0_become_48 rfl (lv_at hl 0 rfl) ?_
  refine lv_aload_n hx hb dX0_become_49 rfl (lv_at hl 1 rfl) ?_
  refine r_get C hP (ci := 0) rfl uin_X0 6 (by decide) 1 (by decide) rfl qFL_RX0_37 rfl rfl dX0_become_50 ?_
  obtain ⟨σ7, eσ7, h⟩ := k_ltx h
  refine pt_GG_X0_leftmost C hP hap hAA eσ7 qFL_RX0_37 dX0_become_53 (fun H locs hP => ?_)
  refine lv_aload_n hx hb dX0_become_56 rfl (lv_at hl 0 rfl) ?_
  refine lv_aload_n hx hb dX0_become_57 rfl (lv_at hl 1 rfl) ?_
  refine r_get C hP (ci := 0) rfl uin_X0 7 (by decide) 1 (by decide) rfl qFL_RX0_40 rfl rfl dX0_become_58 ?_
  obtain ⟨σ8, eσ8, h⟩ := k_ltx h
  refine pt_GG_X0_rightmost C hP hap hAA eσ8 qFL_RX0_40 dX0_become_61 (fun H locs hP => ?_)
  refine lv_aload_n hx hb dX0_become_64 rfl (lv_at hl 0 rfl) ?_
  refine lv_aload_n hx hb dX0_become_65 rfl (lv_at hl 1 rfl) ?_
  refine r_get C hP (ci := 0) rfl uin_X0 8 (by decide) 1 (by decide) rfl qFL_RX0_43 rfl rfl dX0_become_66 ?_
  obtain ⟨σ9, eσ9, h⟩ := k_ltx h
  refine pt_GG_X0_rimEdges C hP hap hAA eσ9 qFL_RX0_43 dX0_become_69 (fun H locs hP => ?_)
  refine lv_aload_n hx hb dX0_become_72 rfl (lv_at hl 0 rfl) ?_
  refine lv_aload_n hx hb dX0_become_73 rfl (lv_at hl 1 rfl) ?_
  refine r_get C hP (ci := 0) rfl uin_X0 9 (by decide) 1 (by decide) rfl qFL_RX0_57 rfl rfl dX0_become_74 ?_
  obtain ⟨σ10, eσ10, h⟩ := k_ltx h
  refine pt_GG_X0_hedges C hP hap hAA eσ10 qFL_RX0_57 dX0_become_77 (fun H locs hP => ?_)
  refine lv_aload_n hx hb dX0_become_80 rfl (lv_at hl 0 rfl) ?_
  refine lv_aload_n hx hb dX0_become_81 rfl (lv_at hl 1 rfl) ?_
  refine r_get C hP (ci := 0) rfl uin_X0 10 (by decide) 1 (by decide) rfl qFL_RX0_60 rfl rfl dX0_become_82 ?_
  obtain ⟨σ11, eσ11, h⟩ := k_ltx h
  refine pt_GG_X0_dug C hP hap hAA eσ11 qFL_RX0_60 dX0_become_85 (fun H locs hP => ?_)
  refine lv_aload_n hx hb dX0_become_88 rfl (lv_at hl 0 rfl) ?_
  refine lv_aload_n hx hb dX0_become_89 rfl (lv_at hl 1 rfl) ?_
  refine r_get C hP (ci := 0) rfl uin_X0 11 (by decide) 1 (by decide) rfl qFL_RX0_63 rfl rfl dX0_become_90 ?_
  obtain ⟨σ12, eσ12, h⟩ := k_ltx h
  refine pt_GG_X0_ownedBy0 C hP hap hAA eσ12 qFL_RX0_63 dX0_become_93 (fun H locs hP => ?_)
  refine lv_aload_n hx hb dX0_become_96 rfl (lv_at hl 0 rfl) ?_
  refine lv_aload_n hx hb dX0_become_97 rfl (lv_at hl 1 rfl) ?_
  refine r_get C hP (ci := 0) rfl uin_X0 12 (by decide) 1 (by decide) rfl qFL_RX0_66 rfl rfl dX0_become_98 ?_
  obtain ⟨σ13, eσ13, h⟩ := k_ltx h
  refine pt_GG_X0_ownedBy1 C hP hap hAA eσ13 qFL_RX0_66 dX0_become_101 (fun H locs hP => ?_)
  refine lv_aload_n hx hb dX0_become_104 rfl (lv_at hl 0 rfl) ?_
  refine lv_aload_n hx hb dX0_become_105 rfl (lv_at hl 1 rfl) ?_
  refine r_get C hP (ci := 0) rfl uin_X0 13 (by decide) 1 (by decide) rfl qFL_RX0_69 rfl rfl dX0_become_106 ?_
  obtain ⟨σ14, eσ14, h⟩ := k_ltx h
  refine pt_GG_X0_turn C hP hap hAA eσ14 qFL_RX0_69 dX0_become_109 (fun H locs hP => ?_)
  refine lv_aload_n hx hb dX0_become_112 rfl (lv_at hl 0 rfl) ?_
  refine lv_aload_n hx hb dX0_become_113 rfl (lv_at hl 1 rfl) ?_
  refine r_get C hP (ci := 0) rfl uin_X0 14 (by decide) 1 (by decide) rfl qFL_RX0_72 rfl rfl dX0_become_114 ?_
  obtain ⟨σ15, eσ15, h⟩ := k_ltx h
  refine pt_GG_X0_made C hP hap hAA eσ15 qFL_RX0_72 dX0_become_117 (fun H locs hP => ?_)
  refine lv_aload_n hx hb dX0_become_120 rfl (lv_at hl 0 rfl) ?_
  refine lv_aload_n hx hb dX0_become_121 rfl (lv_at hl 1 rfl) ?_
  refine r_get C hP (ci := 0) rfl uin_X0 15 (by decide) 1 (by decide) rfl qFL_RX0_9 rfl rfl dX0_become_122 ?_
  obtain ⟨σ16, eσ16, h⟩ := k_ltx h
  refine pt_GG_X0_seed C hP hap hAA eσ16 qFL_RX0_9 dX0_become_125 (fun H locs hP => ?_)
  exact e_vret C hend hP (congrArg (fun g => gw2 g g2) (k_some h)) dX0_become_128
def f_X0_isField (σ : GG) (a1 : Int32) : Bool :=
  if a1 < 0 then false else if (g_fields σ) ≤ a1 then false else true
set_option maxHeartbeats 4000000 in
set_option maxRecDepth 100000 in
theorem c_X0_isField (l : Launch) (ev : EV) (ad : Nat → Nat) (σ : GG) (a1 : Int32)   (r : Bool)  (h : f_X0_isField σ a1 = r) : Ct l yX0_isField prog_2_method_5_code 2 (Option.some Jvm.ClassFile.FieldType.boolean) (rmk 0 0) ev 1 ad (gw1 σ) (gw1 σ) [.ref (ad 0), .int a1] (some (.int (bi r))) := by
  refine Ct.of (by decide +kernel) (Nat.le_of_ble_eq_true rfl) ?_
  intro p e s m args below meth c Qc C hap hP hend ls hl
  have hAA : ∀ j, j < 1 → inA ad 1 (ad j) := fun j hj => ⟨j, hj, rfl⟩
  have hx := C.1
  have hb := C.2.1
  have hl : lv_has ls 2 [(0, .ref (ad 0)), (1, .int a1)] := hl
  have h := (f_X0_isField.eq_1 _ _ ).symm.trans h
  refine lv_iload_n hx hb dX0_isField_0 rfl (lv_at hl 1 rfl) ?_
  refine lv_if_lt (tgt := 16) hx hb dX0_isField_1 (by decide) (fun c1 => ?_) (fun c1 => ?_)
  · have h := k_if c1 h
    refine lv_iconst (v := 0) hx hb dX0_isField_16 (by decide) ?_
    exact e_zret C hend hP h rfl dX0_isField_17 rfl
  · have h := k_nf c1 h
    refine lv_iload_n hx hb dX0_isField_4 rfl (lv_at hl 1 rfl) ?_
    refine lv_aload_n hx hb dX0_isField_5 rfl (lv_at hl 0 rfl) ?_
    refine r_get C hP (ci := 0) rfl uin_X0 2 (by decide) 0 (by decide) rfl qFL_RX0_25 rfl rfl dX0_isField_6 ?_
    refine lv_icmp_ge (tgt := 16) hx hb dX0_isField_9 (by decide) (fun c9 => ?_) (fun c9 => ?_)
    · have h := k_if c9 h
      refine lv_iconst (v := 0) hx hb dX0_isField_16 (by decide) ?_
      exact e_zret C hend hP h rfl dX0_isField_17 rfl
    · have h := k_nf c9 h
      refine lv_iconst (v := 1) hx hb dX0_isField_12 (by decide) ?_
      refine lv_goto (tgt := 17) hx hb dX0_isField_13 (by decide) ?_
      exact e_zret C hend hP h rfl dX0_isField_17 rfl
def f_X0_isEdge (σ : GG) (a1 : Int32) : Bool :=
  if a1 < 0 then false else if (g_edges σ) ≤ a1 then false else true
set_option maxHeartbeats 4000000 in
set_option maxRecDepth 100000 in
theorem c_X0_isEdge (l : Launch) (ev : EV) (ad : Nat → Nat) (σ : GG) (a1 : Int32)   (r : Bool)  (h : f_X0_isEdge σ a1 = r) : Ct l yX0_isEdge prog_2_method_6_code 2 (Option.some Jvm.ClassFile.FieldType.boolean) (rmk 0 0) ev 1 ad (gw1 σ) (gw1 σ) [.ref (ad 0), .int a1] (some (.int (bi r))) := by
  refine Ct.of (by decide +kernel) (Nat.le_of_ble_eq_true rfl) ?_
  intro p e s m args below meth c Qc C hap hP hend ls hl
  have hAA : ∀ j, j < 1 → inA ad 1 (ad j) := fun j hj => ⟨j, hj, rfl⟩
  have hx := C.1
  have hb := C.2.1
  have hl : lv_has ls 2 [(0, .ref (ad 0)), (1, .int a1)] := hl
  have h := (f_X0_isEdge.eq_1 _ _ ).symm.trans h
  refine lv_iload_n hx hb dX0_isEdge_0 rfl (lv_at hl 1 rfl) ?_
  refine lv_if_lt (tgt := 16) hx hb dX0_isEdge_1 (by decide) (fun c1 => ?_) (fun c1 => ?_)
  · have h := k_if c1 h
    refine lv_iconst (v := 0) hx hb dX0_isEdge_16 (by decide) ?_
    exact e_zret C hend hP h rfl dX0_isEdge_17 rfl
  · have h := k_nf c1 h
    refine lv_iload_n hx hb dX0_isEdge_4 rfl (lv_at hl 1 rfl) ?_
    refine lv_aload_n hx hb dX0_isEdge_5 rfl (lv_at hl 0 rfl) ?_
    refine r_get C hP (ci := 0) rfl uin_X0 3 (by decide) 0 (by decide) rfl qFL_RX0_31 rfl rfl dX0_isEdge_6 ?_
    refine lv_icmp_ge (tgt := 16) hx hb dX0_isEdge_9 (by decide) (fun c9 => ?_) (fun c9 => ?_)
    · have h := k_if c9 h
      refine lv_iconst (v := 0) hx hb dX0_isEdge_16 (by decide) ?_
      exact e_zret C hend hP h rfl dX0_isEdge_17 rfl
    · have h := k_nf c9 h
      refine lv_iconst (v := 1) hx hb dX0_isEdge_12 (by decide) ?_
      refine lv_goto (tgt := 17) hx hb dX0_isEdge_13 (by decide) ?_
      exact e_zret C hend hP h rfl dX0_isEdge_17 rfl
def f_X0_isHedged (σ : GG) (a1 : Int32) : Bool :=
  if (lg_cmp ((lushr (g_hedges σ) a1) &&& 1) 0) = 0 then false else true
set_option maxHeartbeats 4000000 in
set_option maxRecDepth 100000 in
theorem c_X0_isHedged (l : Launch) (ev : EV) (ad : Nat → Nat) (σ : GG) (a1 : Int32)   (r : Bool)  (h : f_X0_isHedged σ a1 = r) : Ct l yX0_isHedged prog_2_method_7_code 2 (Option.some Jvm.ClassFile.FieldType.boolean) (rmk 0 0) ev 1 ad (gw1 σ) (gw1 σ) [.ref (ad 0), .int a1] (some (.int (bi r))) := by
  refine Ct.of (by decide +kernel) (Nat.le_of_ble_eq_true rfl) ?_
  intro p e s m args below meth c Qc C hap hP hend ls hl
  have hAA : ∀ j, j < 1 → inA ad 1 (ad j) := fun j hj => ⟨j, hj, rfl⟩
  have hx := C.1
  have hb := C.2.1
  have hl : lv_has ls 2 [(0, .ref (ad 0)), (1, .int a1)] := hl
  have h := (f_X0_isHedged.eq_1 _ _ ).symm.trans h
  refine lv_aload_n hx hb dX0_isHedged_0 rfl (lv_at hl 0 rfl) ?_
  refine r_get C hP (ci := 0) rfl uin_X0 9 (by decide) 0 (by decide) rfl qFL_RX0_57 rfl rfl dX0_isHedged_1 ?_
  refine lv_iload_n hx hb dX0_isHedged_4 rfl (lv_at hl 1 rfl) ?_
  refine r_lushr hx hb dX0_isHedged_5 ?_
  refine lv_lconst (v := 1) hx hb dX0_isHedged_6 (by decide) ?_
  refine lv_land hx hb dX0_isHedged_7 ?_
  refine lv_lconst (v := 0) hx hb dX0_isHedged_8 (by decide) ?_
  refine W.lcmp hx hb dX0_isHedged_9 ?_
  refine lv_if_eq (tgt := 17) hx hb dX0_isHedged_10 (by decide) (fun c10 => ?_) (fun c10 => ?_)
  · have h := k_if c10 h
    refine lv_iconst (v := 0) hx hb dX0_isHedged_17 (by decide) ?_
    exact e_zret C hend hP h rfl dX0_isHedged_18 rfl
  · have h := k_nf c10 h
    refine lv_iconst (v := 1) hx hb dX0_isHedged_13 (by decide) ?_
    refine lv_goto (tgt := 18) hx hb dX0_isHedged_14 (by decide) ?_
    exact e_zret C hend hP h rfl dX0_isHedged_18 rfl
def f_X0_rowOf (σ : GG) (a1 : Int32) : Option (Int32) :=
  if (g_width σ) ≤ 0 then some 0 else gd (nz (g_width σ)) (some (idiv a1 (g_width σ)))
set_option maxHeartbeats 4000000 in
set_option maxRecDepth 100000 in
theorem c_X0_rowOf (l : Launch) (ev : EV) (ad : Nat → Nat) (σ : GG) (a1 : Int32)   (r : Int32)  (h : f_X0_rowOf σ a1 = some r) : Ct l yX0_rowOf prog_2_method_8_code 2 (Option.some Jvm.ClassFile.FieldType.int) (rmk 0 0) ev 1 ad (gw1 σ) (gw1 σ) [.ref (ad 0), .int a1] (some (.int r)) := by
  refine Ct.of (by decide +kernel) (Nat.le_of_ble_eq_true rfl) ?_
  intro p e s m args below meth c Qc C hap hP hend ls hl
  have hAA : ∀ j, j < 1 → inA ad 1 (ad j) := fun j hj => ⟨j, hj, rfl⟩
  have hx := C.1
  have hb := C.2.1
  have hl : lv_has ls 2 [(0, .ref (ad 0)), (1, .int a1)] := hl
  have h := (f_X0_rowOf.eq_1 _ _ ).symm.trans h
  refine lv_aload_n hx hb dX0_rowOf_0 rfl (lv_at hl 0 rfl) ?_
  refine r_get C hP (ci := 0) rfl uin_X0 0 (by decide) 0 (by decide) rfl qFL_RX0_19 rfl rfl dX0_rowOf_1 ?_
  refine lv_if_le (tgt := 16) hx hb dX0_rowOf_4 (by decide) (fun c4 => ?_) (fun c4 => ?_)
  · have h := k_if c4 h
    refine lv_iconst (v := 0) hx hb dX0_rowOf_16 (by decide) ?_
    exact e_iret C hend hP (k_some h) rfl dX0_rowOf_17
  · have h := k_nf c4 h
    refine lv_iload_n hx hb dX0_rowOf_7 rfl (lv_at hl 1 rfl) ?_
    refine lv_aload_n hx hb dX0_rowOf_8 rfl (lv_at hl 0 rfl) ?_
    refine r_get C hP (ci := 0) rfl uin_X0 0 (by decide) 0 (by decide) rfl qFL_RX0_19 rfl rfl dX0_rowOf_9 ?_
    obtain ⟨hg, h⟩ := k_gd h
    refine r_idiv hx hb dX0_rowOf_12 (nz_ne hg) ?_
    refine lv_goto (tgt := 17) hx hb dX0_rowOf_13 (by decide) ?_
    exact e_iret C hend hP (k_some h) rfl dX0_rowOf_17
def f_X0_edgeAbove (σ : GG) (a1 : Int32) : Int32 :=
  a1
set_option maxHeartbeats 4000000 in
set_option maxRecDepth 100000 in
theorem c_X0_edgeAbove (l : Launch) (ev : EV) (ad : Nat → Nat) (σ : GG) (a1 : Int32)   (r : Int32)  (h : f_X0_edgeAbove σ a1 = r) : Ct l yX0_edgeAbove prog_2_method_9_code 2 (Option.some Jvm.ClassFile.FieldType.int) (rmk 0 0) ev 1 ad (gw1 σ) (gw1 σ) [.ref (ad 0), .int a1] (some (.int r)) := by
  refine Ct.of (by decide +kernel) (Nat.le_of_ble_eq_true rfl) ?_
  intro p e s m args below meth c Qc C hap hP hend ls hl
  have hAA : ∀ j, j < 1 → inA ad 1 (ad j) := fun j hj => ⟨j, hj, rfl⟩
  have hx := C.1
  have hb := C.2.1
  have hl : lv_has ls 2 [(0, .ref (ad 0)), (1, .int a1)] := hl
  have h := (f_X0_edgeAbove.eq_1 _ _ ).symm.trans h
  refine lv_iload_n hx hb dX0_edgeAbove_0 rfl (lv_at hl 1 rfl) ?_
  exact e_iret C hend hP h rfl dX0_edgeAbove_1
def f_X0_edgeBelow (σ : GG) (a1 : Int32) : Int32 :=
  (a1 + (g_width σ))
set_option maxHeartbeats 4000000 in
set_option maxRecDepth 100000 in
theorem c_X0_edgeBelow (l : Launch) (ev : EV) (ad : Nat → Nat) (σ : GG) (a1 : Int32)   (r : Int32)  (h : f_X0_edgeBelow σ a1 = r) : Ct l yX0_edgeBelow prog_2_method_10_code 2 (Option.some Jvm.ClassFile.FieldType.int) (rmk 0 0) ev 1 ad (gw1 σ) (gw1 σ) [.ref (ad 0), .int a1] (some (.int r)) := by
  refine Ct.of (by decide +kernel) (Nat.le_of_ble_eq_true rfl) ?_
  intro p e s m args below meth c Qc C hap hP hend ls hl
  have hAA : ∀ j, j < 1 → inA ad 1 (ad j) := fun j hj => ⟨j, hj, rfl⟩
  have hx := C.1
  have hb := C.2.1
  have hl : lv_has ls 2 [(0, .ref (ad 0)), (1, .int a1)] := hl
  have h := (f_X0_edgeBelow.eq_1 _ _ ).symm.trans h
  refine lv_iload_n hx hb dX0_edgeBelow_0 rfl (lv_at hl 1 rfl) ?_
  refine lv_aload_n hx hb dX0_edgeBelow_1 rfl (lv_at hl 0 rfl) ?_
  refine r_get C hP (ci := 0) rfl uin_X0 0 (by decide) 0 (by decide) rfl qFL_RX0_19 rfl rfl dX0_edgeBelow_2 ?_
  refine lv_iadd hx hb dX0_edgeBelow_5 ?_
  exact e_iret C hend hP h rfl dX0_edgeBelow_6
def f_X0_edgeLeft (σ : GG) (a1 : Int32) : Option (Int32) :=
  ob (f_X0_rowOf σ a1) (fun x1 => some (((g_uprights σ) + a1) + x1))
set_option maxHeartbeats 4000000 in
set_option maxRecDepth 100000 in
theorem c_X0_edgeLeft (l : Launch) (ev : EV) (ad : Nat → Nat) (σ : GG) (a1 : Int32)   (r : Int32)  (h : f_X0_edgeLeft σ a1 = some r) : Ct l yX0_edgeLeft prog_2_method_11_code 2 (Option.some Jvm.ClassFile.FieldType.int) (rmk 1 21) ev 1 ad (gw1 σ) (gw1 σ) [.ref (ad 0), .int a1] (some (.int r)) := by
  refine Ct.of (by decide +kernel) (Nat.le_of_ble_eq_true rfl) ?_
  intro p e s m args below meth c Qc C hap hP hend ls hl
  have hAA : ∀ j, j < 1 → inA ad 1 (ad j) := fun j hj => ⟨j, hj, rfl⟩
  have hx := C.1
  have hb := C.2.1
  have hl : lv_has ls 2 [(0, .ref (ad 0)), (1, .int a1)] := hl
  have h := (f_X0_edgeLeft.eq_1 _ _ ).symm.trans h
  refine lv_aload_n hx hb dX0_edgeLeft_0 rfl (lv_at hl 0 rfl) ?_
  refine r_get C hP (ci := 0) rfl uin_X0 4 (by decide) 0 (by decide) rfl qFL_RX0_28 rfl rfl dX0_edgeLeft_1 ?_
  refine lv_iload_n hx hb dX0_edgeLeft_4 rfl (lv_at hl 1 rfl) ?_
  refine lv_iadd hx hb dX0_edgeLeft_5 ?_
  refine lv_aload_n hx hb dX0_edgeLeft_6 rfl (lv_at hl 0 rfl) ?_
  refine lv_iload_n hx hb dX0_edgeLeft_7 rfl (lv_at hl 1 rfl) ?_
  obtain ⟨x1, h1, h⟩ := k_ob h
  refine k_callVi C hP hap hAA (c_X0_rowOf l ev ad σ a1   _ h1) Emb.same hap gz_X0_rowOf qML_RX0_75 qIM_yX0_rowOf qSE_yX0_rowOf ⟨(Nat.le_of_ble_eq_true rfl), (Nat.le_of_ble_eq_true rfl)⟩ (q0 := 0) rfl (by decide) rfl rfl rfl rfl hl.1 rfl (Nat.le_of_ble_eq_true rfl) dX0_edgeLeft_8 ⟨Nat.le_refl _, Nat.le_refl _⟩ (fun H locs hP => ?_)
  refine lv_iadd hx hb dX0_edgeLeft_11 ?_
  exact e_iret C hend hP (k_some h) rfl dX0_edgeLeft_12
