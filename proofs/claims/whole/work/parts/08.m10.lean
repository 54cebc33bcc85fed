/-! functions read off, and their contracts: by program (wip/whole/gen2.py) -/
def f_X4_noLead (σ : MM) (a1 : Int32) : Option (Int32 × MM) :=
  ob2 (f_X4_no σ a1) (fun x2 σ1 => some ((x2 - 1000), σ1))
set_option maxHeartbeats 4000000 in
set_option maxRecDepth 100000 in
theorem c_X4_noLead (l : Launch) (ev : EV) (ad : Nat → Nat) (σ : MM) (a1 : Int32)   (r : Int32) (σ' : MM) (h : f_X4_noLead σ a1 = some (r, σ')) : Ct l yX4_noLead prog_6_method_3_code 2 (Option.some Jvm.ClassFile.FieldType.int) (rmk 1 21) ev 13 ad (mw ev ad σ) (mw ev ad σ') [.ref (ad 0), .int a1] (some (.int r)) := by
  refine Ct.of (by decide +kernel) (Nat.le_of_ble_eq_true rfl) ?_
  intro p e s m args below meth c Qc C hap hP hend ls hl
  have hAA : ∀ j, j < 13 → inA ad 13 (ad j) := fun j hj => ⟨j, hj, rfl⟩
  have hx := C.1
  have hb := C.2.1
  have hl : lv_has ls 2 [(0, .ref (ad 0)), (1, .int a1)] := hl
  have h := (f_X4_noLead.eq_1 _ _ ).symm.trans h
  refine lv_aload_n hx hb dX4_noLead_0 rfl (lv_at hl 0 rfl) ?_
  refine lv_iload_n hx hb dX4_noLead_1 rfl (lv_at hl 1 rfl) ?_
  obtain ⟨x2, σ1, h1, h⟩ := k_ob2 h
  refine k_callVi C hP hap hAA (c_X4_no l ev ad σ a1   _ _ h1) Emb.same hap gz_X4_no qML_RX4_56 qIM_yX4_no qSE_yX4_no ⟨(Nat.le_of_ble_eq_true rfl), (Nat.le_of_ble_eq_true rfl)⟩ (q0 := 0) rfl (by decide) rfl rfl rfl rfl hl.1 rfl (Nat.le_of_ble_eq_true rfl) dX4_noLead_2 ⟨Nat.le_refl _, Nat.le_refl _⟩ (fun H locs hP => ?_)
  refine lv_sipush (v := 1000) hx hb dX4_noLead_5 (by decide) ?_
  refine lv_isub hx hb dX4_noLead_8 ?_
  exact e_iret C hend hP (k_some2 h).1 (congrArg (mw ev ad) (k_some2 h).2) dX4_noLead_9
def f_X4_within (a1 : Int32) (a2 : Int32) (a3 : Int32) : Bool :=
  if a1 < a2 then false else if a3 < a1 then false else true
set_option maxHeartbeats 4000000 in
set_option maxRecDepth 100000 in
theorem c_X4_within (l : Launch) (ev : EV) (ad : Nat → Nat) (a1 : Int32) (a2 : Int32) (a3 : Int32)   (r : Bool)  (h : f_X4_within a1 a2 a3 = r) : Ct l yX4_within prog_6_method_4_code 3 (Option.some Jvm.ClassFile.FieldType.boolean) (rmk 0 0) ev 0 ad w00 w00 [.int a1, .int a2, .int a3] (some (.int (bi r))) := by
  refine Ct.of (by decide +kernel) (Nat.le_of_ble_eq_true rfl) ?_
  intro p e s m args below meth c Qc C hap hP hend ls hl
  have hAA : ∀ j, j < 0 → inA ad 0 (ad j) := fun j hj => ⟨j, hj, rfl⟩
  have hx := C.1
  have hb := C.2.1
  have hl : lv_has ls 3 [(0, .int a1), (1, .int a2), (2, .int a3)] := hl
  have h := (f_X4_within.eq_1 _ _ _ ).symm.trans h
  refine lv_iload_n hx hb dX4_within_0 rfl (lv_at hl 0 rfl) ?_
  refine lv_iload_n hx hb dX4_within_1 rfl (lv_at hl 1 rfl) ?_
  refine lv_icmp_lt (tgt := 14) hx hb dX4_within_2 (by decide) (fun c2 => ?_) (fun c2 => ?_)
  · have h := k_if c2 h
    refine lv_iconst (v := 0) hx hb dX4_within_14 (by decide) ?_
    exact e_zret C hend hP h rfl dX4_within_15 rfl
  · have h := k_nf c2 h
    refine lv_iload_n hx hb dX4_within_5 rfl (lv_at hl 0 rfl) ?_
    refine lv_iload_n hx hb dX4_within_6 rfl (lv_at hl 2 rfl) ?_
    refine lv_icmp_gt (tgt := 14) hx hb dX4_within_7 (by decide) (fun c7 => ?_) (fun c7 => ?_)
    · have h := k_if c7 h
      refine lv_iconst (v := 0) hx hb dX4_within_14 (by decide) ?_
      exact e_zret C hend hP h rfl dX4_within_15 rfl
    · have h := k_nf c7 h
      refine lv_iconst (v := 1) hx hb dX4_within_10 (by decide) ?_
      refine lv_goto (tgt := 15) hx hb dX4_within_11 (by decide) ?_
      exact e_zret C hend hP h rfl dX4_within_15 rfl
def f_X4_isPlayer (σ : MM) (a1 : Int32) : Bool :=
  (f_X4_within a1 0 ((m_players σ) - 1))
set_option maxHeartbeats 4000000 in
set_option maxRecDepth 100000 in
theorem c_X4_isPlayer (l : Launch) (ev : EV) (ad : Nat → Nat) (σ : MM) (a1 : Int32)   (r : Bool)  (h : f_X4_isPlayer σ a1 = r) : Ct l yX4_isPlayer prog_6_method_5_code 2 (Option.some Jvm.ClassFile.FieldType.boolean) (rmk 1 22) ev 13 ad (mw ev ad σ) (mw ev ad σ) [.ref (ad 0), .int a1] (some (.int (bi r))) := by
  refine Ct.of (by decide +kernel) (Nat.le_of_ble_eq_true rfl) ?_
  intro p e s m args below meth c Qc C hap hP hend ls hl
  have hAA : ∀ j, j < 13 → inA ad 13 (ad j) := fun j hj => ⟨j, hj, rfl⟩
  have hx := C.1
  have hb := C.2.1
  have hl : lv_has ls 2 [(0, .ref (ad 0)), (1, .int a1)] := hl
  have h := (f_X4_isPlayer.eq_1 _ _ ).symm.trans h
  refine lv_iload_n hx hb dX4_isPlayer_0 rfl (lv_at hl 1 rfl) ?_
  refine lv_iconst (v := 0) hx hb dX4_isPlayer_1 (by decide) ?_
  refine lv_aload_n hx hb dX4_isPlayer_2 rfl (lv_at hl 0 rfl) ?_
  refine r_get C hP (ci := 4) rfl uin_X4 7 (by decide) 0 (by decide) rfl qFL_RX4_60 rfl rfl dX4_isPlayer_3 ?_
  refine lv_iconst (v := 1) hx hb dX4_isPlayer_6 (by decide) ?_
  refine lv_isub hx hb dX4_isPlayer_7 ?_
  refine k_callSi C hP hap hAA (c_X4_within l ev ad a1 0 ((m_players σ) - 1)   _ rfl) Emb.none (apart_0 _) gz_X4_within qML_RX4_63 qSM_yX4_within ⟨(Nat.le_of_ble_eq_true rfl), (Nat.le_of_ble_eq_true rfl)⟩ rfl hl.1 rfl (Nat.le_of_ble_eq_true rfl) dX4_isPlayer_8 ⟨Nat.le_refl _, Nat.le_refl _⟩ (fun H locs hP => ?_)
  exact e_zret C hend hP h rfl dX4_isPlayer_11 rfl
def f_X4_isField (σ : MM) (a1 : Int32) : Bool :=
  (f_X4_within a1 0 (((m_w σ) * (m_h σ)) - 1))
set_option maxHeartbeats 4000000 in
set_option maxRecDepth 100000 in
theorem c_X4_isField (l : Launch) (ev : EV) (ad : Nat → Nat) (σ : MM) (a1 : Int32)   (r : Bool)  (h : f_X4_isField σ a1 = r) : Ct l yX4_isField prog_6_method_6_code 2 (Option.some Jvm.ClassFile.FieldType.boolean) (rmk 1 22) ev 13 ad (mw ev ad σ) (mw ev ad σ) [.ref (ad 0), .int a1] (some (.int (bi r))) := by
  refine Ct.of (by decide +kernel) (Nat.le_of_ble_eq_true rfl) ?_
  intro p e s m args below meth c Qc C hap hP hend ls hl
  have hAA : ∀ j, j < 13 → inA ad 13 (ad j) := fun j hj => ⟨j, hj, rfl⟩
  have hx := C.1
  have hb := C.2.1
  have hl : lv_has ls 2 [(0, .ref (ad 0)), (1, .int a1)] := hl
  have h := (f_X4_isField.eq_1 _ _ ).symm.trans h
  refine lv_iload_n hx hb dX4_isField_0 rfl (lv_at hl 1 rfl) ?_
  refine lv_iconst (v := 0) hx hb dX4_isField_1 (by decide) ?_
  refine lv_aload_n hx hb dX4_isField_2 rfl (lv_at hl 0 rfl) ?_
  refine r_get C hP (ci := 4) rfl uin_X4 0 (by decide) 0 (by decide) rfl qFL_RX4_67 rfl rfl dX4_isField_3 ?_
  refine lv_aload_n hx hb dX4_isField_6 rfl (lv_at hl 0 rfl) ?_
  refine r_get C hP (ci := 4) rfl uin_X4 1 (by decide) 0 (by decide) rfl qFL_RX4_70 rfl rfl dX4_isField_7 ?_
  refine lv_imul hx hb dX4_isField_10 ?_
  refine lv_iconst (v := 1) hx hb dX4_isField_11 (by decide) ?_
  refine lv_isub hx hb dX4_isField_12 ?_
  refine k_callSi C hP hap hAA (c_X4_within l ev ad a1 0 (((m_w σ) * (m_h σ)) - 1)   _ rfl) Emb.none (apart_0 _) gz_X4_within qML_RX4_63 qSM_yX4_within ⟨(Nat.le_of_ble_eq_true rfl), (Nat.le_of_ble_eq_true rfl)⟩ rfl hl.1 rfl (Nat.le_of_ble_eq_true rfl) dX4_isField_13 ⟨Nat.le_refl _, Nat.le_refl _⟩ (fun H locs hP => ?_)
  exact e_zret C hend hP h rfl dX4_isField_16 rfl
def f_X4_isShelf (a1 : Int32) : Bool :=
  (f_X4_within a1 0 7)
set_option maxHeartbeats 4000000 in
set_option maxRecDepth 100000 in
theorem c_X4_isShelf (l : Launch) (ev : EV) (ad : Nat → Nat) (a1 : Int32)   (r : Bool)  (h : f_X4_isShelf a1 = r) : Ct l yX4_isShelf prog_6_method_7_code 1 (Option.some Jvm.ClassFile.FieldType.boolean) (rmk 1 22) ev 0 ad w00 w00 [.int a1] (some (.int (bi r))) := by
  refine Ct.of (by decide +kernel) (Nat.le_of_ble_eq_true rfl) ?_
  intro p e s m args below meth c Qc C hap hP hend ls hl
  have hAA : ∀ j, j < 0 → inA ad 0 (ad j) := fun j hj => ⟨j, hj, rfl⟩
  have hx := C.1
  have hb := C.2.1
  have hl : lv_has ls 1 [(0, .int a1)] := hl
  have h := (f_X4_isShelf.eq_1 _ ).symm.trans h
  refine lv_iload_n hx hb dX4_isShelf_0 rfl (lv_at hl 0 rfl) ?_
  refine lv_iconst (v := 0) hx hb dX4_isShelf_1 (by decide) ?_
  refine lv_bipush (v := 7) hx hb dX4_isShelf_2 (by decide) ?_
  refine k_callSi C hP hap hAA (c_X4_within l ev ad a1 0 7   _ rfl) Emb.none (apart_0 _) gz_X4_within qML_RX4_63 qSM_yX4_within ⟨(Nat.le_of_ble_eq_true rfl), (Nat.le_of_ble_eq_true rfl)⟩ rfl hl.1 rfl (Nat.le_of_ble_eq_true rfl) dX4_isShelf_4 ⟨Nat.le_refl _, Nat.le_refl _⟩ (fun H locs hP => ?_)
  exact e_zret C hend hP h rfl dX4_isShelf_7 rfl
def f_X4_isRow (σ : MM) (a1 : Int32) : Option (Bool) :=
  gd (inb a1 8) (some (f_X4_within ((m_holding σ) (a1).toNatClampNeg) 0 4))
set_option maxHeartbeats 4000000 in
set_option maxRecDepth 100000 in
theorem c_X4_isRow (l : Launch) (ev : EV) (ad : Nat → Nat) (σ : MM) (a1 : Int32)   (r : Bool)  (h : f_X4_isRow σ a1 = some r) : Ct l yX4_isRow prog_6_method_8_code 2 (Option.some Jvm.ClassFile.FieldType.boolean) (rmk 1 22) ev 13 ad (mw ev ad σ) (mw ev ad σ) [.ref (ad 0), .int a1] (some (.int (bi r))) := by
  refine Ct.of (by decide +kernel) (Nat.le_of_ble_eq_true rfl) ?_
  intro p e s m args below meth c Qc C hap hP hend ls hl
  have hAA : ∀ j, j < 13 → inA ad 13 (ad j) := fun j hj => ⟨j, hj, rfl⟩
  have hx := C.1
  have hb := C.2.1
  have hl : lv_has ls 2 [(0, .ref (ad 0)), (1, .int a1)] := hl
  have h := (f_X4_isRow.eq_1 _ _ ).symm.trans h
  refine lv_aload_n hx hb dX4_isRow_0 rfl (lv_at hl 0 rfl) ?_
  refine r_get C hP (ci := 4) rfl uin_X4 17 (by decide) 0 (by decide) rfl qFL_RX4_29 rfl rfl dX4_isRow_1 ?_
  refine lv_iload_n hx hb dX4_isRow_4 rfl (lv_at hl 1 rfl) ?_
  obtain ⟨hg, h⟩ := k_gd h
  refine r_iald C hP 7 (by decide) rfl hg dX4_isRow_5 ?_
  refine lv_iconst (v := 0) hx hb dX4_isRow_6 (by decide) ?_
  refine lv_iconst (v := 4) hx hb dX4_isRow_7 (by decide) ?_
  refine k_callSi C hP hap hAA (c_X4_within l ev ad ((m_holding σ) (a1).toNatClampNeg) 0 4   _ rfl) Emb.none (apart_0 _) gz_X4_within qML_RX4_63 qSM_yX4_within ⟨(Nat.le_of_ble_eq_true rfl), (Nat.le_of_ble_eq_true rfl)⟩ rfl hl.1 rfl (Nat.le_of_ble_eq_true rfl) dX4_isRow_8 ⟨Nat.le_refl _, Nat.le_refl _⟩ (fun H locs hP => ?_)
  exact e_zret C hend hP (k_some h) rfl dX4_isRow_11 rfl
def f_X4_row_L50_b (a1 : Int32)  (rec50 : Int32 → MM → Option (Int32 × MM)) (x7 : Int32) (σ8 : MM) : Option (Int32 × MM) :=
  if 40 ≤ x7 then some (1, σ8) else gd (inb ((40 * a1) + x7) 320) (lt (m_rowOf' σ8 (vp_updL (m_rowOf σ8) (((40 * a1) + x7)).toNatClampNeg 0)) (fun σ9 => lt (x7 + 1) (fun x10 => rec50 x10 σ9)))
def f_X4_row_L50 (a1 : Int32)  (x7 : Int32) (σ8 : MM) : Option (Int32 × MM) :=
  lp (fun _ _ => none) (f_X4_row_L50_b a1 ) FU x7 σ8
def f_X4_row (σ : MM) (a1 : Int32) (a2 : Int32) (a3 : Int32) : Option (Int32 × MM) :=
  if (f_X4_isShelf a1) = true then if (f_X4_within a2 0 4) = true then if (f_X4_within a3 0 40) = true then gd (inb a1 8) (lt (m_holding' σ (upd (m_holding σ) (a1).toNatClampNeg a2)) (fun σ5 => gd (inb a1 8) (lt (m_rowLength' σ5 (upd (m_rowLength σ5) (a1).toNatClampNeg a3)) (fun σ6 => f_X4_row_L50 a1 0 σ6)))) else ob2 (f_X4_no σ (-2)) (fun x12 σ11 => some (x12, σ11)) else ob2 (f_X4_no σ (-2)) (fun x4 σ3 => some (x4, σ3)) else ob2 (f_X4_no σ (-2)) (fun x2 σ1 => some (x2, σ1))
set_option maxHeartbeats 4000000 in
set_option maxRecDepth 100000 in
theorem c_X4_row (l : Launch) (ev : EV) (ad : Nat → Nat) (σ : MM) (a1 : Int32) (a2 : Int32) (a3 : Int32)   (r : Int32) (σ' : MM) (h : f_X4_row σ a1 a2 a3 = some (r, σ')) : Ct l yX4_row prog_6_method_9_code 5 (Option.some Jvm.ClassFile.FieldType.int) (rmk 2 42) ev 13 ad (mw ev ad σ) (mw ev ad σ') [.ref (ad 0), .int a1, .int a2, .int a3] (some (.int r)) := by
  refine Ct.of (by decide +kernel) (Nat.le_of_ble_eq_true rfl) ?_
  intro p e s m args below meth c Qc C hap hP hend ls hl
  have hAA : ∀ j, j < 13 → inA ad 13 (ad j) := fun j hj => ⟨j, hj, rfl⟩
  have hx := C.1
  have hb := C.2.1
  have hl : lv_has ls 5 [(0, .ref (ad 0)), (1, .int a1), (2, .int a2), (3, .int a3)] := hl
  have h := (f_X4_row.eq_1 _ _ _ _ ).symm.trans h
  refine lv_iload_n hx hb dX4_row_0 rfl (lv_at hl 1 rfl) ?_
  refine k_callSi C hP hap hAA (c_X4_isShelf l ev ad a1   _ rfl) Emb.none (apart_0 _) gz_X4_isShelf qML_RX4_73 qSM_yX4_isShelf ⟨(Nat.le_of_ble_eq_true rfl), (Nat.le_of_ble_eq_true rfl)⟩ rfl hl.1 rfl (Nat.le_of_ble_eq_true rfl) dX4_row_1 ⟨Nat.le_refl _, Nat.le_refl _⟩ (fun H locs hP => ?_)
  refine r_ifz_eq (tgt := 26) hx hb dX4_row_4 (by decide) (fun c4 => ?_) (fun c4 => ?_)
  · have h := k_nf c4 h
    refine lv_aload_n hx hb dX4_row_26 rfl (lv_at hl 0 rfl) ?_
    refine lv_bipush (v := (-2)) hx hb dX4_row_27 (by decide) ?_
    obtain ⟨x2, σ1, h1, h⟩ := k_ob2 h
    refine k_callVi C hP hap hAA (c_X4_no l ev ad σ (-2)   _ _ h1) Emb.same hap gz_X4_no qML_RX4_56 qIM_yX4_no qSE_yX4_no ⟨(Nat.le_of_ble_eq_true rfl), (Nat.le_of_ble_eq_true rfl)⟩ (q0 := 0) rfl (by decide) rfl rfl rfl rfl hl.1 rfl (Nat.le_of_ble_eq_true rfl) dX4_row_29 ⟨Nat.le_refl _, Nat.le_refl _⟩ (fun H locs hP => ?_)
    exact e_iret C hend hP (k_some2 h).1 (congrArg (mw ev ad) (k_some2 h).2) dX4_row_32
  · have h := k_if c4 h
    refine lv_iload_n hx hb dX4_row_7 rfl (lv_at hl 2 rfl) ?_
    refine lv_iconst (v := 0) hx hb dX4_row_8 (by decide) ?_
    refine lv_iconst (v := 4) hx hb dX4_row_9 (by decide) ?_
    refine k_callSi C hP hap hAA (c_X4_within l ev ad a2 0 4   _ rfl) Emb.none (apart_0 _) gz_X4_within qML_RX4_63 qSM_yX4_within ⟨(Nat.le_of_ble_eq_true rfl), (Nat.le_of_ble_eq_true rfl)⟩ rfl hl.1 rfl (Nat.le_of_ble_eq_true rfl) dX4_row_10 ⟨Nat.le_refl _, Nat.le_refl _⟩ (fun H locs hP => ?_)
    refine r_ifz_eq (tgt := 26) hx hb dX4_row_13 (by decide) (fun c13 => ?_) (fun c13 => ?_)
    · have h := k_nf c13 h
      refine lv_aload_n hx hb dX4_row_26 rfl (lv_at hl 0 rfl) ?_
      refine lv_bipush (v := (-2)) hx hb dX4_row_27 (by decide) ?_
      obtain ⟨x4, σ3, h1, h⟩ := k_ob2 h
      refine k_callVi C hP hap hAA (c_X4_no l ev ad σ (-2)   _ _ h1) Emb.same hap gz_X4_no qML_RX4_56 qIM_yX4_no qSE_yX4_no ⟨(Nat.le_of_ble_eq_true rfl), (Nat.le_of_ble_eq_true rfl)⟩ (q0 := 0) rfl (by decide) rfl rfl rfl rfl hl.1 rfl (Nat.le_of_ble_eq_true rfl) dX4_row_29 ⟨Nat.le_refl _, Nat.le_refl _⟩ (fun H locs hP => ?_)
      exact e_iret C hend hP (k_some2 h).1 (congrArg (mw ev ad) (k_some2 h).2) dX4_row_32
    · have h := k_if c13 h
      refine lv_iload_n hx hb dX4_row_16 rfl (lv_at hl 3 rfl) ?_
      refine lv_iconst (v := 0) hx hb dX4_row_17 (by decide) ?_
      refine lv_bipush (v := 40) hx hb dX4_row_18 (by decide) ?_
      refine k_callSi C hP hap hAA (c_X4_within l ev ad a3 0 40   _ rfl) Emb.none (apart_0 _) gz_X4_within qML_RX4_63 qSM_yX4_within ⟨(Nat.le_of_ble_eq_true rfl), (Nat.le_of_ble_eq_true rfl)⟩ rfl hl.1 rfl (Nat.le_of_ble_eq_true rfl) dX4_row_20 ⟨Nat.le_refl _, Nat.le_refl _⟩ (fun H locs hP => ?_)
      refine r_ifz_ne (tgt := 33) hx hb dX4_row_23 (by decide) (fun c23 => ?_) (fun c23 => ?_)
      · have h := k_if c23 h
        refine lv_aload_n hx hb dX4_row_33 rfl (lv_at hl 0 rfl) ?_
        refine r_get C hP (ci := 4) rfl uin_X4 17 (by decide) 0 (by decide) rfl qFL_RX4_29 rfl rfl dX4_row_34 ?_
        refine lv_iload_n hx hb dX4_row_37 rfl (lv_at hl 1 rfl) ?_
        refine lv_iload_n hx hb dX4_row_38 rfl (lv_at hl 2 rfl) ?_
        obtain ⟨hg, h⟩ := k_gd h
        obtain ⟨σ5, eσ5, h⟩ := k_ltx h
        refine st_M_holding C hP hap hAA eσ5 hg dX4_row_39 (fun H locs hP => ?_)
        refine lv_aload_n hx hb dX4_row_40 rfl (lv_at hl 0 rfl) ?_
        refine r_get C hP (ci := 4) rfl uin_X4 18 (by decide) 0 (by decide) rfl qFL_RX4_32 rfl rfl dX4_row_41 ?_
        refine lv_iload_n hx hb dX4_row_44 rfl (lv_at hl 1 rfl) ?_
        refine lv_iload_n hx hb dX4_row_45 rfl (lv_at hl 3 rfl) ?_
        obtain ⟨hg, h⟩ := k_gd h
        obtain ⟨σ6, eσ6, h⟩ := k_ltx h
        refine st_M_rowLength C hP hap hAA eσ6 hg dX4_row_46 (fun H locs hP => ?_)
        refine lv_iconst (v := 0) hx hb dX4_row_47 (by decide) ?_
        refine lv_istore (lv' := [(4, .int 0), (0, .ref (ad 0)), (1, .int a1), (2, .int a2), (3, .int a3)]) hx hb dX4_row_48 hl (by decide) rfl (fun ls hl => ?_)
        have hL50 : ∀ (n : Nat) (x7 : Int32) (σ8 : MM) (H : Heap) (locs : List Loc) (ls : Array Slot), lp (fun _ _ => none) (f_X4_row_L50_b a1 ) n x7 σ8 = some (r, σ') → PS ev 13 ad (mw ev ad σ8) (inA ad 13) s H locs → lv_has ls 5 [(0, .ref (ad 0)), (1, .int a1), (4, .int x7)] → WW ev p l e (rmk 2 42) s m args below meth c Qc ad 13 H locs 50 ls [] := by
          intro n
          induction n with
          | zero =>
            intro x7 σ8 H locs ls h; exact k_none h
          | succ n ih =>
            intro x7 σ8 H locs ls h hP hl
            have h : f_X4_row_L50_b a1  (lp (fun _ _ => none) (f_X4_row_L50_b a1 ) n) x7 σ8 = some (r, σ') := h
            have h := (f_X4_row_L50_b.eq_1 _ _ _ _ ).symm.trans h
            refine lv_iload hx hb dX4_row_50 (lv_at hl 2 rfl) ?_
            refine lv_bipush (v := 40) hx hb dX4_row_52 (by decide) ?_
            refine lv_icmp_ge (tgt := 76) hx hb dX4_row_54 (by decide) (fun c54 => ?_) (fun c54 => ?_)
            · have h := k_if c54 h
              refine lv_iconst (v := 1) hx hb dX4_row_76 (by decide) ?_
              exact e_iret C hend hP (k_some2 h).1 (congrArg (mw ev ad) (k_some2 h).2) dX4_row_77
            · have h := k_nf c54 h
              refine lv_aload_n hx hb dX4_row_57 rfl (lv_at hl 0 rfl) ?_
              refine r_get C hP (ci := 4) rfl uin_X4 19 (by decide) 0 (by decide) rfl qFL_RX4_35 rfl rfl dX4_row_58 ?_
              refine lv_bipush (v := 40) hx hb dX4_row_61 (by decide) ?_
              refine lv_iload_n hx hb dX4_row_63 rfl (lv_at hl 1 rfl) ?_
              refine lv_imul hx hb dX4_row_64 ?_
              refine lv_iload hx hb dX4_row_65 (lv_at hl 2 rfl) ?_
              refine lv_iadd hx hb dX4_row_67 ?_
              refine lv_lconst (v := 0) hx hb dX4_row_68 (by decide) ?_
              obtain ⟨hg, h⟩ := k_gd h
              obtain ⟨σ9, eσ9, h⟩ := k_ltx h
              refine st_M_rowOf C hP hap hAA eσ9 hg dX4_row_69 (fun H locs hP => ?_)
              obtain ⟨x10, ex10, h⟩ := k_ltx h
              refine lv_iinc (v := x10) (lv' := [(4, .int x10), (0, .ref (ad 0)), (1, .int a1)]) hx hb dX4_row_70 hl (k := 2) rfl (by rw [ex10]; rfl) (by decide) rfl (fun ls hl => ?_)
              refine lv_goto (tgt := 50) hx hb dX4_row_73 (by decide) ?_
              exact ih _ _ _ _ _ h hP (lv_sub hl [1, 2, 0] rfl)
        exact hL50 FU _ _ _ _ _ h hP (lv_sub hl [1, 2, 0] rfl)
      · have h := k_nf c23 h
        refine lv_aload_n hx hb dX4_row_26 rfl (lv_at hl 0 rfl) ?_
        refine lv_bipush (v := (-2)) hx hb dX4_row_27 (by decide) ?_
        obtain ⟨x12, σ11, h1, h⟩ := k_ob2 h
        refine k_callVi C hP hap hAA (c_X4_no l ev ad σ (-2)   _ _ h1) Emb.same hap gz_X4_no qML_RX4_56 qIM_yX4_no qSE_yX4_no ⟨(Nat.le_of_ble_eq_true rfl), (Nat.le_of_ble_eq_true rfl)⟩ (q0 := 0) rfl (by decide) rfl rfl rfl rfl hl.1 rfl (Nat.le_of_ble_eq_true rfl) dX4_row_29 ⟨Nat.le_refl _, Nat.le_refl _⟩ (fun H locs hP => ?_)
        exact e_iret C hend hP (k_some2 h).1 (congrArg (mw ev ad) (k_some2 h).2) dX4_row_32
def f_X4_noRow (σ : MM) (a1 : Int32) : Option (Int32) :=
  gd (inb a1 8) (if ((m_holding σ) (a1).toNatClampNeg) < 10 then gd (inb a1 8) (if 0 ≤ ((m_holding σ) (a1).toNatClampNeg) then some 0 else some (-4)) else some (-3))
set_option maxHeartbeats 4000000 in
set_option maxRecDepth 100000 in
theorem c_X4_noRow (l : Launch) (ev : EV) (ad : Nat → Nat) (σ : MM) (a1 : Int32)   (r : Int32)  (h : f_X4_noRow σ a1 = some r) : Ct l yX4_noRow prog_6_method_10_code 2 (Option.some Jvm.ClassFile.FieldType.int) (rmk 0 0) ev 13 ad (mw ev ad σ) (mw ev ad σ) [.ref (ad 0), .int a1] (some (.int r)) := by
  refine Ct.of (by decide +kernel) (Nat.le_of_ble_eq_true rfl) ?_
  intro p e s m args below meth c Qc C hap hP hend ls hl
  have hAA : ∀ j, j < 13 → inA ad 13 (ad j) := fun j hj => ⟨j, hj, rfl⟩
  have hx := C.1
  have hb := C.2.1
  have hl : lv_has ls 2 [(0, .ref (ad 0)), (1, .int a1)] := hl
  have h := (f_X4_noRow.eq_1 _ _ ).symm.trans h
  refine lv_aload_n hx hb dX4_noRow_0 rfl (lv_at hl 0 rfl) ?_
  refine r_get C hP (ci := 4) rfl uin_X4 17 (by decide) 0 (by decide) rfl qFL_RX4_29 rfl rfl dX4_noRow_1 ?_
  refine lv_iload_n hx hb dX4_noRow_4 rfl (lv_at hl 1 rfl) ?_
  obtain ⟨hg, h⟩ := k_gd h
  refine r_iald C hP 7 (by decide) rfl hg dX4_noRow_5 ?_
  refine lv_bipush (v := 10) hx hb dX4_noRow_6 (by decide) ?_
  refine lv_icmp_lt (tgt := 16) hx hb dX4_noRow_8 (by decide) (fun c8 => ?_) (fun c8 => ?_)
  · have h := k_if c8 h
    refine lv_aload_n hx hb dX4_noRow_16 rfl (lv_at hl 0 rfl) ?_
    refine r_get C hP (ci := 4) rfl uin_X4 17 (by decide) 0 (by decide) rfl qFL_RX4_29 rfl rfl dX4_noRow_17 ?_
    refine lv_iload_n hx hb dX4_noRow_20 rfl (lv_at hl 1 rfl) ?_
    obtain ⟨hg, h⟩ := k_gd h
    refine r_iald C hP 7 (by decide) rfl hg dX4_noRow_21 ?_
    refine lv_if_ge (tgt := 30) hx hb dX4_noRow_22 (by decide) (fun c22 => ?_) (fun c22 => ?_)
    · have h := k_if c22 h
      refine lv_iconst (v := 0) hx hb dX4_noRow_30 (by decide) ?_
      exact e_iret C hend hP (k_some h) rfl dX4_noRow_31
    · have h := k_nf c22 h
      refine lv_bipush (v := (-4)) hx hb dX4_noRow_25 (by decide) ?_
      refine lv_goto (tgt := 31) hx hb dX4_noRow_27 (by decide) ?_
      exact e_iret C hend hP (k_some h) rfl dX4_noRow_31
  · have h := k_nf c8 h
    refine lv_bipush (v := (-3)) hx hb dX4_noRow_11 (by decide) ?_
    refine lv_goto (tgt := 31) hx hb dX4_noRow_13 (by decide) ?_
    exact e_iret C hend hP (k_some h) rfl dX4_noRow_31
def f_X4_kept (a1 : Int32) (a2 : Int64) : Int64 :=
  if a1 = 0 then ((((((a2).toInt32)).toInt8.toInt32)).toInt64) else if a1 = 1 then ((((((a2).toInt32)).toInt16.toInt32)).toInt64) else if a1 = 2 then ((((a2).toInt32)).toInt64) else if a1 = 3 then a2 else if (lg_cmp a2 0) = 0 then 0 else 1
set_option maxHeartbeats 4000000 in
set_option maxRecDepth 100000 in
theorem c_X4_kept (l : Launch) (ev : EV) (ad : Nat → Nat) (a1 : Int32) (a2 : Int64)   (r : Int64)  (h : f_X4_kept a1 a2 = r) : Ct l yX4_kept prog_6_method_11_code 3 (Option.some Jvm.ClassFile.FieldType.long) (rmk 0 0) ev 0 ad w00 w00 [.int a1, .long a2] (some (.long r)) := by
  refine Ct.of (by decide +kernel) (Nat.le_of_ble_eq_true rfl) ?_
  intro p e s m args below meth c Qc C hap hP hend ls hl
  have hAA : ∀ j, j < 0 → inA ad 0 (ad j) := fun j hj => ⟨j, hj, rfl⟩
  have hx := C.1
  have hb := C.2.1
  have hl : lv_has ls 3 [(0, .int a1), (1, .long a2)] := hl
  have h := (f_X4_kept.eq_1 _ _ ).symm.trans h
  refine lv_iload_n hx hb dX4_kept_0 rfl (lv_at hl 0 rfl) ?_
  by_cases cs0 : a1 = 0
  · have h := k_if cs0 h
    refine r_tabIn (tgt := 32) (off := 31) (i := 0) hx hb dX4_kept_1 cs0 (by decide) (by decide) (by decide) (by decide) ?_
    refine lv_lload_n hx hb dX4_kept_32 rfl (lv_at hl 1 rfl) ?_
    refine lv_l2i hx hb dX4_kept_33 rfl ?_
    refine lv_i2b hx hb dX4_kept_34 rfl ?_
    refine lv_i2l hx hb dX4_kept_35 rfl ?_
    exact e_lret C hend hP h rfl dX4_kept_36
  · have h := k_nf cs0 h
    by_cases cs1 : a1 = 1
    · have h := k_if cs1 h
      refine r_tabIn (tgt := 37) (off := 36) (i := 1) hx hb dX4_kept_1 cs1 (by decide) (by decide) (by decide) (by decide) ?_
      refine lv_lload_n hx hb dX4_kept_37 rfl (lv_at hl 1 rfl) ?_
      refine lv_l2i hx hb dX4_kept_38 rfl ?_
      refine lv_i2s hx hb dX4_kept_39 rfl ?_
      refine lv_i2l hx hb dX4_kept_40 rfl ?_
      exact e_lret C hend hP h rfl dX4_kept_41
    · have h := k_nf cs1 h
      by_cases cs2 : a1 = 2
      · have h := k_if cs2 h
        refine r_tabIn (tgt := 42) (off := 41) (i := 2) hx hb dX4_kept_1 cs2 (by decide) (by decide) (by decide) (by decide) ?_
        refine lv_lload_n hx hb dX4_kept_42 rfl (lv_at hl 1 rfl) ?_
        refine lv_l2i hx hb dX4_kept_43 rfl ?_
        refine lv_i2l hx hb dX4_kept_44 rfl ?_
        exact e_lret C hend hP h rfl dX4_kept_45
      · have h := k_nf cs2 h
        by_cases cs3 : a1 = 3
        · have h := k_if cs3 h
          refine r_tabIn (tgt := 46) (off := 45) (i := 3) hx hb dX4_kept_1 cs3 (by decide) (by decide) (by decide) (by decide) ?_
          refine lv_lload_n hx hb dX4_kept_46 rfl (lv_at hl 1 rfl) ?_
          exact e_lret C hend hP h rfl dX4_kept_47
        · have h := k_nf cs3 h
          refine r_tabOut (tgt := 48) hx hb dX4_kept_1 (fun i h1 h2 => by
            have h3 : i = 0 ∨ i = 1 ∨ i = 2 ∨ i = 3 := by omega
            rcases h3 with rfl | rfl | rfl | rfl
            · exact cs0
            · exact cs1
            · exact cs2
            · exact cs3
            ) (by decide) ?_
          refine lv_lload_n hx hb dX4_kept_48 rfl (lv_at hl 1 rfl) ?_
          refine lv_lconst (v := 0) hx hb dX4_kept_49 (by decide) ?_
          refine W.lcmp hx hb dX4_kept_50 ?_
          refine lv_if_eq (tgt := 58) hx hb dX4_kept_51 (by decide) (fun c51 => ?_) (fun c51 => ?_)
          · have h := k_if c51 h
            refine lv_lconst (v := 0) hx hb dX4_kept_58 (by decide) ?_
            exact e_lret C hend hP h rfl dX4_kept_59
          · have h := k_nf c51 h
            refine lv_lconst (v := 1) hx hb dX4_kept_54 (by decide) ?_
            refine lv_goto (tgt := 59) hx hb dX4_kept_55 (by decide) ?_
            exact e_lret C hend hP h rfl dX4_kept_59
def f_X4_set (σ : MM) (a1 : Int32) (a2 : Int32) (a3 : Int64) : Option (Int32 × MM) :=
  if (f_X4_isShelf a1) = true then ob (f_X4_isRow σ a1) (fun b1 => if b1 = true then gd (inb a1 8) (if (f_X4_within a2 0 (((m_rowLength σ) (a1).toNatClampNeg) - 1)) = true then gd (inb a1 8) (gd (inb ((40 * a1) + a2) 320) (lt (m_rowOf' σ (vp_updL (m_rowOf σ) (((40 * a1) + a2)).toNatClampNeg (f_X4_kept ((m_holding σ) (a1).toNatClampNeg) a3))) (fun σ2 => some (1, σ2)))) else ob2 (f_X4_no σ (-2)) (fun x4 σ3 => some (x4, σ3))) else ob (f_X4_noRow σ a1) (fun x5 => ob2 (f_X4_no σ x5) (fun x7 σ6 => some (x7, σ6)))) else ob2 (f_X4_no σ (-2)) (fun x9 σ8 => some (x9, σ8))
set_option maxHeartbeats 4000000 in
set_option maxRecDepth 100000 in
theorem c_X4_set (l : Launch) (ev : EV) (ad : Nat → Nat) (σ : MM) (a1 : Int32) (a2 : Int32) (a3 : Int64)   (r : Int32) (σ' : MM) (h : f_X4_set σ a1 a2 a3 = some (r, σ')) : Ct l yX4_set prog_6_method_12_code 5 (Option.some Jvm.ClassFile.FieldType.int) (rmk 2 43) ev 13 ad (mw ev ad σ) (mw ev ad σ') [.ref (ad 0), .int a1, .int a2, .long a3] (some (.int r)) := by
  refine Ct.of (by decide +kernel) (Nat.le_of_ble_eq_true rfl) ?_
  intro p e s m args below meth c Qc C hap hP hend ls hl
  have hAA : ∀ j, j < 13 → inA ad 13 (ad j) := fun j hj => ⟨j, hj, rfl⟩
  have hx := C.1
  have hb := C.2.1
  have hl : lv_has ls 5 [(0, .ref (ad 0)), (1, .int a1), (2, .int a2), (3, .long a3)] := hl
  have h := (f_X4_set.eq_1 _ _ _ _ ).symm.trans h
  refine lv_iload_n hx hb dX4_set_0 rfl (lv_at hl 1 rfl) ?_
  refine k_callSi C hP hap hAA (c_X4_isShelf l ev ad a1   _ rfl) Emb.none (apart_0 _) gz_X4_isShelf qML_RX4_73 qSM_yX4_isShelf ⟨(Nat.le_of_ble_eq_true rfl), (Nat.le_of_ble_eq_true rfl)⟩ rfl hl.1 rfl (Nat.le_of_ble_eq_true rfl) dX4_set_1 ⟨Nat.le_refl _, Nat.le_refl _⟩ (fun H locs hP => ?_)
  refine r_ifz_ne (tgt := 14) hx hb dX4_set_4 (by decide) (fun c4 => ?_) (fun c4 => ?_)
  · have h := k_if c4 h
    refine lv_aload_n hx hb dX4_set_14 rfl (lv_at hl 0 rfl) ?_
    refine lv_iload_n hx hb dX4_set_15 rfl (lv_at hl 1 rfl) ?_
    obtain ⟨b1, h1, h⟩ := k_ob h
    refine k_callVi C hP hap hAA (c_X4_isRow l ev ad σ a1   _ h1) Emb.same hap gz_X4_isRow qML_RX4_77 qIM_yX4_isRow qSE_yX4_isRow ⟨(Nat.le_of_ble_eq_true rfl), (Nat.le_of_ble_eq_true rfl)⟩ (q0 := 0) rfl (by decide) rfl rfl rfl rfl hl.1 rfl (Nat.le_of_ble_eq_true rfl) dX4_set_16 ⟨Nat.le_refl _, Nat.le_refl _⟩ (fun H locs hP => ?_)
    refine r_ifz_ne (tgt := 32) hx hb dX4_set_19 (by decide) (fun c19 => ?_) (fun c19 => ?_)
    · have h := k_if c19 h
      refine lv_iload_n hx hb dX4_set_32 rfl (lv_at hl 2 rfl) ?_
      refine lv_iconst (v := 0) hx hb dX4_set_33 (by decide) ?_
      refine lv_aload_n hx hb dX4_set_34 rfl (lv_at hl 0 rfl) ?_
      refine r_get C hP (ci := 4) rfl uin_X4 18 (by decide) 0 (by decide) rfl qFL_RX4_32 rfl rfl dX4_set_35 ?_
      refine lv_iload_n hx hb dX4_set_38 rfl (lv_at hl 1 rfl) ?_
      obtain ⟨hg, h⟩ := k_gd h
      refine r_iald C hP 8 (by decide) rfl hg dX4_set_39 ?_
      refine lv_iconst (v := 1) hx hb dX4_set_40 (by decide) ?_
      refine lv_isub hx hb dX4_set_41 ?_
      refine k_callSi C hP hap hAA (c_X4_within l ev ad a2 0 (((m_rowLength σ) (a1).toNatClampNeg) - 1)   _ rfl) Emb.none (apart_0 _) gz_X4_within qML_RX4_63 qSM_yX4_within ⟨(Nat.le_of_ble_eq_true rfl), (Nat.le_of_ble_eq_true rfl)⟩ rfl hl.1 rfl (Nat.le_of_ble_eq_true rfl) dX4_set_42 ⟨Nat.le_refl _, Nat.le_refl _⟩ (fun H locs hP => ?_)
      refine r_ifz_ne (tgt := 55) hx hb dX4_set_45 (by decide) (fun c45 => ?_) (fun c45 => ?_)
      · have h := k_if c45 h
        refine lv_aload_n hx hb dX4_set_55 rfl (lv_at hl 0 rfl) ?_
        refine r_get C hP (ci := 4) rfl uin_X4 19 (by decide) 0 (by decide) rfl qFL_RX4_35 rfl rfl dX4_set_56 ?_
        refine lv_bipush (v := 40) hx hb dX4_set_59 (by decide) ?_
        refine lv_iload_n hx hb dX4_set_61 rfl (lv_at hl 1 rfl) ?_
        refine lv_imul hx hb dX4_set_62 ?_
        refine lv_iload_n hx hb dX4_set_63 rfl (lv_at hl 2 rfl) ?_
        refine lv_iadd hx hb dX4_set_64 ?_
        refine lv_aload_n hx hb dX4_set_65 rfl (lv_at hl 0 rfl) ?_
        refine r_get C hP (ci := 4) rfl uin_X4 17 (by decide) 0 (by decide) rfl qFL_RX4_29 rfl rfl dX4_set_66 ?_
        refine lv_iload_n hx hb dX4_set_69 rfl (lv_at hl 1 rfl) ?_
        obtain ⟨hg, h⟩ := k_gd h
        refine r_iald C hP 7 (by decide) rfl hg dX4_set_70 ?_
        refine lv_lload_n hx hb dX4_set_71 rfl (lv_at hl 3 rfl) ?_
        refine k_callSl C hP hap hAA (c_X4_kept l ev ad ((m_holding σ) (a1).toNatClampNeg) a3   _ rfl) Emb.none (apart_0 _) gz_X4_kept qML_RX4_83 qSM_yX4_kept ⟨(Nat.le_of_ble_eq_true rfl), (Nat.le_of_ble_eq_true rfl)⟩ rfl hl.1 rfl (Nat.le_of_ble_eq_true rfl) dX4_set_72 ⟨Nat.le_refl _, Nat.le_refl _⟩ (fun H locs hP => ?_)
        obtain ⟨hg, h⟩ := k_gd h
        obtain ⟨σ2, eσ2, h⟩ := k_ltx h
        refine st_M_rowOf C hP hap hAA eσ2 hg dX4_set_75 (fun H locs hP => ?_)
        refine lv_iconst (v := 1) hx hb dX4_set_76 (by decide) ?_
        exact e_iret C hend hP (k_some2 h).1 (congrArg (mw ev ad) (k_some2 h).2) dX4_set_77
      · have h := k_nf c45 h
        refine lv_aload_n hx hb dX4_set_48 rfl (lv_at hl 0 rfl) ?_
        refine lv_bipush (v := (-2)) hx hb dX4_set_49 (by decide) ?_
        obtain ⟨x4, σ3, h1, h⟩ := k_ob2 h
        refine k_callVi C hP hap hAA (c_X4_no l ev ad σ (-2)   _ _ h1) Emb.same hap gz_X4_no qML_RX4_56 qIM_yX4_no qSE_yX4_no ⟨(Nat.le_of_ble_eq_true rfl), (Nat.le_of_ble_eq_true rfl)⟩ (q0 := 0) rfl (by decide) rfl rfl rfl rfl hl.1 rfl (Nat.le_of_ble_eq_true rfl) dX4_set_51 ⟨Nat.le_refl _, Nat.le_refl _⟩ (fun H locs hP => ?_)
        exact e_iret C hend hP (k_some2 h).1 (congrArg (mw ev ad) (k_some2 h).2) dX4_set_54
    · have h := k_nf c19 h
      refine lv_aload_n hx hb dX4_set_22 rfl (lv_at hl 0 rfl) ?_
      refine lv_aload_n hx hb dX4_set_23 rfl (lv_at hl 0 rfl) ?_
      refine lv_iload_n hx hb dX4_set_24 rfl (lv_at hl 1 rfl) ?_
      obtain ⟨x5, h1, h⟩ := k_ob h
      refine k_callVi C hP hap hAA (c_X4_noRow l ev ad σ a1   _ h1) Emb.same hap gz_X4_noRow qML_RX4_80 qIM_yX4_noRow qSE_yX4_noRow ⟨(Nat.le_of_ble_eq_true rfl), (Nat.le_of_ble_eq_true rfl)⟩ (q0 := 0) rfl (by decide) rfl rfl rfl rfl hl.1 rfl (Nat.le_of_ble_eq_true rfl) dX4_set_25 ⟨Nat.le_refl _, Nat.le_refl _⟩ (fun H locs hP => ?_)
      obtain ⟨x7, σ6, h1, h⟩ := k_ob2 h
      refine k_callVi C hP hap hAA (c_X4_no l ev ad σ x5   _ _ h1) Emb.same hap gz_X4_no qML_RX4_56 qIM_yX4_no qSE_yX4_no ⟨(Nat.le_of_ble_eq_true rfl), (Nat.le_of_ble_eq_true rfl)⟩ (q0 := 0) rfl (by decide) rfl rfl rfl rfl hl.1 rfl (Nat.le_of_ble_eq_true rfl) dX4_set_28 ⟨Nat.le_refl _, Nat.le_refl _⟩ (fun H locs hP => ?_)
      exact e_iret C hend hP (k_some2 h).1 (congrArg (mw ev ad) (k_some2 h).2) dX4_set_31
  · have h := k_nf c4 h
    refine lv_aload_n hx hb dX4_set_7 rfl (lv_at hl 0 rfl) ?_
    refine lv_bipush (v := (-2)) hx hb dX4_set_8 (by decide) ?_
    obtain ⟨x9, σ8, h1, h⟩ := k_ob2 h
    refine k_callVi C hP hap hAA (c_X4_no l ev ad σ (-2)   _ _ h1) Emb.same hap gz_X4_no qML_RX4_56 qIM_yX4_no qSE_yX4_no ⟨(Nat.le_of_ble_eq_true rfl), (Nat.le_of_ble_eq_true rfl)⟩ (q0 := 0) rfl (by decide) rfl rfl rfl rfl hl.1 rfl (Nat.le_of_ble_eq_true rfl) dX4_set_10 ⟨Nat.le_refl _, Nat.le_refl _⟩ (fun H locs hP => ?_)
    exact e_iret C hend hP (k_some2 h).1 (congrArg (mw ev ad) (k_some2 h).2) dX4_set_13
def f_X4_copy_L225_b (x24 : Int32) (x25 : Int32) (x26 : Int32) (x27 : Int32) (x28 : Int32)  (rec225 : Int32 → MM → Option (Int32 × MM)) (x30 : Int32) (σ31 : MM) : Option (Int32 × MM) :=
  if x28 ≤ x30 then some (x28, σ31) else gd (inb (((40 * x24) + x26) + x30) 320) (gd (inb (((40 * x25) + x27) + x30) 320) (lt (m_rowOf' σ31 (vp_updL (m_rowOf σ31) ((((40 * x25) + x27) + x30)).toNatClampNeg ((m_rowOf σ31) ((((40 * x24) + x26) + x30)).toNatClampNeg))) (fun σ32 => lt (x30 + 1) (fun x33 => rec225 x33 σ32))))
def f_X4_copy_L225 (x24 : Int32) (x25 : Int32) (x26 : Int32) (x27 : Int32) (x28 : Int32)  (x30 : Int32) (σ31 : MM) : Option (Int32 × MM) :=
  lp (fun _ _ => none) (f_X4_copy_L225_b x24 x25 x26 x27 x28 ) FU x30 σ31
def f_X4_copy_b222  (x24 : Int32) (x25 : Int32) (x26 : Int32) (x27 : Int32) (x28 : Int32) (σ29 : MM) : Option (Int32 × MM) :=
  f_X4_copy_L225 x24 x25 x26 x27 x28 0 σ29
def f_X4_copy_L179_b (x8 : Int32) (x9 : Int32) (x10 : Int32) (x11 : Int32) (x12 : Int32)  (rec179 : Int32 → MM → Option (Int32 × MM)) (x35 : Int32) (σ36 : MM) : Option (Int32 × MM) :=
  if x35 < 0 then some (x12, σ36) else gd (inb (((40 * x8) + x10) + x35) 320) (gd (inb (((40 * x9) + x11) + x35) 320) (lt (m_rowOf' σ36 (vp_updL (m_rowOf σ36) ((((40 * x9) + x11) + x35)).toNatClampNeg ((m_rowOf σ36) ((((40 * x8) + x10) + x35)).toNatClampNeg))) (fun σ37 => lt (x35 + (-1)) (fun x38 => rec179 x38 σ37))))
def f_X4_copy_L179 (x8 : Int32) (x9 : Int32) (x10 : Int32) (x11 : Int32) (x12 : Int32)  (x35 : Int32) (σ36 : MM) : Option (Int32 × MM) :=
  lp (fun _ _ => none) (f_X4_copy_L179_b x8 x9 x10 x11 x12 ) FU x35 σ36
def f_X4_copy_b81  (x8 : Int32) (x9 : Int32) (x10 : Int32) (x11 : Int32) (x12 : Int32) (σ13 : MM) : Option (Int32 × MM) :=
  gd (inb x8 8) (if ((m_holding σ13) (x8).toNatClampNeg) < 0 then ob2 (f_X4_no σ13 (-4)) (fun x15 σ14 => some (x15, σ14)) else gd (inb x9 8) (if 0 ≤ ((m_holding σ13) (x9).toNatClampNeg) then if x12 < 0 then ob2 (f_X4_no σ13 (-2)) (fun x17 σ16 => some (x17, σ16)) else if x10 < 0 then ob2 (f_X4_no σ13 (-2)) (fun x19 σ18 => some (x19, σ18)) else if x11 < 0 then ob2 (f_X4_no σ13 (-2)) (fun x21 σ20 => some (x21, σ20)) else gd (inb x8 8) (if 0 < (lg_cmp (((x10).toInt64) + ((x12).toInt64)) ((((m_rowLength σ13) (x8).toNatClampNeg)).toInt64)) then ob2 (f_X4_no σ13 (-2)) (fun x23 σ22 => some (x23, σ22)) else gd (inb x9 8) (if (lg_cmp (((x11).toInt64) + ((x12).toInt64)) ((((m_rowLength σ13) (x9).toNatClampNeg)).toInt64)) ≤ 0 then if x8 = x9 then if x11 ≤ x10 then f_X4_copy_b222 x8 x9 x10 x11 x12 σ13 else lt (x12 - 1) (fun x34 => f_X4_copy_L179 x8 x9 x10 x11 x12 x34 σ13) else f_X4_copy_b222 x8 x9 x10 x11 x12 σ13 else ob2 (f_X4_no σ13 (-2)) (fun x40 σ39 => some (x40, σ39)))) else ob2 (f_X4_no σ13 (-4)) (fun x42 σ41 => some (x42, σ41))))
def f_X4_copy (σ : MM) (a1 : Int32) (a2 : Int32) (a3 : Int32) (a4 : Int32) (a5 : Int32) : Option (Int32 × MM) :=
  if (f_X4_isShelf a1) = true then if (f_X4_isShelf a2) = true then gd (inb a1 8) (if 10 ≤ ((m_holding σ) (a1).toNatClampNeg) then ob2 (f_X4_no σ (-3)) (fun x4 σ3 => some (x4, σ3)) else gd (inb a2 8) (if 10 ≤ ((m_holding σ) (a2).toNatClampNeg) then ob2 (f_X4_no σ (-3)) (fun x6 σ5 => some (x6, σ5)) else ob (f_X4_isRow σ a1) (fun b7 => if b7 = true then ob (f_X4_isRow σ a2) (fun b43 => if b43 = true then gd (inb a1 8) (gd (inb a2 8) (if ((m_holding σ) (a1).toNatClampNeg) = ((m_holding σ) (a2).toNatClampNeg) then f_X4_copy_b81 a1 a2 a3 a4 a5 σ else ob2 (f_X4_no σ (-3)) (fun x45 σ44 => some (x45, σ44)))) else f_X4_copy_b81 a1 a2 a3 a4 a5 σ) else f_X4_copy_b81 a1 a2 a3 a4 a5 σ))) else ob2 (f_X4_no σ (-2)) (fun x47 σ46 => some (x47, σ46)) else ob2 (f_X4_no σ (-2)) (fun x2 σ1 => some (x2, σ1))
set_option maxHeartbeats 4000000 in
set_option maxRecDepth 100000 in
theorem c_X4_copy (l : Launch) (ev : EV) (ad : Nat → Nat) (σ : MM) (a1 : Int32) (a2 : Int32) (a3 : Int32) (a4 : Int32) (a5 : Int32)   (r : Int32) (σ' : MM) (h : f_X4_copy σ a1 a2 a3 a4 a5 = some (r, σ')) : Ct l yX4_copy prog_6_method_13_code 7 (Option.some Jvm.ClassFile.FieldType.int) (rmk 2 43) ev 13 ad (mw ev ad σ) (mw ev ad σ') [.ref (ad 0), .int a1, .int a2, .int a3, .int a4, .int a5] (some (.int r)) := by
  refine Ct.of (by decide +kernel) (Nat.le_of_ble_eq_true rfl) ?_
  intro p e s m args below meth c Qc C hap hP hend ls hl
  have hAA : ∀ j, j < 13 → inA ad 13 (ad j) := fun j hj => ⟨j, hj, rfl⟩
  have hx := C.1
  have hb := C.2.1
  have hl : lv_has ls 7 [(0, .ref (ad 0)), (1, .int a1), (2, .int a2), (3, .int a3), (4, .int a4), (5, .int a5)] := hl
  have h := (f_X4_copy.eq_1 _ _ _ _ _ _ ).symm.trans h
  have hB222 : ∀ (x24 : Int32) (x25 : Int32) (x26 : Int32) (x27 : Int32) (x28 : Int32) (σ29 : MM) (H : Heap) (locs : List Loc) (ls : Array Slot), f_X4_copy_b222  x24 x25 x26 x27 x28 σ29 = some (r, σ') → PS ev 13 ad (mw ev ad σ29) (inA ad 13) s H locs → lv_has ls 7 [(0, .ref (ad 0)), (1, .int x24), (2, .int x25), (3, .int x26), (4, .int x27), (5, .int x28)] → WW ev p l e (rmk 2 43) s m args below meth c Qc ad 13 H locs 222 ls [] := by
    intro x24 x25 x26 x27 x28 σ29 H locs ls h hP hl
    have h := (f_X4_copy_b222.eq_1 _ _ _ _ _ _ ).symm.trans h
    refine lv_iconst (v := 0) hx hb dX4_copy_222 (by decide) ?_
    refine lv_istore (lv' := [(6, .int 0), (0, .ref (ad 0)), (1, .int x24), (2, .int x25), (3, .int x26), (4, .int x27), (5, .int x28)]) hx hb dX4_copy_223 hl (by decide) rfl (fun ls hl => ?_)
    have hL225 : ∀ (n : Nat) (x30 : Int32) (σ31 : MM) (H : Heap) (locs : List Loc) (ls : Array Slot), lp (fun _ _ => none) (f_X4_copy_L225_b x24 x25 x26 x27 x28 ) n x30 σ31 = some (r, σ') → PS ev 13 ad (mw ev ad σ31) (inA ad 13) s H locs → lv_has ls 7 [(0, .ref (ad 0)), (1, .int x24), (2, .int x25), (3, .int x26), (4, .int x27), (5, .int x28), (6, .int x30)] → WW ev p l e (rmk 2 43) s m args below meth c Qc ad 13 H locs 225 ls [] := by
      intro n
      induction n with
      | zero =>
        intro x30 σ31 H locs ls h; exact k_none h
      | succ n ih =>
        intro x30 σ31 H locs ls h hP hl
        have h : f_X4_copy_L225_b x24 x25 x26 x27 x28  (lp (fun _ _ => none) (f_X4_copy_L225_b x24 x25 x26 x27 x28 ) n) x30 σ31 = some (r, σ') := h
        have h := (f_X4_copy_L225_b.eq_1 _ _ _ _ _ _ _ _ ).symm.trans h
        refine lv_iload hx hb dX4_copy_225 (lv_at hl 6 rfl) ?_
        refine lv_iload hx hb dX4_copy_227 (lv_at hl 5 rfl) ?_
        refine lv_icmp_ge (tgt := 267) hx hb dX4_copy_229 (by decide) (fun c229 => ?_) (fun c229 => ?_)
        · have h := k_if c229 h
          refine lv_iload hx hb dX4_copy_267 (lv_at hl 5 rfl) ?_
          exact e_iret C hend hP (k_some2 h).1 (congrArg (mw ev ad) (k_some2 h).2) dX4_copy_269
        · have h := k_nf c229 h
          refine lv_aload_n hx hb dX4_copy_232 rfl (lv_at hl 0 rfl) ?_
          refine r_get C hP (ci := 4) rfl uin_X4 19 (by decide) 0 (by decide) rfl qFL_RX4_35 rfl rfl dX4_copy_233 ?_
          refine lv_bipush (v := 40) hx hb dX4_copy_236 (by decide) ?_
          refine lv_iload_n hx hb dX4_copy_238 rfl (lv_at hl 2 rfl) ?_
          refine lv_imul hx hb dX4_copy_239 ?_
          refine lv_iload hx hb dX4_copy_240 (lv_at hl 4 rfl) ?_
          refine lv_iadd hx hb dX4_copy_242 ?_
          refine lv_iload hx hb dX4_copy_243 (lv_at hl 6 rfl) ?_
          refine lv_iadd hx hb dX4_copy_245 ?_
          refine lv_aload_n hx hb dX4_copy_246 rfl (lv_at hl 0 rfl) ?_
          refine r_get C hP (ci := 4) rfl uin_X4 19 (by decide) 0 (by decide) rfl qFL_RX4_35 rfl rfl dX4_copy_247 ?_
          refine lv_bipush (v := 40) hx hb dX4_copy_250 (by decide) ?_
          refine lv_iload_n hx hb dX4_copy_252 rfl (lv_at hl 1 rfl) ?_
          refine lv_imul hx hb dX4_copy_253 ?_
          refine lv_iload_n hx hb dX4_copy_254 rfl (lv_at hl 3 rfl) ?_
          refine lv_iadd hx hb dX4_copy_255 ?_
          refine lv_iload hx hb dX4_copy_256 (lv_at hl 6 rfl) ?_
          refine lv_iadd hx hb dX4_copy_258 ?_
          obtain ⟨hg, h⟩ := k_gd h
          refine r_lald C hP 9 (by decide) rfl hg dX4_copy_259 ?_
          obtain ⟨hg, h⟩ := k_gd h
          obtain ⟨σ32, eσ32, h⟩ := k_ltx h
          refine st_M_rowOf C hP hap hAA eσ32 hg dX4_copy_260 (fun H locs hP => ?_)
          obtain ⟨x33, ex33, h⟩ := k_ltx h
          refine lv_iinc (v := x33) (lv' := [(6, .int x33), (0, .ref (ad 0)), (1, .int x24), (2, .int x25), (3, .int x26), (4, .int x27), (5, .int x28)]) hx hb dX4_copy_261 hl (k := 6) rfl (by rw [ex33]; rfl) (by decide) rfl (fun ls hl => ?_)
          refine lv_goto (tgt := 225) hx hb dX4_copy_264 (by decide) ?_
          exact ih _ _ _ _ _ h hP (lv_sub hl [1, 2, 3, 4, 5, 6, 0] rfl)
    exact hL225 FU _ _ _ _ _ h hP (lv_sub hl [1, 2, 3, 4, 5, 6, 0] rfl)
  have hB81 : ∀ (x8 : Int32) (x9 : Int32) (x10 : Int32) (x11 : Int32) (x12 : Int32) (σ13 : MM) (H : Heap) (locs : List Loc) (ls : Array Slot), f_X4_copy_b81  x8 x9 x10 x11 x12 σ13 = some (r, σ') → PS ev 13 ad (mw ev ad σ13) (inA ad 13) s H locs → lv_has ls 7 [(0, .ref (ad 0)), (1, .int x8), (2, .int x9), (3, .int x10), (4, .int x11), (5, .int x12)] → WW ev p l e (rmk 2 43) s m args below meth c Qc ad 13 H locs 81 ls [] := by
    intro x8 x9 x10 x11 x12 σ13 H locs ls h hP hl
    have h := (f_X4_copy_b81.eq_1 _ _ _ _ _ _ ).symm.trans h
    refine lv_aload_n hx hb dX4_copy_81 rfl (lv_at hl 0 rfl) ?_
    refine r_get C hP (ci := 4) rfl uin_X4 17 (by decide) 0 (by decide) rfl qFL_RX4_29 rfl rfl dX4_copy_82 ?_
    refine lv_iload_n hx hb dX4_copy_85 rfl (lv_at hl 1 rfl) ?_
    obtain ⟨hg, h⟩ := k_gd h
    refine r_iald C hP 7 (by decide) rfl hg dX4_copy_86 ?_
    refine lv_if_lt (tgt := 99) hx hb dX4_copy_87 (by decide) (fun c87 => ?_) (fun c87 => ?_)
    · have h := k_if c87 h
      refine lv_aload_n hx hb dX4_copy_99 rfl (lv_at hl 0 rfl) ?_
      refine lv_bipush (v := (-4)) hx hb dX4_copy_100 (by decide) ?_
      obtain ⟨x15, σ14, h1, h⟩ := k_ob2 h
      refine k_callVi C hP hap hAA (c_X4_no l ev ad σ13 (-4)   _ _ h1) Emb.same hap gz_X4_no qML_RX4_56 qIM_yX4_no qSE_yX4_no ⟨(Nat.le_of_ble_eq_true rfl), (Nat.le_of_ble_eq_true rfl)⟩ (q0 := 0) rfl (by decide) rfl rfl rfl rfl hl.1 rfl (Nat.le_of_ble_eq_true rfl) dX4_copy_102 ⟨Nat.le_refl _, Nat.le_refl _⟩ (fun H locs hP => ?_)
      exact e_iret C hend hP (k_some2 h).1 (congrArg (mw ev ad) (k_some2 h).2) dX4_copy_105
    · have h := k_nf c87 h
      refine lv_aload_n hx hb dX4_copy_90 rfl (lv_at hl 0 rfl) ?_
      refine r_get C hP (ci := 4) rfl uin_X4 17 (by decide) 0 (by decide) rfl qFL_RX4_29 rfl rfl dX4_copy_91 ?_
      refine lv_iload_n hx hb dX4_copy_94 rfl (lv_at hl 2 rfl) ?_
      obtain ⟨hg, h⟩ := k_gd h
      refine r_iald C hP 7 (by decide) rfl hg dX4_copy_95 ?_
      refine lv_if_ge (tgt := 106) hx hb dX4_copy_96 (by decide) (fun c96 => ?_) (fun c96 => ?_)
      · have h := k_if c96 h
        refine lv_iload hx hb dX4_copy_106 (lv_at hl 5 rfl) ?_
        refine lv_if_lt (tgt := 155) hx hb dX4_copy_108 (by decide) (fun c108 => ?_) (fun c108 => ?_)
        · have h := k_if c108 h
          refine lv_aload_n hx hb dX4_copy_155 rfl (lv_at hl 0 rfl) ?_
          refine lv_bipush (v := (-2)) hx hb dX4_copy_156 (by decide) ?_
          obtain ⟨x17, σ16, h1, h⟩ := k_ob2 h
          refine k_callVi C hP hap hAA (c_X4_no l ev ad σ13 (-2)   _ _ h1) Emb.same hap gz_X4_no qML_RX4_56 qIM_yX4_no qSE_yX4_no ⟨(Nat.le_of_ble_eq_true rfl), (Nat.le_of_ble_eq_true rfl)⟩ (q0 := 0) rfl (by decide) rfl rfl rfl rfl hl.1 rfl (Nat.le_of_ble_eq_true rfl) dX4_copy_158 ⟨Nat.le_refl _, Nat.le_refl _⟩ (fun H locs hP => ?_)
          exact e_iret C hend hP (k_some2 h).1 (congrArg (mw ev ad) (k_some2 h).2) dX4_copy_161
        · have h := k_nf c108 h
          refine lv_iload_n hx hb dX4_copy_111 rfl (lv_at hl 3 rfl) ?_
          refine lv_if_lt (tgt := 155) hx hb dX4_copy_112 (by decide) (fun c112 => ?_) (fun c112 => ?_)
          · have h := k_if c112 h
            refine lv_aload_n hx hb dX4_copy_155 rfl (lv_at hl 0 rfl) ?_
            refine lv_bipush (v := (-2)) hx hb dX4_copy_156 (by decide) ?_
            obtain ⟨x19, σ18, h1, h⟩ := k_ob2 h
            refine k_callVi C hP hap hAA (c_X4_no l ev ad σ13 (-2)   _ _ h1) Emb.same hap gz_X4_no qML_RX4_56 qIM_yX4_no qSE_yX4_no ⟨(Nat.le_of_ble_eq_true rfl), (Nat.le_of_ble_eq_true rfl)⟩ (q0 := 0) rfl (by decide) rfl rfl rfl rfl hl.1 rfl (Nat.le_of_ble_eq_true rfl) dX4_copy_158 ⟨Nat.le_refl _, Nat.le_refl _⟩ (fun H locs hP => ?_)
            exact e_iret C hend hP (k_some2 h).1 (congrArg (mw ev ad) (k_some2 h).2) dX4_copy_161
          · have h := k_nf c112 h
            refine lv_iload hx hb dX4_copy_115 (lv_at hl 4 rfl) ?_
            refine lv_if_lt (tgt := 155) hx hb dX4_copy_117 (by decide) (fun c117 => ?_) (fun c117 => ?_)
            · have h := k_if c117 h
              refine lv_aload_n hx hb dX4_copy_155 rfl (lv_at hl 0 rfl) ?_
              refine lv_bipush (v := (-2)) hx hb dX4_copy_156 (by decide) ?_
              obtain ⟨x21, σ20, h1, h⟩ := k_ob2 h
              refine k_callVi C hP hap hAA (c_X4_no l ev ad σ13 (-2)   _ _ h1) Emb.same hap gz_X4_no qML_RX4_56 qIM_yX4_no qSE_yX4_no ⟨(Nat.le_of_ble_eq_true rfl), (Nat.le_of_ble_eq_true rfl)⟩ (q0 := 0) rfl (by decide) rfl rfl rfl rfl hl.1 rfl (Nat.le_of_ble_eq_true rfl) dX4_copy_158 ⟨Nat.le_refl _, Nat.le_refl _⟩ (fun H locs hP => ?_)
              exact e_iret C hend hP (k_some2 h).1 (congrArg (mw ev ad) (k_some2 h).2) dX4_copy_161
            · have h := k_nf c117 h
              refine lv_iload_n hx hb dX4_copy_120 rfl (lv_at hl 3 rfl) ?_
              refine lv_i2l hx hb dX4_copy_121 rfl ?_
              refine lv_iload hx hb dX4_copy_122 (lv_at hl 5 rfl) ?_
              refine lv_i2l hx hb dX4_copy_124 rfl ?_
              refine lv_ladd hx hb dX4_copy_125 ?_
              refine lv_aload_n hx hb dX4_copy_126 rfl (lv_at hl 0 rfl) ?_
              refine r_get C hP (ci := 4) rfl uin_X4 18 (by decide) 0 (by decide) rfl qFL_RX4_32 rfl rfl dX4_copy_127 ?_
              refine lv_iload_n hx hb dX4_copy_130 rfl (lv_at hl 1 rfl) ?_
              obtain ⟨hg, h⟩ := k_gd h
              refine r_iald C hP 8 (by decide) rfl hg dX4_copy_131 ?_
              refine lv_i2l hx hb dX4_copy_132 rfl ?_
              refine W.lcmp hx hb dX4_copy_133 ?_
              refine lv_if_gt (tgt := 155) hx hb dX4_copy_134 (by decide) (fun c134 => ?_) (fun c134 => ?_)
              · have h := k_if c134 h
                refine lv_aload_n hx hb dX4_copy_155 rfl (lv_at hl 0 rfl) ?_
                refine lv_bipush (v := (-2)) hx hb dX4_copy_156 (by decide) ?_
                obtain ⟨x23, σ22, h1, h⟩ := k_ob2 h
                refine k_callVi C hP hap hAA (c_X4_no l ev ad σ13 (-2)   _ _ h1) Emb.same hap gz_X4_no qML_RX4_56 qIM_yX4_no qSE_yX4_no ⟨(Nat.le_of_ble_eq_true rfl), (Nat.le_of_ble_eq_true rfl)⟩ (q0 := 0) rfl (by decide) rfl rfl rfl rfl hl.1 rfl (Nat.le_of_ble_eq_true rfl) dX4_copy_158 ⟨Nat.le_refl _, Nat.le_refl _⟩ (fun H locs hP => ?_)
                exact e_iret C hend hP (k_some2 h).1 (congrArg (mw ev ad) (k_some2 h).2) dX4_copy_161
              · have h := k_nf c134 h
                refine lv_iload hx hb dX4_copy_137 (lv_at hl 4 rfl) ?_
                refine lv_i2l hx hb dX4_copy_139 rfl ?_
                refine lv_iload hx hb dX4_copy_140 (lv_at hl 5 rfl) ?_
                refine lv_i2l hx hb dX4_copy_142 rfl ?_
                refine lv_ladd hx hb dX4_copy_143 ?_
                refine lv_aload_n hx hb dX4_copy_144 rfl (lv_at hl 0 rfl) ?_
                refine r_get C hP (ci := 4) rfl uin_X4 18 (by decide) 0 (by decide) rfl qFL_RX4_32 rfl rfl dX4_copy_145 ?_
                refine lv_iload_n hx hb dX4_copy_148 rfl (lv_at hl 2 rfl) ?_
                obtain ⟨hg, h⟩ := k_gd h
                refine r_iald C hP 8 (by decide) rfl hg dX4_copy_149 ?_
                refine lv_i2l hx hb dX4_copy_150 rfl ?_
                refine W.lcmp hx hb dX4_copy_151 ?_
                refine lv_if_le (tgt := 162) hx hb dX4_copy_152 (by decide) (fun c152 => ?_) (fun c152 => ?_)
                · have h := k_if c152 h
                  refine lv_iload_n hx hb dX4_copy_162 rfl (lv_at hl 1 rfl) ?_
                  refine lv_iload_n hx hb dX4_copy_163 rfl (lv_at hl 2 rfl) ?_
                  refine lv_icmp_ne (tgt := 222) hx hb dX4_copy_164 (by decide) (fun c164 => ?_) (fun c164 => ?_)
                  · have h := k_nf c164 h
                    exact hB222 _ _ _ _ _ _ _ _ _ h hP (lv_sub hl [0, 1, 2, 3, 4, 5] rfl)
                  · have h := k_if c164 h
                    refine lv_iload_n hx hb dX4_copy_167 rfl (lv_at hl 3 rfl) ?_
                    refine lv_iload hx hb dX4_copy_168 (lv_at hl 4 rfl) ?_
                    refine lv_icmp_ge (tgt := 222) hx hb dX4_copy_170 (by decide) (fun c170 => ?_) (fun c170 => ?_)
                    · have h := k_if c170 h
                      exact hB222 _ _ _ _ _ _ _ _ _ h hP (lv_sub hl [0, 1, 2, 3, 4, 5] rfl)
                    · have h := k_nf c170 h
                      refine lv_iload hx hb dX4_copy_173 (lv_at hl 5 rfl) ?_
                      refine lv_iconst (v := 1) hx hb dX4_copy_175 (by decide) ?_
                      refine lv_isub hx hb dX4_copy_176 ?_
                      refine lv_topi (fun x34 ex34 => ?_)
                      have h := k_lt ex34 h
                      refine lv_istore (lv' := [(6, .int x34), (0, .ref (ad 0)), (1, .int x8), (2, .int x9), (3, .int x10), (4, .int x11), (5, .int x12)]) hx hb dX4_copy_177 hl (by decide) rfl (fun ls hl => ?_)
                      have hL179 : ∀ (n : Nat) (x35 : Int32) (σ36 : MM) (H : Heap) (locs : List Loc) (ls : Array Slot), lp (fun _ _ => none) (f_X4_copy_L179_b x8 x9 x10 x11 x12 ) n x35 σ36 = some (r, σ') → PS ev 13 ad (mw ev ad σ36) (inA ad 13) s H locs → lv_has ls 7 [(0, .ref (ad 0)), (1, .int x8), (2, .int x9), (3, .int x10), (4, .int x11), (5, .int x12), (6, .int x35)] → WW ev p l e (rmk 2 43) s m args below meth c Qc ad 13 H locs 179 ls [] := by
                        intro n
                        induction n with
                        | zero =>
                          intro x35 σ36 H locs ls h; exact k_none h
                        | succ n ih =>
                          intro x35 σ36 H locs ls h hP hl
                          have h : f_X4_copy_L179_b x8 x9 x10 x11 x12  (lp (fun _ _ => none) (f_X4_copy_L179_b x8 x9 x10 x11 x12 ) n) x35 σ36 = some (r, σ') := h
                          have h := (f_X4_copy_L179_b.eq_1 _ _ _ _ _ _ _ _ ).symm.trans h
                          refine lv_iload hx hb dX4_copy_179 (lv_at hl 6 rfl) ?_
                          refine lv_if_lt (tgt := 219) hx hb dX4_copy_181 (by decide) (fun c181 => ?_) (fun c181 => ?_)
                          · have h := k_if c181 h
                            refine lv_goto (tgt := 267) hx hb dX4_copy_219 (by decide) ?_
                            refine lv_iload hx hb dX4_copy_267 (lv_at hl 5 rfl) ?_
                            exact e_iret C hend hP (k_some2 h).1 (congrArg (mw ev ad) (k_some2 h).2) dX4_copy_269
                          · have h := k_nf c181 h
                            refine lv_aload_n hx hb dX4_copy_184 rfl (lv_at hl 0 rfl) ?_
                            refine r_get C hP (ci := 4) rfl uin_X4 19 (by decide) 0 (by decide) rfl qFL_RX4_35 rfl rfl dX4_copy_185 ?_
                            refine lv_bipush (v := 40) hx hb dX4_copy_188 (by decide) ?_
                            refine lv_iload_n hx hb dX4_copy_190 rfl (lv_at hl 2 rfl) ?_
                            refine lv_imul hx hb dX4_copy_191 ?_
                            refine lv_iload hx hb dX4_copy_192 (lv_at hl 4 rfl) ?_
                            refine lv_iadd hx hb dX4_copy_194 ?_
                            refine lv_iload hx hb dX4_copy_195 (lv_at hl 6 rfl) ?_
                            refine lv_iadd hx hb dX4_copy_197 ?_
                            refine lv_aload_n hx hb dX4_copy_198 rfl (lv_at hl 0 rfl) ?_
                            refine r_get C hP (ci := 4) rfl uin_X4 19 (by decide) 0 (by decide) rfl qFL_RX4_35 rfl rfl dX4_copy_199 ?_
                            refine lv_bipush (v := 40) hx hb dX4_copy_202 (by decide) ?_
                            refine lv_iload_n hx hb dX4_copy_204 rfl (lv_at hl 1 rfl) ?_
                            refine lv_imul hx hb dX4_copy_205 ?_
                            refine lv_iload_n hx hb dX4_copy_206 rfl (lv_at hl 3 rfl) ?_
                            refine lv_iadd hx hb dX4_copy_207 ?_
                            refine lv_iload hx hb dX4_copy_208 (lv_at hl 6 rfl) ?_
                            refine lv_iadd hx hb dX4_copy_210 ?_
                            obtain ⟨hg, h⟩ := k_gd h
                            refine r_lald C hP 9 (by decide) rfl hg dX4_copy_211 ?_
                            obtain ⟨hg, h⟩ := k_gd h
                            obtain ⟨σ37, eσ37, h⟩ := k_ltx h
                            refine st_M_rowOf C hP hap hAA eσ37 hg dX4_copy_212 (fun H locs hP => ?_)
                            obtain ⟨x38, ex38, h⟩ := k_ltx h
                            refine lv_iinc (v := x38) (lv' := [(6, .int x38), (0, .ref (ad 0)), (1, .int x8), (2, .int x9), (3, .int x10), (4, .int x11), (5, .int x12)]) hx hb dX4_copy_213 hl (k := 6) rfl (by rw [ex38]; rfl) (by decide) rfl (fun ls hl => ?_)
                            refine lv_goto (tgt := 179) hx hb dX4_copy_216 (by decide) ?_
                            exact ih _ _ _ _ _ h hP (lv_sub hl [1, 2, 3, 4, 5, 6, 0] rfl)
                      exact hL179 FU _ _ _ _ _ h hP (lv_sub hl [1, 2, 3, 4, 5, 6, 0] rfl)
                · have h := k_nf c152 h
                  refine lv_aload_n hx hb dX4_copy_155 rfl (lv_at hl 0 rfl) ?_
                  refine lv_bipush (v := (-2)) hx hb dX4_copy_156 (by decide) ?_
                  obtain ⟨x40, σ39, h1, h⟩ := k_ob2 h
                  refine k_callVi C hP hap hAA (c_X4_no l ev ad σ13 (-2)   _ _ h1) Emb.same hap gz_X4_no qML_RX4_56 qIM_yX4_no qSE_yX4_no ⟨(Nat.le_of_ble_eq_true rfl), (Nat.le_of_ble_eq_true rfl)⟩ (q0 := 0) rfl (by decide) rfl rfl rfl rfl hl.1 rfl (Nat.le_of_ble_eq_true rfl) dX4_copy_158 ⟨Nat.le_refl _, Nat.le_refl _⟩ (fun H locs hP => ?_)
                  exact e_iret C hend hP (k_some2 h).1 (congrArg (mw ev ad) (k_some2 h).2) dX4_copy_161
      · have h := k_nf c96 h
        refine lv_aload_n hx hb dX4_copy_99 rfl (lv_at hl 0 rfl) ?_
        refine lv_bipush (v := (-4)) hx hb dX4_copy_100 (by decide) ?_
        obtain ⟨x42, σ41, h1, h⟩ := k_ob2 h
        refine k_callVi C hP hap hAA (c_X4_no l ev ad σ13 (-4)   _ _ h1) Emb.same hap gz_X4_no qML_RX4_56 qIM_yX4_no qSE_yX4_no ⟨(Nat.le_of_ble_eq_true rfl), (Nat.le_of_ble_eq_true rfl)⟩ (q0 := 0) rfl (by decide) rfl rfl rfl rfl hl.1 rfl (Nat.le_of_ble_eq_true rfl) dX4_copy_102 ⟨Nat.le_refl _, Nat.le_refl _⟩ (fun H locs hP => ?_)
        exact e_iret C hend hP (k_some2 h).1 (congrArg (mw ev ad) (k_some2 h).2) dX4_copy_105
  refine lv_iload_n hx hb dX4_copy_0 rfl (lv_at hl 1 rfl) ?_
  refine k_callSi C hP hap hAA (c_X4_isShelf l ev ad a1   _ rfl) Emb.none (apart_0 _) gz_X4_isShelf qML_RX4_73 qSM_yX4_isShelf ⟨(Nat.le_of_ble_eq_true rfl), (Nat.le_of_ble_eq_true rfl)⟩ rfl hl.1 rfl (Nat.le_of_ble_eq_true rfl) dX4_copy_1 ⟨Nat.le_refl _, Nat.le_refl _⟩ (fun H locs hP => ?_)
  refine r_ifz_eq (tgt := 14) hx hb dX4_copy_4 (by decide) (fun c4 => ?_) (fun c4 => ?_)
  · have h := k_nf c4 h
    refine lv_aload_n hx hb dX4_copy_14 rfl (lv_at hl 0 rfl) ?_
    refine lv_bipush (v := (-2)) hx hb dX4_copy_15 (by decide) ?_
    obtain ⟨x2, σ1, h1, h⟩ := k_ob2 h
    refine k_callVi C hP hap hAA (c_X4_no l ev ad σ (-2)   _ _ h1) Emb.same hap gz_X4_no qML_RX4_56 qIM_yX4_no qSE_yX4_no ⟨(Nat.le_of_ble_eq_true rfl), (Nat.le_of_ble_eq_true rfl)⟩ (q0 := 0) rfl (by decide) rfl rfl rfl rfl hl.1 rfl (Nat.le_of_ble_eq_true rfl) dX4_copy_17 ⟨Nat.le_refl _, Nat.le_refl _⟩ (fun H locs hP => ?_)
    exact e_iret C hend hP (k_some2 h).1 (congrArg (mw ev ad) (k_some2 h).2) dX4_copy_20
  · have h := k_if c4 h
    refine lv_iload_n hx hb dX4_copy_7 rfl (lv_at hl 2 rfl) ?_
    refine k_callSi C hP hap hAA (c_X4_isShelf l ev ad a2   _ rfl) Emb.none (apart_0 _) gz_X4_isShelf qML_RX4_73 qSM_yX4_isShelf ⟨(Nat.le_of_ble_eq_true rfl), (Nat.le_of_ble_eq_true rfl)⟩ rfl hl.1 rfl (Nat.le_of_ble_eq_true rfl) dX4_copy_8 ⟨Nat.le_refl _, Nat.le_refl _⟩ (fun H locs hP => ?_)
    refine r_ifz_ne (tgt := 21) hx hb dX4_copy_11 (by decide) (fun c11 => ?_) (fun c11 => ?_)
    · have h := k_if c11 h
      refine lv_aload_n hx hb dX4_copy_21 rfl (lv_at hl 0 rfl) ?_
      refine r_get C hP (ci := 4) rfl uin_X4 17 (by decide) 0 (by decide) rfl qFL_RX4_29 rfl rfl dX4_copy_22 ?_
      refine lv_iload_n hx hb dX4_copy_25 rfl (lv_at hl 1 rfl) ?_
      obtain ⟨hg, h⟩ := k_gd h
      refine r_iald C hP 7 (by decide) rfl hg dX4_copy_26 ?_
      refine lv_bipush (v := 10) hx hb dX4_copy_27 (by decide) ?_
      refine lv_icmp_ge (tgt := 74) hx hb dX4_copy_29 (by decide) (fun c29 => ?_) (fun c29 => ?_)
      · have h := k_if c29 h
        refine lv_aload_n hx hb dX4_copy_74 rfl (lv_at hl 0 rfl) ?_
        refine lv_bipush (v := (-3)) hx hb dX4_copy_75 (by decide) ?_
        obtain ⟨x4, σ3, h1, h⟩ := k_ob2 h
        refine k_callVi C hP hap hAA (c_X4_no l ev ad σ (-3)   _ _ h1) Emb.same hap gz_X4_no qML_RX4_56 qIM_yX4_no qSE_yX4_no ⟨(Nat.le_of_ble_eq_true rfl), (Nat.le_of_ble_eq_true rfl)⟩ (q0 := 0) rfl (by decide) rfl rfl rfl rfl hl.1 rfl (Nat.le_of_ble_eq_true rfl) dX4_copy_77 ⟨Nat.le_refl _, Nat.le_refl _⟩ (fun H locs hP => ?_)
        exact e_iret C hend hP (k_some2 h).1 (congrArg (mw ev ad) (k_some2 h).2) dX4_copy_80
      · have h := k_nf c29 h
        refine lv_aload_n hx hb dX4_copy_32 rfl (lv_at hl 0 rfl) ?_
        refine r_get C hP (ci := 4) rfl uin_X4 17 (by decide) 0 (by decide) rfl qFL_RX4_29 rfl rfl dX4_copy_33 ?_
        refine lv_iload_n hx hb dX4_copy_36 rfl (lv_at hl 2 rfl) ?_
        obtain ⟨hg, h⟩ := k_gd h
        refine r_iald C hP 7 (by decide) rfl hg dX4_copy_37 ?_
        refine lv_bipush (v := 10) hx hb dX4_copy_38 (by decide) ?_
        refine lv_icmp_ge (tgt := 74) hx hb dX4_copy_40 (by decide) (fun c40 => ?_) (fun c40 => ?_)
        · have h := k_if c40 h
          refine lv_aload_n hx hb dX4_copy_74 rfl (lv_at hl 0 rfl) ?_
          refine lv_bipush (v := (-3)) hx hb dX4_copy_75 (by decide) ?_
          obtain ⟨x6, σ5, h1, h⟩ := k_ob2 h
          refine k_callVi C hP hap hAA (c_X4_no l ev ad σ (-3)   _ _ h1) Emb.same hap gz_X4_no qML_RX4_56 qIM_yX4_no qSE_yX4_no ⟨(Nat.le_of_ble_eq_true rfl), (Nat.le_of_ble_eq_true rfl)⟩ (q0 := 0) rfl (by decide) rfl rfl rfl rfl hl.1 rfl (Nat.le_of_ble_eq_true rfl) dX4_copy_77 ⟨Nat.le_refl _, Nat.le_refl _⟩ (fun H locs hP => ?_)
          exact e_iret C hend hP (k_some2 h).1 (congrArg (mw ev ad) (k_some2 h).2) dX4_copy_80
        · have h := k_nf c40 h
          refine lv_aload_n hx hb dX4_copy_43 rfl (lv_at hl 0 rfl) ?_
          refine lv_iload_n hx hb dX4_copy_44 rfl (lv_at hl 1 rfl) ?_
          obtain ⟨b7, h1, h⟩ := k_ob h
          refine k_callVi C hP hap hAA (c_X4_isRow l ev ad σ a1   _ h1) Emb.same hap gz_X4_isRow qML_RX4_77 qIM_yX4_isRow qSE_yX4_isRow ⟨(Nat.le_of_ble_eq_true rfl), (Nat.le_of_ble_eq_true rfl)⟩ (q0 := 0) rfl (by decide) rfl rfl rfl rfl hl.1 rfl (Nat.le_of_ble_eq_true rfl) dX4_copy_45 ⟨Nat.le_refl _, Nat.le_refl _⟩ (fun H locs hP => ?_)
          refine r_ifz_eq (tgt := 81) hx hb dX4_copy_48 (by decide) (fun c48 => ?_) (fun c48 => ?_)
          · have h := k_nf c48 h
            exact hB81 _ _ _ _ _ _ _ _ _ h hP (lv_sub hl [0, 1, 2, 3, 4, 5] rfl)
          · have h := k_if c48 h
            refine lv_aload_n hx hb dX4_copy_51 rfl (lv_at hl 0 rfl) ?_
            refine lv_iload_n hx hb dX4_copy_52 rfl (lv_at hl 2 rfl) ?_
            obtain ⟨b43, h1, h⟩ := k_ob h
            refine k_callVi C hP hap hAA (c_X4_isRow l ev ad σ a2   _ h1) Emb.same hap gz_X4_isRow qML_RX4_77 qIM_yX4_isRow qSE_yX4_isRow ⟨(Nat.le_of_ble_eq_true rfl), (Nat.le_of_ble_eq_true rfl)⟩ (q0 := 0) rfl (by decide) rfl rfl rfl rfl hl.1 rfl (Nat.le_of_ble_eq_true rfl) dX4_copy_53 ⟨Nat.le_refl _, Nat.le_refl _⟩ (fun H locs hP => ?_)
            refine r_ifz_eq (tgt := 81) hx hb dX4_copy_56 (by decide) (fun c56 => ?_) (fun c56 => ?_)
            · have h := k_nf c56 h
              exact hB81 _ _ _ _ _ _ _ _ _ h hP (lv_sub hl [0, 1, 2, 3, 4, 5] rfl)
            · have h := k_if c56 h
              refine lv_aload_n hx hb dX4_copy_59 rfl (lv_at hl 0 rfl) ?_
              refine r_get C hP (ci := 4) rfl uin_X4 17 (by decide) 0 (by decide) rfl qFL_RX4_29 rfl rfl dX4_copy_60 ?_
              refine lv_iload_n hx hb dX4_copy_63 rfl (lv_at hl 1 rfl) ?_
              obtain ⟨hg, h⟩ := k_gd h
              refine r_iald C hP 7 (by decide) rfl hg dX4_copy_64 ?_
              refine lv_aload_n hx hb dX4_copy_65 rfl (lv_at hl 0 rfl) ?_
              refine r_get C hP (ci := 4) rfl uin_X4 17 (by decide) 0 (by decide) rfl qFL_RX4_29 rfl rfl dX4_copy_66 ?_
              refine lv_iload_n hx hb dX4_copy_69 rfl (lv_at hl 2 rfl) ?_
              obtain ⟨hg, h⟩ := k_gd h
              refine r_iald C hP 7 (by decide) rfl hg dX4_copy_70 ?_
              refine lv_icmp_eq (tgt := 81) hx hb dX4_copy_71 (by decide) (fun c71 => ?_) (fun c71 => ?_)
              · have h := k_if c71 h
                exact hB81 _ _ _ _ _ _ _ _ _ h hP (lv_sub hl [0, 1, 2, 3, 4, 5] rfl)
              · have h := k_nf c71 h
                refine lv_aload_n hx hb dX4_copy_74 rfl (lv_at hl 0 rfl) ?_
                refine lv_bipush (v := (-3)) hx hb dX4_copy_75 (by decide) ?_
                obtain ⟨x45, σ44, h1, h⟩ := k_ob2 h
                refine k_callVi C hP hap hAA (c_X4_no l ev ad σ (-3)   _ _ h1) Emb.same hap gz_X4_no qML_RX4_56 qIM_yX4_no qSE_yX4_no ⟨(Nat.le_of_ble_eq_true rfl), (Nat.le_of_ble_eq_true rfl)⟩ (q0 := 0) rfl (by decide) rfl rfl rfl rfl hl.1 rfl (Nat.le_of_ble_eq_true rfl) dX4_copy_77 ⟨Nat.le_refl _, Nat.le_refl _⟩ (fun H locs hP => ?_)
                exact e_iret C hend hP (k_some2 h).1 (congrArg (mw ev ad) (k_some2 h).2) dX4_copy_80
    · have h := k_nf c11 h
      refine lv_aload_n hx hb dX4_copy_14 rfl (lv_at hl 0 rfl) ?_
      refine lv_bipush (v := (-2)) hx hb dX4_copy_15 (by decide) ?_
      obtain ⟨x47, σ46, h1, h⟩ := k_ob2 h
      refine k_callVi C hP hap hAA (c_X4_no l ev ad σ (-2)   _ _ h1) Emb.same hap gz_X4_no qML_RX4_56 qIM_yX4_no qSE_yX4_no ⟨(Nat.le_of_ble_eq_true rfl), (Nat.le_of_ble_eq_true rfl)⟩ (q0 := 0) rfl (by decide) rfl rfl rfl rfl hl.1 rfl (Nat.le_of_ble_eq_true rfl) dX4_copy_17 ⟨Nat.le_refl _, Nat.le_refl _⟩ (fun H locs hP => ?_)
      exact e_iret C hend hP (k_some2 h).1 (congrArg (mw ev ad) (k_some2 h).2) dX4_copy_20
def f_X4_element (σ : MM) (a1 : Int32) (a2 : Int32) : Option (Int64) :=
  if (f_X4_isShelf a1) = true then ob (f_X4_isRow σ a1) (fun b1 => if b1 = true then gd (inb a1 8) (if (f_X4_within a2 0 (((m_rowLength σ) (a1).toNatClampNeg) - 1)) = true then gd (inb ((40 * a1) + a2) 320) (some ((m_rowOf σ) (((40 * a1) + a2)).toNatClampNeg)) else some 0) else some 0) else some 0
set_option maxHeartbeats 4000000 in
set_option maxRecDepth 100000 in
theorem c_X4_element (l : Launch) (ev : EV) (ad : Nat → Nat) (σ : MM) (a1 : Int32) (a2 : Int32)   (r : Int64)  (h : f_X4_element σ a1 a2 = some r) : Ct l yX4_element prog_6_method_14_code 3 (Option.some Jvm.ClassFile.FieldType.long) (rmk 2 43) ev 13 ad (mw ev ad σ) (mw ev ad σ) [.ref (ad 0), .int a1, .int a2] (some (.long r)) := by
  refine Ct.of (by decide +kernel) (Nat.le_of_ble_eq_true rfl) ?_
  intro p e s m args below meth c Qc C hap hP hend ls hl
  have hAA : ∀ j, j < 13 → inA ad 13 (ad j) := fun j hj => ⟨j, hj, rfl⟩
  have hx := C.1
  have hb := C.2.1
  have hl : lv_has ls 3 [(0, .ref (ad 0)), (1, .int a1), (2, .int a2)] := hl
  have h := (f_X4_element.eq_1 _ _ _ ).symm.trans h
  refine lv_iload_n hx hb dX4_element_0 rfl (lv_at hl 1 rfl) ?_
  refine k_callSi C hP hap hAA (c_X4_isShelf l ev ad a1   _ rfl) Emb.none (apart_0 _) gz_X4_isShelf qML_RX4_73 qSM_yX4_isShelf ⟨(Nat.le_of_ble_eq_true rfl), (Nat.le_of_ble_eq_true rfl)⟩ rfl hl.1 rfl (Nat.le_of_ble_eq_true rfl) dX4_element_1 ⟨Nat.le_refl _, Nat.le_refl _⟩ (fun H locs hP => ?_)
  refine r_ifz_eq (tgt := 45) hx hb dX4_element_4 (by decide) (fun c4 => ?_) (fun c4 => ?_)
  · have h := k_nf c4 h
    refine lv_lconst (v := 0) hx hb dX4_element_45 (by decide) ?_
    exact e_lret C hend hP (k_some h) rfl dX4_element_46
  · have h := k_if c4 h
    refine lv_aload_n hx hb dX4_element_7 rfl (lv_at hl 0 rfl) ?_
    refine lv_iload_n hx hb dX4_element_8 rfl (lv_at hl 1 rfl) ?_
    obtain ⟨b1, h1, h⟩ := k_ob h
    refine k_callVi C hP hap hAA (c_X4_isRow l ev ad σ a1   _ h1) Emb.same hap gz_X4_isRow qML_RX4_77 qIM_yX4_isRow qSE_yX4_isRow ⟨(Nat.le_of_ble_eq_true rfl), (Nat.le_of_ble_eq_true rfl)⟩ (q0 := 0) rfl (by decide) rfl rfl rfl rfl hl.1 rfl (Nat.le_of_ble_eq_true rfl) dX4_element_9 ⟨Nat.le_refl _, Nat.le_refl _⟩ (fun H locs hP => ?_)
    refine r_ifz_eq (tgt := 45) hx hb dX4_element_12 (by decide) (fun c12 => ?_) (fun c12 => ?_)
    · have h := k_nf c12 h
      refine lv_lconst (v := 0) hx hb dX4_element_45 (by decide) ?_
      exact e_lret C hend hP (k_some h) rfl dX4_element_46
    · have h := k_if c12 h
      refine lv_iload_n hx hb dX4_element_15 rfl (lv_at hl 2 rfl) ?_
      refine lv_iconst (v := 0) hx hb dX4_element_16 (by decide) ?_
      refine lv_aload_n hx hb dX4_element_17 rfl (lv_at hl 0 rfl) ?_
      refine r_get C hP (ci := 4) rfl uin_X4 18 (by decide) 0 (by decide) rfl qFL_RX4_32 rfl rfl dX4_element_18 ?_
      refine lv_iload_n hx hb dX4_element_21 rfl (lv_at hl 1 rfl) ?_
      obtain ⟨hg, h⟩ := k_gd h
      refine r_iald C hP 8 (by decide) rfl hg dX4_element_22 ?_
      refine lv_iconst (v := 1) hx hb dX4_element_23 (by decide) ?_
      refine lv_isub hx hb dX4_element_24 ?_
      refine k_callSi C hP hap hAA (c_X4_within l ev ad a2 0 (((m_rowLength σ) (a1).toNatClampNeg) - 1)   _ rfl) Emb.none (apart_0 _) gz_X4_within qML_RX4_63 qSM_yX4_within ⟨(Nat.le_of_ble_eq_true rfl), (Nat.le_of_ble_eq_true rfl)⟩ rfl hl.1 rfl (Nat.le_of_ble_eq_true rfl) dX4_element_25 ⟨Nat.le_refl _, Nat.le_refl _⟩ (fun H locs hP => ?_)
      refine r_ifz_eq (tgt := 45) hx hb dX4_element_28 (by decide) (fun c28 => ?_) (fun c28 => ?_)
      · have h := k_nf c28 h
        refine lv_lconst (v := 0) hx hb dX4_element_45 (by decide) ?_
        exact e_lret C hend hP (k_some h) rfl dX4_element_46
      · have h := k_if c28 h
        refine lv_aload_n hx hb dX4_element_31 rfl (lv_at hl 0 rfl) ?_
        refine r_get C hP (ci := 4) rfl uin_X4 19 (by decide) 0 (by decide) rfl qFL_RX4_35 rfl rfl dX4_element_32 ?_
        refine lv_bipush (v := 40) hx hb dX4_element_35 (by decide) ?_
        refine lv_iload_n hx hb dX4_element_37 rfl (lv_at hl 1 rfl) ?_
        refine lv_imul hx hb dX4_element_38 ?_
        refine lv_iload_n hx hb dX4_element_39 rfl (lv_at hl 2 rfl) ?_
        refine lv_iadd hx hb dX4_element_40 ?_
        obtain ⟨hg, h⟩ := k_gd h
        refine r_lald C hP 9 (by decide) rfl hg dX4_element_41 ?_
        refine lv_goto (tgt := 46) hx hb dX4_element_42 (by decide) ?_
        exact e_lret C hend hP (k_some h) rfl dX4_element_46
def f_X4_holds (σ : MM) (a1 : Int32) : Option (Int32) :=
  if (f_X4_isShelf a1) = true then gd (inb a1 8) (some ((m_holding σ) (a1).toNatClampNeg)) else some (-1)
set_option maxHeartbeats 4000000 in
set_option maxRecDepth 100000 in
theorem c_X4_holds (l : Launch) (ev : EV) (ad : Nat → Nat) (σ : MM) (a1 : Int32)   (r : Int32)  (h : f_X4_holds σ a1 = some r) : Ct l yX4_holds prog_6_method_15_code 2 (Option.some Jvm.ClassFile.FieldType.int) (rmk 2 42) ev 13 ad (mw ev ad σ) (mw ev ad σ) [.ref (ad 0), .int a1] (some (.int r)) := by
  refine Ct.of (by decide +kernel) (Nat.le_of_ble_eq_true rfl) ?_
  intro p e s m args below meth c Qc C hap hP hend ls hl
  have hAA : ∀ j, j < 13 → inA ad 13 (ad j) := fun j hj => ⟨j, hj, rfl⟩
  have hx := C.1
  have hb := C.2.1
  have hl : lv_has ls 2 [(0, .ref (ad 0)), (1, .int a1)] := hl
  have h := (f_X4_holds.eq_1 _ _ ).symm.trans h
  refine lv_iload_n hx hb dX4_holds_0 rfl (lv_at hl 1 rfl) ?_
  refine k_callSi C hP hap hAA (c_X4_isShelf l ev ad a1   _ rfl) Emb.none (apart_0 _) gz_X4_isShelf qML_RX4_73 qSM_yX4_isShelf ⟨(Nat.le_of_ble_eq_true rfl), (Nat.le_of_ble_eq_true rfl)⟩ rfl hl.1 rfl (Nat.le_of_ble_eq_true rfl) dX4_holds_1 ⟨Nat.le_refl _, Nat.le_refl _⟩ (fun H locs hP => ?_)
  refine r_ifz_eq (tgt := 16) hx hb dX4_holds_4 (by decide) (fun c4 => ?_) (fun c4 => ?_)
  · have h := k_nf c4 h
    refine lv_iconst (v := (-1)) hx hb dX4_holds_16 (by decide) ?_
    exact e_iret C hend hP (k_some h) rfl dX4_holds_17
  · have h := k_if c4 h
    refine lv_aload_n hx hb dX4_holds_7 rfl (lv_at hl 0 rfl) ?_
    refine r_get C hP (ci := 4) rfl uin_X4 17 (by decide) 0 (by decide) rfl qFL_RX4_29 rfl rfl dX4_holds_8 ?_
    refine lv_iload_n hx hb dX4_holds_11 rfl (lv_at hl 1 rfl) ?_
    obtain ⟨hg, h⟩ := k_gd h
    refine r_iald C hP 7 (by decide) rfl hg dX4_holds_12 ?_
    refine lv_goto (tgt := 17) hx hb dX4_holds_13 (by decide) ?_
    exact e_iret C hend hP (k_some h) rfl dX4_holds_17
def f_X4_show_b27  (x3 : Int32) (x4 : Int32) (σ5 : MM) : Option (Int32 × MM) :=
  if x4 = (-1) then gd (inb x3 8) (lt (m_holding' σ5 (upd (m_holding σ5) (x3).toNatClampNeg (-1))) (fun σ7 => some (1, σ7))) else gd (inb x3 8) (lt (m_holding' σ5 (upd (m_holding σ5) (x3).toNatClampNeg (10 + x4))) (fun σ6 => some (1, σ6)))
def f_X4_show (σ : MM) (a1 : Int32) (a2 : Int32) : Option (Int32 × MM) :=
  if (f_X4_isShelf a1) = true then if a2 = (-1) then f_X4_show_b27 a1 a2 σ else if (f_X4_isPlayer σ a2) = true then f_X4_show_b27 a1 a2 σ else ob2 (f_X4_no σ (-2)) (fun x9 σ8 => some (x9, σ8)) else ob2 (f_X4_no σ (-2)) (fun x2 σ1 => some (x2, σ1))
set_option maxHeartbeats 4000000 in
set_option maxRecDepth 100000 in
theorem c_X4_show (l : Launch) (ev : EV) (ad : Nat → Nat) (σ : MM) (a1 : Int32) (a2 : Int32)   (r : Int32) (σ' : MM) (h : f_X4_show σ a1 a2 = some (r, σ')) : Ct l yX4_show prog_6_method_16_code 3 (Option.some Jvm.ClassFile.FieldType.int) (rmk 2 43) ev 13 ad (mw ev ad σ) (mw ev ad σ') [.ref (ad 0), .int a1, .int a2] (some (.int r)) := by
  refine Ct.of (by decide +kernel) (Nat.le_of_ble_eq_true rfl) ?_
  intro p e s m args below meth c Qc C hap hP hend ls hl
  have hAA : ∀ j, j < 13 → inA ad 13 (ad j) := fun j hj => ⟨j, hj, rfl⟩
  have hx := C.1
  have hb := C.2.1
  have hl : lv_has ls 3 [(0, .ref (ad 0)), (1, .int a1), (2, .int a2)] := hl
  have h := (f_X4_show.eq_1 _ _ _ ).symm.trans h
  have hB27 : ∀ (x3 : Int32) (x4 : Int32) (σ5 : MM) (H : Heap) (locs : List Loc) (ls : Array Slot), f_X4_show_b27  x3 x4 σ5 = some (r, σ') → PS ev 13 ad (mw ev ad σ5) (inA ad 13) s H locs → lv_has ls 3 [(0, .ref (ad 0)), (1, .int x3), (2, .int x4)] → WW ev p l e (rmk 2 43) s m args below meth c Qc ad 13 H locs 27 ls [] := by
    intro x3 x4 σ5 H locs ls h hP hl
    have h := (f_X4_show_b27.eq_1 _ _ _ ).symm.trans h
    refine lv_aload_n hx hb dX4_show_27 rfl (lv_at hl 0 rfl) ?_
    refine r_get C hP (ci := 4) rfl uin_X4 17 (by decide) 0 (by decide) rfl qFL_RX4_29 rfl rfl dX4_show_28 ?_
    refine lv_iload_n hx hb dX4_show_31 rfl (lv_at hl 1 rfl) ?_
    refine lv_iload_n hx hb dX4_show_32 rfl (lv_at hl 2 rfl) ?_
    refine lv_iconst (v := (-1)) hx hb dX4_show_33 (by decide) ?_
    refine lv_icmp_ne (tgt := 41) hx hb dX4_show_34 (by decide) (fun c34 => ?_) (fun c34 => ?_)
    · have h := k_nf c34 h
      refine lv_bipush (v := 10) hx hb dX4_show_41 (by decide) ?_
      refine lv_iload_n hx hb dX4_show_43 rfl (lv_at hl 2 rfl) ?_
      refine lv_iadd hx hb dX4_show_44 ?_
      obtain ⟨hg, h⟩ := k_gd h
      obtain ⟨σ6, eσ6, h⟩ := k_ltx h
      refine st_M_holding C hP hap hAA eσ6 hg dX4_show_45 (fun H locs hP => ?_)
      refine lv_iconst (v := 1) hx hb dX4_show_46 (by decide) ?_
      exact e_iret C hend hP (k_some2 h).1 (congrArg (mw ev ad) (k_some2 h).2) dX4_show_47
    · have h := k_if c34 h
      refine lv_iconst (v := (-1)) hx hb dX4_show_37 (by decide) ?_
      refine lv_goto (tgt := 45) hx hb dX4_show_38 (by decide) ?_
      obtain ⟨hg, h⟩ := k_gd h
      obtain ⟨σ7, eσ7, h⟩ := k_ltx h
      refine st_M_holding C hP hap hAA eσ7 hg dX4_show_45 (fun H locs hP => ?_)
      refine lv_iconst (v := 1) hx hb dX4_show_46 (by decide) ?_
      exact e_iret C hend hP (k_some2 h).1 (congrArg (mw ev ad) (k_some2 h).2) dX4_show_47
  refine lv_iload_n hx hb dX4_show_0 rfl (lv_at hl 1 rfl) ?_
  refine k_callSi C hP hap hAA (c_X4_isShelf l ev ad a1   _ rfl) Emb.none (apart_0 _) gz_X4_isShelf qML_RX4_73 qSM_yX4_isShelf ⟨(Nat.le_of_ble_eq_true rfl), (Nat.le_of_ble_eq_true rfl)⟩ rfl hl.1 rfl (Nat.le_of_ble_eq_true rfl) dX4_show_1 ⟨Nat.le_refl _, Nat.le_refl _⟩ (fun H locs hP => ?_)
  refine r_ifz_eq (tgt := 20) hx hb dX4_show_4 (by decide) (fun c4 => ?_) (fun c4 => ?_)
  · have h := k_nf c4 h
    refine lv_aload_n hx hb dX4_show_20 rfl (lv_at hl 0 rfl) ?_
    refine lv_bipush (v := (-2)) hx hb dX4_show_21 (by decide) ?_
    obtain ⟨x2, σ1, h1, h⟩ := k_ob2 h
    refine k_callVi C hP hap hAA (c_X4_no l ev ad σ (-2)   _ _ h1) Emb.same hap gz_X4_no qML_RX4_56 qIM_yX4_no qSE_yX4_no ⟨(Nat.le_of_ble_eq_true rfl), (Nat.le_of_ble_eq_true rfl)⟩ (q0 := 0) rfl (by decide) rfl rfl rfl rfl hl.1 rfl (Nat.le_of_ble_eq_true rfl) dX4_show_23 ⟨Nat.le_refl _, Nat.le_refl _⟩ (fun H locs hP => ?_)
    exact e_iret C hend hP (k_some2 h).1 (congrArg (mw ev ad) (k_some2 h).2) dX4_show_26
  · have h := k_if c4 h
    refine lv_iload_n hx hb dX4_show_7 rfl (lv_at hl 2 rfl) ?_
    refine lv_iconst (v := (-1)) hx hb dX4_show_8 (by decide) ?_
    refine lv_icmp_eq (tgt := 27) hx hb dX4_show_9 (by decide) (fun c9 => ?_) (fun c9 => ?_)
    · have h := k_if c9 h
      exact hB27 _ _ _ _ _ _ h hP (lv_sub hl [0, 1, 2] rfl)
    · have h := k_nf c9 h
      refine lv_aload_n hx hb dX4_show_12 rfl (lv_at hl 0 rfl) ?_
      refine lv_iload_n hx hb dX4_show_13 rfl (lv_at hl 2 rfl) ?_
      refine k_callVi C hP hap hAA (c_X4_isPlayer l ev ad σ a2   _ rfl) Emb.same hap gz_X4_isPlayer qML_RX4_87 qIM_yX4_isPlayer qSE_yX4_isPlayer ⟨(Nat.le_of_ble_eq_true rfl), (Nat.le_of_ble_eq_true rfl)⟩ (q0 := 0) rfl (by decide) rfl rfl rfl rfl hl.1 rfl (Nat.le_of_ble_eq_true rfl) dX4_show_14 ⟨Nat.le_refl _, Nat.le_refl _⟩ (fun H locs hP => ?_)
      refine r_ifz_ne (tgt := 27) hx hb dX4_show_17 (by decide) (fun c17 => ?_) (fun c17 => ?_)
      · have h := k_if c17 h
        exact hB27 _ _ _ _ _ _ h hP (lv_sub hl [0, 1, 2] rfl)
      · have h := k_nf c17 h
        refine lv_aload_n hx hb dX4_show_20 rfl (lv_at hl 0 rfl) ?_
        refine lv_bipush (v := (-2)) hx hb dX4_show_21 (by decide) ?_
        obtain ⟨x9, σ8, h1, h⟩ := k_ob2 h
        refine k_callVi C hP hap hAA (c_X4_no l ev ad σ (-2)   _ _ h1) Emb.same hap gz_X4_no qML_RX4_56 qIM_yX4_no qSE_yX4_no ⟨(Nat.le_of_ble_eq_true rfl), (Nat.le_of_ble_eq_true rfl)⟩ (q0 := 0) rfl (by decide) rfl rfl rfl rfl hl.1 rfl (Nat.le_of_ble_eq_true rfl) dX4_show_23 ⟨Nat.le_refl _, Nat.le_refl _⟩ (fun H locs hP => ?_)
        exact e_iret C hend hP (k_some2 h).1 (congrArg (mw ev ad) (k_some2 h).2) dX4_show_26
def f_X4_isUnder (a1 : Int32) (a2 : Int32) : Bool :=
  if a2 = 0 then true else if a1 = a2 then true else if a1 = 3 then if a2 = 1 then true else if a1 = 4 then if a2 = 2 then true else false else false else if a1 = 4 then if a2 = 2 then true else false else false
set_option maxHeartbeats 4000000 in
set_option maxRecDepth 100000 in
theorem c_X4_isUnder (l : Launch) (ev : EV) (ad : Nat → Nat) (a1 : Int32) (a2 : Int32)   (r : Bool)  (h : f_X4_isUnder a1 a2 = r) : Ct l yX4_isUnder prog_6_method_17_code 2 (Option.some Jvm.ClassFile.FieldType.boolean) (rmk 0 0) ev 0 ad w00 w00 [.int a1, .int a2] (some (.int (bi r))) := by
  refine Ct.of (by decide +kernel) (Nat.le_of_ble_eq_true rfl) ?_
  intro p e s m args below meth c Qc C hap hP hend ls hl
  have hAA : ∀ j, j < 0 → inA ad 0 (ad j) := fun j hj => ⟨j, hj, rfl⟩
  have hx := C.1
  have hb := C.2.1
  have hl : lv_has ls 2 [(0, .int a1), (1, .int a2)] := hl
  have h := (f_X4_isUnder.eq_1 _ _ ).symm.trans h
  refine lv_iload_n hx hb dX4_isUnder_0 rfl (lv_at hl 1 rfl) ?_
  refine lv_if_eq (tgt := 29) hx hb dX4_isUnder_1 (by decide) (fun c1 => ?_) (fun c1 => ?_)
  · have h := k_if c1 h
    refine lv_iconst (v := 1) hx hb dX4_isUnder_29 (by decide) ?_
    refine lv_goto (tgt := 34) hx hb dX4_isUnder_30 (by decide) ?_
    exact e_zret C hend hP h rfl dX4_isUnder_34 rfl
  · have h := k_nf c1 h
    refine lv_iload_n hx hb dX4_isUnder_4 rfl (lv_at hl 0 rfl) ?_
    refine lv_iload_n hx hb dX4_isUnder_5 rfl (lv_at hl 1 rfl) ?_
    refine lv_icmp_eq (tgt := 29) hx hb dX4_isUnder_6 (by decide) (fun c6 => ?_) (fun c6 => ?_)
    · have h := k_if c6 h
      refine lv_iconst (v := 1) hx hb dX4_isUnder_29 (by decide) ?_
      refine lv_goto (tgt := 34) hx hb dX4_isUnder_30 (by decide) ?_
      exact e_zret C hend hP h rfl dX4_isUnder_34 rfl
    · have h := k_nf c6 h
      refine lv_iload_n hx hb dX4_isUnder_9 rfl (lv_at hl 0 rfl) ?_
      refine lv_iconst (v := 3) hx hb dX4_isUnder_10 (by decide) ?_
      refine lv_icmp_ne (tgt := 19) hx hb dX4_isUnder_11 (by decide) (fun c11 => ?_) (fun c11 => ?_)
      · have h := k_nf c11 h
        refine lv_iload_n hx hb dX4_isUnder_19 rfl (lv_at hl 0 rfl) ?_
        refine lv_iconst (v := 4) hx hb dX4_isUnder_20 (by decide) ?_
        refine lv_icmp_ne (tgt := 33) hx hb dX4_isUnder_21 (by decide) (fun c21 => ?_) (fun c21 => ?_)
        · have h := k_nf c21 h
          refine lv_iconst (v := 0) hx hb dX4_isUnder_33 (by decide) ?_
          exact e_zret C hend hP h rfl dX4_isUnder_34 rfl
        · have h := k_if c21 h
          refine lv_iload_n hx hb dX4_isUnder_24 rfl (lv_at hl 1 rfl) ?_
          refine lv_iconst (v := 2) hx hb dX4_isUnder_25 (by decide) ?_
          refine lv_icmp_ne (tgt := 33) hx hb dX4_isUnder_26 (by decide) (fun c26 => ?_) (fun c26 => ?_)
          · have h := k_nf c26 h
            refine lv_iconst (v := 0) hx hb dX4_isUnder_33 (by decide) ?_
            exact e_zret C hend hP h rfl dX4_isUnder_34 rfl
          · have h := k_if c26 h
            refine lv_iconst (v := 1) hx hb dX4_isUnder_29 (by decide) ?_
            refine lv_goto (tgt := 34) hx hb dX4_isUnder_30 (by decide) ?_
            exact e_zret C hend hP h rfl dX4_isUnder_34 rfl
      · have h := k_if c11 h
        refine lv_iload_n hx hb dX4_isUnder_14 rfl (lv_at hl 1 rfl) ?_
        refine lv_iconst (v := 1) hx hb dX4_isUnder_15 (by decide) ?_
        refine lv_icmp_eq (tgt := 29) hx hb dX4_isUnder_16 (by decide) (fun c16 => ?_) (fun c16 => ?_)
        · have h := k_if c16 h
          refine lv_iconst (v := 1) hx hb dX4_isUnder_29 (by decide) ?_
          refine lv_goto (tgt := 34) hx hb dX4_isUnder_30 (by decide) ?_
          exact e_zret C hend hP h rfl dX4_isUnder_34 rfl
        · have h := k_nf c16 h
          refine lv_iload_n hx hb dX4_isUnder_19 rfl (lv_at hl 0 rfl) ?_
          refine lv_iconst (v := 4) hx hb dX4_isUnder_20 (by decide) ?_
          refine lv_icmp_ne (tgt := 33) hx hb dX4_isUnder_21 (by decide) (fun c21 => ?_) (fun c21 => ?_)
          · have h := k_nf c21 h
            refine lv_iconst (v := 0) hx hb dX4_isUnder_33 (by decide) ?_
            exact e_zret C hend hP h rfl dX4_isUnder_34 rfl
          · have h := k_if c21 h
            refine lv_iload_n hx hb dX4_isUnder_24 rfl (lv_at hl 1 rfl) ?_
            refine lv_iconst (v := 2) hx hb dX4_isUnder_25 (by decide) ?_
            refine lv_icmp_ne (tgt := 33) hx hb dX4_isUnder_26 (by decide) (fun c26 => ?_) (fun c26 => ?_)
            · have h := k_nf c26 h
              refine lv_iconst (v := 0) hx hb dX4_isUnder_33 (by decide) ?_
              exact e_zret C hend hP h rfl dX4_isUnder_34 rfl
            · have h := k_if c26 h
              refine lv_iconst (v := 1) hx hb dX4_isUnder_29 (by decide) ?_
              refine lv_goto (tgt := 34) hx hb dX4_isUnder_30 (by decide) ?_
              exact e_zret C hend hP h rfl dX4_isUnder_34 rfl
