/-! functions read off, and their contracts: by program (wip/whole/gen2.py) -/
def f_X4_element (σ : MM) (a1 : Int32) (a2 : Int32) : Option (Int64) :=
  if (f_X4_isShelf a1) = true then ob (f_X4_isRow σ a1) (fun b1 => if b1 = true then gd (inb a1 8) (if (f_X4_within a2 0 (((m_rowLength σ) (Int32.toNatClampNeg a1)) - 1)) = true then gd (inb ((40 * a1) + a2) 320) (some ((m_rowOf σ) (Int32.toNatClampNeg ((40 * a1) + a2)))) else some 0) else some 0) else some 0
set_option maxHeartbeats 4000000 in
set_option maxRecDepth 100000 in
theorem c_X4_element (l : Launch) (ev : EV) (ad : Nat → Nat) (σ : MM) (a1 : Int32) (a2 : Int32)   (r : Int64)  (h : f_X4_element σ a1 a2 = some r) : Ct l yX4_element prog_6_method_14_code 3 (Option.some Jvm.ClassFile.FieldType.long) (rmk 2 43) ev 13 ad (mw ev ad σ) (mw ev ad σ) [.ref (ad 0), .int a1, .int a2] (some (.long r)) := by
  refine Ct.of (by decide +kernel) (Nat.le_of_ble_eq_true rfl) ?_
  intro p e s m args below meth c Qc C hap hP hend ls hl
  have hAA : ∀ j, j < 13 → inA ad 13 (ad j) := fun j hj => ⟨j, hj, rfl⟩
  have hx := C.1
  have hb := C.2.1
  have hl : lv_has ls 3 [(0, .ref (ad 0)), (1, .int a1), (2, .int a2)] := hl
  have h := (f_X4_element.eq_1 _ _ _ ).symm.trans h
  refine lv_iload_n hx hb dX4_element_0 rfl (lv_at hl 1 rfl) ?_
  refine k_callSi C hP hap hAA (c_X4_isShelf l ev ad a1   _ rfl) Emb.none (apart_0 _) gz_X4_isShelf qML_RX4_73 qSM_yX4_isShelf ⟨(Nat.le_of_ble_eq_true rfl), (Nat.le_of_ble_eq_true rfl)⟩ rfl hl.1 rfl (Nat.le_of_ble_eq_true rfl) dX4_element_1 ⟨Nat.le_refl _, Nat.le_refl _⟩ (fun H locs hP => ?_)
  refine r_ifz_eq (tgt := 45) hx hb dX4_element_4 (by decide) (fun c4 => ?_) (fun c4 => ?_)
  · have h := k_nf c4 h
    refine lv_lconst (v := 0) hx hb dX4_element_45 (by decide) ?_
    exact e_lret C hend hP (k_some h) rfl dX4_element_46
  · have h := k_if c4 h
    refine lv_aload_n hx hb dX4_element_7 rfl (lv_at hl 0 rfl) ?_
    refine lv_iload_n hx hb dX4_element_8 rfl (lv_at hl 1 rfl) ?_
    obtain ⟨b1, h1, h⟩ := k_ob h
    refine k_callVi C hP hap hAA (c_X4_isRow l ev ad σ a1   _ h1) Emb.same hap gz_X4_isRow qML_RX4_77 qIM_yX4_isRow qSE_yX4_isRow ⟨(Nat.le_of_ble_eq_true rfl), (Nat.le_of_ble_eq_true rfl)⟩ (q0 := 0) rfl (by decide) rfl rfl rfl rfl hl.1 rfl (Nat.le_of_ble_eq_true rfl) dX4_element_9 ⟨Nat.le_refl _, Nat.le_refl _⟩ (fun H locs hP => ?_)
    refine r_ifz_eq (tgt := 45) hx hb dX4_element_12 (by decide) (fun c12 => ?_) (fun c12 => ?_)
    · have h := k_nf c12 h
      refine lv_lconst (v := 0) hx hb dX4_element_45 (by decide) ?_
      exact e_lret C hend hP (k_some h) rfl dX4_element_46
    · have h := k_if c12 h
      refine lv_iload_n hx hb dX4_element_15 rfl (lv_at hl 2 rfl) ?_
      refine lv_iconst (v := 0) hx hb dX4_element_16 (by decide) ?_
      refine lv_aload_n hx hb dX4_element_17 rfl (lv_at hl 0 rfl) ?_
      refine r_get C hP (ci := 4) rfl uin_X4 18 (by decide) 0 (by decide) rfl qFL_RX4_32 rfl rfl dX4_element_18 ?_
      refine lv_iload_n hx hb dX4_element_21 rfl (lv_at hl 1 rfl) ?_
      obtain ⟨hg, h⟩ := k_gd h
      refine r_iald C hP 8 (by decide) rfl hg dX4_element_22 ?_
      refine lv_iconst (v := 1) hx hb dX4_element_23 (by decide) ?_
      refine lv_isub hx hb dX4_element_24 ?_
      refine k_callSi C hP hap hAA (c_X4_within l ev ad a2 0 (((m_rowLength σ) (Int32.toNatClampNeg a1)) - 1)   _ rfl) Emb.none (apart_0 _) gz_X4_within qML_RX4_63 qSM_yX4_within ⟨(Nat.le_of_ble_eq_true rfl), (Nat.le_of_ble_eq_true rfl)⟩ rfl hl.1 rfl (Nat.le_of_ble_eq_true rfl) dX4_element_25 ⟨Nat.le_refl _, Nat.le_refl _⟩ (fun H locs hP => ?_)
      refine r_ifz_eq (tgt := 45) hx hb dX4_element_28 (by decide) (fun c28 => ?_) (fun c28 => ?_)
      · have h := k_nf c28 h
        refine lv_lconst (v := 0) hx hb dX4_element_45 (by decide) ?_
        exact e_lret C hend hP (k_some h) rfl dX4_element_46
      · have h := k_if c28 h
        refine lv_aload_n hx hb dX4_element_31 rfl (lv_at hl 0 rfl) ?_
        refine r_get C hP (ci := 4) rfl uin_X4 19 (by decide) 0 (by decide) rfl qFL_RX4_35 rfl rfl dX4_element_32 ?_
        refine lv_bipush (v := 40) hx hb dX4_element_35 (by decide) ?_
        refine lv_iload_n hx hb dX4_element_37 rfl (lv_at hl 1 rfl) ?_
        refine lv_imul hx hb dX4_element_38 ?_
        refine lv_iload_n hx hb dX4_element_39 rfl (lv_at hl 2 rfl) ?_
        refine lv_iadd hx hb dX4_element_40 ?_
        obtain ⟨hg, h⟩ := k_gd h
        refine r_lald C hP 9 (by decide) rfl hg dX4_element_41 ?_
        refine lv_goto (tgt := 46) hx hb dX4_element_42 (by decide) ?_
        exact e_lret C hend hP (k_some h) rfl dX4_element_46
def f_X4_holds (σ : MM) (a1 : Int32) : Option (Int32) :=
  if (f_X4_isShelf a1) = true then gd (inb a1 8) (some ((m_holding σ) (Int32.toNatClampNeg a1))) else some (-1)
set_option maxHeartbeats 4000000 in
set_option maxRecDepth 100000 in
theorem c_X4_holds (l : Launch) (ev : EV) (ad : Nat → Nat) (σ : MM) (a1 : Int32)   (r : Int32)  (h : f_X4_holds σ a1 = some r) : Ct l yX4_holds prog_6_method_15_code 2 (Option.some Jvm.ClassFile.FieldType.int) (rmk 2 42) ev 13 ad (mw ev ad σ) (mw ev ad σ) [.ref (ad 0), .int a1] (some (.int r)) := by
  refine Ct.of (by decide +kernel) (Nat.le_of_ble_eq_true rfl) ?_
  intro p e s m args below meth c Qc C hap hP hend ls hl
  have hAA : ∀ j, j < 13 → inA ad 13 (ad j) := fun j hj => ⟨j, hj, rfl⟩
  have hx := C.1
  have hb := C.2.1
  have hl : lv_has ls 2 [(0, .ref (ad 0)), (1, .int a1)] := hl
  have h := (f_X4_holds.eq_1 _ _ ).symm.trans h
  refine lv_iload_n hx hb dX4_holds_0 rfl (lv_at hl 1 rfl) ?_
  refine k_callSi C hP hap hAA (c_X4_isShelf l ev ad a1   _ rfl) Emb.none (apart_0 _) gz_X4_isShelf qML_RX4_73 qSM_yX4_isShelf ⟨(Nat.le_of_ble_eq_true rfl), (Nat.le_of_ble_eq_true rfl)⟩ rfl hl.1 rfl (Nat.le_of_ble_eq_true rfl) dX4_holds_1 ⟨Nat.le_refl _, Nat.le_refl _⟩ (fun H locs hP => ?_)
  refine r_ifz_eq (tgt := 16) hx hb dX4_holds_4 (by decide) (fun c4 => ?_) (fun c4 => ?_)
  · have h := k_nf c4 h
    refine lv_iconst (v := (-1)) hx hb dX4_holds_16 (by decide) ?_
    exact e_iret C hend hP (k_some h) rfl dX4_holds_17
  · have h := k_if c4 h
    refine lv_aload_n hx hb dX4_holds_7 rfl (lv_at hl 0 rfl) ?_
    refine r_get C hP (ci := 4) rfl uin_X4 17 (by decide) 0 (by decide) rfl qFL_RX4_29 rfl rfl dX4_holds_8 ?_
    refine lv_iload_n hx hb dX4_holds_11 rfl (lv_at hl 1 rfl) ?_
    obtain ⟨hg, h⟩ := k_gd h
    refine r_iald C hP 7 (by decide) rfl hg dX4_holds_12 ?_
    refine lv_goto (tgt := 17) hx hb dX4_holds_13 (by decide) ?_
    exact e_iret C hend hP (k_some h) rfl dX4_holds_17
def f_X4_show_b27 (a1 : Int32) (a2 : Int32) (σ3 : MM) : Option (Int32 × MM) :=
  if a2 = (-1) then gd (inb a1 8) (lt (m_holding' σ3 (upd (m_holding σ3) (Int32.toNatClampNeg a1) (-1))) (fun σ5 => some (1, σ5))) else gd (inb a1 8) (lt (m_holding' σ3 (upd (m_holding σ3) (Int32.toNatClampNeg a1) (10 + a2))) (fun σ4 => some (1, σ4)))
def f_X4_show (σ : MM) (a1 : Int32) (a2 : Int32) : Option (Int32 × MM) :=
  if (f_X4_isShelf a1) = true then if a2 = (-1) then f_X4_show_b27 a1 a2 σ else if (f_X4_isPlayer σ a2) = true then f_X4_show_b27 a1 a2 σ else ob2 (f_X4_no σ (-2)) (fun x7 σ6 => some (x7, σ6)) else ob2 (f_X4_no σ (-2)) (fun x2 σ1 => some (x2, σ1))
set_option maxHeartbeats 4000000 in
set_option maxRecDepth 100000 in
theorem c_X4_show (l : Launch) (ev : EV) (ad : Nat → Nat) (σ : MM) (a1 : Int32) (a2 : Int32)   (r : Int32) (σ' : MM) (h : f_X4_show σ a1 a2 = some (r, σ')) : Ct l yX4_show prog_6_method_16_code 3 (Option.some Jvm.ClassFile.FieldType.int) (rmk 2 43) ev 13 ad (mw ev ad σ) (mw ev ad σ') [.ref (ad 0), .int a1, .int a2] (some (.int r)) := by
  refine Ct.of (by decide +kernel) (Nat.le_of_ble_eq_true rfl) ?_
  intro p e s m args below meth c Qc C hap hP hend ls hl
  have hAA : ∀ j, j < 13 → inA ad 13 (ad j) := fun j hj => ⟨j, hj, rfl⟩
  have hx := C.1
  have hb := C.2.1
  have hl : lv_has ls 3 [(0, .ref (ad 0)), (1, .int a1), (2, .int a2)] := hl
  have h := (f_X4_show.eq_1 _ _ _ ).symm.trans h
  have hB27 : ∀ (σ3 : MM) (H : Heap) (locs : List Loc) (ls : Array Slot), f_X4_show_b27 a1 a2 σ3 = some (r, σ') → PS ev 13 ad (mw ev ad σ3) (inA ad 13) s H locs → lv_has ls 3 [(0, .ref (ad 0)), (1, .int a1), (2, .int a2)] → WW ev p l e (rmk 2 43) s m args below meth c Qc ad 13 H locs 27 ls [] := by
    intro σ3 H locs ls h hP hl
    have h := (f_X4_show_b27.eq_1 _ _ _ ).symm.trans h
    refine lv_aload_n hx hb dX4_show_27 rfl (lv_at hl 0 rfl) ?_
    refine r_get C hP (ci := 4) rfl uin_X4 17 (by decide) 0 (by decide) rfl qFL_RX4_29 rfl rfl dX4_show_28 ?_
    refine lv_iload_n hx hb dX4_show_31 rfl (lv_at hl 1 rfl) ?_
    refine lv_iload_n hx hb dX4_show_32 rfl (lv_at hl 2 rfl) ?_
    refine lv_iconst (v := (-1)) hx hb dX4_show_33 (by decide) ?_
    refine lv_icmp_ne (tgt := 41) hx hb dX4_show_34 (by decide) (fun c34 => ?_) (fun c34 => ?_)
    · have h := k_nf c34 h
      refine lv_bipush (v := 10) hx hb dX4_show_41 (by decide) ?_
      refine lv_iload_n hx hb dX4_show_43 rfl (lv_at hl 2 rfl) ?_
      refine lv_iadd hx hb dX4_show_44 ?_
      obtain ⟨hg, h⟩ := k_gd h
      obtain ⟨σ4, eσ4, h⟩ := k_ltx h
      refine st_M_holding C hP hap hAA eσ4 hg dX4_show_45 (fun H locs hP => ?_)
      refine lv_iconst (v := 1) hx hb dX4_show_46 (by decide) ?_
      exact e_iret C hend hP (k_some2 h).1 (congrArg (mw ev ad) (k_some2 h).2) dX4_show_47
    · have h := k_if c34 h
      refine lv_iconst (v := (-1)) hx hb dX4_show_37 (by decide) ?_
      refine lv_goto (tgt := 45) hx hb dX4_show_38 (by decide) ?_
      obtain ⟨hg, h⟩ := k_gd h
      obtain ⟨σ5, eσ5, h⟩ := k_ltx h
      refine st_M_holding C hP hap hAA eσ5 hg dX4_show_45 (fun H locs hP => ?_)
      refine lv_iconst (v := 1) hx hb dX4_show_46 (by decide) ?_
      exact e_iret C hend hP (k_some2 h).1 (congrArg (mw ev ad) (k_some2 h).2) dX4_show_47
  refine lv_iload_n hx hb dX4_show_0 rfl (lv_at hl 1 rfl) ?_
  refine k_callSi C hP hap hAA (c_X4_isShelf l ev ad a1   _ rfl) Emb.none (apart_0 _) gz_X4_isShelf qML_RX4_73 qSM_yX4_isShelf ⟨(Nat.le_of_ble_eq_true rfl), (Nat.le_of_ble_eq_true rfl)⟩ rfl hl.1 rfl (Nat.le_of_ble_eq_true rfl) dX4_show_1 ⟨Nat.le_refl _, Nat.le_refl _⟩ (fun H locs hP => ?_)
  refine r_ifz_eq (tgt := 20) hx hb dX4_show_4 (by decide) (fun c4 => ?_) (fun c4 => ?_)
  · have h := k_nf c4 h
    refine lv_aload_n hx hb dX4_show_20 rfl (lv_at hl 0 rfl) ?_
    refine lv_bipush (v := (-2)) hx hb dX4_show_21 (by decide) ?_
    obtain ⟨x2, σ1, h1, h⟩ := k_ob2 h
    refine k_callVi C hP hap hAA (c_X4_no l ev ad σ (-2)   _ _ h1) Emb.same hap gz_X4_no qML_RX4_56 qIM_yX4_no qSE_yX4_no ⟨(Nat.le_of_ble_eq_true rfl), (Nat.le_of_ble_eq_true rfl)⟩ (q0 := 0) rfl (by decide) rfl rfl rfl rfl hl.1 rfl (Nat.le_of_ble_eq_true rfl) dX4_show_23 ⟨Nat.le_refl _, Nat.le_refl _⟩ (fun H locs hP => ?_)
    exact e_iret C hend hP (k_some2 h).1 (congrArg (mw ev ad) (k_some2 h).2) dX4_show_26
  · have h := k_if c4 h
    refine lv_iload_n hx hb dX4_show_7 rfl (lv_at hl 2 rfl) ?_
    refine lv_iconst (v := (-1)) hx hb dX4_show_8 (by decide) ?_
    refine lv_icmp_eq (tgt := 27) hx hb dX4_show_9 (by decide) (fun c9 => ?_) (fun c9 => ?_)
    · have h := k_if c9 h
      exact hB27 _ _ _ _ h hP (lv_sub hl [0, 1, 2] rfl)
    · have h := k_nf c9 h
      refine lv_aload_n hx hb dX4_show_12 rfl (lv_at hl 0 rfl) ?_
      refine lv_iload_n hx hb dX4_show_13 rfl (lv_at hl 2 rfl) ?_
      refine k_callVi C hP hap hAA (c_X4_isPlayer l ev ad σ a2   _ rfl) Emb.same hap gz_X4_isPlayer qML_RX4_87 qIM_yX4_isPlayer qSE_yX4_isPlayer ⟨(Nat.le_of_ble_eq_true rfl), (Nat.le_of_ble_eq_true rfl)⟩ (q0 := 0) rfl (by decide) rfl rfl rfl rfl hl.1 rfl (Nat.le_of_ble_eq_true rfl) dX4_show_14 ⟨Nat.le_refl _, Nat.le_refl _⟩ (fun H locs hP => ?_)
      refine r_ifz_ne (tgt := 27) hx hb dX4_show_17 (by decide) (fun c17 => ?_) (fun c17 => ?_)
      · have h := k_if c17 h
        exact hB27 _ _ _ _ h hP (lv_sub hl [0, 1, 2] rfl)
      · have h := k_nf c17 h
        refine lv_aload_n hx hb dX4_show_20 rfl (lv_at hl 0 rfl) ?_
        refine lv_bipush (v := (-2)) hx hb dX4_show_21 (by decide) ?_
        obtain ⟨x7, σ6, h1, h⟩ := k_ob2 h
        refine k_callVi C hP hap hAA (c_X4_no l ev ad σ (-2)   _ _ h1) Emb.same hap gz_X4_no qML_RX4_56 qIM_yX4_no qSE_yX4_no ⟨(Nat.le_of_ble_eq_true rfl), (Nat.le_of_ble_eq_true rfl)⟩ (q0 := 0) rfl (by decide) rfl rfl rfl rfl hl.1 rfl (Nat.le_of_ble_eq_true rfl) dX4_show_23 ⟨Nat.le_refl _, Nat.le_refl _⟩ (fun H locs hP => ?_)
        exact e_iret C hend hP (k_some2 h).1 (congrArg (mw ev ad) (k_some2 h).2) dX4_show_26
def f_X4_isUnder (a1 : Int32) (a2 : Int32) : Bool :=
  if a2 = 0 then true else if a1 = a2 then true else if a1 = 3 then if a2 = 1 then true else if a1 = 4 then if a2 = 2 then true else false else false else if a1 = 4 then if a2 = 2 then true else false else false
set_option maxHeartbeats 4000000 in
set_option maxRecDepth 100000 in
theorem c_X4_isUnder (l : Launch) (ev : EV) (ad : Nat → Nat) (a1 : Int32) (a2 : Int32)   (r : Bool)  (h : f_X4_isUnder a1 a2 = r) : Ct l yX4_isUnder prog_6_method_17_code 2 (Option.some Jvm.ClassFile.FieldType.boolean) (rmk 0 0) ev 0 ad w00 w00 [.int a1, .int a2] (some (.int (bi r))) := by
  refine Ct.of (by decide +kernel) (Nat.le_of_ble_eq_true rfl) ?_
  intro p e s m args below meth c Qc C hap hP hend ls hl
  have hAA : ∀ j, j < 0 → inA ad 0 (ad j) := fun j hj => ⟨j, hj, rfl⟩
  have hx := C.1
  have hb := C.2.1
  have hl : lv_has ls 2 [(0, .int a1), (1, .int a2)] := hl
  have h := (f_X4_isUnder.eq_1 _ _ ).symm.trans h
  refine lv_iload_n hx hb dX4_isUnder_0 rfl (lv_at hl 1 rfl) ?_
  refine lv_if_eq (tgt := 29) hx hb dX4_isUnder_1 (by decide) (fun c1 => ?_) (fun c1 => ?_)
  · have h := k_if c1 h
    refine lv_iconst (v := 1) hx hb dX4_isUnder_29 (by decide) ?_
    refine lv_goto (tgt := 34) hx hb dX4_isUnder_30 (by decide) ?_
    exact e_zret C hend hP h rfl dX4_isUnder_34 rfl
  · have h := k_nf c1 h
    refine lv_iload_n hx hb dX4_isUnder_4 rfl (lv_at hl 0 rfl) ?_
    refine lv_iload_n hx hb dX4_isUnder_5 rfl (lv_at hl 1 rfl) ?_
    refine lv_icmp_eq (tgt := 29) hx hb dX4_isUnder_6 (by decide) (fun c6 => ?_) (fun c6 => ?_)
    · have h := k_if c6 h
      refine lv_iconst (v := 1) hx hb dX4_isUnder_29 (by decide) ?_
      refine lv_goto (tgt := 34) hx hb dX4_isUnder_30 (by decide) ?_
      exact e_zret C hend hP h rfl dX4_isUnder_34 rfl
    · have h := k_nf c6 h
      refine lv_iload_n hx hb dX4_isUnder_9 rfl (lv_at hl 0 rfl) ?_
      refine lv_iconst (v := 3) hx hb dX4_isUnder_10 (by decide) ?_
      refine lv_icmp_ne (tgt := 19) hx hb dX4_isUnder_11 (by decide) (fun c11 => ?_) (fun c11 => ?_)
      · have h := k_nf c11 h
        refine lv_iload_n hx hb dX4_isUnder_19 rfl (lv_at hl 0 rfl) ?_
        refine lv_iconst (v := 4) hx hb dX4_isUnder_20 (by decide) ?_
        refine lv_icmp_ne (tgt := 33) hx hb dX4_isUnder_21 (by decide) (fun c21 => ?_) (fun c21 => ?_)
        · have h := k_nf c21 h
          refine lv_iconst (v := 0) hx hb dX4_isUnder_33 (by decide) ?_
          exact e_zret C hend hP h rfl dX4_isUnder_34 rfl
        · have h := k_if c21 h
          refine lv_iload_n hx hb dX4_isUnder_24 rfl (lv_at hl 1 rfl) ?_
          refine lv_iconst (v := 2) hx hb dX4_isUnder_25 (by decide) ?_
          refine lv_icmp_ne (tgt := 33) hx hb dX4_isUnder_26 (by decide) (fun c26 => ?_) (fun c26 => ?_)
          · have h := k_nf c26 h
            refine lv_iconst (v := 0) hx hb dX4_isUnder_33 (by decide) ?_
            exact e_zret C hend hP h rfl dX4_isUnder_34 rfl
          · have h := k_if c26 h
            refine lv_iconst (v := 1) hx hb dX4_isUnder_29 (by decide) ?_
            refine lv_goto (tgt := 34) hx hb dX4_isUnder_30 (by decide) ?_
            exact e_zret C hend hP h rfl dX4_isUnder_34 rfl
      · have h := k_if c11 h
        refine lv_iload_n hx hb dX4_isUnder_14 rfl (lv_at hl 1 rfl) ?_
        refine lv_iconst (v := 1) hx hb dX4_isUnder_15 (by decide) ?_
        refine lv_icmp_eq (tgt := 29) hx hb dX4_isUnder_16 (by decide) (fun c16 => ?_) (fun c16 => ?_)
        · have h := k_if c16 h
          refine lv_iconst (v := 1) hx hb dX4_isUnder_29 (by decide) ?_
          refine lv_goto (tgt := 34) hx hb dX4_isUnder_30 (by decide) ?_
          exact e_zret C hend hP h rfl dX4_isUnder_34 rfl
        · have h := k_nf c16 h
          refine lv_iload_n hx hb dX4_isUnder_19 rfl (lv_at hl 0 rfl) ?_
          refine lv_iconst (v := 4) hx hb dX4_isUnder_20 (by decide) ?_
          refine lv_icmp_ne (tgt := 33) hx hb dX4_isUnder_21 (by decide) (fun c21 => ?_) (fun c21 => ?_)
          · have h := k_nf c21 h
            refine lv_iconst (v := 0) hx hb dX4_isUnder_33 (by decide) ?_
            exact e_zret C hend hP h rfl dX4_isUnder_34 rfl
          · have h := k_if c21 h
            refine lv_iload_n hx hb dX4_isUnder_24 rfl (lv_at hl 1 rfl) ?_
            refine lv_iconst (v := 2) hx hb dX4_isUnder_25 (by decide) ?_
            refine lv_icmp_ne (tgt := 33) hx hb dX4_isUnder_26 (by decide) (fun c26 => ?_) (fun c26 => ?_)
            · have h := k_nf c26 h
              refine lv_iconst (v := 0) hx hb dX4_isUnder_33 (by decide) ?_
              exact e_zret C hend hP h rfl dX4_isUnder_34 rfl
            · have h := k_if c26 h
              refine lv_iconst (v := 1) hx hb dX4_isUnder_29 (by decide) ?_
              refine lv_goto (tgt := 34) hx hb dX4_isUnder_30 (by decide) ?_
              exact e_zret C hend hP h rfl dX4_isUnder_34 rfl
def f_X4_level (σ : MM) : Int32 :=
  ((m_w σ) * ((m_h σ) + 1))
set_option maxHeartbeats 4000000 in
set_option maxRecDepth 100000 in
theorem c_X4_level (l : Launch) (ev : EV) (ad : Nat → Nat) (σ : MM)   (r : Int32)  (h : f_X4_level σ = r) : Ct l yX4_level prog_6_method_20_code 1 (Option.some Jvm.ClassFile.FieldType.int) (rmk 0 0) ev 13 ad (mw ev ad σ) (mw ev ad σ) [.ref (ad 0)] (some (.int r)) := by
  refine Ct.of (by decide +kernel) (Nat.le_of_ble_eq_true rfl) ?_
  intro p e s m args below meth c Qc C hap hP hend ls hl
  have hAA : ∀ j, j < 13 → inA ad 13 (ad j) := fun j hj => ⟨j, hj, rfl⟩
  have hx := C.1
  have hb := C.2.1
  have hl : lv_has ls 1 [(0, .ref (ad 0))] := hl
  have h := (f_X4_level.eq_1 _ ).symm.trans h
  refine lv_aload_n hx hb dX4_level_0 rfl (lv_at hl 0 rfl) ?_
  refine r_get C hP (ci := 4) rfl uin_X4 0 (by decide) 0 (by decide) rfl qFL_RX4_67 rfl rfl dX4_level_1 ?_
  refine lv_aload_n hx hb dX4_level_4 rfl (lv_at hl 0 rfl) ?_
  refine r_get C hP (ci := 4) rfl uin_X4 1 (by decide) 0 (by decide) rfl qFL_RX4_70 rfl rfl dX4_level_5 ?_
  refine lv_iconst (v := 1) hx hb dX4_level_8 (by decide) ?_
  refine lv_iadd hx hb dX4_level_9 ?_
  refine lv_imul hx hb dX4_level_10 ?_
  exact e_iret C hend hP h rfl dX4_level_11
def f_X4_edges (σ : MM) : Int32 :=
  ((f_X4_level σ) + ((m_h σ) * ((m_w σ) + 1)))
set_option maxHeartbeats 4000000 in
set_option maxRecDepth 100000 in
theorem c_X4_edges (l : Launch) (ev : EV) (ad : Nat → Nat) (σ : MM)   (r : Int32)  (h : f_X4_edges σ = r) : Ct l yX4_edges prog_6_method_21_code 1 (Option.some Jvm.ClassFile.FieldType.int) (rmk 1 20) ev 13 ad (mw ev ad σ) (mw ev ad σ) [.ref (ad 0)] (some (.int r)) := by
  refine Ct.of (by decide +kernel) (Nat.le_of_ble_eq_true rfl) ?_
  intro p e s m args below meth c Qc C hap hP hend ls hl
  have hAA : ∀ j, j < 13 → inA ad 13 (ad j) := fun j hj => ⟨j, hj, rfl⟩
  have hx := C.1
  have hb := C.2.1
  have hl : lv_has ls 1 [(0, .ref (ad 0))] := hl
  have h := (f_X4_edges.eq_1 _ ).symm.trans h
  refine lv_aload_n hx hb dX4_edges_0 rfl (lv_at hl 0 rfl) ?_
  refine k_callVi C hP hap hAA (c_X4_level l ev ad σ   _ rfl) Emb.same hap gz_X4_level qML_RX4_110 qIM_yX4_level qSE_yX4_level ⟨(Nat.le_of_ble_eq_true rfl), (Nat.le_of_ble_eq_true rfl)⟩ (q0 := 0) rfl (by decide) rfl rfl rfl rfl hl.1 rfl (Nat.le_of_ble_eq_true rfl) dX4_edges_1 ⟨Nat.le_refl _, Nat.le_refl _⟩ (fun H locs hP => ?_)
  refine lv_aload_n hx hb dX4_edges_4 rfl (lv_at hl 0 rfl) ?_
  refine r_get C hP (ci := 4) rfl uin_X4 1 (by decide) 0 (by decide) rfl qFL_RX4_70 rfl rfl dX4_edges_5 ?_
  refine lv_aload_n hx hb dX4_edges_8 rfl (lv_at hl 0 rfl) ?_
  refine r_get C hP (ci := 4) rfl uin_X4 0 (by decide) 0 (by decide) rfl qFL_RX4_67 rfl rfl dX4_edges_9 ?_
  refine lv_iconst (v := 1) hx hb dX4_edges_12 (by decide) ?_
  refine lv_iadd hx hb dX4_edges_13 ?_
  refine lv_imul hx hb dX4_edges_14 ?_
  refine lv_iadd hx hb dX4_edges_15 ?_
  exact e_iret C hend hP h rfl dX4_edges_16
def f_X4_isMove (σ : MM) (a1 : Int32) : Bool :=
  if (f_X4_within a1 0 ((f_X4_edges σ) - 1)) = true then true else if (f_X4_isField σ (a1 - 100)) = true then true else false
set_option maxHeartbeats 4000000 in
set_option maxRecDepth 100000 in
theorem c_X4_isMove (l : Launch) (ev : EV) (ad : Nat → Nat) (σ : MM) (a1 : Int32)   (r : Bool)  (h : f_X4_isMove σ a1 = r) : Ct l yX4_isMove prog_6_method_41_code 2 (Option.some Jvm.ClassFile.FieldType.boolean) (rmk 2 43) ev 13 ad (mw ev ad σ) (mw ev ad σ) [.ref (ad 0), .int a1] (some (.int (bi r))) := by
  refine Ct.of (by decide +kernel) (Nat.le_of_ble_eq_true rfl) ?_
  intro p e s m args below meth c Qc C hap hP hend ls hl
  have hAA : ∀ j, j < 13 → inA ad 13 (ad j) := fun j hj => ⟨j, hj, rfl⟩
  have hx := C.1
  have hb := C.2.1
  have hl : lv_has ls 2 [(0, .ref (ad 0)), (1, .int a1)] := hl
  have h := (f_X4_isMove.eq_1 _ _ ).symm.trans h
  refine lv_iload_n hx hb dX4_isMove_0 rfl (lv_at hl 1 rfl) ?_
  refine lv_iconst (v := 0) hx hb dX4_isMove_1 (by decide) ?_
  refine lv_aload_n hx hb dX4_isMove_2 rfl (lv_at hl 0 rfl) ?_
  refine k_callVi C hP hap hAA (c_X4_edges l ev ad σ   _ rfl) Emb.same hap gz_X4_edges qML_RX4_107 qIM_yX4_edges qSE_yX4_edges ⟨(Nat.le_of_ble_eq_true rfl), (Nat.le_of_ble_eq_true rfl)⟩ (q0 := 0) rfl (by decide) rfl rfl rfl rfl hl.1 rfl (Nat.le_of_ble_eq_true rfl) dX4_isMove_3 ⟨Nat.le_refl _, Nat.le_refl _⟩ (fun H locs hP => ?_)
  refine lv_iconst (v := 1) hx hb dX4_isMove_6 (by decide) ?_
  refine lv_isub hx hb dX4_isMove_7 ?_
  refine k_callSi C hP hap hAA (c_X4_within l ev ad a1 0 ((f_X4_edges σ) - 1)   _ rfl) Emb.none (apart_0 _) gz_X4_within qML_RX4_63 qSM_yX4_within ⟨(Nat.le_of_ble_eq_true rfl), (Nat.le_of_ble_eq_true rfl)⟩ rfl hl.1 rfl (Nat.le_of_ble_eq_true rfl) dX4_isMove_8 ⟨Nat.le_refl _, Nat.le_refl _⟩ (fun H locs hP => ?_)
  refine r_ifz_ne (tgt := 25) hx hb dX4_isMove_11 (by decide) (fun c11 => ?_) (fun c11 => ?_)
  · have h := k_if c11 h
    refine lv_iconst (v := 1) hx hb dX4_isMove_25 (by decide) ?_
    refine lv_goto (tgt := 30) hx hb dX4_isMove_26 (by decide) ?_
    exact e_zret C hend hP h rfl dX4_isMove_30 rfl
  · have h := k_nf c11 h
    refine lv_aload_n hx hb dX4_isMove_14 rfl (lv_at hl 0 rfl) ?_
    refine lv_iload_n hx hb dX4_isMove_15 rfl (lv_at hl 1 rfl) ?_
    refine lv_bipush (v := 100) hx hb dX4_isMove_16 (by decide) ?_
    refine lv_isub hx hb dX4_isMove_18 ?_
    refine k_callVi C hP hap hAA (c_X4_isField l ev ad σ (a1 - 100)   _ rfl) Emb.same hap gz_X4_isField qML_RX4_116 qIM_yX4_isField qSE_yX4_isField ⟨(Nat.le_of_ble_eq_true rfl), (Nat.le_of_ble_eq_true rfl)⟩ (q0 := 0) rfl (by decide) rfl rfl rfl rfl hl.1 rfl (Nat.le_of_ble_eq_true rfl) dX4_isMove_19 ⟨Nat.le_refl _, Nat.le_refl _⟩ (fun H locs hP => ?_)
    refine r_ifz_eq (tgt := 29) hx hb dX4_isMove_22 (by decide) (fun c22 => ?_) (fun c22 => ?_)
    · have h := k_nf c22 h
      refine lv_iconst (v := 0) hx hb dX4_isMove_29 (by decide) ?_
      exact e_zret C hend hP h rfl dX4_isMove_30 rfl
    · have h := k_if c22 h
      refine lv_iconst (v := 1) hx hb dX4_isMove_25 (by decide) ?_
      refine lv_goto (tgt := 30) hx hb dX4_isMove_26 (by decide) ?_
      exact e_zret C hend hP h rfl dX4_isMove_30 rfl
def f_X4_edge (σ : MM) (a1 : Int32) (a2 : Int32) : Option (Int32) :=
  gd (nz (m_w σ)) (lt (idiv a1 (m_w σ)) (fun x1 => gd (nz (m_w σ)) (lt (irem a1 (m_w σ)) (fun x2 => if a2 = 0 then some a1 else if a2 = 1 then some (a1 + (m_w σ)) else if a2 = 2 then some (((f_X4_level σ) + (x1 * ((m_w σ) + 1))) + x2) else some ((((f_X4_level σ) + (x1 * ((m_w σ) + 1))) + x2) + 1)))))
set_option maxHeartbeats 4000000 in
set_option maxRecDepth 100000 in
theorem c_X4_edge (l : Launch) (ev : EV) (ad : Nat → Nat) (σ : MM) (a1 : Int32) (a2 : Int32)   (r : Int32)  (h : f_X4_edge σ a1 a2 = some r) : Ct l yX4_edge prog_6_method_26_code 5 (Option.some Jvm.ClassFile.FieldType.int) (rmk 1 20) ev 13 ad (mw ev ad σ) (mw ev ad σ) [.ref (ad 0), .int a1, .int a2] (some (.int r)) := by
  refine Ct.of (by decide +kernel) (Nat.le_of_ble_eq_true rfl) ?_
  intro p e s m args below meth c Qc C hap hP hend ls hl
  have hAA : ∀ j, j < 13 → inA ad 13 (ad j) := fun j hj => ⟨j, hj, rfl⟩
  have hx := C.1
  have hb := C.2.1
  have hl : lv_has ls 5 [(0, .ref (ad 0)), (1, .int a1), (2, .int a2)] := hl
  have h := (f_X4_edge.eq_1 _ _ _ ).symm.trans h
  refine lv_iload_n hx hb dX4_edge_0 rfl (lv_at hl 1 rfl) ?_
  refine lv_aload_n hx hb dX4_edge_1 rfl (lv_at hl 0 rfl) ?_
  refine r_get C hP (ci := 4) rfl uin_X4 0 (by decide) 0 (by decide) rfl qFL_RX4_67 rfl rfl dX4_edge_2 ?_
  obtain ⟨hg, h⟩ := k_gd h
  refine r_idiv hx hb dX4_edge_5 (nz_ne hg) ?_
  refine lv_topi (fun x1 ex1 => ?_)
  have h := k_lt ex1 h
  refine lv_istore_n (lv' := [(3, .int x1), (0, .ref (ad 0)), (1, .int a1), (2, .int a2)]) hx hb dX4_edge_6 rfl hl (by decide) rfl (fun ls hl => ?_)
  refine lv_iload_n hx hb dX4_edge_7 rfl (lv_at hl 2 rfl) ?_
  refine lv_aload_n hx hb dX4_edge_8 rfl (lv_at hl 1 rfl) ?_
  refine r_get C hP (ci := 4) rfl uin_X4 0 (by decide) 0 (by decide) rfl qFL_RX4_67 rfl rfl dX4_edge_9 ?_
  obtain ⟨hg, h⟩ := k_gd h
  refine r_irem hx hb dX4_edge_12 (nz_ne hg) ?_
  refine lv_topi (fun x2 ex2 => ?_)
  have h := k_lt ex2 h
  refine lv_istore (lv' := [(4, .int x2), (3, .int x1), (0, .ref (ad 0)), (1, .int a1), (2, .int a2)]) hx hb dX4_edge_13 hl (by decide) rfl (fun ls hl => ?_)
  refine lv_iload_n hx hb dX4_edge_15 rfl (lv_at hl 4 rfl) ?_
  by_cases cs0 : a2 = 0
  · have h := k_if cs0 h
    refine r_tabIn (tgt := 44) (off := 28) (i := 0) hx hb dX4_edge_16 cs0 (by decide) (by decide) (by decide) (by decide) ?_
    refine lv_iload_n hx hb dX4_edge_44 rfl (lv_at hl 3 rfl) ?_
    exact e_iret C hend hP (k_some h) rfl dX4_edge_45
  · have h := k_nf cs0 h
    by_cases cs1 : a2 = 1
    · have h := k_if cs1 h
      refine r_tabIn (tgt := 46) (off := 30) (i := 1) hx hb dX4_edge_16 cs1 (by decide) (by decide) (by decide) (by decide) ?_
      refine lv_iload_n hx hb dX4_edge_46 rfl (lv_at hl 3 rfl) ?_
      refine lv_aload_n hx hb dX4_edge_47 rfl (lv_at hl 2 rfl) ?_
      refine r_get C hP (ci := 4) rfl uin_X4 0 (by decide) 0 (by decide) rfl qFL_RX4_67 rfl rfl dX4_edge_48 ?_
      refine lv_iadd hx hb dX4_edge_51 ?_
      exact e_iret C hend hP (k_some h) rfl dX4_edge_52
    · have h := k_nf cs1 h
      by_cases cs2 : a2 = 2
      · have h := k_if cs2 h
        refine r_tabIn (tgt := 53) (off := 37) (i := 2) hx hb dX4_edge_16 cs2 (by decide) (by decide) (by decide) (by decide) ?_
        refine lv_aload_n hx hb dX4_edge_53 rfl (lv_at hl 2 rfl) ?_
        refine k_callVi C hP hap hAA (c_X4_level l ev ad σ   _ rfl) Emb.same hap gz_X4_level qML_RX4_110 qIM_yX4_level qSE_yX4_level ⟨(Nat.le_of_ble_eq_true rfl), (Nat.le_of_ble_eq_true rfl)⟩ (q0 := 0) rfl (by decide) rfl rfl rfl rfl hl.1 rfl (Nat.le_of_ble_eq_true rfl) dX4_edge_54 ⟨Nat.le_refl _, Nat.le_refl _⟩ (fun H locs hP => ?_)
        refine lv_iload_n hx hb dX4_edge_57 rfl (lv_at hl 1 rfl) ?_
        refine lv_aload_n hx hb dX4_edge_58 rfl (lv_at hl 2 rfl) ?_
        refine r_get C hP (ci := 4) rfl uin_X4 0 (by decide) 0 (by decide) rfl qFL_RX4_67 rfl rfl dX4_edge_59 ?_
        refine lv_iconst (v := 1) hx hb dX4_edge_62 (by decide) ?_
        refine lv_iadd hx hb dX4_edge_63 ?_
        refine lv_imul hx hb dX4_edge_64 ?_
        refine lv_iadd hx hb dX4_edge_65 ?_
        refine lv_iload hx hb dX4_edge_66 (lv_at hl 0 rfl) ?_
        refine lv_iadd hx hb dX4_edge_68 ?_
        exact e_iret C hend hP (k_some h) rfl dX4_edge_69
      · have h := k_nf cs2 h
        refine r_tabOut (tgt := 70) hx hb dX4_edge_16 (fun i h1 h2 => by
          have h3 : i = 0 ∨ i = 1 ∨ i = 2 := by omega
          rcases h3 with rfl | rfl | rfl
          · exact cs0
          · exact cs1
          · exact cs2
          ) (by decide) ?_
        refine lv_aload_n hx hb dX4_edge_70 rfl (lv_at hl 2 rfl) ?_
        refine k_callVi C hP hap hAA (c_X4_level l ev ad σ   _ rfl) Emb.same hap gz_X4_level qML_RX4_110 qIM_yX4_level qSE_yX4_level ⟨(Nat.le_of_ble_eq_true rfl), (Nat.le_of_ble_eq_true rfl)⟩ (q0 := 0) rfl (by decide) rfl rfl rfl rfl hl.1 rfl (Nat.le_of_ble_eq_true rfl) dX4_edge_71 ⟨Nat.le_refl _, Nat.le_refl _⟩ (fun H locs hP => ?_)
        refine lv_iload_n hx hb dX4_edge_74 rfl (lv_at hl 1 rfl) ?_
        refine lv_aload_n hx hb dX4_edge_75 rfl (lv_at hl 2 rfl) ?_
        refine r_get C hP (ci := 4) rfl uin_X4 0 (by decide) 0 (by decide) rfl qFL_RX4_67 rfl rfl dX4_edge_76 ?_
        refine lv_iconst (v := 1) hx hb dX4_edge_79 (by decide) ?_
        refine lv_iadd hx hb dX4_edge_80 ?_
        refine lv_imul hx hb dX4_edge_81 ?_
        refine lv_iadd hx hb dX4_edge_82 ?_
        refine lv_iload hx hb dX4_edge_83 (lv_at hl 0 rfl) ?_
        refine lv_iadd hx hb dX4_edge_85 ?_
        refine lv_iconst (v := 1) hx hb dX4_edge_86 (by decide) ?_
        refine lv_iadd hx hb dX4_edge_87 ?_
        exact e_iret C hend hP (k_some h) rfl dX4_edge_88
def f_X4_hedges_L4_b (σ : MM) (a1 : Int32)  (rec4 : Int32 → Int32 → Option (Int32)) (x1 : Int32) (x2 : Int32) : Option (Int32) :=
  if 4 ≤ x2 then some x1 else ob (f_X4_edge σ a1 x2) (fun x3 => gd (inb x3 40) (if ((m_hedge σ) (Int32.toNatClampNeg x3)) = 0 then lt (x2 + 1) (fun x4 => rec4 x1 x4) else lt (x1 + 1) (fun x5 => lt (x2 + 1) (fun x6 => rec4 x5 x6))))
def f_X4_hedges_L4 (σ : MM) (a1 : Int32)  (x1 : Int32) (x2 : Int32) : Option (Int32) :=
  lp (fun _ _ => none) (f_X4_hedges_L4_b σ a1 ) FU x1 x2
def f_X4_hedges (σ : MM) (a1 : Int32) : Option (Int32) :=
  f_X4_hedges_L4 σ a1 0 0
set_option maxHeartbeats 4000000 in
set_option maxRecDepth 100000 in
theorem c_X4_hedges (l : Launch) (ev : EV) (ad : Nat → Nat) (σ : MM) (a1 : Int32)   (r : Int32)  (h : f_X4_hedges σ a1 = some r) : Ct l yX4_hedges prog_6_method_31_code 4 (Option.some Jvm.ClassFile.FieldType.int) (rmk 2 44) ev 13 ad (mw ev ad σ) (mw ev ad σ) [.ref (ad 0), .int a1] (some (.int r)) := by
  refine Ct.of (by decide +kernel) (Nat.le_of_ble_eq_true rfl) ?_
  intro p e s m args below meth c Qc C hap hP hend ls hl
  have hAA : ∀ j, j < 13 → inA ad 13 (ad j) := fun j hj => ⟨j, hj, rfl⟩
  have hx := C.1
  have hb := C.2.1
  have hl : lv_has ls 4 [(0, .ref (ad 0)), (1, .int a1)] := hl
  have h := (f_X4_hedges.eq_1 _ _ ).symm.trans h
  refine lv_iconst (v := 0) hx hb dX4_hedges_0 (by decide) ?_
  refine lv_istore_n (lv' := [(2, .int 0), (0, .ref (ad 0)), (1, .int a1)]) hx hb dX4_hedges_1 rfl hl (by decide) rfl (fun ls hl => ?_)
  refine lv_iconst (v := 0) hx hb dX4_hedges_2 (by decide) ?_
  refine lv_istore_n (lv' := [(3, .int 0), (2, .int 0), (0, .ref (ad 0)), (1, .int a1)]) hx hb dX4_hedges_3 rfl hl (by decide) rfl (fun ls hl => ?_)
  have hL4 : ∀ (n : Nat) (x1 : Int32) (x2 : Int32) (H : Heap) (locs : List Loc) (ls : Array Slot), lp (fun _ _ => none) (f_X4_hedges_L4_b σ a1 ) n x1 x2 = some r → PS ev 13 ad (mw ev ad σ) (inA ad 13) s H locs → lv_has ls 4 [(0, .ref (ad 0)), (1, .int a1), (2, .int x1), (3, .int x2)] → WW ev p l e (rmk 2 44) s m args below meth c Qc ad 13 H locs 4 ls [] := by
    intro n
    induction n with
    | zero =>
      intro x1 x2 H locs ls h; exact k_none h
    | succ n ih =>
      intro x1 x2 H locs ls h hP hl
      have h : f_X4_hedges_L4_b σ a1  (lp (fun _ _ => none) (f_X4_hedges_L4_b σ a1 ) n) x1 x2 = some r := h
      have h := (f_X4_hedges_L4_b.eq_1 _ _ _ _ _ ).symm.trans h
      refine lv_iload_n hx hb dX4_hedges_4 rfl (lv_at hl 3 rfl) ?_
      refine lv_iconst (v := 4) hx hb dX4_hedges_5 (by decide) ?_
      refine lv_icmp_ge (tgt := 32) hx hb dX4_hedges_6 (by decide) (fun c6 => ?_) (fun c6 => ?_)
      · have h := k_if c6 h
        refine lv_iload_n hx hb dX4_hedges_32 rfl (lv_at hl 2 rfl) ?_
        exact e_iret C hend hP (k_some h) rfl dX4_hedges_33
      · have h := k_nf c6 h
        refine lv_aload_n hx hb dX4_hedges_9 rfl (lv_at hl 0 rfl) ?_
        refine r_get C hP (ci := 4) rfl uin_X4 2 (by decide) 0 (by decide) rfl qFL_RX4_7 rfl rfl dX4_hedges_10 ?_
        refine lv_aload_n hx hb dX4_hedges_13 rfl (lv_at hl 0 rfl) ?_
        refine lv_iload_n hx hb dX4_hedges_14 rfl (lv_at hl 1 rfl) ?_
        refine lv_iload_n hx hb dX4_hedges_15 rfl (lv_at hl 3 rfl) ?_
        obtain ⟨x3, h1, h⟩ := k_ob h
        refine k_callVi C hP hap hAA (c_X4_edge l ev ad σ a1 x2   _ h1) Emb.same hap gz_X4_edge qML_RX4_122 qIM_yX4_edge qSE_yX4_edge ⟨(Nat.le_of_ble_eq_true rfl), (Nat.le_of_ble_eq_true rfl)⟩ (q0 := 0) rfl (by decide) rfl rfl rfl rfl hl.1 rfl (Nat.le_of_ble_eq_true rfl) dX4_hedges_16 ⟨Nat.le_refl _, Nat.le_refl _⟩ (fun H locs hP => ?_)
        obtain ⟨hg, h⟩ := k_gd h
        refine r_zald C hP 1 (by decide) rfl hg dX4_hedges_19 ?_
        refine lv_if_eq (tgt := 26) hx hb dX4_hedges_20 (by decide) (fun c20 => ?_) (fun c20 => ?_)
        · have h := k_if c20 h
          obtain ⟨x4, ex4, h⟩ := k_ltx h
          refine lv_iinc (v := x4) (lv' := [(3, .int x4), (0, .ref (ad 0)), (1, .int a1), (2, .int x1)]) hx hb dX4_hedges_26 hl (k := 3) rfl (by rw [ex4]; rfl) (by decide) rfl (fun ls hl => ?_)
          refine lv_goto (tgt := 4) hx hb dX4_hedges_29 (by decide) ?_
          exact ih _ _ _ _ _ h hP (lv_sub hl [1, 2, 3, 0] rfl)
        · have h := k_nf c20 h
          obtain ⟨x5, ex5, h⟩ := k_ltx h
          refine lv_iinc (v := x5) (lv' := [(2, .int x5), (0, .ref (ad 0)), (1, .int a1), (3, .int x2)]) hx hb dX4_hedges_23 hl (k := 2) rfl (by rw [ex5]; rfl) (by decide) rfl (fun ls hl => ?_)
          obtain ⟨x6, ex6, h⟩ := k_ltx h
          refine lv_iinc (v := x6) (lv' := [(3, .int x6), (2, .int x5), (0, .ref (ad 0)), (1, .int a1)]) hx hb dX4_hedges_26 hl (k := 3) rfl (by rw [ex6]; rfl) (by decide) rfl (fun ls hl => ?_)
          refine lv_goto (tgt := 4) hx hb dX4_hedges_29 (by decide) ?_
          exact ih _ _ _ _ _ h hP (lv_sub hl [2, 3, 1, 0] rfl)
  exact hL4 FU _ _ _ _ _ h hP (lv_sub hl [2, 3, 1, 0] rfl)
def f_X4_mayBe (σ : MM) (a1 : Int32) : Option (Bool) :=
  if 100 ≤ a1 then gd (inb (a1 - 100) 16) (if ((m_dug σ) (Int32.toNatClampNeg (a1 - 100))) = 0 then ob (f_X4_hedges σ (a1 - 100)) (fun x1 => if 4 ≤ x1 then some false else some true) else some false) else gd (inb a1 40) (if ((m_hedge σ) (Int32.toNatClampNeg a1)) = 0 then some true else some false)
set_option maxHeartbeats 4000000 in
set_option maxRecDepth 100000 in
theorem c_X4_mayBe (l : Launch) (ev : EV) (ad : Nat → Nat) (σ : MM) (a1 : Int32)   (r : Bool)  (h : f_X4_mayBe σ a1 = some r) : Ct l yX4_mayBe prog_6_method_42_code 2 (Option.some Jvm.ClassFile.FieldType.boolean) (rmk 3 67) ev 13 ad (mw ev ad σ) (mw ev ad σ) [.ref (ad 0), .int a1] (some (.int (bi r))) := by
  refine Ct.of (by decide +kernel) (Nat.le_of_ble_eq_true rfl) ?_
  intro p e s m args below meth c Qc C hap hP hend ls hl
  have hAA : ∀ j, j < 13 → inA ad 13 (ad j) := fun j hj => ⟨j, hj, rfl⟩
  have hx := C.1
  have hb := C.2.1
  have hl : lv_has ls 2 [(0, .ref (ad 0)), (1, .int a1)] := hl
  have h := (f_X4_mayBe.eq_1 _ _ ).symm.trans h
  refine lv_iload_n hx hb dX4_mayBe_0 rfl (lv_at hl 1 rfl) ?_
  refine lv_bipush (v := 100) hx hb dX4_mayBe_1 (by decide) ?_
  refine lv_icmp_ge (tgt := 23) hx hb dX4_mayBe_3 (by decide) (fun c3 => ?_) (fun c3 => ?_)
  · have h := k_if c3 h
    refine lv_aload_n hx hb dX4_mayBe_23 rfl (lv_at hl 0 rfl) ?_
    refine r_get C hP (ci := 4) rfl uin_X4 3 (by decide) 0 (by decide) rfl qFL_RX4_13 rfl rfl dX4_mayBe_24 ?_
    refine lv_iload_n hx hb dX4_mayBe_27 rfl (lv_at hl 1 rfl) ?_
    refine lv_bipush (v := 100) hx hb dX4_mayBe_28 (by decide) ?_
    refine lv_isub hx hb dX4_mayBe_30 ?_
    obtain ⟨hg, h⟩ := k_gd h
    refine r_zald C hP 2 (by decide) rfl hg dX4_mayBe_31 ?_
    refine lv_if_ne (tgt := 51) hx hb dX4_mayBe_32 (by decide) (fun c32 => ?_) (fun c32 => ?_)
    · have h := k_nf c32 h
      refine lv_iconst (v := 0) hx hb dX4_mayBe_51 (by decide) ?_
      exact e_zret C hend hP (k_some h) rfl dX4_mayBe_52 rfl
    · have h := k_if c32 h
      refine lv_aload_n hx hb dX4_mayBe_35 rfl (lv_at hl 0 rfl) ?_
      refine lv_iload_n hx hb dX4_mayBe_36 rfl (lv_at hl 1 rfl) ?_
      refine lv_bipush (v := 100) hx hb dX4_mayBe_37 (by decide) ?_
      refine lv_isub hx hb dX4_mayBe_39 ?_
      obtain ⟨x1, h1, h⟩ := k_ob h
      refine k_callVi C hP hap hAA (c_X4_hedges l ev ad σ (a1 - 100)   _ h1) Emb.same hap gz_X4_hedges qML_RX4_196 qIM_yX4_hedges qSE_yX4_hedges ⟨(Nat.le_of_ble_eq_true rfl), (Nat.le_of_ble_eq_true rfl)⟩ (q0 := 0) rfl (by decide) rfl rfl rfl rfl hl.1 rfl (Nat.le_of_ble_eq_true rfl) dX4_mayBe_40 ⟨Nat.le_refl _, Nat.le_refl _⟩ (fun H locs hP => ?_)
      refine lv_iconst (v := 4) hx hb dX4_mayBe_43 (by decide) ?_
      refine lv_icmp_ge (tgt := 51) hx hb dX4_mayBe_44 (by decide) (fun c44 => ?_) (fun c44 => ?_)
      · have h := k_if c44 h
        refine lv_iconst (v := 0) hx hb dX4_mayBe_51 (by decide) ?_
        exact e_zret C hend hP (k_some h) rfl dX4_mayBe_52 rfl
      · have h := k_nf c44 h
        refine lv_iconst (v := 1) hx hb dX4_mayBe_47 (by decide) ?_
        refine lv_goto (tgt := 52) hx hb dX4_mayBe_48 (by decide) ?_
        exact e_zret C hend hP (k_some h) rfl dX4_mayBe_52 rfl
  · have h := k_nf c3 h
    refine lv_aload_n hx hb dX4_mayBe_6 rfl (lv_at hl 0 rfl) ?_
    refine r_get C hP (ci := 4) rfl uin_X4 2 (by decide) 0 (by decide) rfl qFL_RX4_7 rfl rfl dX4_mayBe_7 ?_
    refine lv_iload_n hx hb dX4_mayBe_10 rfl (lv_at hl 1 rfl) ?_
    obtain ⟨hg, h⟩ := k_gd h
    refine r_zald C hP 1 (by decide) rfl hg dX4_mayBe_11 ?_
    refine lv_if_ne (tgt := 19) hx hb dX4_mayBe_12 (by decide) (fun c12 => ?_) (fun c12 => ?_)
    · have h := k_nf c12 h
      refine lv_iconst (v := 0) hx hb dX4_mayBe_19 (by decide) ?_
      refine lv_goto (tgt := 52) hx hb dX4_mayBe_20 (by decide) ?_
      exact e_zret C hend hP (k_some h) rfl dX4_mayBe_52 rfl
    · have h := k_if c12 h
      refine lv_iconst (v := 1) hx hb dX4_mayBe_15 (by decide) ?_
      refine lv_goto (tgt := 52) hx hb dX4_mayBe_16 (by decide) ?_
      exact e_zret C hend hP (k_some h) rfl dX4_mayBe_52 rfl
def f_X4_howMany_L4_b (σ : MM)  (rec4 : Int32 → Int32 → Option (Int32)) (x1 : Int32) (x2 : Int32) : Option (Int32) :=
  if 116 ≤ x2 then some x1 else if (f_X4_isMove σ x2) = true then ob (f_X4_mayBe σ x2) (fun b4 => if b4 = true then lt (x1 + 1) (fun x6 => lt (x2 + 1) (fun x7 => rec4 x6 x7)) else lt (x2 + 1) (fun x5 => rec4 x1 x5)) else lt (x2 + 1) (fun x3 => rec4 x1 x3)
def f_X4_howMany_L4 (σ : MM)  (x1 : Int32) (x2 : Int32) : Option (Int32) :=
  lp (fun _ _ => none) (f_X4_howMany_L4_b σ ) FU x1 x2
def f_X4_howMany (σ : MM) : Option (Int32) :=
  f_X4_howMany_L4 σ 0 0
set_option maxHeartbeats 4000000 in
set_option maxRecDepth 100000 in
theorem c_X4_howMany (l : Launch) (ev : EV) (ad : Nat → Nat) (σ : MM)   (r : Int32)  (h : f_X4_howMany σ = some r) : Ct l yX4_howMany prog_6_method_45_code 3 (Option.some Jvm.ClassFile.FieldType.int) (rmk 4 88) ev 13 ad (mw ev ad σ) (mw ev ad σ) [.ref (ad 0)] (some (.int r)) := by
  refine Ct.of (by decide +kernel) (Nat.le_of_ble_eq_true rfl) ?_
  intro p e s m args below meth c Qc C hap hP hend ls hl
  have hAA : ∀ j, j < 13 → inA ad 13 (ad j) := fun j hj => ⟨j, hj, rfl⟩
  have hx := C.1
  have hb := C.2.1
  have hl : lv_has ls 3 [(0, .ref (ad 0))] := hl
  have h := (f_X4_howMany.eq_1 _ ).symm.trans h
  refine lv_iconst (v := 0) hx hb dX4_howMany_0 (by decide) ?_
  refine lv_istore_n (lv' := [(1, .int 0), (0, .ref (ad 0))]) hx hb dX4_howMany_1 rfl hl (by decide) rfl (fun ls hl => ?_)
  refine lv_iconst (v := 0) hx hb dX4_howMany_2 (by decide) ?_
  refine lv_istore_n (lv' := [(2, .int 0), (1, .int 0), (0, .ref (ad 0))]) hx hb dX4_howMany_3 rfl hl (by decide) rfl (fun ls hl => ?_)
  have hL4 : ∀ (n : Nat) (x1 : Int32) (x2 : Int32) (H : Heap) (locs : List Loc) (ls : Array Slot), lp (fun _ _ => none) (f_X4_howMany_L4_b σ ) n x1 x2 = some r → PS ev 13 ad (mw ev ad σ) (inA ad 13) s H locs → lv_has ls 3 [(0, .ref (ad 0)), (1, .int x1), (2, .int x2)] → WW ev p l e (rmk 4 88) s m args below meth c Qc ad 13 H locs 4 ls [] := by
    intro n
    induction n with
    | zero =>
      intro x1 x2 H locs ls h; exact k_none h
    | succ n ih =>
      intro x1 x2 H locs ls h hP hl
      have h : f_X4_howMany_L4_b σ  (lp (fun _ _ => none) (f_X4_howMany_L4_b σ ) n) x1 x2 = some r := h
      have h := (f_X4_howMany_L4_b.eq_1 _ _ _ _ ).symm.trans h
      refine lv_iload_n hx hb dX4_howMany_4 rfl (lv_at hl 2 rfl) ?_
      refine lv_bipush (v := 116) hx hb dX4_howMany_5 (by decide) ?_
      refine lv_icmp_ge (tgt := 35) hx hb dX4_howMany_7 (by decide) (fun c7 => ?_) (fun c7 => ?_)
      · have h := k_if c7 h
        refine lv_iload_n hx hb dX4_howMany_35 rfl (lv_at hl 1 rfl) ?_
        exact e_iret C hend hP (k_some h) rfl dX4_howMany_36
      · have h := k_nf c7 h
        refine lv_aload_n hx hb dX4_howMany_10 rfl (lv_at hl 0 rfl) ?_
        refine lv_iload_n hx hb dX4_howMany_11 rfl (lv_at hl 2 rfl) ?_
        refine k_callVi C hP hap hAA (c_X4_isMove l ev ad σ x2   _ rfl) Emb.same hap gz_X4_isMove qML_RX4_173 qIM_yX4_isMove qSE_yX4_isMove ⟨(Nat.le_of_ble_eq_true rfl), (Nat.le_of_ble_eq_true rfl)⟩ (q0 := 0) rfl (by decide) rfl rfl rfl rfl hl.1 rfl (Nat.le_of_ble_eq_true rfl) dX4_howMany_12 ⟨Nat.le_refl _, Nat.le_refl _⟩ (fun H locs hP => ?_)
        refine r_ifz_eq (tgt := 29) hx hb dX4_howMany_15 (by decide) (fun c15 => ?_) (fun c15 => ?_)
        · have h := k_nf c15 h
          obtain ⟨x3, ex3, h⟩ := k_ltx h
          refine lv_iinc (v := x3) (lv' := [(2, .int x3), (0, .ref (ad 0)), (1, .int x1)]) hx hb dX4_howMany_29 hl (k := 2) rfl (by rw [ex3]; rfl) (by decide) rfl (fun ls hl => ?_)
          refine lv_goto (tgt := 4) hx hb dX4_howMany_32 (by decide) ?_
          exact ih _ _ _ _ _ h hP (lv_sub hl [1, 2, 0] rfl)
        · have h := k_if c15 h
          refine lv_aload_n hx hb dX4_howMany_18 rfl (lv_at hl 0 rfl) ?_
          refine lv_iload_n hx hb dX4_howMany_19 rfl (lv_at hl 2 rfl) ?_
          obtain ⟨b4, h1, h⟩ := k_ob h
          refine k_callVi C hP hap hAA (c_X4_mayBe l ev ad σ x2   _ h1) Emb.same hap gz_X4_mayBe qML_RX4_176 qIM_yX4_mayBe qSE_yX4_mayBe ⟨(Nat.le_of_ble_eq_true rfl), (Nat.le_of_ble_eq_true rfl)⟩ (q0 := 0) rfl (by decide) rfl rfl rfl rfl hl.1 rfl (Nat.le_of_ble_eq_true rfl) dX4_howMany_20 ⟨Nat.le_refl _, Nat.le_refl _⟩ (fun H locs hP => ?_)
          refine r_ifz_eq (tgt := 29) hx hb dX4_howMany_23 (by decide) (fun c23 => ?_) (fun c23 => ?_)
          · have h := k_nf c23 h
            obtain ⟨x5, ex5, h⟩ := k_ltx h
            refine lv_iinc (v := x5) (lv' := [(2, .int x5), (0, .ref (ad 0)), (1, .int x1)]) hx hb dX4_howMany_29 hl (k := 2) rfl (by rw [ex5]; rfl) (by decide) rfl (fun ls hl => ?_)
            refine lv_goto (tgt := 4) hx hb dX4_howMany_32 (by decide) ?_
            exact ih _ _ _ _ _ h hP (lv_sub hl [1, 2, 0] rfl)
          · have h := k_if c23 h
            obtain ⟨x6, ex6, h⟩ := k_ltx h
            refine lv_iinc (v := x6) (lv' := [(1, .int x6), (0, .ref (ad 0)), (2, .int x2)]) hx hb dX4_howMany_26 hl (k := 1) rfl (by rw [ex6]; rfl) (by decide) rfl (fun ls hl => ?_)
            obtain ⟨x7, ex7, h⟩ := k_ltx h
            refine lv_iinc (v := x7) (lv' := [(2, .int x7), (1, .int x6), (0, .ref (ad 0))]) hx hb dX4_howMany_29 hl (k := 2) rfl (by rw [ex7]; rfl) (by decide) rfl (fun ls hl => ?_)
            refine lv_goto (tgt := 4) hx hb dX4_howMany_32 (by decide) ?_
            exact ih _ _ _ _ _ h hP (lv_sub hl [2, 1, 0] rfl)
  exact hL4 FU _ _ _ _ _ h hP (lv_sub hl [2, 1, 0] rfl)
def f_X4_field (σ : MM) (a1 : Int32) (a2 : Int32) : Option (Int32) :=
  if (f_X4_level σ) ≤ a1 then gd (nz ((m_w σ) + 1)) (lt (idiv (a1 - (f_X4_level σ)) ((m_w σ) + 1)) (fun x1 => gd (nz ((m_w σ) + 1)) (lt (((irem (a1 - (f_X4_level σ)) ((m_w σ) + 1)) - 1) + a2) (fun x2 => if (f_X4_within x2 0 ((m_w σ) - 1)) = true then some ((x1 * (m_w σ)) + x2) else some (-1))))) else if a2 = 0 then lt (a1 - (m_w σ)) (fun x3 => if (f_X4_isField σ x3) = true then some x3 else some (-1)) else if (f_X4_isField σ a1) = true then some a1 else some (-1)
set_option maxHeartbeats 4000000 in
set_option maxRecDepth 100000 in
theorem c_X4_field (l : Launch) (ev : EV) (ad : Nat → Nat) (σ : MM) (a1 : Int32) (a2 : Int32)   (r : Int32)  (h : f_X4_field σ a1 a2 = some r) : Ct l yX4_field prog_6_method_27_code 5 (Option.some Jvm.ClassFile.FieldType.int) (rmk 2 43) ev 13 ad (mw ev ad σ) (mw ev ad σ) [.ref (ad 0), .int a1, .int a2] (some (.int r)) := by
  refine Ct.of (by decide +kernel) (Nat.le_of_ble_eq_true rfl) ?_
  intro p e s m args below meth c Qc C hap hP hend ls hl
  have hAA : ∀ j, j < 13 → inA ad 13 (ad j) := fun j hj => ⟨j, hj, rfl⟩
  have hx := C.1
  have hb := C.2.1
  have hl : lv_has ls 5 [(0, .ref (ad 0)), (1, .int a1), (2, .int a2)] := hl
  have h := (f_X4_field.eq_1 _ _ _ ).symm.trans h
  refine lv_iload_n hx hb dX4_field_0 rfl (lv_at hl 1 rfl) ?_
  refine lv_aload_n hx hb dX4_field_1 rfl (lv_at hl 0 rfl) ?_
  refine k_callVi C hP hap hAA (c_X4_level l ev ad σ   _ rfl) Emb.same hap gz_X4_level qML_RX4_110 qIM_yX4_level qSE_yX4_level ⟨(Nat.le_of_ble_eq_true rfl), (Nat.le_of_ble_eq_true rfl)⟩ (q0 := 0) rfl (by decide) rfl rfl rfl rfl hl.1 rfl (Nat.le_of_ble_eq_true rfl) dX4_field_2 ⟨Nat.le_refl _, Nat.le_refl _⟩ (fun H locs hP => ?_)
  refine lv_icmp_ge (tgt := 37) hx hb dX4_field_5 (by decide) (fun c5 => ?_) (fun c5 => ?_)
  · have h := k_if c5 h
    refine lv_iload_n hx hb dX4_field_37 rfl (lv_at hl 1 rfl) ?_
    refine lv_aload_n hx hb dX4_field_38 rfl (lv_at hl 0 rfl) ?_
    refine k_callVi C hP hap hAA (c_X4_level l ev ad σ   _ rfl) Emb.same hap gz_X4_level qML_RX4_110 qIM_yX4_level qSE_yX4_level ⟨(Nat.le_of_ble_eq_true rfl), (Nat.le_of_ble_eq_true rfl)⟩ (q0 := 0) rfl (by decide) rfl rfl rfl rfl hl.1 rfl (Nat.le_of_ble_eq_true rfl) dX4_field_39 ⟨Nat.le_refl _, Nat.le_refl _⟩ (fun H locs hP => ?_)
    refine lv_isub hx hb dX4_field_42 ?_
    refine lv_aload_n hx hb dX4_field_43 rfl (lv_at hl 0 rfl) ?_
    refine r_get C hP (ci := 4) rfl uin_X4 0 (by decide) 0 (by decide) rfl qFL_RX4_67 rfl rfl dX4_field_44 ?_
    refine lv_iconst (v := 1) hx hb dX4_field_47 (by decide) ?_
    refine lv_iadd hx hb dX4_field_48 ?_
    obtain ⟨hg, h⟩ := k_gd h
    refine r_idiv hx hb dX4_field_49 (nz_ne hg) ?_
    refine lv_topi (fun x1 ex1 => ?_)
    have h := k_lt ex1 h
    refine lv_istore_n (lv' := [(3, .int x1), (0, .ref (ad 0)), (1, .int a1), (2, .int a2)]) hx hb dX4_field_50 rfl hl (by decide) rfl (fun ls hl => ?_)
    refine lv_iload_n hx hb dX4_field_51 rfl (lv_at hl 2 rfl) ?_
    refine lv_aload_n hx hb dX4_field_52 rfl (lv_at hl 1 rfl) ?_
    refine k_callVi C hP hap hAA (c_X4_level l ev ad σ   _ rfl) Emb.same hap gz_X4_level qML_RX4_110 qIM_yX4_level qSE_yX4_level ⟨(Nat.le_of_ble_eq_true rfl), (Nat.le_of_ble_eq_true rfl)⟩ (q0 := 0) rfl (by decide) rfl rfl rfl rfl hl.1 rfl (Nat.le_of_ble_eq_true rfl) dX4_field_53 ⟨Nat.le_refl _, Nat.le_refl _⟩ (fun H locs hP => ?_)
    refine lv_isub hx hb dX4_field_56 ?_
    refine lv_aload_n hx hb dX4_field_57 rfl (lv_at hl 1 rfl) ?_
    refine r_get C hP (ci := 4) rfl uin_X4 0 (by decide) 0 (by decide) rfl qFL_RX4_67 rfl rfl dX4_field_58 ?_
    refine lv_iconst (v := 1) hx hb dX4_field_61 (by decide) ?_
    refine lv_iadd hx hb dX4_field_62 ?_
    obtain ⟨hg, h⟩ := k_gd h
    refine r_irem hx hb dX4_field_63 (nz_ne hg) ?_
    refine lv_iconst (v := 1) hx hb dX4_field_64 (by decide) ?_
    refine lv_isub hx hb dX4_field_65 ?_
    refine lv_iload_n hx hb dX4_field_66 rfl (lv_at hl 3 rfl) ?_
    refine lv_iadd hx hb dX4_field_67 ?_
    refine lv_topi (fun x2 ex2 => ?_)
    have h := k_lt ex2 h
    refine lv_istore (lv' := [(4, .int x2), (3, .int x1), (0, .ref (ad 0)), (1, .int a1), (2, .int a2)]) hx hb dX4_field_68 hl (by decide) rfl (fun ls hl => ?_)
    refine lv_iload hx hb dX4_field_70 (lv_at hl 0 rfl) ?_
    refine lv_iconst (v := 0) hx hb dX4_field_72 (by decide) ?_
    refine lv_aload_n hx hb dX4_field_73 rfl (lv_at hl 2 rfl) ?_
    refine r_get C hP (ci := 4) rfl uin_X4 0 (by decide) 0 (by decide) rfl qFL_RX4_67 rfl rfl dX4_field_74 ?_
    refine lv_iconst (v := 1) hx hb dX4_field_77 (by decide) ?_
    refine lv_isub hx hb dX4_field_78 ?_
    refine k_callSi C hP hap hAA (c_X4_within l ev ad x2 0 ((m_w σ) - 1)   _ rfl) Emb.none (apart_0 _) gz_X4_within qML_RX4_63 qSM_yX4_within ⟨(Nat.le_of_ble_eq_true rfl), (Nat.le_of_ble_eq_true rfl)⟩ rfl hl.1 rfl (Nat.le_of_ble_eq_true rfl) dX4_field_79 ⟨Nat.le_refl _, Nat.le_refl _⟩ (fun H locs hP => ?_)
    refine r_ifz_eq (tgt := 97) hx hb dX4_field_82 (by decide) (fun c82 => ?_) (fun c82 => ?_)
    · have h := k_nf c82 h
      refine lv_iconst (v := (-1)) hx hb dX4_field_97 (by decide) ?_
      exact e_iret C hend hP (k_some h) rfl dX4_field_98
    · have h := k_if c82 h
      refine lv_iload_n hx hb dX4_field_85 rfl (lv_at hl 1 rfl) ?_
      refine lv_aload_n hx hb dX4_field_86 rfl (lv_at hl 2 rfl) ?_
      refine r_get C hP (ci := 4) rfl uin_X4 0 (by decide) 0 (by decide) rfl qFL_RX4_67 rfl rfl dX4_field_87 ?_
      refine lv_imul hx hb dX4_field_90 ?_
      refine lv_iload hx hb dX4_field_91 (lv_at hl 0 rfl) ?_
      refine lv_iadd hx hb dX4_field_93 ?_
      refine lv_goto (tgt := 98) hx hb dX4_field_94 (by decide) ?_
      exact e_iret C hend hP (k_some h) rfl dX4_field_98
  · have h := k_nf c5 h
    refine lv_iload_n hx hb dX4_field_8 rfl (lv_at hl 2 rfl) ?_
    refine lv_if_ne (tgt := 21) hx hb dX4_field_9 (by decide) (fun c9 => ?_) (fun c9 => ?_)
    · have h := k_nf c9 h
      refine lv_iload_n hx hb dX4_field_21 rfl (lv_at hl 1 rfl) ?_
      refine lv_istore_n (lv' := [(3, .int a1), (0, .ref (ad 0)), (1, .int a1), (2, .int a2)]) hx hb dX4_field_22 rfl hl (by decide) rfl (fun ls hl => ?_)
      refine lv_aload_n hx hb dX4_field_23 rfl (lv_at hl 1 rfl) ?_
      refine lv_iload_n hx hb dX4_field_24 rfl (lv_at hl 0 rfl) ?_
      refine k_callVi C hP hap hAA (c_X4_isField l ev ad σ a1   _ rfl) Emb.same hap gz_X4_isField qML_RX4_116 qIM_yX4_isField qSE_yX4_isField ⟨(Nat.le_of_ble_eq_true rfl), (Nat.le_of_ble_eq_true rfl)⟩ (q0 := 0) rfl (by decide) rfl rfl rfl rfl hl.1 rfl (Nat.le_of_ble_eq_true rfl) dX4_field_25 ⟨Nat.le_refl _, Nat.le_refl _⟩ (fun H locs hP => ?_)
      refine r_ifz_eq (tgt := 35) hx hb dX4_field_28 (by decide) (fun c28 => ?_) (fun c28 => ?_)
      · have h := k_nf c28 h
        refine lv_iconst (v := (-1)) hx hb dX4_field_35 (by decide) ?_
        exact e_iret C hend hP (k_some h) rfl dX4_field_36
      · have h := k_if c28 h
        refine lv_iload_n hx hb dX4_field_31 rfl (lv_at hl 0 rfl) ?_
        refine lv_goto (tgt := 36) hx hb dX4_field_32 (by decide) ?_
        exact e_iret C hend hP (k_some h) rfl dX4_field_36
    · have h := k_if c9 h
      refine lv_iload_n hx hb dX4_field_12 rfl (lv_at hl 1 rfl) ?_
      refine lv_aload_n hx hb dX4_field_13 rfl (lv_at hl 0 rfl) ?_
      refine r_get C hP (ci := 4) rfl uin_X4 0 (by decide) 0 (by decide) rfl qFL_RX4_67 rfl rfl dX4_field_14 ?_
      refine lv_isub hx hb dX4_field_17 ?_
      refine lv_goto (tgt := 22) hx hb dX4_field_18 (by decide) ?_
      refine lv_topi (fun x3 ex3 => ?_)
      have h := k_lt ex3 h
      refine lv_istore_n (lv' := [(3, .int x3), (0, .ref (ad 0)), (1, .int a1), (2, .int a2)]) hx hb dX4_field_22 rfl hl (by decide) rfl (fun ls hl => ?_)
      refine lv_aload_n hx hb dX4_field_23 rfl (lv_at hl 1 rfl) ?_
      refine lv_iload_n hx hb dX4_field_24 rfl (lv_at hl 0 rfl) ?_
      refine k_callVi C hP hap hAA (c_X4_isField l ev ad σ x3   _ rfl) Emb.same hap gz_X4_isField qML_RX4_116 qIM_yX4_isField qSE_yX4_isField ⟨(Nat.le_of_ble_eq_true rfl), (Nat.le_of_ble_eq_true rfl)⟩ (q0 := 0) rfl (by decide) rfl rfl rfl rfl hl.1 rfl (Nat.le_of_ble_eq_true rfl) dX4_field_25 ⟨Nat.le_refl _, Nat.le_refl _⟩ (fun H locs hP => ?_)
      refine r_ifz_eq (tgt := 35) hx hb dX4_field_28 (by decide) (fun c28 => ?_) (fun c28 => ?_)
      · have h := k_nf c28 h
        refine lv_iconst (v := (-1)) hx hb dX4_field_35 (by decide) ?_
        exact e_iret C hend hP (k_some h) rfl dX4_field_36
      · have h := k_if c28 h
        refine lv_iload_n hx hb dX4_field_31 rfl (lv_at hl 0 rfl) ?_
        refine lv_goto (tgt := 36) hx hb dX4_field_32 (by decide) ?_
        exact e_iret C hend hP (k_some h) rfl dX4_field_36
def f_X4_shuts_L24_b (σ : MM) (x1 : Int32) (k61 : Option (Int32)) (rec24 : Int32 → Option (Int32)) (x2 : Int32) : Option (Int32) :=
  if 2 ≤ x2 then k61 else ob (f_X4_field σ x1 x2) (fun x3 => if x3 = (-1) then lt (x2 + 1) (fun x4 => rec24 x4) else ob (f_X4_field σ x1 x2) (fun x5 => ob (f_X4_hedges σ x5) (fun x6 => if x6 = 3 then some x1 else lt (x2 + 1) (fun x7 => rec24 x7))))
def f_X4_shuts_L24 (σ : MM) (x1 : Int32) (k61 : Option (Int32)) (x2 : Int32) : Option (Int32) :=
  lp (fun _ => none) (f_X4_shuts_L24_b σ x1 k61) FU x2
def f_X4_shuts_L2_b (σ : MM)  (rec2 : Int32 → Option (Int32)) (x1 : Int32) : Option (Int32) :=
  if (f_X4_edges σ) ≤ x1 then some (-1) else gd (inb x1 40) (if ((m_hedge σ) (Int32.toNatClampNeg x1)) = 0 then f_X4_shuts_L24 σ x1 (lt (x1 + 1) (fun x8 => rec2 x8)) 0 else lt (x1 + 1) (fun x9 => rec2 x9))
def f_X4_shuts_L2 (σ : MM)  (x1 : Int32) : Option (Int32) :=
  lp (fun _ => none) (f_X4_shuts_L2_b σ ) FU x1
def f_X4_shuts (σ : MM) : Option (Int32) :=
  f_X4_shuts_L2 σ 0
set_option maxHeartbeats 4000000 in
set_option maxRecDepth 100000 in
theorem c_X4_shuts (l : Launch) (ev : EV) (ad : Nat → Nat) (σ : MM)   (r : Int32)  (h : f_X4_shuts σ = some r) : Ct l yX4_shuts prog_6_method_71_code 3 (Option.some Jvm.ClassFile.FieldType.int) (rmk 3 67) ev 13 ad (mw ev ad σ) (mw ev ad σ) [.ref (ad 0)] (some (.int r)) := by
  refine Ct.of (by decide +kernel) (Nat.le_of_ble_eq_true rfl) ?_
  intro p e s m args below meth c Qc C hap hP hend ls hl
  have hAA : ∀ j, j < 13 → inA ad 13 (ad j) := fun j hj => ⟨j, hj, rfl⟩
  have hx := C.1
  have hb := C.2.1
  have hl : lv_has ls 3 [(0, .ref (ad 0))] := hl
  have h := (f_X4_shuts.eq_1 _ ).symm.trans h
  refine lv_iconst (v := 0) hx hb dX4_shuts_0 (by decide) ?_
  refine lv_istore_n (lv' := [(1, .int 0), (0, .ref (ad 0))]) hx hb dX4_shuts_1 rfl hl (by decide) rfl (fun ls hl => ?_)
  have hL2 : ∀ (n : Nat) (x1 : Int32) (H : Heap) (locs : List Loc) (ls : Array Slot), lp (fun _ => none) (f_X4_shuts_L2_b σ ) n x1 = some r → PS ev 13 ad (mw ev ad σ) (inA ad 13) s H locs → lv_has ls 3 [(0, .ref (ad 0)), (1, .int x1)] → WW ev p l e (rmk 3 67) s m args below meth c Qc ad 13 H locs 2 ls [] := by
    intro n
    induction n with
    | zero =>
      intro x1 H locs ls h; exact k_none h
    | succ n ih =>
      intro x1 H locs ls h hP hl
      have h : f_X4_shuts_L2_b σ  (lp (fun _ => none) (f_X4_shuts_L2_b σ ) n) x1 = some r := h
      have h := (f_X4_shuts_L2_b.eq_1 _ _ _ ).symm.trans h
      refine lv_iload_n hx hb dX4_shuts_2 rfl (lv_at hl 1 rfl) ?_
      refine lv_aload_n hx hb dX4_shuts_3 rfl (lv_at hl 0 rfl) ?_
      refine k_callVi C hP hap hAA (c_X4_edges l ev ad σ   _ rfl) Emb.same hap gz_X4_edges qML_RX4_107 qIM_yX4_edges qSE_yX4_edges ⟨(Nat.le_of_ble_eq_true rfl), (Nat.le_of_ble_eq_true rfl)⟩ (q0 := 0) rfl (by decide) rfl rfl rfl rfl hl.1 rfl (Nat.le_of_ble_eq_true rfl) dX4_shuts_4 ⟨Nat.le_refl _, Nat.le_refl _⟩ (fun H locs hP => ?_)
      refine lv_icmp_ge (tgt := 67) hx hb dX4_shuts_7 (by decide) (fun c7 => ?_) (fun c7 => ?_)
      · have h := k_if c7 h
        refine lv_iconst (v := (-1)) hx hb dX4_shuts_67 (by decide) ?_
        exact e_iret C hend hP (k_some h) rfl dX4_shuts_68
      · have h := k_nf c7 h
        refine lv_aload_n hx hb dX4_shuts_10 rfl (lv_at hl 0 rfl) ?_
        refine r_get C hP (ci := 4) rfl uin_X4 2 (by decide) 0 (by decide) rfl qFL_RX4_7 rfl rfl dX4_shuts_11 ?_
        refine lv_iload_n hx hb dX4_shuts_14 rfl (lv_at hl 1 rfl) ?_
        obtain ⟨hg, h⟩ := k_gd h
        refine r_zald C hP 1 (by decide) rfl hg dX4_shuts_15 ?_
        refine lv_if_eq (tgt := 22) hx hb dX4_shuts_16 (by decide) (fun c16 => ?_) (fun c16 => ?_)
        · have h := k_if c16 h
          refine lv_iconst (v := 0) hx hb dX4_shuts_22 (by decide) ?_
          refine lv_istore_n (lv' := [(2, .int 0), (0, .ref (ad 0)), (1, .int x1)]) hx hb dX4_shuts_23 rfl hl (by decide) rfl (fun ls hl => ?_)
          have hL24 : ∀ (k61 : Option (Int32)) (hk61 : ∀  (H : Heap) (locs : List Loc) (ls : Array Slot), k61  = some r → PS ev 13 ad (mw ev ad σ) (inA ad 13) s H locs → lv_has ls 3 [(0, .ref (ad 0)), (1, .int x1)] → WW ev p l e (rmk 3 67) s m args below meth c Qc ad 13 H locs 61 ls []) (n : Nat) (x2 : Int32) (H : Heap) (locs : List Loc) (ls : Array Slot), lp (fun _ => none) (f_X4_shuts_L24_b σ x1 k61) n x2 = some r → PS ev 13 ad (mw ev ad σ) (inA ad 13) s H locs → lv_has ls 3 [(0, .ref (ad 0)), (1, .int x1), (2, .int x2)] → WW ev p l e (rmk 3 67) s m args below meth c Qc ad 13 H locs 24 ls [] := by
            intro k61 hk61 n
            induction n with
            | zero =>
              intro x2 H locs ls h; exact k_none h
            | succ n ih =>
              intro x2 H locs ls h hP hl
              have h : f_X4_shuts_L24_b σ x1 k61 (lp (fun _ => none) (f_X4_shuts_L24_b σ x1 k61) n) x2 = some r := h
              have h := (f_X4_shuts_L24_b.eq_1 _ _ _ _ _ ).symm.trans h
              refine lv_iload_n hx hb dX4_shuts_24 rfl (lv_at hl 2 rfl) ?_
              refine lv_iconst (v := 2) hx hb dX4_shuts_25 (by decide) ?_
              refine lv_icmp_ge (tgt := 61) hx hb dX4_shuts_26 (by decide) (fun c26 => ?_) (fun c26 => ?_)
              · have h := k_if c26 h
                exact hk61 _ _ _ h hP (lv_sub hl [0, 1] rfl)
              · have h := k_nf c26 h
                refine lv_aload_n hx hb dX4_shuts_29 rfl (lv_at hl 0 rfl) ?_
                refine lv_iload_n hx hb dX4_shuts_30 rfl (lv_at hl 1 rfl) ?_
                refine lv_iload_n hx hb dX4_shuts_31 rfl (lv_at hl 2 rfl) ?_
                obtain ⟨x3, h1, h⟩ := k_ob h
                refine k_callVi C hP hap hAA (c_X4_field l ev ad σ x1 x2   _ h1) Emb.same hap gz_X4_field qML_RX4_119 qIM_yX4_field qSE_yX4_field ⟨(Nat.le_of_ble_eq_true rfl), (Nat.le_of_ble_eq_true rfl)⟩ (q0 := 0) rfl (by decide) rfl rfl rfl rfl hl.1 rfl (Nat.le_of_ble_eq_true rfl) dX4_shuts_32 ⟨Nat.le_refl _, Nat.le_refl _⟩ (fun H locs hP => ?_)
                refine lv_iconst (v := (-1)) hx hb dX4_shuts_35 (by decide) ?_
                refine lv_icmp_eq (tgt := 55) hx hb dX4_shuts_36 (by decide) (fun c36 => ?_) (fun c36 => ?_)
                · have h := k_if c36 h
                  obtain ⟨x4, ex4, h⟩ := k_ltx h
                  refine lv_iinc (v := x4) (lv' := [(2, .int x4), (0, .ref (ad 0)), (1, .int x1)]) hx hb dX4_shuts_55 hl (k := 2) rfl (by rw [ex4]; rfl) (by decide) rfl (fun ls hl => ?_)
                  refine lv_goto (tgt := 24) hx hb dX4_shuts_58 (by decide) ?_
                  exact ih _ _ _ _ h hP (lv_sub hl [1, 2, 0] rfl)
                · have h := k_nf c36 h
                  refine lv_aload_n hx hb dX4_shuts_39 rfl (lv_at hl 0 rfl) ?_
                  refine lv_aload_n hx hb dX4_shuts_40 rfl (lv_at hl 0 rfl) ?_
                  refine lv_iload_n hx hb dX4_shuts_41 rfl (lv_at hl 1 rfl) ?_
                  refine lv_iload_n hx hb dX4_shuts_42 rfl (lv_at hl 2 rfl) ?_
                  obtain ⟨x5, h1, h⟩ := k_ob h
                  refine k_callVi C hP hap hAA (c_X4_field l ev ad σ x1 x2   _ h1) Emb.same hap gz_X4_field qML_RX4_119 qIM_yX4_field qSE_yX4_field ⟨(Nat.le_of_ble_eq_true rfl), (Nat.le_of_ble_eq_true rfl)⟩ (q0 := 0) rfl (by decide) rfl rfl rfl rfl hl.1 rfl (Nat.le_of_ble_eq_true rfl) dX4_shuts_43 ⟨Nat.le_refl _, Nat.le_refl _⟩ (fun H locs hP => ?_)
                  obtain ⟨x6, h1, h⟩ := k_ob h
                  refine k_callVi C hP hap hAA (c_X4_hedges l ev ad σ x5   _ h1) Emb.same hap gz_X4_hedges qML_RX4_196 qIM_yX4_hedges qSE_yX4_hedges ⟨(Nat.le_of_ble_eq_true rfl), (Nat.le_of_ble_eq_true rfl)⟩ (q0 := 0) rfl (by decide) rfl rfl rfl rfl hl.1 rfl (Nat.le_of_ble_eq_true rfl) dX4_shuts_46 ⟨Nat.le_refl _, Nat.le_refl _⟩ (fun H locs hP => ?_)
                  refine lv_iconst (v := 3) hx hb dX4_shuts_49 (by decide) ?_
                  refine lv_icmp_ne (tgt := 55) hx hb dX4_shuts_50 (by decide) (fun c50 => ?_) (fun c50 => ?_)
                  · have h := k_nf c50 h
                    obtain ⟨x7, ex7, h⟩ := k_ltx h
                    refine lv_iinc (v := x7) (lv' := [(2, .int x7), (0, .ref (ad 0)), (1, .int x1)]) hx hb dX4_shuts_55 hl (k := 2) rfl (by rw [ex7]; rfl) (by decide) rfl (fun ls hl => ?_)
                    refine lv_goto (tgt := 24) hx hb dX4_shuts_58 (by decide) ?_
                    exact ih _ _ _ _ h hP (lv_sub hl [1, 2, 0] rfl)
                  · have h := k_if c50 h
                    refine lv_iload_n hx hb dX4_shuts_53 rfl (lv_at hl 1 rfl) ?_
                    exact e_iret C hend hP (k_some h) rfl dX4_shuts_54
          refine hL24 _ (fun  H locs ls h hP hl => ?_) FU _ _ _ _ h hP (lv_sub hl [1, 2, 0] rfl)
          obtain ⟨x8, ex8, h⟩ := k_ltx h
          refine lv_iinc (v := x8) (lv' := [(1, .int x8), (0, .ref (ad 0))]) hx hb dX4_shuts_61 hl (k := 1) rfl (by rw [ex8]; rfl) (by decide) rfl (fun ls hl => ?_)
          refine lv_goto (tgt := 2) hx hb dX4_shuts_64 (by decide) ?_
          exact ih _ _ _ _ h hP (lv_sub hl [1, 0] rfl)
        · have h := k_nf c16 h
          refine lv_goto (tgt := 61) hx hb dX4_shuts_19 (by decide) ?_
          obtain ⟨x9, ex9, h⟩ := k_ltx h
          refine lv_iinc (v := x9) (lv' := [(1, .int x9), (0, .ref (ad 0))]) hx hb dX4_shuts_61 hl (k := 1) rfl (by rw [ex9]; rfl) (by decide) rfl (fun ls hl => ?_)
          refine lv_goto (tgt := 2) hx hb dX4_shuts_64 (by decide) ?_
          exact ih _ _ _ _ h hP (lv_sub hl [1, 0] rfl)
  exact hL2 FU _ _ _ _ h hP (lv_sub hl [1, 0] rfl)
def f_X4_ith_L4_b (σ : MM)  (rec4 : Int32 → Int32 → Option (Int32)) (x1 : Int32) (x2 : Int32) : Option (Int32) :=
  if 116 ≤ x2 then some (-1) else if (f_X4_isMove σ x2) = true then ob (f_X4_mayBe σ x2) (fun b4 => if b4 = true then if x1 = 0 then some x2 else lt (x1 + (-1)) (fun x5 => lt (x2 + 1) (fun x6 => rec4 x5 x6)) else lt (x2 + 1) (fun x7 => rec4 x1 x7)) else lt (x2 + 1) (fun x3 => rec4 x1 x3)
def f_X4_ith_L4 (σ : MM)  (x1 : Int32) (x2 : Int32) : Option (Int32) :=
  lp (fun _ _ => none) (f_X4_ith_L4_b σ ) FU x1 x2
def f_X4_ith (σ : MM) (a1 : Int32) : Option (Int32) :=
  f_X4_ith_L4 σ a1 0
set_option maxHeartbeats 4000000 in
set_option maxRecDepth 100000 in
theorem c_X4_ith (l : Launch) (ev : EV) (ad : Nat → Nat) (σ : MM) (a1 : Int32)   (r : Int32)  (h : f_X4_ith σ a1 = some r) : Ct l yX4_ith prog_6_method_44_code 4 (Option.some Jvm.ClassFile.FieldType.int) (rmk 4 88) ev 13 ad (mw ev ad σ) (mw ev ad σ) [.ref (ad 0), .int a1] (some (.int r)) := by
  refine Ct.of (by decide +kernel) (Nat.le_of_ble_eq_true rfl) ?_
  intro p e s m args below meth c Qc C hap hP hend ls hl
  have hAA : ∀ j, j < 13 → inA ad 13 (ad j) := fun j hj => ⟨j, hj, rfl⟩
  have hx := C.1
  have hb := C.2.1
  have hl : lv_has ls 4 [(0, .ref (ad 0)), (1, .int a1)] := hl
  have h := (f_X4_ith.eq_1 _ _ ).symm.trans h
  refine lv_iload_n hx hb dX4_ith_0 rfl (lv_at hl 1 rfl) ?_
  refine lv_istore_n (lv' := [(2, .int a1), (0, .ref (ad 0)), (1, .int a1)]) hx hb dX4_ith_1 rfl hl (by decide) rfl (fun ls hl => ?_)
  refine lv_iconst (v := 0) hx hb dX4_ith_2 (by decide) ?_
  refine lv_istore_n (lv' := [(3, .int 0), (2, .int a1), (0, .ref (ad 0)), (1, .int a1)]) hx hb dX4_ith_3 rfl hl (by decide) rfl (fun ls hl => ?_)
  have hL4 : ∀ (n : Nat) (x1 : Int32) (x2 : Int32) (H : Heap) (locs : List Loc) (ls : Array Slot), lp (fun _ _ => none) (f_X4_ith_L4_b σ ) n x1 x2 = some r → PS ev 13 ad (mw ev ad σ) (inA ad 13) s H locs → lv_has ls 4 [(0, .ref (ad 0)), (2, .int x1), (3, .int x2)] → WW ev p l e (rmk 4 88) s m args below meth c Qc ad 13 H locs 4 ls [] := by
    intro n
    induction n with
    | zero =>
      intro x1 x2 H locs ls h; exact k_none h
    | succ n ih =>
      intro x1 x2 H locs ls h hP hl
      have h : f_X4_ith_L4_b σ  (lp (fun _ _ => none) (f_X4_ith_L4_b σ ) n) x1 x2 = some r := h
      have h := (f_X4_ith_L4_b.eq_1 _ _ _ _ ).symm.trans h
      refine lv_iload_n hx hb dX4_ith_4 rfl (lv_at hl 2 rfl) ?_
      refine lv_bipush (v := 116) hx hb dX4_ith_5 (by decide) ?_
      refine lv_icmp_ge (tgt := 44) hx hb dX4_ith_7 (by decide) (fun c7 => ?_) (fun c7 => ?_)
      · have h := k_if c7 h
        refine lv_iconst (v := (-1)) hx hb dX4_ith_44 (by decide) ?_
        exact e_iret C hend hP (k_some h) rfl dX4_ith_45
      · have h := k_nf c7 h
        refine lv_aload_n hx hb dX4_ith_10 rfl (lv_at hl 0 rfl) ?_
        refine lv_iload_n hx hb dX4_ith_11 rfl (lv_at hl 2 rfl) ?_
        refine k_callVi C hP hap hAA (c_X4_isMove l ev ad σ x2   _ rfl) Emb.same hap gz_X4_isMove qML_RX4_173 qIM_yX4_isMove qSE_yX4_isMove ⟨(Nat.le_of_ble_eq_true rfl), (Nat.le_of_ble_eq_true rfl)⟩ (q0 := 0) rfl (by decide) rfl rfl rfl rfl hl.1 rfl (Nat.le_of_ble_eq_true rfl) dX4_ith_12 ⟨Nat.le_refl _, Nat.le_refl _⟩ (fun H locs hP => ?_)
        refine r_ifz_eq (tgt := 38) hx hb dX4_ith_15 (by decide) (fun c15 => ?_) (fun c15 => ?_)
        · have h := k_nf c15 h
          obtain ⟨x3, ex3, h⟩ := k_ltx h
          refine lv_iinc (v := x3) (lv' := [(3, .int x3), (0, .ref (ad 0)), (2, .int x1)]) hx hb dX4_ith_38 hl (k := 2) rfl (by rw [ex3]; rfl) (by decide) rfl (fun ls hl => ?_)
          refine lv_goto (tgt := 4) hx hb dX4_ith_41 (by decide) ?_
          exact ih _ _ _ _ _ h hP (lv_sub hl [1, 2, 0] rfl)
        · have h := k_if c15 h
          refine lv_aload_n hx hb dX4_ith_18 rfl (lv_at hl 0 rfl) ?_
          refine lv_iload_n hx hb dX4_ith_19 rfl (lv_at hl 2 rfl) ?_
          obtain ⟨b4, h1, h⟩ := k_ob h
          refine k_callVi C hP hap hAA (c_X4_mayBe l ev ad σ x2   _ h1) Emb.same hap gz_X4_mayBe qML_RX4_176 qIM_yX4_mayBe qSE_yX4_mayBe ⟨(Nat.le_of_ble_eq_true rfl), (Nat.le_of_ble_eq_true rfl)⟩ (q0 := 0) rfl (by decide) rfl rfl rfl rfl hl.1 rfl (Nat.le_of_ble_eq_true rfl) dX4_ith_20 ⟨Nat.le_refl _, Nat.le_refl _⟩ (fun H locs hP => ?_)
          refine r_ifz_ne (tgt := 29) hx hb dX4_ith_23 (by decide) (fun c23 => ?_) (fun c23 => ?_)
          · have h := k_if c23 h
            refine lv_iload_n hx hb dX4_ith_29 rfl (lv_at hl 1 rfl) ?_
            refine lv_if_ne (tgt := 35) hx hb dX4_ith_30 (by decide) (fun c30 => ?_) (fun c30 => ?_)
            · have h := k_nf c30 h
              obtain ⟨x5, ex5, h⟩ := k_ltx h
              refine lv_iinc (v := x5) (lv' := [(2, .int x5), (0, .ref (ad 0)), (3, .int x2)]) hx hb dX4_ith_35 hl (k := 1) rfl (by rw [ex5]; rfl) (by decide) rfl (fun ls hl => ?_)
              obtain ⟨x6, ex6, h⟩ := k_ltx h
              refine lv_iinc (v := x6) (lv' := [(3, .int x6), (2, .int x5), (0, .ref (ad 0))]) hx hb dX4_ith_38 hl (k := 2) rfl (by rw [ex6]; rfl) (by decide) rfl (fun ls hl => ?_)
              refine lv_goto (tgt := 4) hx hb dX4_ith_41 (by decide) ?_
              exact ih _ _ _ _ _ h hP (lv_sub hl [2, 1, 0] rfl)
            · have h := k_if c30 h
              refine lv_iload_n hx hb dX4_ith_33 rfl (lv_at hl 2 rfl) ?_
              exact e_iret C hend hP (k_some h) rfl dX4_ith_34
          · have h := k_nf c23 h
            refine lv_goto (tgt := 38) hx hb dX4_ith_26 (by decide) ?_
            obtain ⟨x7, ex7, h⟩ := k_ltx h
            refine lv_iinc (v := x7) (lv' := [(3, .int x7), (0, .ref (ad 0)), (2, .int x1)]) hx hb dX4_ith_38 hl (k := 2) rfl (by rw [ex7]; rfl) (by decide) rfl (fun ls hl => ?_)
            refine lv_goto (tgt := 4) hx hb dX4_ith_41 (by decide) ?_
            exact ih _ _ _ _ _ h hP (lv_sub hl [1, 2, 0] rfl)
  exact hL4 FU _ _ _ _ _ h hP (lv_sub hl [2, 1, 0] rfl)
def f_X4_isRim (σ : MM) (a1 : Int32) : Option (Bool) :=
  ob (f_X4_field σ a1 0) (fun x1 => if x1 = (-1) then some true else ob (f_X4_field σ a1 1) (fun x2 => if x2 = (-1) then some true else some false))
set_option maxHeartbeats 4000000 in
set_option maxRecDepth 100000 in
theorem c_X4_isRim (l : Launch) (ev : EV) (ad : Nat → Nat) (σ : MM) (a1 : Int32)   (r : Bool)  (h : f_X4_isRim σ a1 = some r) : Ct l yX4_isRim prog_6_method_28_code 2 (Option.some Jvm.ClassFile.FieldType.boolean) (rmk 3 67) ev 13 ad (mw ev ad σ) (mw ev ad σ) [.ref (ad 0), .int a1] (some (.int (bi r))) := by
  refine Ct.of (by decide +kernel) (Nat.le_of_ble_eq_true rfl) ?_
  intro p e s m args below meth c Qc C hap hP hend ls hl
  have hAA : ∀ j, j < 13 → inA ad 13 (ad j) := fun j hj => ⟨j, hj, rfl⟩
  have hx := C.1
  have hb := C.2.1
  have hl : lv_has ls 2 [(0, .ref (ad 0)), (1, .int a1)] := hl
  have h := (f_X4_isRim.eq_1 _ _ ).symm.trans h
  refine lv_aload_n hx hb dX4_isRim_0 rfl (lv_at hl 0 rfl) ?_
  refine lv_iload_n hx hb dX4_isRim_1 rfl (lv_at hl 1 rfl) ?_
  refine lv_iconst (v := 0) hx hb dX4_isRim_2 (by decide) ?_
  obtain ⟨x1, h1, h⟩ := k_ob h
  refine k_callVi C hP hap hAA (c_X4_field l ev ad σ a1 0   _ h1) Emb.same hap gz_X4_field qML_RX4_119 qIM_yX4_field qSE_yX4_field ⟨(Nat.le_of_ble_eq_true rfl), (Nat.le_of_ble_eq_true rfl)⟩ (q0 := 0) rfl (by decide) rfl rfl rfl rfl hl.1 rfl (Nat.le_of_ble_eq_true rfl) dX4_isRim_3 ⟨Nat.le_refl _, Nat.le_refl _⟩ (fun H locs hP => ?_)
  refine lv_iconst (v := (-1)) hx hb dX4_isRim_6 (by decide) ?_
  refine lv_icmp_eq (tgt := 20) hx hb dX4_isRim_7 (by decide) (fun c7 => ?_) (fun c7 => ?_)
  · have h := k_if c7 h
    refine lv_iconst (v := 1) hx hb dX4_isRim_20 (by decide) ?_
    refine lv_goto (tgt := 25) hx hb dX4_isRim_21 (by decide) ?_
    exact e_zret C hend hP (k_some h) rfl dX4_isRim_25 rfl
  · have h := k_nf c7 h
    refine lv_aload_n hx hb dX4_isRim_10 rfl (lv_at hl 0 rfl) ?_
    refine lv_iload_n hx hb dX4_isRim_11 rfl (lv_at hl 1 rfl) ?_
    refine lv_iconst (v := 1) hx hb dX4_isRim_12 (by decide) ?_
    obtain ⟨x2, h1, h⟩ := k_ob h
    refine k_callVi C hP hap hAA (c_X4_field l ev ad σ a1 1   _ h1) Emb.same hap gz_X4_field qML_RX4_119 qIM_yX4_field qSE_yX4_field ⟨(Nat.le_of_ble_eq_true rfl), (Nat.le_of_ble_eq_true rfl)⟩ (q0 := 0) rfl (by decide) rfl rfl rfl rfl hl.1 rfl (Nat.le_of_ble_eq_true rfl) dX4_isRim_13 ⟨Nat.le_refl _, Nat.le_refl _⟩ (fun H locs hP => ?_)
    refine lv_iconst (v := (-1)) hx hb dX4_isRim_16 (by decide) ?_
    refine lv_icmp_ne (tgt := 24) hx hb dX4_isRim_17 (by decide) (fun c17 => ?_) (fun c17 => ?_)
    · have h := k_nf c17 h
      refine lv_iconst (v := 0) hx hb dX4_isRim_24 (by decide) ?_
      exact e_zret C hend hP (k_some h) rfl dX4_isRim_25 rfl
    · have h := k_if c17 h
      refine lv_iconst (v := 1) hx hb dX4_isRim_20 (by decide) ?_
      refine lv_goto (tgt := 25) hx hb dX4_isRim_21 (by decide) ?_
      exact e_zret C hend hP (k_some h) rfl dX4_isRim_25 rfl
def f_X4_hasRim_L2_b (σ : MM) (a1 : Int32)  (rec2 : Int32 → Option (Bool)) (x1 : Int32) : Option (Bool) :=
  if 4 ≤ x1 then some false else ob (f_X4_edge σ a1 x1) (fun x2 => ob (f_X4_isRim σ x2) (fun b3 => if b3 = true then some true else lt (x1 + 1) (fun x4 => rec2 x4)))
def f_X4_hasRim_L2 (σ : MM) (a1 : Int32)  (x1 : Int32) : Option (Bool) :=
  lp (fun _ => none) (f_X4_hasRim_L2_b σ a1 ) FU x1
def f_X4_hasRim (σ : MM) (a1 : Int32) : Option (Bool) :=
  f_X4_hasRim_L2 σ a1 0
set_option maxHeartbeats 4000000 in
set_option maxRecDepth 100000 in
theorem c_X4_hasRim (l : Launch) (ev : EV) (ad : Nat → Nat) (σ : MM) (a1 : Int32)   (r : Bool)  (h : f_X4_hasRim σ a1 = some r) : Ct l yX4_hasRim prog_6_method_29_code 3 (Option.some Jvm.ClassFile.FieldType.boolean) (rmk 4 88) ev 13 ad (mw ev ad σ) (mw ev ad σ) [.ref (ad 0), .int a1] (some (.int (bi r))) := by
  refine Ct.of (by decide +kernel) (Nat.le_of_ble_eq_true rfl) ?_
  intro p e s m args below meth c Qc C hap hP hend ls hl
  have hAA : ∀ j, j < 13 → inA ad 13 (ad j) := fun j hj => ⟨j, hj, rfl⟩
  have hx := C.1
  have hb := C.2.1
  have hl : lv_has ls 3 [(0, .ref (ad 0)), (1, .int a1)] := hl
  have h := (f_X4_hasRim.eq_1 _ _ ).symm.trans h
  refine lv_iconst (v := 0) hx hb dX4_hasRim_0 (by decide) ?_
  refine lv_istore_n (lv' := [(2, .int 0), (0, .ref (ad 0)), (1, .int a1)]) hx hb dX4_hasRim_1 rfl hl (by decide) rfl (fun ls hl => ?_)
  have hL2 : ∀ (n : Nat) (x1 : Int32) (H : Heap) (locs : List Loc) (ls : Array Slot), lp (fun _ => none) (f_X4_hasRim_L2_b σ a1 ) n x1 = some r → PS ev 13 ad (mw ev ad σ) (inA ad 13) s H locs → lv_has ls 3 [(0, .ref (ad 0)), (1, .int a1), (2, .int x1)] → WW ev p l e (rmk 4 88) s m args below meth c Qc ad 13 H locs 2 ls [] := by
    intro n
    induction n with
    | zero =>
      intro x1 H locs ls h; exact k_none h
    | succ n ih =>
      intro x1 H locs ls h hP hl
      have h : f_X4_hasRim_L2_b σ a1  (lp (fun _ => none) (f_X4_hasRim_L2_b σ a1 ) n) x1 = some r := h
      have h := (f_X4_hasRim_L2_b.eq_1 _ _ _ _ ).symm.trans h
      refine lv_iload_n hx hb dX4_hasRim_2 rfl (lv_at hl 2 rfl) ?_
      refine lv_iconst (v := 4) hx hb dX4_hasRim_3 (by decide) ?_
      refine lv_icmp_ge (tgt := 28) hx hb dX4_hasRim_4 (by decide) (fun c4 => ?_) (fun c4 => ?_)
      · have h := k_if c4 h
        refine lv_iconst (v := 0) hx hb dX4_hasRim_28 (by decide) ?_
        exact e_zret C hend hP (k_some h) rfl dX4_hasRim_29 rfl
      · have h := k_nf c4 h
        refine lv_aload_n hx hb dX4_hasRim_7 rfl (lv_at hl 0 rfl) ?_
        refine lv_aload_n hx hb dX4_hasRim_8 rfl (lv_at hl 0 rfl) ?_
        refine lv_iload_n hx hb dX4_hasRim_9 rfl (lv_at hl 1 rfl) ?_
        refine lv_iload_n hx hb dX4_hasRim_10 rfl (lv_at hl 2 rfl) ?_
        obtain ⟨x2, h1, h⟩ := k_ob h
        refine k_callVi C hP hap hAA (c_X4_edge l ev ad σ a1 x1   _ h1) Emb.same hap gz_X4_edge qML_RX4_122 qIM_yX4_edge qSE_yX4_edge ⟨(Nat.le_of_ble_eq_true rfl), (Nat.le_of_ble_eq_true rfl)⟩ (q0 := 0) rfl (by decide) rfl rfl rfl rfl hl.1 rfl (Nat.le_of_ble_eq_true rfl) dX4_hasRim_11 ⟨Nat.le_refl _, Nat.le_refl _⟩ (fun H locs hP => ?_)
        obtain ⟨b3, h1, h⟩ := k_ob h
        refine k_callVi C hP hap hAA (c_X4_isRim l ev ad σ x2   _ h1) Emb.same hap gz_X4_isRim qML_RX4_125 qIM_yX4_isRim qSE_yX4_isRim ⟨(Nat.le_of_ble_eq_true rfl), (Nat.le_of_ble_eq_true rfl)⟩ (q0 := 0) rfl (by decide) rfl rfl rfl rfl hl.1 rfl (Nat.le_of_ble_eq_true rfl) dX4_hasRim_14 ⟨Nat.le_refl _, Nat.le_refl _⟩ (fun H locs hP => ?_)
        refine r_ifz_eq (tgt := 22) hx hb dX4_hasRim_17 (by decide) (fun c17 => ?_) (fun c17 => ?_)
        · have h := k_nf c17 h
          obtain ⟨x4, ex4, h⟩ := k_ltx h
          refine lv_iinc (v := x4) (lv' := [(2, .int x4), (0, .ref (ad 0)), (1, .int a1)]) hx hb dX4_hasRim_22 hl (k := 2) rfl (by rw [ex4]; rfl) (by decide) rfl (fun ls hl => ?_)
          refine lv_goto (tgt := 2) hx hb dX4_hasRim_25 (by decide) ?_
          exact ih _ _ _ _ h hP (lv_sub hl [1, 2, 0] rfl)
        · have h := k_if c17 h
          refine lv_iconst (v := 1) hx hb dX4_hasRim_20 (by decide) ?_
          exact e_zret C hend hP (k_some h) rfl dX4_hasRim_21 rfl
  exact hL2 FU _ _ _ _ h hP (lv_sub hl [1, 2, 0] rfl)
