/-! functions read off, and their contracts: by program (wip/whole/gen2.py) -/
def f_X4_element (σ : MM) (a1 : Int32) (a2 : Int32) : Option (Int64) :=
  if (f_X4_isShelf a1) = true then ob (f_X4_isRow σ a1) (fun b1 => if b1 = true then gd (inb a1 8) (if (f_X4_within a2 0 (((m_rowLength σ) (Int32.toNatClampNeg a1)) - 1)) = true then gd (inb ((40 * a1) + a2) 320) (some ((m_rowOf σ) (Int32.toNatClampNeg ((40 * a1) + a2)))) else some 0) else some 0) else some 0
set_option maxHeartbeats 4000000 in
set_option maxRecDepth 100000 in
theorem c_X4_element (l : Launch) (ev : EV) (ad : Nat → Nat) (σ : MM) (a1 : Int32) (a2 : Int32)   (r : Int64)  (h : f_X4_element σ a1 a2 = some r) : Ct l yX4_element prog_6_method_14_code 3 (Option.some Jvm.ClassFile.FieldType.long) (rmk 2 43) ev 13 ad (mw ev ad σ) (mw ev ad σ) [.ref (ad 0), .int a1, .int a2] (some (.long r)) := by
  refine Ct.of (by decide +kernel) (Nat.le_of_ble_eq_true rfl) ?_
  intro p e s m args below meth c Qc C hap hP hend ls hl
  have hAA : ∀ j, j < 13 → inA ad 13 (ad j) := fun j hj => ⟨j, hj, rfl⟩
  have hx := C.1
  have hb := C.2.1
  have hl : lv_has ls 3 [(0, .ref (ad 0)), (1, .int a1), (2, .int a2)] := hl
  have h := (f_X4_element.eq_1 _ _ _ ).symm.trans h
  refine lv_iload_n hx hb dX4_element_0 rfl (lv_at hl 1 rfl) ?_
  refine k_callSi C hP hap hAA (c_X4_isShelf l ev ad a1   _ rfl) Emb.none (apart_0 _) gz_X4_isShelf qML_RX4_73 qSM_yX4_isShelf ⟨(Nat.le_of_ble_eq_true rfl), (Nat.le_of_ble_eq_true rfl)⟩ rfl hl.1 rfl (Nat.le_of_ble_eq_true rfl) dX4_element_1 ⟨Nat.le_refl _, Nat.le_refl _⟩ (fun H locs hP => ?_)
  refine r_ifz_eq (tgt := 45) hx hb dX4_element_4 (by decide) (fun c4 => ?_) (fun c4 => ?_)
  · have h := k_nf c4 h
    refine lv_lconst (v := 0) hx hb dX4_element_45 (by decide) ?_
    exact e_lret C hend hP (k_some h) rfl dX4_element_46
  · have h := k_if c4 h
    refine lv_aload_n hx hb dX4_element_7 rfl (lv_at hl 0 rfl) ?_
    refine lv_iload_n hx hb dX4_element_8 rfl (lv_at hl 1 rfl) ?_
    obtain ⟨b1, h1, h⟩ := k_ob h
    refine k_callVi C hP hap hAA (c_X4_isRow l ev ad σ a1   _ h1) Emb.same hap gz_X4_isRow qML_RX4_77 qIM_yX4_isRow qSE_yX4_isRow ⟨(Nat.le_of_ble_eq_true rfl), (Nat.le_of_ble_eq_true rfl)⟩ (q0 := 0) rfl (by decide) rfl rfl rfl rfl hl.1 rfl (Nat.le_of_ble_eq_true rfl) dX4_element_9 ⟨Nat.le_refl _, Nat.le_refl _⟩ (fun H locs hP => ?_)
    refine r_ifz_eq (tgt := 45) hx hb dX4_element_12 (by decide) (fun c12 => ?_) (fun c12 => ?_)
    · have h := k_nf c12 h
      refine lv_lconst (v := 0) hx hb dX4_element_45 (by decide) ?_
      exact e_lret C hend hP (k_some h) rfl dX4_element_46
    · have h := k_if c12 h
      refine lv_iload_n hx hb dX4_element_15 rfl (lv_at hl 2 rfl) ?_
      refine lv_iconst (v := 0) hx hb dX4_element_16 (by decide) ?_
      refine lv_aload_n hx hb dX4_element_17 rfl (lv_at hl 0 rfl) ?_
      refine r_get C hP (ci := 4) rfl uin_X4 18 (by decide) 0 (by decide) rfl qFL_RX4_32 rfl rfl dX4_element_18 ?_
      refine lv_iload_n hx hb dX4_element_21 rfl (lv_at hl 1 rfl) ?_
      obtain ⟨hg, h⟩ := k_gd h
      refine r_iald C hP 8 (by decide) rfl hg dX4_element_22 ?_
      refine lv_iconst (v := 1) hx hb dX4_element_23 (by decide) ?_
      refine lv_isub hx hb dX4_element_24 ?_
      refine k_callSi C hP hap hAA (c_X4_within l ev ad a2 0 (((m_rowLength σ) (Int32.toNatClampNeg a1)) - 1)   _ rfl) Emb.none (apart_0 _) gz_X4_within qML_RX4_63 qSM_yX4_within ⟨(Nat.le_of_ble_eq_true rfl), (Nat.le_of_ble_eq_true rfl)⟩ rfl hl.1 rfl (Nat.le_of_ble_eq_true rfl) dX4_element_25 ⟨Nat.le_refl _, Nat.le_refl _⟩ (fun H locs hP => ?_)
      refine r_ifz_eq (tgt := 45) hx hb dX4_element_28 (by decide) (fun c28 => ?_) (fun c28 => ?_)
      · have h := k_nf c28 h
        refine lv_lconst (v := 0) hx hb dX4_element_45 (by decide) ?_
        exact e_lret C hend hP (k_some h) rfl dX4_element_46
      · have h := k_if c28 h
        refine lv_aload_n hx hb dX4_element_31 rfl (lv_at hl 0 rfl) ?_
        refine r_get C hP (ci := 4) rfl uin_X4 19 (by decide) 0 (by decide) rfl qFL_RX4_35 rfl rfl dX4_element_32 ?_
        refine lv_bipush (v := 40) hx hb dX4_element_35 (by decide) ?_
        refine lv_iload_n hx hb dX4_element_37 rfl (lv_at hl 1 rfl) ?_
        refine lv_imul hx hb dX4_element_38 ?_
        refine lv_iload_n hx hb dX4_element_39 rfl (lv_at hl 2 rfl) ?_
        refine lv_iadd hx hb dX4_element_40 ?_
        obtain ⟨hg, h⟩ := k_gd h
        refine r_lald C hP 9 (by decide) rfl hg dX4_element_41 ?_
        refine lv_goto (tgt := 46) hx hb dX4_element_42 (by decide) ?_
        exact e_lret C hend hP (k_some h) rfl dX4_element_46
def f_X4_holds (σ : MM) (a1 : Int32) : Option (Int32) :=
  if (f_X4_isShelf a1) = true then gd (inb a1 8) (some ((m_holding σ) (Int32.toNatClampNeg a1))) else some (-1)
set_option maxHeartbeats 4000000 in
set_option maxRecDepth 100000 in
theorem c_X4_holds (l : Launch) (ev : EV) (ad : Nat → Nat) (σ : MM) (a1 : Int32)   (r : Int32)  (h : f_X4_holds σ a1 = some r) : Ct l yX4_holds prog_6_method_15_code 2 (Option.some Jvm.ClassFile.FieldType.int) (rmk 2 42) ev 13 ad (mw ev ad σ) (mw ev ad σ) [.ref (ad 0), .int a1] (some (.int r)) := by
  refine Ct.of (by decide +kernel) (Nat.le_of_ble_eq_true rfl) ?_
  intro p e s m args below meth c Qc C hap hP hend ls hl
  have hAA : ∀ j, j < 13 → inA ad 13 (ad j) := fun j hj => ⟨j, hj, rfl⟩
  have hx := C.1
  have hb := C.2.1
  have hl : lv_has ls 2 [(0, .ref (ad 0)), (1, .int a1)] := hl
  have h := (f_X4_holds.eq_1 _ _ ).symm.trans h
  refine lv_iload_n hx hb dX4_holds_0 rfl (lv_at hl 1 rfl) ?_
  refine k_callSi C hP hap hAA (c_X4_isShelf l ev ad a1   _ rfl) Emb.none (apart_0 _) gz_X4_isShelf qML_RX4_73 qSM_yX4_isShelf ⟨(Nat.le_of_ble_eq_true rfl), (Nat.le_of_ble_eq_true rfl)⟩ rfl hl.1 rfl (Nat.le_of_ble_eq_true rfl) dX4_holds_1 ⟨Nat.le_refl _, Nat.le_refl _⟩ (fun H locs hP => ?_)
  refine r_ifz_eq (tgt := 16) hx hb dX4_holds_4 (by decide) (fun c4 => ?_) (fun c4 => ?_)
  · have h := k_nf c4 h
    refine lv_iconst (v := (-1)) hx hb dX4_holds_16 (by decide) ?_
    exact e_iret C hend hP (k_some h) rfl dX4_holds_17
  · have h := k_if c4 h
    refine lv_aload_n hx hb dX4_holds_7 rfl (lv_at hl 0 rfl) ?_
    refine r_get C hP (ci := 4) rfl uin_X4 17 (by decide) 0 (by decide) rfl qFL_RX4_29 rfl rfl dX4_holds_8 ?_
    refine lv_iload_n hx hb dX4_holds_11 rfl (lv_at hl 1 rfl) ?_
    obtain ⟨hg, h⟩ := k_gd h
    refine r_iald C hP 7 (by decide) rfl hg dX4_holds_12 ?_
    refine lv_goto (tgt := 17) hx hb dX4_holds_13 (by decide) ?_
    exact e_iret C hend hP (k_some h) rfl dX4_holds_17
def f_X4_show_b27 (a1 : Int32) (a2 : Int32) (σ3 : MM) : Option (Int32 × MM) :=
  if a2 = (-1) then gd (inb a1 8) (lt (m_holding' σ3 (upd (m_holding σ3) (Int32.toNatClampNeg a1) (-1))) (fun σ5 => some (1, σ5))) else gd (inb a1 8) (lt (m_holding' σ3 (upd (m_holding σ3) (Int32.toNatClampNeg a1) (10 + a2))) (fun σ4 => some (1, σ4)))
def f_X4_show (σ : MM) (a1 : Int32) (a2 : Int32) : Option (Int32 × MM) :=
  if (f_X4_isShelf a1) = true then if a2 = (-1) then f_X4_show_b27 a1 a2 σ else if (f_X4_isPlayer σ a2) = true then f_X4_show_b27 a1 a2 σ else ob2 (f_X4_no σ (-2)) (fun x7 σ6 => some (x7, σ6)) else ob2 (f_X4_no σ (-2)) (fun x2 σ1 => some (x2, σ1))
set_option maxHeartbeats 4000000 in
set_option maxRecDepth 100000 in
theorem c_X4_show (l : Launch) (ev : EV) (ad : Nat → Nat) (σ : MM) (a1 : Int32) (a2 : Int32)   (r : Int32) (σ' : MM) (h : f_X4_show σ a1 a2 = some (r, σ')) : Ct l yX4_show prog_6_method_16_code 3 (Option.some Jvm.ClassFile.FieldType.int) (rmk 2 43) ev 13 ad (mw ev ad σ) (mw ev ad σ') [.ref (ad 0), .int a1, .int a2] (some (.int r)) := by
  refine Ct.of (by decide +kernel) (Nat.le_of_ble_eq_true rfl) ?_
  intro p e s m args below meth c Qc C hap hP hend ls hl
  have hAA : ∀ j, j < 13 → inA ad 13 (ad j) := fun j hj => ⟨j, hj, rfl⟩
  have hx := C.1
  have hb := C.2.1
  have hl : lv_has ls 3 [(0, .ref (ad 0)), (1, .int a1), (2, .int a2)] := hl
  have h := (f_X4_show.eq_1 _ _ _ ).symm.trans h
  have hB27 : ∀ (σ3 : MM) (H : Heap) (locs : List Loc) (ls : Array Slot), f_X4_show_b27 a1 a2 σ3 = some (r, σ') → PS ev 13 ad (mw ev ad σ3) (inA ad 13) s H locs → lv_has ls 3 [(0, .ref (ad 0)), (1, .int a1), (2, .int a2)] → WW ev p l e (rmk 2 43) s m args below meth c Qc ad 13 H locs 27 ls [] := by
    intro σ3 H locs ls h hP hl
    have h := (f_X4_show_b27.eq_1 _ _ _ ).symm.trans h
    refine lv_aload_n hx hb dX4_show_27 rfl (lv_at hl 0 rfl) ?_
    refine r_get C hP (ci := 4) rfl uin_X4 17 (by decide) 0 (by decide) rfl qFL_RX4_29 rfl rfl dX4_show_28 ?_
    refine lv_iload_n hx hb dX4_show_31 rfl (lv_at hl 1 rfl) ?_
    refine lv_iload_n hx hb dX4_show_32 rfl (lv_at hl 2 rfl) ?_
    refine lv_iconst (v := (-1)) hx hb dX4_show_33 (by decide) ?_
    refine lv_icmp_ne (tgt := 41) hx hb dX4_show_34 (by decide) (fun c34 => ?_) (fun c34 => ?_)
    · have h := k_nf c34 h
      refine lv_bipush (v := 10) hx hb dX4_show_41 (by decide) ?_
      refine lv_iload_n hx hb dX4_show_43 rfl (lv_at hl 2 rfl) ?_
      refine lv_iadd hx hb dX4_show_44 ?_
      obtain ⟨hg, h⟩ := k_gd h
      obtain ⟨σ4, eσ4, h⟩ := k_ltx h
      refine st_M_holding C hP hap hAA eσ4 hg dX4_show_45 (fun H locs hP => ?_)
      refine lv_iconst (v := 1) hx hb dX4_show_46 (by decide) ?_
      exact e_iret C hend hP (k_some2 h).1 (congrArg (mw ev ad) (k_some2 h).2) dX4_show_47
    · have h := k_if c34 h
      refine lv_iconst (v := (-1)) hx hb dX4_show_37 (by decide) ?_
      refine lv_goto (tgt := 45) hx hb dX4_show_38 (by decide) ?_
      obtain ⟨hg, h⟩ := k_gd h
      obtain ⟨σ5, eσ5, h⟩ := k_ltx h
      refine st_M_holding C hP hap hAA eσ5 hg dX4_show_45 (fun H locs hP => ?_)
      refine lv_iconst (v := 1) hx hb dX4_show_46 (by decide) ?_
      exact e_iret C hend hP (k_some2 h).1 (congrArg (mw ev ad) (k_some2 h).2) dX4_show_47
  refine lv_iload_n hx hb dX4_show_0 rfl (lv_at hl 1 rfl) ?_
  refine k_callSi C hP hap hAA (c_X4_isShelf l ev ad a1   _ rfl) Emb.none (apart_0 _) gz_X4_isShelf qML_RX4_73 qSM_yX4_isShelf ⟨(Nat.le_of_ble_eq_true rfl), (Nat.le_of_ble_eq_true rfl)⟩ rfl hl.1 rfl (Nat.le_of_ble_eq_true rfl) dX4_show_1 ⟨Nat.le_refl _, Nat.le_refl _⟩ (fun H locs hP => ?_)
  refine r_ifz_eq (tgt := 20) hx hb dX4_show_4 (by decide) (fun c4 => ?_) (fun c4 => ?_)
  · have h := k_nf c4 h
    refine lv_aload_n hx hb dX4_show_20 rfl (lv_at hl 0 rfl) ?_
    refine lv_bipush (v := (-2)) hx hb dX4_show_21 (by decide) ?_
    obtain ⟨x2, σ1, h1, h⟩ := k_ob2 h
    refine k_callVi C hP hap hAA (c_X4_no l ev ad σ (-2)   _ _ h1) Emb.same hap gz_X4_no qML_RX4_56 qIM_yX4_no qSE_yX4_no ⟨(Nat.le_of_ble_eq_true rfl), (Nat.le_of_ble_eq_true rfl)⟩ (q0 := 0) rfl (by decide) rfl rfl rfl rfl hl.1 rfl (Nat.le_of_ble_eq_true rfl) dX4_show_23 ⟨Nat.le_refl _, Nat.le_refl _⟩ (fun H locs hP => ?_)
    exact e_iret C hend hP (k_some2 h).1 (congrArg (mw ev ad) (k_some2 h).2) dX4_show_26
  · have h := k_if c4 h
    refine lv_iload_n hx hb dX4_show_7 rfl (lv_at hl 2 rfl) ?_
    refine lv_iconst (v := (-1)) hx hb dX4_show_8 (by decide) ?_
    refine lv_icmp_eq (tgt := 27) hx hb dX4_show_9 (by decide) (fun c9 => ?_) (fun c9 => ?_)
    · have h := k_if c9 h
      exact hB27 _ _ _ _ h hP (lv_sub hl [0, 1, 2] rfl)
    · have h := k_nf c9 h
      refine lv_aload_n hx hb dX4_show_12 rfl (lv_at hl 0 rfl) ?_
      refine lv_iload_n hx hb dX4_show_13 rfl (lv_at hl 2 rfl) ?_
      refine k_callVi C hP hap hAA (c_X4_isPlayer l ev ad σ a2   _ rfl) Emb.same hap gz_X4_isPlayer qML_RX4_87 qIM_yX4_isPlayer qSE_yX4_isPlayer ⟨(Nat.le_of_ble_eq_true rfl), (Nat.le_of_ble_eq_true rfl)⟩ (q0 := 0) rfl (by decide) rfl rfl rfl rfl hl.1 rfl (Nat.le_of_ble_eq_true rfl) dX4_show_14 ⟨Nat.le_refl _, Nat.le_refl _⟩ (fun H locs hP => ?_)
      refine r_ifz_ne (tgt := 27) hx hb dX4_show_17 (by decide) (fun c17 => ?_) (fun c17 => ?_)
      · have h := k_if c17 h
        exact hB27 _ _ _ _ h hP (lv_sub hl [0, 1, 2] rfl)
      · have h := k_nf c17 h
        refine lv_aload_n hx hb dX4_show_20 rfl (lv_at hl 0 rfl) ?_
        refine lv_bipush (v := (-2)) hx hb dX4_show_21 (by decide) ?_
        obtain ⟨x7, σ6, h1, h⟩ := k_ob2 h
        refine k_callVi C hP hap hAA (c_X4_no l ev ad σ (-2)   _ _ h1) Emb.same hap gz_X4_no qML_RX4_56 qIM_yX4_no qSE_yX4_no ⟨(Nat.le_of_ble_eq_true rfl), (Nat.le_of_ble_eq_true rfl)⟩ (q0 := 0) rfl (by decide) rfl rfl rfl rfl hl.1 rfl (Nat.le_of_ble_eq_true rfl) dX4_show_23 ⟨Nat.le_refl _, Nat.le_refl _⟩ (fun H locs hP => ?_)
        exact e_iret C hend hP (k_some2 h).1 (congrArg (mw ev ad) (k_some2 h).2) dX4_show_26
def f_X4_isUnder (a1 : Int32) (a2 : Int32) : Bool :=
  if a2 = 0 then true else if a1 = a2 then true else if a1 = 3 then if a2 = 1 then true else if a1 = 4 then if a2 = 2 then true else false else false else if a1 = 4 then if a2 = 2 then true else false else false
set_option maxHeartbeats 4000000 in
set_option maxRecDepth 100000 in
theorem c_X4_isUnder (l : Launch) (ev : EV) (ad : Nat → Nat) (a1 : Int32) (a2 : Int32)   (r : Bool)  (h : f_X4_isUnder a1 a2 = r) : Ct l yX4_isUnder prog_6_method_17_code 2 (Option.some Jvm.ClassFile.FieldType.boolean) (rmk 0 0) ev 0 ad w00 w00 [.int a1, .int a2] (some (.int (bi r))) := by
  refine Ct.of (by decide +kernel) (Nat.le_of_ble_eq_true rfl) ?_
  intro p e s m args below meth c Qc C hap hP hend ls hl
  have hAA : ∀ j, j < 0 → inA ad 0 (ad j) := fun j hj => ⟨j, hj, rfl⟩
  have hx := C.1
  have hb := C.2.1
  have hl : lv_has ls 2 [(0, .int a1), (1, .int a2)] := hl
  have h := (f_X4_isUnder.eq_1 _ _ ).symm.trans h
  refine lv_iload_n hx hb dX4_isUnder_0 rfl (lv_at hl 1 rfl) ?_
  refine lv_if_eq (tgt := 29) hx hb dX4_isUnder_1 (by decide) (fun c1 => ?_) (fun c1 => ?_)
  · have h := k_if c1 h
    refine lv_iconst (v := 1) hx hb dX4_isUnder_29 (by decide) ?_
    refine lv_goto (tgt := 34) hx hb dX4_isUnder_30 (by decide) ?_
    exact e_zret C hend hP h rfl dX4_isUnder_34 rfl
  · have h := k_nf c1 h
    refine lv_iload_n hx hb dX4_isUnder_4 rfl (lv_at hl 0 rfl) ?_
    refine lv_iload_n hx hb dX4_isUnder_5 rfl (lv_at hl 1 rfl) ?_
    refine lv_icmp_eq (tgt := 29) hx hb dX4_isUnder_6 (by decide) (fun c6 => ?_) (fun c6 => ?_)
    · have h := k_if c6 h
      refine lv_iconst (v := 1) hx hb dX4_isUnder_29 (by decide) ?_
      refine lv_goto (tgt := 34) hx hb dX4_isUnder_30 (by decide) ?_
      exact e_zret C hend hP h rfl dX4_isUnder_34 rfl
    · have h := k_nf c6 h
      refine lv_iload_n hx hb dX4_isUnder_9 rfl (lv_at hl 0 rfl) ?_
      refine lv_iconst (v := 3) hx hb dX4_isUnder_10 (by decide) ?_
      refine lv_icmp_ne (tgt := 19) hx hb dX4_isUnder_11 (by decide) (fun c11 => ?_) (fun c11 => ?_)
      · have h := k_nf c11 h
        refine lv_iload_n hx hb dX4_isUnder_19 rfl (lv_at hl 0 rfl) ?_
        refine lv_iconst (v := 4) hx hb dX4_isUnder_20 (by decide) ?_
        refine lv_icmp_ne (tgt := 33) hx hb dX4_isUnder_21 (by decide) (fun c21 => ?_) (fun c21 => ?_)
        · have h := k_nf c21 h
          refine lv_iconst (v := 0) hx hb dX4_isUnder_33 (by decide) ?_
          exact e_zret C hend hP h rfl dX4_isUnder_34 rfl
        · have h := k_if c21 h
          refine lv_iload_n hx hb dX4_isUnder_24 rfl (lv_at hl 1 rfl) ?_
          refine lv_iconst (v := 2) hx hb dX4_isUnder_25 (by decide) ?_
          refine lv_icmp_ne (tgt := 33) hx hb dX4_isUnder_26 (by decide) (fun c26 => ?_) (fun c26 => ?_)
          · have h := k_nf c26 h
            refine lv_iconst (v := 0) hx hb dX4_isUnder_33 (by decide) ?_
            exact e_zret C hend hP h rfl dX4_isUnder_34 rfl
          · have h := k_if c26 h
            refine lv_iconst (v := 1) hx hb dX4_isUnder_29 (by decide) ?_
            refine lv_goto (tgt := 34) hx hb dX4_isUnder_30 (by decide) ?_
            exact e_zret C hend hP h rfl dX4_isUnder_34 rfl
      · have h := k_if c11 h
        refine lv_iload_n hx hb dX4_isUnder_14 rfl (lv_at hl 1 rfl) ?_
        refine lv_iconst (v := 1) hx hb dX4_isUnder_15 (by decide) ?_
        refine lv_icmp_eq (tgt := 29) hx hb dX4_isUnder_16 (by decide) (fun c16 => ?_) (fun c16 => ?_)
        · have h := k_if c16 h
          refine lv_iconst (v := 1) hx hb dX4_isUnder_29 (by decide) ?_
          refine lv_goto (tgt := 34) hx hb dX4_isUnder_30 (by decide) ?_
          exact e_zret C hend hP h rfl dX4_isUnder_34 rfl
        · have h := k_nf c16 h
          refine lv_iload_n hx hb dX4_isUnder_19 rfl (lv_at hl 0 rfl) ?_
          refine lv_iconst (v := 4) hx hb dX4_isUnder_20 (by decide) ?_
          refine lv_icmp_ne (tgt := 33) hx hb dX4_isUnder_21 (by decide) (fun c21 => ?_) (fun c21 => ?_)
          · have h := k_nf c21 h
            refine lv_iconst (v := 0) hx hb dX4_isUnder_33 (by decide) ?_
            exact e_zret C hend hP h rfl dX4_isUnder_34 rfl
          · have h := k_if c21 h
            refine lv_iload_n hx hb dX4_isUnder_24 rfl (lv_at hl 1 rfl) ?_
            refine lv_iconst (v := 2) hx hb dX4_isUnder_25 (by decide) ?_
            refine lv_icmp_ne (tgt := 33) hx hb dX4_isUnder_26 (by decide) (fun c26 => ?_) (fun c26 => ?_)
            · have h := k_nf c26 h
              refine lv_iconst (v := 0) hx hb dX4_isUnder_33 (by decide) ?_
              exact e_zret C hend hP h rfl dX4_isUnder_34 rfl
            · have h := k_if c26 h
              refine lv_iconst (v := 1) hx hb dX4_isUnder_29 (by decide) ?_
              refine lv_goto (tgt := 34) hx hb dX4_isUnder_30 (by decide) ?_
              exact e_zret C hend hP h rfl dX4_isUnder_34 rfl
def f_X4_level (σ : MM) : Int32 :=
  ((m_w σ) * ((m_h σ) + 1))
set_option maxHeartbeats 4000000 in
set_option maxRecDepth 100000 in
theorem c_X4_level (l : Launch) (ev : EV) (ad : Nat → Nat) (σ : MM)   (r : Int32)  (h : f_X4_level σ = r) : Ct l yX4_level prog_6_method_20_code 1 (Option.some Jvm.ClassFile.FieldType.int) (rmk 0 0) ev 13 ad (mw ev ad σ) (mw ev ad σ) [.ref (ad 0)] (some (.int r)) := by
  refine Ct.of (by decide +kernel) (Nat.le_of_ble_eq_true rfl) ?_
  intro p e s m args below meth c Qc C hap hP hend ls hl
  have hAA : ∀ j, j < 13 → inA ad 13 (ad j) := fun j hj => ⟨j, hj, rfl⟩
  have hx := C.1
  have hb := C.2.1
  have hl : lv_has ls 1 [(0, .ref (ad 0))] := hl
  have h := (f_X4_level.eq_1 _ ).symm.trans h
  refine lv_aload_n hx hb dX4_level_0 rfl (lv_at hl 0 rfl) ?_
  refine r_get C hP (ci := 4) rfl uin_X4 0 (by decide) 0 (by decide) rfl qFL_RX4_67 rfl rfl dX4_level_1 ?_
  refine lv_aload_n hx hb dX4_level_4 rfl (lv_at hl 0 rfl) ?_
  refine r_get C hP (ci := 4) rfl uin_X4 1 (by decide) 0 (by decide) rfl qFL_RX4_70 rfl rfl dX4_level_5 ?_
  refine lv_iconst (v := 1) hx hb dX4_level_8 (by decide) ?_
  refine lv_iadd hx hb dX4_level_9 ?_
  refine lv_imul hx hb dX4_level_10 ?_
  exact e_iret C hend hP h rfl dX4_level_11
def f_X4_edges (σ : MM) : Int32 :=
  ((f_X4_level σ) + ((m_h σ) * ((m_w σ) + 1)))
set_option maxHeartbeats 4000000 in
set_option maxRecDepth 100000 in
theorem c_X4_edges (l : Launch) (ev : EV) (ad : Nat → Nat) (σ : MM)   (r : Int32)  (h : f_X4_edges σ = r) : Ct l yX4_edges prog_6_method_21_code 1 (Option.some Jvm.ClassFile.FieldType.int) (rmk 1 20) ev 13 ad (mw ev ad σ) (mw ev ad σ) [.ref (ad 0)] (some (.int r)) := by
  refine Ct.of (by decide +kernel) (Nat.le_of_ble_eq_true rfl) ?_
  intro p e s m args below meth c Qc C hap hP hend ls hl
  have hAA : ∀ j, j < 13 → inA ad 13 (ad j) := fun j hj => ⟨j, hj, rfl⟩
  have hx := C.1
  have hb := C.2.1
  have hl : lv_has ls 1 [(0, .ref (ad 0))] := hl
  have h := (f_X4_edges.eq_1 _ ).symm.trans h
  refine lv_aload_n hx hb dX4_edges_0 rfl (lv_at hl 0 rfl) ?_
  refine k_callVi C hP hap hAA (c_X4_level l ev ad σ   _ rfl) Emb.same hap gz_X4_level qML_RX4_110 qIM_yX4_level qSE_yX4_level ⟨(Nat.le_of_ble_eq_true rfl), (Nat.le_of_ble_eq_true rfl)⟩ (q0 := 0) rfl (by decide) rfl rfl rfl rfl hl.1 rfl (Nat.le_of_ble_eq_true rfl) dX4_edges_1 ⟨Nat.le_refl _, Nat.le_refl _⟩ (fun H locs hP => ?_)
  refine lv_aload_n hx hb dX4_edges_4 rfl (lv_at hl 0 rfl) ?_
  refine r_get C hP (ci := 4) rfl uin_X4 1 (by decide) 0 (by decide) rfl qFL_RX4_70 rfl rfl dX4_edges_5 ?_
  refine lv_aload_n hx hb dX4_edges_8 rfl (lv_at hl 0 rfl) ?_
  refine r_get C hP (ci := 4) rfl uin_X4 0 (by decide) 0 (by decide) rfl qFL_RX4_67 rfl rfl dX4_edges_9 ?_
  refine lv_iconst (v := 1) hx hb dX4_edges_12 (by decide) ?_
  refine lv_iadd hx hb dX4_edges_13 ?_
  refine lv_imul hx hb dX4_edges_14 ?_
  refine lv_iadd hx hb dX4_edges_15 ?_
  exact e_iret C hend hP h rfl dX4_edges_16
