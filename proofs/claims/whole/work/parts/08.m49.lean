/-! functions read off, and their contracts: by program (wip/whole/gen2.py) -/
def f_X4_edgeOf (σ : MM) (a1 : Int32) (a2 : Int32) : Option (Int32 × MM) :=
  if (f_X4_within a1 0 ((f_X4_edges σ) - 1)) = true then if (f_X4_within a2 0 2) = true then if a2 = 0 then gd (inb a1 40) (if ((m_hedge σ) (Int32.toNatClampNeg a1)) = 0 then some (0, σ) else some (1, σ)) else ob (f_X4_field σ a1 (a2 - 1)) (fun x3 => some (x3, σ)) else ob2 (f_X4_no σ (-2)) (fun x5 σ4 => some (x5, σ4)) else ob2 (f_X4_no σ (-2)) (fun x2 σ1 => some (x2, σ1))
set_option maxHeartbeats 4000000 in
set_option maxRecDepth 100000 in
theorem c_X4_edgeOf (l : Launch) (ev : EV) (ad : Nat → Nat) (σ : MM) (a1 : Int32) (a2 : Int32)   (r : Int32) (σ' : MM) (h : f_X4_edgeOf σ a1 a2 = some (r, σ')) : Ct l yX4_edgeOf prog_6_method_47_code 3 (Option.some Jvm.ClassFile.FieldType.int) (rmk 3 67) ev 13 ad (mw ev ad σ) (mw ev ad σ') [.ref (ad 0), .int a1, .int a2] (some (.int r)) := by
  refine Ct.of (by decide +kernel) (Nat.le_of_ble_eq_true rfl) ?_
  intro p e s m args below meth c Qc C hap hP hend ls hl
  have hAA : ∀ j, j < 13 → inA ad 13 (ad j) := fun j hj => ⟨j, hj, rfl⟩
  have hx := C.1
  have hb := C.2.1
  have hl : lv_has ls 3 [(0, .ref (ad 0)), (1, .int a1), (2, .int a2)] := hl
  have h := (f_X4_edgeOf.eq_1 _ _ _ ).symm.trans h
  refine lv_iload_n hx hb dX4_edgeOf_0 rfl (lv_at hl 1 rfl) ?_
  refine lv_iconst (v := 0) hx hb dX4_edgeOf_1 (by decide) ?_
  refine lv_aload_n hx hb dX4_edgeOf_2 rfl (lv_at hl 0 rfl) ?_
  refine k_callVi C hP hap hAA (c_X4_edges l ev ad σ   _ rfl) Emb.same hap gz_X4_edges qML_RX4_107 qIM_yX4_edges qSE_yX4_edges ⟨(Nat.le_of_ble_eq_true rfl), (Nat.le_of_ble_eq_true rfl)⟩ (q0 := 0) rfl (by decide) rfl rfl rfl rfl hl.1 rfl (Nat.le_of_ble_eq_true rfl) dX4_edgeOf_3 ⟨Nat.le_refl _, Nat.le_refl _⟩ (fun H locs hP => ?_)
  refine lv_iconst (v := 1) hx hb dX4_edgeOf_6 (by decide) ?_
  refine lv_isub hx hb dX4_edgeOf_7 ?_
  refine k_callSi C hP hap hAA (c_X4_within l ev ad a1 0 ((f_X4_edges σ) - 1)   _ rfl) Emb.none (apart_0 _) gz_X4_within qML_RX4_63 qSM_yX4_within ⟨(Nat.le_of_ble_eq_true rfl), (Nat.le_of_ble_eq_true rfl)⟩ rfl hl.1 rfl (Nat.le_of_ble_eq_true rfl) dX4_edgeOf_8 ⟨Nat.le_refl _, Nat.le_refl _⟩ (fun H locs hP => ?_)
  refine r_ifz_eq (tgt := 23) hx hb dX4_edgeOf_11 (by decide) (fun c11 => ?_) (fun c11 => ?_)
  · have h := k_nf c11 h
    refine lv_aload_n hx hb dX4_edgeOf_23 rfl (lv_at hl 0 rfl) ?_
    refine lv_bipush (v := (-2)) hx hb dX4_edgeOf_24 (by decide) ?_
    obtain ⟨x2, σ1, h1, h⟩ := k_ob2 h
    refine k_callVi C hP hap hAA (c_X4_no l ev ad σ (-2)   _ _ h1) Emb.same hap gz_X4_no qML_RX4_56 qIM_yX4_no qSE_yX4_no ⟨(Nat.le_of_ble_eq_true rfl), (Nat.le_of_ble_eq_true rfl)⟩ (q0 := 0) rfl (by decide) rfl rfl rfl rfl hl.1 rfl (Nat.le_of_ble_eq_true rfl) dX4_edgeOf_26 ⟨Nat.le_refl _, Nat.le_refl _⟩ (fun H locs hP => ?_)
    exact e_iret C hend hP (k_some2 h).1 (congrArg (mw ev ad) (k_some2 h).2) dX4_edgeOf_29
  · have h := k_if c11 h
    refine lv_iload_n hx hb dX4_edgeOf_14 rfl (lv_at hl 2 rfl) ?_
    refine lv_iconst (v := 0) hx hb dX4_edgeOf_15 (by decide) ?_
    refine lv_iconst (v := 2) hx hb dX4_edgeOf_16 (by decide) ?_
    refine k_callSi C hP hap hAA (c_X4_within l ev ad a2 0 2   _ rfl) Emb.none (apart_0 _) gz_X4_within qML_RX4_63 qSM_yX4_within ⟨(Nat.le_of_ble_eq_true rfl), (Nat.le_of_ble_eq_true rfl)⟩ rfl hl.1 rfl (Nat.le_of_ble_eq_true rfl) dX4_edgeOf_17 ⟨Nat.le_refl _, Nat.le_refl _⟩ (fun H locs hP => ?_)
    refine r_ifz_ne (tgt := 30) hx hb dX4_edgeOf_20 (by decide) (fun c20 => ?_) (fun c20 => ?_)
    · have h := k_if c20 h
      refine lv_iload_n hx hb dX4_edgeOf_30 rfl (lv_at hl 2 rfl) ?_
      refine lv_if_ne (tgt := 51) hx hb dX4_edgeOf_31 (by decide) (fun c31 => ?_) (fun c31 => ?_)
      · have h := k_nf c31 h
        refine lv_aload_n hx hb dX4_edgeOf_51 rfl (lv_at hl 0 rfl) ?_
        refine lv_iload_n hx hb dX4_edgeOf_52 rfl (lv_at hl 1 rfl) ?_
        refine lv_iload_n hx hb dX4_edgeOf_53 rfl (lv_at hl 2 rfl) ?_
        refine lv_iconst (v := 1) hx hb dX4_edgeOf_54 (by decide) ?_
        refine lv_isub hx hb dX4_edgeOf_55 ?_
        obtain ⟨x3, h1, h⟩ := k_ob h
        refine k_callVi C hP hap hAA (c_X4_field l ev ad σ a1 (a2 - 1)   _ h1) Emb.same hap gz_X4_field qML_RX4_119 qIM_yX4_field qSE_yX4_field ⟨(Nat.le_of_ble_eq_true rfl), (Nat.le_of_ble_eq_true rfl)⟩ (q0 := 0) rfl (by decide) rfl rfl rfl rfl hl.1 rfl (Nat.le_of_ble_eq_true rfl) dX4_edgeOf_56 ⟨Nat.le_refl _, Nat.le_refl _⟩ (fun H locs hP => ?_)
        exact e_iret C hend hP (k_some2 h).1 (congrArg (mw ev ad) (k_some2 h).2) dX4_edgeOf_59
      · have h := k_if c31 h
        refine lv_aload_n hx hb dX4_edgeOf_34 rfl (lv_at hl 0 rfl) ?_
        refine r_get C hP (ci := 4) rfl uin_X4 2 (by decide) 0 (by decide) rfl qFL_RX4_7 rfl rfl dX4_edgeOf_35 ?_
        refine lv_iload_n hx hb dX4_edgeOf_38 rfl (lv_at hl 1 rfl) ?_
        obtain ⟨hg, h⟩ := k_gd h
        refine r_zald C hP 1 (by decide) rfl hg dX4_edgeOf_39 ?_
        refine lv_if_eq (tgt := 47) hx hb dX4_edgeOf_40 (by decide) (fun c40 => ?_) (fun c40 => ?_)
        · have h := k_if c40 h
          refine lv_iconst (v := 0) hx hb dX4_edgeOf_47 (by decide) ?_
          refine lv_goto (tgt := 59) hx hb dX4_edgeOf_48 (by decide) ?_
          exact e_iret C hend hP (k_some2 h).1 (congrArg (mw ev ad) (k_some2 h).2) dX4_edgeOf_59
        · have h := k_nf c40 h
          refine lv_iconst (v := 1) hx hb dX4_edgeOf_43 (by decide) ?_
          refine lv_goto (tgt := 59) hx hb dX4_edgeOf_44 (by decide) ?_
          exact e_iret C hend hP (k_some2 h).1 (congrArg (mw ev ad) (k_some2 h).2) dX4_edgeOf_59
    · have h := k_nf c20 h
      refine lv_aload_n hx hb dX4_edgeOf_23 rfl (lv_at hl 0 rfl) ?_
      refine lv_bipush (v := (-2)) hx hb dX4_edgeOf_24 (by decide) ?_
      obtain ⟨x5, σ4, h1, h⟩ := k_ob2 h
      refine k_callVi C hP hap hAA (c_X4_no l ev ad σ (-2)   _ _ h1) Emb.same hap gz_X4_no qML_RX4_56 qIM_yX4_no qSE_yX4_no ⟨(Nat.le_of_ble_eq_true rfl), (Nat.le_of_ble_eq_true rfl)⟩ (q0 := 0) rfl (by decide) rfl rfl rfl rfl hl.1 rfl (Nat.le_of_ble_eq_true rfl) dX4_edgeOf_26 ⟨Nat.le_refl _, Nat.le_refl _⟩ (fun H locs hP => ?_)
      exact e_iret C hend hP (k_some2 h).1 (congrArg (mw ev ad) (k_some2 h).2) dX4_edgeOf_29
def f_X4_playerOf (σ : MM) (a1 : Int32) (a2 : Int32) : Option (Int32 × MM) :=
  if (f_X4_isPlayer σ a1) = true then if (f_X4_within a2 0 1) = true then if a2 = 0 then gd (inb a1 6) (some (((m_kind σ) (Int32.toNatClampNeg a1)), σ)) else gd (inb a1 6) (some (((m_own σ) (Int32.toNatClampNeg a1)), σ)) else ob2 (f_X4_no σ (-2)) (fun x4 σ3 => some (x4, σ3)) else ob2 (f_X4_no σ (-2)) (fun x2 σ1 => some (x2, σ1))
set_option maxHeartbeats 4000000 in
set_option maxRecDepth 100000 in
theorem c_X4_playerOf (l : Launch) (ev : EV) (ad : Nat → Nat) (σ : MM) (a1 : Int32) (a2 : Int32)   (r : Int32) (σ' : MM) (h : f_X4_playerOf σ a1 a2 = some (r, σ')) : Ct l yX4_playerOf prog_6_method_48_code 3 (Option.some Jvm.ClassFile.FieldType.int) (rmk 2 43) ev 13 ad (mw ev ad σ) (mw ev ad σ') [.ref (ad 0), .int a1, .int a2] (some (.int r)) := by
  refine Ct.of (by decide +kernel) (Nat.le_of_ble_eq_true rfl) ?_
  intro p e s m args below meth c Qc C hap hP hend ls hl
  have hAA : ∀ j, j < 13 → inA ad 13 (ad j) := fun j hj => ⟨j, hj, rfl⟩
  have hx := C.1
  have hb := C.2.1
  have hl : lv_has ls 3 [(0, .ref (ad 0)), (1, .int a1), (2, .int a2)] := hl
  have h := (f_X4_playerOf.eq_1 _ _ _ ).symm.trans h
  refine lv_aload_n hx hb dX4_playerOf_0 rfl (lv_at hl 0 rfl) ?_
  refine lv_iload_n hx hb dX4_playerOf_1 rfl (lv_at hl 1 rfl) ?_
  refine k_callVi C hP hap hAA (c_X4_isPlayer l ev ad σ a1   _ rfl) Emb.same hap gz_X4_isPlayer qML_RX4_87 qIM_yX4_isPlayer qSE_yX4_isPlayer ⟨(Nat.le_of_ble_eq_true rfl), (Nat.le_of_ble_eq_true rfl)⟩ (q0 := 0) rfl (by decide) rfl rfl rfl rfl hl.1 rfl (Nat.le_of_ble_eq_true rfl) dX4_playerOf_2 ⟨Nat.le_refl _, Nat.le_refl _⟩ (fun H locs hP => ?_)
  refine r_ifz_eq (tgt := 17) hx hb dX4_playerOf_5 (by decide) (fun c5 => ?_) (fun c5 => ?_)
  · have h := k_nf c5 h
    refine lv_aload_n hx hb dX4_playerOf_17 rfl (lv_at hl 0 rfl) ?_
    refine lv_bipush (v := (-2)) hx hb dX4_playerOf_18 (by decide) ?_
    obtain ⟨x2, σ1, h1, h⟩ := k_ob2 h
    refine k_callVi C hP hap hAA (c_X4_no l ev ad σ (-2)   _ _ h1) Emb.same hap gz_X4_no qML_RX4_56 qIM_yX4_no qSE_yX4_no ⟨(Nat.le_of_ble_eq_true rfl), (Nat.le_of_ble_eq_true rfl)⟩ (q0 := 0) rfl (by decide) rfl rfl rfl rfl hl.1 rfl (Nat.le_of_ble_eq_true rfl) dX4_playerOf_20 ⟨Nat.le_refl _, Nat.le_refl _⟩ (fun H locs hP => ?_)
    exact e_iret C hend hP (k_some2 h).1 (congrArg (mw ev ad) (k_some2 h).2) dX4_playerOf_23
  · have h := k_if c5 h
    refine lv_iload_n hx hb dX4_playerOf_8 rfl (lv_at hl 2 rfl) ?_
    refine lv_iconst (v := 0) hx hb dX4_playerOf_9 (by decide) ?_
    refine lv_iconst (v := 1) hx hb dX4_playerOf_10 (by decide) ?_
    refine k_callSi C hP hap hAA (c_X4_within l ev ad a2 0 1   _ rfl) Emb.none (apart_0 _) gz_X4_within qML_RX4_63 qSM_yX4_within ⟨(Nat.le_of_ble_eq_true rfl), (Nat.le_of_ble_eq_true rfl)⟩ rfl hl.1 rfl (Nat.le_of_ble_eq_true rfl) dX4_playerOf_11 ⟨Nat.le_refl _, Nat.le_refl _⟩ (fun H locs hP => ?_)
    refine r_ifz_ne (tgt := 24) hx hb dX4_playerOf_14 (by decide) (fun c14 => ?_) (fun c14 => ?_)
    · have h := k_if c14 h
      refine lv_iload_n hx hb dX4_playerOf_24 rfl (lv_at hl 2 rfl) ?_
      refine lv_if_ne (tgt := 37) hx hb dX4_playerOf_25 (by decide) (fun c25 => ?_) (fun c25 => ?_)
      · have h := k_nf c25 h
        refine lv_aload_n hx hb dX4_playerOf_37 rfl (lv_at hl 0 rfl) ?_
        refine r_get C hP (ci := 4) rfl uin_X4 9 (by decide) 0 (by decide) rfl qFL_RX4_23 rfl rfl dX4_playerOf_38 ?_
        refine lv_iload_n hx hb dX4_playerOf_41 rfl (lv_at hl 1 rfl) ?_
        obtain ⟨hg, h⟩ := k_gd h
        refine r_iald C hP 5 (by decide) rfl hg dX4_playerOf_42 ?_
        exact e_iret C hend hP (k_some2 h).1 (congrArg (mw ev ad) (k_some2 h).2) dX4_playerOf_43
      · have h := k_if c25 h
        refine lv_aload_n hx hb dX4_playerOf_28 rfl (lv_at hl 0 rfl) ?_
        refine r_get C hP (ci := 4) rfl uin_X4 8 (by decide) 0 (by decide) rfl qFL_RX4_20 rfl rfl dX4_playerOf_29 ?_
        refine lv_iload_n hx hb dX4_playerOf_32 rfl (lv_at hl 1 rfl) ?_
        obtain ⟨hg, h⟩ := k_gd h
        refine r_iald C hP 4 (by decide) rfl hg dX4_playerOf_33 ?_
        refine lv_goto (tgt := 43) hx hb dX4_playerOf_34 (by decide) ?_
        exact e_iret C hend hP (k_some2 h).1 (congrArg (mw ev ad) (k_some2 h).2) dX4_playerOf_43
    · have h := k_nf c14 h
      refine lv_aload_n hx hb dX4_playerOf_17 rfl (lv_at hl 0 rfl) ?_
      refine lv_bipush (v := (-2)) hx hb dX4_playerOf_18 (by decide) ?_
      obtain ⟨x4, σ3, h1, h⟩ := k_ob2 h
      refine k_callVi C hP hap hAA (c_X4_no l ev ad σ (-2)   _ _ h1) Emb.same hap gz_X4_no qML_RX4_56 qIM_yX4_no qSE_yX4_no ⟨(Nat.le_of_ble_eq_true rfl), (Nat.le_of_ble_eq_true rfl)⟩ (q0 := 0) rfl (by decide) rfl rfl rfl rfl hl.1 rfl (Nat.le_of_ble_eq_true rfl) dX4_playerOf_20 ⟨Nat.le_refl _, Nat.le_refl _⟩ (fun H locs hP => ?_)
      exact e_iret C hend hP (k_some2 h).1 (congrArg (mw ev ad) (k_some2 h).2) dX4_playerOf_23
def f_X4_may (σ : MM) (a1 : Int32) : Option (Int32 × MM) :=
  if (f_X4_isMove σ a1) = true then ob (f_X4_mayBe σ a1) (fun b3 => if b3 = true then some (1, σ) else some (0, σ)) else ob2 (f_X4_no σ (-2)) (fun x2 σ1 => some (x2, σ1))
set_option maxHeartbeats 4000000 in
set_option maxRecDepth 100000 in
theorem c_X4_may (l : Launch) (ev : EV) (ad : Nat → Nat) (σ : MM) (a1 : Int32)   (r : Int32) (σ' : MM) (h : f_X4_may σ a1 = some (r, σ')) : Ct l yX4_may prog_6_method_49_code 2 (Option.some Jvm.ClassFile.FieldType.int) (rmk 4 88) ev 13 ad (mw ev ad σ) (mw ev ad σ') [.ref (ad 0), .int a1] (some (.int r)) := by
  refine Ct.of (by decide +kernel) (Nat.le_of_ble_eq_true rfl) ?_
  intro p e s m args below meth c Qc C hap hP hend ls hl
  have hAA : ∀ j, j < 13 → inA ad 13 (ad j) := fun j hj => ⟨j, hj, rfl⟩
  have hx := C.1
  have hb := C.2.1
  have hl : lv_has ls 2 [(0, .ref (ad 0)), (1, .int a1)] := hl
  have h := (f_X4_may.eq_1 _ _ ).symm.trans h
  refine lv_aload_n hx hb dX4_may_0 rfl (lv_at hl 0 rfl) ?_
  refine lv_iload_n hx hb dX4_may_1 rfl (lv_at hl 1 rfl) ?_
  refine k_callVi C hP hap hAA (c_X4_isMove l ev ad σ a1   _ rfl) Emb.same hap gz_X4_isMove qML_RX4_173 qIM_yX4_isMove qSE_yX4_isMove ⟨(Nat.le_of_ble_eq_true rfl), (Nat.le_of_ble_eq_true rfl)⟩ (q0 := 0) rfl (by decide) rfl rfl rfl rfl hl.1 rfl (Nat.le_of_ble_eq_true rfl) dX4_may_2 ⟨Nat.le_refl _, Nat.le_refl _⟩ (fun H locs hP => ?_)
  refine r_ifz_eq (tgt := 24) hx hb dX4_may_5 (by decide) (fun c5 => ?_) (fun c5 => ?_)
  · have h := k_nf c5 h
    refine lv_aload_n hx hb dX4_may_24 rfl (lv_at hl 0 rfl) ?_
    refine lv_bipush (v := (-2)) hx hb dX4_may_25 (by decide) ?_
    obtain ⟨x2, σ1, h1, h⟩ := k_ob2 h
    refine k_callVi C hP hap hAA (c_X4_no l ev ad σ (-2)   _ _ h1) Emb.same hap gz_X4_no qML_RX4_56 qIM_yX4_no qSE_yX4_no ⟨(Nat.le_of_ble_eq_true rfl), (Nat.le_of_ble_eq_true rfl)⟩ (q0 := 0) rfl (by decide) rfl rfl rfl rfl hl.1 rfl (Nat.le_of_ble_eq_true rfl) dX4_may_27 ⟨Nat.le_refl _, Nat.le_refl _⟩ (fun H locs hP => ?_)
    exact e_iret C hend hP (k_some2 h).1 (congrArg (mw ev ad) (k_some2 h).2) dX4_may_30
  · have h := k_if c5 h
    refine lv_aload_n hx hb dX4_may_8 rfl (lv_at hl 0 rfl) ?_
    refine lv_iload_n hx hb dX4_may_9 rfl (lv_at hl 1 rfl) ?_
    obtain ⟨b3, h1, h⟩ := k_ob h
    refine k_callVi C hP hap hAA (c_X4_mayBe l ev ad σ a1   _ h1) Emb.same hap gz_X4_mayBe qML_RX4_176 qIM_yX4_mayBe qSE_yX4_mayBe ⟨(Nat.le_of_ble_eq_true rfl), (Nat.le_of_ble_eq_true rfl)⟩ (q0 := 0) rfl (by decide) rfl rfl rfl rfl hl.1 rfl (Nat.le_of_ble_eq_true rfl) dX4_may_10 ⟨Nat.le_refl _, Nat.le_refl _⟩ (fun H locs hP => ?_)
    refine r_ifz_eq (tgt := 20) hx hb dX4_may_13 (by decide) (fun c13 => ?_) (fun c13 => ?_)
    · have h := k_nf c13 h
      refine lv_iconst (v := 0) hx hb dX4_may_20 (by decide) ?_
      refine lv_goto (tgt := 30) hx hb dX4_may_21 (by decide) ?_
      exact e_iret C hend hP (k_some2 h).1 (congrArg (mw ev ad) (k_some2 h).2) dX4_may_30
    · have h := k_if c13 h
      refine lv_iconst (v := 1) hx hb dX4_may_16 (by decide) ?_
      refine lv_goto (tgt := 30) hx hb dX4_may_17 (by decide) ?_
      exact e_iret C hend hP (k_some2 h).1 (congrArg (mw ev ad) (k_some2 h).2) dX4_may_30
def f_X4_moves (σ : MM) (a1 : Int32) : Option (Int32 × MM) :=
  if (-1) ≤ a1 then if a1 = (-1) then ob (f_X4_howMany σ) (fun x4 => some (x4, σ)) else ob (f_X4_ith σ a1) (fun x1 => if x1 = (-1) then ob2 (f_X4_no σ (-5)) (fun x3 σ2 => some (x3, σ2)) else some (x1, σ)) else ob2 (f_X4_no σ (-2)) (fun x6 σ5 => some (x6, σ5))
set_option maxHeartbeats 4000000 in
set_option maxRecDepth 100000 in
theorem c_X4_moves (l : Launch) (ev : EV) (ad : Nat → Nat) (σ : MM) (a1 : Int32)   (r : Int32) (σ' : MM) (h : f_X4_moves σ a1 = some (r, σ')) : Ct l yX4_moves prog_6_method_50_code 3 (Option.some Jvm.ClassFile.FieldType.int) (rmk 5 111) ev 13 ad (mw ev ad σ) (mw ev ad σ') [.ref (ad 0), .int a1] (some (.int r)) := by
  refine Ct.of (by decide +kernel) (Nat.le_of_ble_eq_true rfl) ?_
  intro p e s m args below meth c Qc C hap hP hend ls hl
  have hAA : ∀ j, j < 13 → inA ad 13 (ad j) := fun j hj => ⟨j, hj, rfl⟩
  have hx := C.1
  have hb := C.2.1
  have hl : lv_has ls 3 [(0, .ref (ad 0)), (1, .int a1)] := hl
  have h := (f_X4_moves.eq_1 _ _ ).symm.trans h
  refine lv_iload_n hx hb dX4_moves_0 rfl (lv_at hl 1 rfl) ?_
  refine lv_iconst (v := (-1)) hx hb dX4_moves_1 (by decide) ?_
  refine lv_icmp_ge (tgt := 12) hx hb dX4_moves_2 (by decide) (fun c2 => ?_) (fun c2 => ?_)
  · have h := k_if c2 h
    refine lv_iload_n hx hb dX4_moves_12 rfl (lv_at hl 1 rfl) ?_
    refine lv_iconst (v := (-1)) hx hb dX4_moves_13 (by decide) ?_
    refine lv_icmp_ne (tgt := 22) hx hb dX4_moves_14 (by decide) (fun c14 => ?_) (fun c14 => ?_)
    · have h := k_nf c14 h
      refine lv_aload_n hx hb dX4_moves_22 rfl (lv_at hl 0 rfl) ?_
      refine lv_iload_n hx hb dX4_moves_23 rfl (lv_at hl 1 rfl) ?_
      obtain ⟨x1, h1, h⟩ := k_ob h
      refine k_callVi C hP hap hAA (c_X4_ith l ev ad σ a1   _ h1) Emb.same hap gz_X4_ith qML_RX4_208 qIM_yX4_ith qSE_yX4_ith ⟨(Nat.le_of_ble_eq_true rfl), (Nat.le_of_ble_eq_true rfl)⟩ (q0 := 0) rfl (by decide) rfl rfl rfl rfl hl.1 rfl (Nat.le_of_ble_eq_true rfl) dX4_moves_24 ⟨Nat.le_refl _, Nat.le_refl _⟩ (fun H locs hP => ?_)
      refine lv_istore_n (lv' := [(2, .int x1), (0, .ref (ad 0)), (1, .int a1)]) hx hb dX4_moves_27 rfl hl (by decide) rfl (fun ls hl => ?_)
      refine lv_iload_n hx hb dX4_moves_28 rfl (lv_at hl 0 rfl) ?_
      refine lv_iconst (v := (-1)) hx hb dX4_moves_29 (by decide) ?_
      refine lv_icmp_ne (tgt := 42) hx hb dX4_moves_30 (by decide) (fun c30 => ?_) (fun c30 => ?_)
      · have h := k_nf c30 h
        refine lv_iload_n hx hb dX4_moves_42 rfl (lv_at hl 0 rfl) ?_
        exact e_iret C hend hP (k_some2 h).1 (congrArg (mw ev ad) (k_some2 h).2) dX4_moves_43
      · have h := k_if c30 h
        refine lv_aload_n hx hb dX4_moves_33 rfl (lv_at hl 1 rfl) ?_
        refine lv_bipush (v := (-5)) hx hb dX4_moves_34 (by decide) ?_
        obtain ⟨x3, σ2, h1, h⟩ := k_ob2 h
        refine k_callVi C hP hap hAA (c_X4_no l ev ad σ (-5)   _ _ h1) Emb.same hap gz_X4_no qML_RX4_56 qIM_yX4_no qSE_yX4_no ⟨(Nat.le_of_ble_eq_true rfl), (Nat.le_of_ble_eq_true rfl)⟩ (q0 := 0) rfl (by decide) rfl rfl rfl rfl hl.1 rfl (Nat.le_of_ble_eq_true rfl) dX4_moves_36 ⟨Nat.le_refl _, Nat.le_refl _⟩ (fun H locs hP => ?_)
        refine lv_goto (tgt := 43) hx hb dX4_moves_39 (by decide) ?_
        exact e_iret C hend hP (k_some2 h).1 (congrArg (mw ev ad) (k_some2 h).2) dX4_moves_43
    · have h := k_if c14 h
      refine lv_aload_n hx hb dX4_moves_17 rfl (lv_at hl 0 rfl) ?_
      obtain ⟨x4, h1, h⟩ := k_ob h
      refine k_callVi C hP hap hAA (c_X4_howMany l ev ad σ   _ h1) Emb.same hap gz_X4_howMany qML_RX4_94 qIM_yX4_howMany qSE_yX4_howMany ⟨(Nat.le_of_ble_eq_true rfl), (Nat.le_of_ble_eq_true rfl)⟩ (q0 := 0) rfl (by decide) rfl rfl rfl rfl hl.1 rfl (Nat.le_of_ble_eq_true rfl) dX4_moves_18 ⟨Nat.le_refl _, Nat.le_refl _⟩ (fun H locs hP => ?_)
      exact e_iret C hend hP (k_some2 h).1 (congrArg (mw ev ad) (k_some2 h).2) dX4_moves_21
  · have h := k_nf c2 h
    refine lv_aload_n hx hb dX4_moves_5 rfl (lv_at hl 0 rfl) ?_
    refine lv_bipush (v := (-2)) hx hb dX4_moves_6 (by decide) ?_
    obtain ⟨x6, σ5, h1, h⟩ := k_ob2 h
    refine k_callVi C hP hap hAA (c_X4_no l ev ad σ (-2)   _ _ h1) Emb.same hap gz_X4_no qML_RX4_56 qIM_yX4_no qSE_yX4_no ⟨(Nat.le_of_ble_eq_true rfl), (Nat.le_of_ble_eq_true rfl)⟩ (q0 := 0) rfl (by decide) rfl rfl rfl rfl hl.1 rfl (Nat.le_of_ble_eq_true rfl) dX4_moves_8 ⟨Nat.le_refl _, Nat.le_refl _⟩ (fun H locs hP => ?_)
    exact e_iret C hend hP (k_some2 h).1 (congrArg (mw ev ad) (k_some2 h).2) dX4_moves_11
def f_X4_lanesOf_b83 (σ : MM) (a1 : Int32) (x1 : Int32) (rec10 : Int32 → Int32 → Option (Int32)) (x5 : Int32) (x6 : Int32) : Option (Int32) :=
  gd (nz (m_w σ)) (if (m_h σ) ≤ ((idiv x6 (m_w σ)) + 2) then lt (x6 + 1) (fun x7 => rec10 x5 x7) else ob (f_X4_colour σ (x6 + (m_w σ)) x1) (fun x8 => if x8 = a1 then ob (f_X4_colour σ (x6 + (2 * (m_w σ))) x1) (fun x10 => if x10 = a1 then lt (x5 + 1) (fun x12 => lt (x6 + 1) (fun x13 => rec10 x12 x13)) else lt (x6 + 1) (fun x11 => rec10 x5 x11)) else lt (x6 + 1) (fun x9 => rec10 x5 x9)))
def f_X4_lanesOf_L10_b (σ : MM) (a1 : Int32) (x1 : Int32)  (rec10 : Int32 → Int32 → Option (Int32)) (x2 : Int32) (x3 : Int32) : Option (Int32) :=
  if ((m_w σ) * (m_h σ)) ≤ x3 then some x2 else ob (f_X4_colour σ x3 x1) (fun x4 => if x4 = a1 then gd (nz (m_w σ)) (if (m_w σ) ≤ ((irem x3 (m_w σ)) + 2) then f_X4_lanesOf_b83 σ a1 x1 rec10 x2 x3 else ob (f_X4_colour σ (x3 + 1) x1) (fun x14 => if x14 = a1 then ob (f_X4_colour σ (x3 + 2) x1) (fun x15 => if x15 = a1 then lt (x2 + 1) (fun x16 => f_X4_lanesOf_b83 σ a1 x1 rec10 x16 x3) else f_X4_lanesOf_b83 σ a1 x1 rec10 x2 x3) else f_X4_lanesOf_b83 σ a1 x1 rec10 x2 x3)) else lt (x3 + 1) (fun x17 => rec10 x2 x17))
def f_X4_lanesOf_L10 (σ : MM) (a1 : Int32) (x1 : Int32)  (x2 : Int32) (x3 : Int32) : Option (Int32) :=
  lp (fun _ _ => none) (f_X4_lanesOf_L10_b σ a1 x1 ) FU x2 x3
def f_X4_lanesOf (σ : MM) (a1 : Int32) : Option (Int32) :=
  ob (f_X4_drains σ) (fun x1 => f_X4_lanesOf_L10 σ a1 x1 0 0)
set_option maxHeartbeats 4000000 in
set_option maxRecDepth 100000 in
theorem c_X4_lanesOf (l : Launch) (ev : EV) (ad : Nat → Nat) (σ : MM) (a1 : Int32)   (r : Int32)  (h : f_X4_lanesOf σ a1 = some r) : Ct l yX4_lanesOf prog_6_method_55_code 5 (Option.some Jvm.ClassFile.FieldType.int) (rmk 6 137) ev 13 ad (mw ev ad σ) (mw ev ad σ) [.ref (ad 0), .int a1] (some (.int r)) := by
  refine Ct.of (by decide +kernel) (Nat.le_of_ble_eq_true rfl) ?_
  intro p e s m args below meth c Qc C hap hP hend ls hl
  have hAA : ∀ j, j < 13 → inA ad 13 (ad j) := fun j hj => ⟨j, hj, rfl⟩
  have hx := C.1
  have hb := C.2.1
  have hl : lv_has ls 5 [(0, .ref (ad 0)), (1, .int a1)] := hl
  have h := (f_X4_lanesOf.eq_1 _ _ ).symm.trans h
  refine lv_aload_n hx hb dX4_lanesOf_0 rfl (lv_at hl 0 rfl) ?_
  obtain ⟨x1, h1, h⟩ := k_ob h
  refine k_callVi C hP hap hAA (c_X4_drains l ev ad σ   _ h1) Emb.same hap gz_X4_drains qML_RX4_199 qIM_yX4_drains qSE_yX4_drains ⟨(Nat.le_of_ble_eq_true rfl), (Nat.le_of_ble_eq_true rfl)⟩ (q0 := 0) rfl (by decide) rfl rfl rfl rfl hl.1 rfl (Nat.le_of_ble_eq_true rfl) dX4_lanesOf_1 ⟨Nat.le_refl _, Nat.le_refl _⟩ (fun H locs hP => ?_)
  refine lv_istore_n (lv' := [(2, .int x1), (0, .ref (ad 0)), (1, .int a1)]) hx hb dX4_lanesOf_4 rfl hl (by decide) rfl (fun ls hl => ?_)
  refine lv_iconst (v := 0) hx hb dX4_lanesOf_5 (by decide) ?_
  refine lv_istore_n (lv' := [(3, .int 0), (2, .int x1), (0, .ref (ad 0)), (1, .int a1)]) hx hb dX4_lanesOf_6 rfl hl (by decide) rfl (fun ls hl => ?_)
  refine lv_iconst (v := 0) hx hb dX4_lanesOf_7 (by decide) ?_
  refine lv_istore (lv' := [(4, .int 0), (3, .int 0), (2, .int x1), (0, .ref (ad 0)), (1, .int a1)]) hx hb dX4_lanesOf_8 hl (by decide) rfl (fun ls hl => ?_)
  have hL10 : ∀ (n : Nat) (x2 : Int32) (x3 : Int32) (H : Heap) (locs : List Loc) (ls : Array Slot), lp (fun _ _ => none) (f_X4_lanesOf_L10_b σ a1 x1 ) n x2 x3 = some r → PS ev 13 ad (mw ev ad σ) (inA ad 13) s H locs → lv_has ls 5 [(0, .ref (ad 0)), (1, .int a1), (2, .int x1), (3, .int x2), (4, .int x3)] → WW ev p l e (rmk 6 137) s m args below meth c Qc ad 13 H locs 10 ls [] := by
    intro n
    induction n with
    | zero =>
      intro x2 x3 H locs ls h; exact k_none h
    | succ n ih =>
      intro x2 x3 H locs ls h hP hl
      have h : f_X4_lanesOf_L10_b σ a1 x1  (lp (fun _ _ => none) (f_X4_lanesOf_L10_b σ a1 x1 ) n) x2 x3 = some r := h
      have h := (f_X4_lanesOf_L10_b.eq_1 _ _ _ _ _ _ ).symm.trans h
      have hB83 : ∀ (x5 : Int32) (x6 : Int32) (H : Heap) (locs : List Loc) (ls : Array Slot), f_X4_lanesOf_b83 σ a1 x1 (lp (fun _ _ => none) (f_X4_lanesOf_L10_b σ a1 x1 ) n) x5 x6 = some r → PS ev 13 ad (mw ev ad σ) (inA ad 13) s H locs → lv_has ls 5 [(0, .ref (ad 0)), (1, .int a1), (2, .int x1), (3, .int x5), (4, .int x6)] → WW ev p l e (rmk 6 137) s m args below meth c Qc ad 13 H locs 83 ls [] := by
        intro x5 x6 H locs ls h hP hl
        have h := (f_X4_lanesOf_b83.eq_1 _ _ _ _ _ _ ).symm.trans h
        refine lv_iload hx hb dX4_lanesOf_83 (lv_at hl 4 rfl) ?_
        refine lv_aload_n hx hb dX4_lanesOf_85 rfl (lv_at hl 0 rfl) ?_
        refine r_get C hP (ci := 4) rfl uin_X4 0 (by decide) 0 (by decide) rfl qFL_RX4_67 rfl rfl dX4_lanesOf_86 ?_
        obtain ⟨hg, h⟩ := k_gd h
        refine r_idiv hx hb dX4_lanesOf_89 (nz_ne hg) ?_
        refine lv_iconst (v := 2) hx hb dX4_lanesOf_90 (by decide) ?_
        refine lv_iadd hx hb dX4_lanesOf_91 ?_
        refine lv_aload_n hx hb dX4_lanesOf_92 rfl (lv_at hl 0 rfl) ?_
        refine r_get C hP (ci := 4) rfl uin_X4 1 (by decide) 0 (by decide) rfl qFL_RX4_70 rfl rfl dX4_lanesOf_93 ?_
        refine lv_icmp_ge (tgt := 136) hx hb dX4_lanesOf_96 (by decide) (fun c96 => ?_) (fun c96 => ?_)
        · have h := k_if c96 h
          obtain ⟨x7, ex7, h⟩ := k_ltx h
          refine lv_iinc (v := x7) (lv' := [(4, .int x7), (0, .ref (ad 0)), (1, .int a1), (2, .int x1), (3, .int x5)]) hx hb dX4_lanesOf_136 hl (k := 4) rfl (by rw [ex7]; rfl) (by decide) rfl (fun ls hl => ?_)
          refine lv_goto (tgt := 10) hx hb dX4_lanesOf_139 (by decide) ?_
          exact ih _ _ _ _ _ h hP (lv_sub hl [1, 2, 3, 4, 0] rfl)
        · have h := k_nf c96 h
          refine lv_aload_n hx hb dX4_lanesOf_99 rfl (lv_at hl 0 rfl) ?_
          refine lv_iload hx hb dX4_lanesOf_100 (lv_at hl 4 rfl) ?_
          refine lv_aload_n hx hb dX4_lanesOf_102 rfl (lv_at hl 0 rfl) ?_
          refine r_get C hP (ci := 4) rfl uin_X4 0 (by decide) 0 (by decide) rfl qFL_RX4_67 rfl rfl dX4_lanesOf_103 ?_
          refine lv_iadd hx hb dX4_lanesOf_106 ?_
          refine lv_iload_n hx hb dX4_lanesOf_107 rfl (lv_at hl 2 rfl) ?_
          obtain ⟨x8, h1, h⟩ := k_ob h
          refine k_callVi C hP hap hAA (c_X4_colour l ev ad σ (x6 + (m_w σ)) x1   _ h1) Emb.same hap gz_X4_colour qML_RX4_202 qIM_yX4_colour qSE_yX4_colour ⟨(Nat.le_of_ble_eq_true rfl), (Nat.le_of_ble_eq_true rfl)⟩ (q0 := 0) rfl (by decide) rfl rfl rfl rfl hl.1 rfl (Nat.le_of_ble_eq_true rfl) dX4_lanesOf_108 ⟨Nat.le_refl _, Nat.le_refl _⟩ (fun H locs hP => ?_)
          refine lv_iload_n hx hb dX4_lanesOf_111 rfl (lv_at hl 1 rfl) ?_
          refine lv_icmp_ne (tgt := 136) hx hb dX4_lanesOf_112 (by decide) (fun c112 => ?_) (fun c112 => ?_)
          · have h := k_nf c112 h
            obtain ⟨x9, ex9, h⟩ := k_ltx h
            refine lv_iinc (v := x9) (lv' := [(4, .int x9), (0, .ref (ad 0)), (1, .int a1), (2, .int x1), (3, .int x5)]) hx hb dX4_lanesOf_136 hl (k := 4) rfl (by rw [ex9]; rfl) (by decide) rfl (fun ls hl => ?_)
            refine lv_goto (tgt := 10) hx hb dX4_lanesOf_139 (by decide) ?_
            exact ih _ _ _ _ _ h hP (lv_sub hl [1, 2, 3, 4, 0] rfl)
          · have h := k_if c112 h
            refine lv_aload_n hx hb dX4_lanesOf_115 rfl (lv_at hl 0 rfl) ?_
            refine lv_iload hx hb dX4_lanesOf_116 (lv_at hl 4 rfl) ?_
            refine lv_iconst (v := 2) hx hb dX4_lanesOf_118 (by decide) ?_
            refine lv_aload_n hx hb dX4_lanesOf_119 rfl (lv_at hl 0 rfl) ?_
            refine r_get C hP (ci := 4) rfl uin_X4 0 (by decide) 0 (by decide) rfl qFL_RX4_67 rfl rfl dX4_lanesOf_120 ?_
            refine lv_imul hx hb dX4_lanesOf_123 ?_
            refine lv_iadd hx hb dX4_lanesOf_124 ?_
            refine lv_iload_n hx hb dX4_lanesOf_125 rfl (lv_at hl 2 rfl) ?_
            obtain ⟨x10, h1, h⟩ := k_ob h
            refine k_callVi C hP hap hAA (c_X4_colour l ev ad σ (x6 + (2 * (m_w σ))) x1   _ h1) Emb.same hap gz_X4_colour qML_RX4_202 qIM_yX4_colour qSE_yX4_colour ⟨(Nat.le_of_ble_eq_true rfl), (Nat.le_of_ble_eq_true rfl)⟩ (q0 := 0) rfl (by decide) rfl rfl rfl rfl hl.1 rfl (Nat.le_of_ble_eq_true rfl) dX4_lanesOf_126 ⟨Nat.le_refl _, Nat.le_refl _⟩ (fun H locs hP => ?_)
            refine lv_iload_n hx hb dX4_lanesOf_129 rfl (lv_at hl 1 rfl) ?_
            refine lv_icmp_ne (tgt := 136) hx hb dX4_lanesOf_130 (by decide) (fun c130 => ?_) (fun c130 => ?_)
            · have h := k_nf c130 h
              obtain ⟨x11, ex11, h⟩ := k_ltx h
              refine lv_iinc (v := x11) (lv' := [(4, .int x11), (0, .ref (ad 0)), (1, .int a1), (2, .int x1), (3, .int x5)]) hx hb dX4_lanesOf_136 hl (k := 4) rfl (by rw [ex11]; rfl) (by decide) rfl (fun ls hl => ?_)
              refine lv_goto (tgt := 10) hx hb dX4_lanesOf_139 (by decide) ?_
              exact ih _ _ _ _ _ h hP (lv_sub hl [1, 2, 3, 4, 0] rfl)
            · have h := k_if c130 h
              obtain ⟨x12, ex12, h⟩ := k_ltx h
              refine lv_iinc (v := x12) (lv' := [(3, .int x12), (0, .ref (ad 0)), (1, .int a1), (2, .int x1), (4, .int x6)]) hx hb dX4_lanesOf_133 hl (k := 3) rfl (by rw [ex12]; rfl) (by decide) rfl (fun ls hl => ?_)
              obtain ⟨x13, ex13, h⟩ := k_ltx h
              refine lv_iinc (v := x13) (lv' := [(4, .int x13), (3, .int x12), (0, .ref (ad 0)), (1, .int a1), (2, .int x1)]) hx hb dX4_lanesOf_136 hl (k := 4) rfl (by rw [ex13]; rfl) (by decide) rfl (fun ls hl => ?_)
              refine lv_goto (tgt := 10) hx hb dX4_lanesOf_139 (by decide) ?_
              exact ih _ _ _ _ _ h hP (lv_sub hl [2, 3, 4, 1, 0] rfl)
      refine lv_iload hx hb dX4_lanesOf_10 (lv_at hl 4 rfl) ?_
      refine lv_aload_n hx hb dX4_lanesOf_12 rfl (lv_at hl 0 rfl) ?_
      refine r_get C hP (ci := 4) rfl uin_X4 0 (by decide) 0 (by decide) rfl qFL_RX4_67 rfl rfl dX4_lanesOf_13 ?_
      refine lv_aload_n hx hb dX4_lanesOf_16 rfl (lv_at hl 0 rfl) ?_
      refine r_get C hP (ci := 4) rfl uin_X4 1 (by decide) 0 (by decide) rfl qFL_RX4_70 rfl rfl dX4_lanesOf_17 ?_
      refine lv_imul hx hb dX4_lanesOf_20 ?_
      refine lv_icmp_ge (tgt := 142) hx hb dX4_lanesOf_21 (by decide) (fun c21 => ?_) (fun c21 => ?_)
      · have h := k_if c21 h
        refine lv_iload_n hx hb dX4_lanesOf_142 rfl (lv_at hl 3 rfl) ?_
        exact e_iret C hend hP (k_some h) rfl dX4_lanesOf_143
      · have h := k_nf c21 h
        refine lv_aload_n hx hb dX4_lanesOf_24 rfl (lv_at hl 0 rfl) ?_
        refine lv_iload hx hb dX4_lanesOf_25 (lv_at hl 4 rfl) ?_
        refine lv_iload_n hx hb dX4_lanesOf_27 rfl (lv_at hl 2 rfl) ?_
        obtain ⟨x4, h1, h⟩ := k_ob h
        refine k_callVi C hP hap hAA (c_X4_colour l ev ad σ x3 x1   _ h1) Emb.same hap gz_X4_colour qML_RX4_202 qIM_yX4_colour qSE_yX4_colour ⟨(Nat.le_of_ble_eq_true rfl), (Nat.le_of_ble_eq_true rfl)⟩ (q0 := 0) rfl (by decide) rfl rfl rfl rfl hl.1 rfl (Nat.le_of_ble_eq_true rfl) dX4_lanesOf_28 ⟨Nat.le_refl _, Nat.le_refl _⟩ (fun H locs hP => ?_)
        refine lv_iload_n hx hb dX4_lanesOf_31 rfl (lv_at hl 1 rfl) ?_
        refine lv_icmp_eq (tgt := 38) hx hb dX4_lanesOf_32 (by decide) (fun c32 => ?_) (fun c32 => ?_)
        · have h := k_if c32 h
          refine lv_iload hx hb dX4_lanesOf_38 (lv_at hl 4 rfl) ?_
          refine lv_aload_n hx hb dX4_lanesOf_40 rfl (lv_at hl 0 rfl) ?_
          refine r_get C hP (ci := 4) rfl uin_X4 0 (by decide) 0 (by decide) rfl qFL_RX4_67 rfl rfl dX4_lanesOf_41 ?_
          obtain ⟨hg, h⟩ := k_gd h
          refine r_irem hx hb dX4_lanesOf_44 (nz_ne hg) ?_
          refine lv_iconst (v := 2) hx hb dX4_lanesOf_45 (by decide) ?_
          refine lv_iadd hx hb dX4_lanesOf_46 ?_
          refine lv_aload_n hx hb dX4_lanesOf_47 rfl (lv_at hl 0 rfl) ?_
          refine r_get C hP (ci := 4) rfl uin_X4 0 (by decide) 0 (by decide) rfl qFL_RX4_67 rfl rfl dX4_lanesOf_48 ?_
          refine lv_icmp_ge (tgt := 83) hx hb dX4_lanesOf_51 (by decide) (fun c51 => ?_) (fun c51 => ?_)
          · have h := k_if c51 h
            exact hB83 _ _ _ _ _ h hP (lv_sub hl [0, 1, 2, 3, 4] rfl)
          · have h := k_nf c51 h
            refine lv_aload_n hx hb dX4_lanesOf_54 rfl (lv_at hl 0 rfl) ?_
            refine lv_iload hx hb dX4_lanesOf_55 (lv_at hl 4 rfl) ?_
            refine lv_iconst (v := 1) hx hb dX4_lanesOf_57 (by decide) ?_
            refine lv_iadd hx hb dX4_lanesOf_58 ?_
            refine lv_iload_n hx hb dX4_lanesOf_59 rfl (lv_at hl 2 rfl) ?_
            obtain ⟨x14, h1, h⟩ := k_ob h
            refine k_callVi C hP hap hAA (c_X4_colour l ev ad σ (x3 + 1) x1   _ h1) Emb.same hap gz_X4_colour qML_RX4_202 qIM_yX4_colour qSE_yX4_colour ⟨(Nat.le_of_ble_eq_true rfl), (Nat.le_of_ble_eq_true rfl)⟩ (q0 := 0) rfl (by decide) rfl rfl rfl rfl hl.1 rfl (Nat.le_of_ble_eq_true rfl) dX4_lanesOf_60 ⟨Nat.le_refl _, Nat.le_refl _⟩ (fun H locs hP => ?_)
            refine lv_iload_n hx hb dX4_lanesOf_63 rfl (lv_at hl 1 rfl) ?_
            refine lv_icmp_ne (tgt := 83) hx hb dX4_lanesOf_64 (by decide) (fun c64 => ?_) (fun c64 => ?_)
            · have h := k_nf c64 h
              exact hB83 _ _ _ _ _ h hP (lv_sub hl [0, 1, 2, 3, 4] rfl)
            · have h := k_if c64 h
              refine lv_aload_n hx hb dX4_lanesOf_67 rfl (lv_at hl 0 rfl) ?_
              refine lv_iload hx hb dX4_lanesOf_68 (lv_at hl 4 rfl) ?_
              refine lv_iconst (v := 2) hx hb dX4_lanesOf_70 (by decide) ?_
              refine lv_iadd hx hb dX4_lanesOf_71 ?_
              refine lv_iload_n hx hb dX4_lanesOf_72 rfl (lv_at hl 2 rfl) ?_
              obtain ⟨x15, h1, h⟩ := k_ob h
              refine k_callVi C hP hap hAA (c_X4_colour l ev ad σ (x3 + 2) x1   _ h1) Emb.same hap gz_X4_colour qML_RX4_202 qIM_yX4_colour qSE_yX4_colour ⟨(Nat.le_of_ble_eq_true rfl), (Nat.le_of_ble_eq_true rfl)⟩ (q0 := 0) rfl (by decide) rfl rfl rfl rfl hl.1 rfl (Nat.le_of_ble_eq_true rfl) dX4_lanesOf_73 ⟨Nat.le_refl _, Nat.le_refl _⟩ (fun H locs hP => ?_)
              refine lv_iload_n hx hb dX4_lanesOf_76 rfl (lv_at hl 1 rfl) ?_
              refine lv_icmp_ne (tgt := 83) hx hb dX4_lanesOf_77 (by decide) (fun c77 => ?_) (fun c77 => ?_)
              · have h := k_nf c77 h
                exact hB83 _ _ _ _ _ h hP (lv_sub hl [0, 1, 2, 3, 4] rfl)
              · have h := k_if c77 h
                obtain ⟨x16, ex16, h⟩ := k_ltx h
                refine lv_iinc (v := x16) (lv' := [(3, .int x16), (0, .ref (ad 0)), (1, .int a1), (2, .int x1), (4, .int x3)]) hx hb dX4_lanesOf_80 hl (k := 3) rfl (by rw [ex16]; rfl) (by decide) rfl (fun ls hl => ?_)
                exact hB83 _ _ _ _ _ h hP (lv_sub hl [1, 2, 3, 0, 4] rfl)
        · have h := k_nf c32 h
          refine lv_goto (tgt := 136) hx hb dX4_lanesOf_35 (by decide) ?_
          obtain ⟨x17, ex17, h⟩ := k_ltx h
          refine lv_iinc (v := x17) (lv' := [(4, .int x17), (0, .ref (ad 0)), (1, .int a1), (2, .int x1), (3, .int x2)]) hx hb dX4_lanesOf_136 hl (k := 4) rfl (by rw [ex17]; rfl) (by decide) rfl (fun ls hl => ?_)
          refine lv_goto (tgt := 10) hx hb dX4_lanesOf_139 (by decide) ?_
          exact ih _ _ _ _ _ h hP (lv_sub hl [1, 2, 3, 4, 0] rfl)
  exact hL10 FU _ _ _ _ _ h hP (lv_sub hl [3, 4, 2, 1, 0] rfl)
