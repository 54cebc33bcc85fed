/-! functions read off, and their contracts: by program (wip/whole/gen2.py) -/
def f_X4_choiceOf (σ : MM) (a1 : Int32) : Option (Int32 × MM) :=
  lt (m_seed σ) (fun x1 => ob2 (f_X4_chosen σ a1) (fun x3 σ2 => lt (m_seed' σ2 x1) (fun σ4 => some (x3, σ4))))
set_option maxHeartbeats 4000000 in
set_option maxRecDepth 100000 in
theorem c_X4_choiceOf (l : Launch) (ev : EV) (ad : Nat → Nat) (σ : MM) (a1 : Int32)   (r : Int32) (σ' : MM) (h : f_X4_choiceOf σ a1 = some (r, σ')) : Ct l yX4_choiceOf prog_6_method_76_code 4 (Option.some Jvm.ClassFile.FieldType.int) (rmk 7 157) ev 13 ad (mw ev ad σ) (mw ev ad σ') [.ref (ad 0), .int a1] (some (.int r)) := by
  refine Ct.of (by decide +kernel) (Nat.le_of_ble_eq_true rfl) ?_
  intro p e s m args below meth c Qc C hap hP hend ls hl
  have hAA : ∀ j, j < 13 → inA ad 13 (ad j) := fun j hj => ⟨j, hj, rfl⟩
  have hx := C.1
  have hb := C.2.1
  have hl : lv_has ls 4 [(0, .ref (ad 0)), (1, .int a1)] := hl
  have h := (f_X4_choiceOf.eq_1 _ _ ).symm.trans h
  refine lv_aload_n hx hb dX4_choiceOf_0 rfl (lv_at hl 0 rfl) ?_
  refine r_get C hP (ci := 4) rfl uin_X4 10 (by decide) 0 (by decide) rfl qFL_RX4_48 rfl rfl dX4_choiceOf_1 ?_
  refine lv_topi (fun x1 ex1 => ?_)
  have h := k_lt ex1 h
  refine lv_istore_n (lv' := [(2, .int x1), (0, .ref (ad 0)), (1, .int a1)]) hx hb dX4_choiceOf_4 rfl hl (by decide) rfl (fun ls hl => ?_)
  refine lv_aload_n hx hb dX4_choiceOf_5 rfl (lv_at hl 1 rfl) ?_
  refine lv_iload_n hx hb dX4_choiceOf_6 rfl (lv_at hl 2 rfl) ?_
  obtain ⟨x3, σ2, h1, h⟩ := k_ob2 h
  refine k_callVi C hP hap hAA (c_X4_chosen l ev ad σ a1   _ _ h1) Emb.same hap gz_X4_chosen qML_RX4_265 qIM_yX4_chosen qSE_yX4_chosen ⟨(Nat.le_of_ble_eq_true rfl), (Nat.le_of_ble_eq_true rfl)⟩ (q0 := 0) rfl (by decide) rfl rfl rfl rfl hl.1 rfl (Nat.le_of_ble_eq_true rfl) dX4_choiceOf_7 ⟨Nat.le_refl _, Nat.le_refl _⟩ (fun H locs hP => ?_)
  refine lv_istore_n (lv' := [(3, .int x3), (2, .int x1), (0, .ref (ad 0)), (1, .int a1)]) hx hb dX4_choiceOf_10 rfl hl (by decide) rfl (fun ls hl => ?_)
  refine lv_aload_n hx hb dX4_choiceOf_11 rfl (lv_at hl 2 rfl) ?_
  refine lv_iload_n hx hb dX4_choiceOf_12 rfl (lv_at hl 1 rfl) ?_
  obtain ⟨σ4, eσ4, h⟩ := k_ltx h
  refine pt_M_X4_seed C hP hap hAA eσ4 qFL_RX4_48 dX4_choiceOf_13 (fun H locs hP => ?_)
  refine lv_iload_n hx hb dX4_choiceOf_16 rfl (lv_at hl 0 rfl) ?_
  exact e_iret C hend hP (k_some2 h).1 (congrArg (mw ev ad) (k_some2 h).2) dX4_choiceOf_17
def f_X4_says (σ : MM) (a1 : Int32) (a2 : Int32) : Option (Int32 × MM) :=
  if (f_X4_isShelf a1) = true then if (f_X4_within a2 0 5) = true then ob (f_X4_isRow σ a1) (fun b3 => if b3 = true then ob2 (f_X4_no σ (-3)) (fun x13 σ12 => some (x13, σ12)) else gd (inb a1 8) (if 0 ≤ ((m_holding σ) (Int32.toNatClampNeg a1)) then gd (inb a1 8) (lt (((m_holding σ) (Int32.toNatClampNeg a1)) - 10) (fun x4 => gd (inb x4 6) (if (f_X4_isUnder ((m_kind σ) (Int32.toNatClampNeg x4)) a2) = true then if a2 = 0 then gd (inb x4 6) (some (((m_own σ) (Int32.toNatClampNeg x4)), σ)) else if a2 = 5 then ob (f_X4_howMany σ) (fun x7 => some (x7, σ)) else ob2 (f_X4_choiceOf σ x4) (fun x6 σ5 => some (x6, σ5)) else ob2 (f_X4_no σ (-3)) (fun x9 σ8 => some (x9, σ8))))) else ob2 (f_X4_no σ (-4)) (fun x11 σ10 => some (x11, σ10)))) else ob2 (f_X4_no σ (-2)) (fun x15 σ14 => some (x15, σ14)) else ob2 (f_X4_no σ (-2)) (fun x2 σ1 => some (x2, σ1))
set_option maxHeartbeats 4000000 in
set_option maxRecDepth 100000 in
theorem c_X4_says (l : Launch) (ev : EV) (ad : Nat → Nat) (σ : MM) (a1 : Int32) (a2 : Int32)   (r : Int32) (σ' : MM) (h : f_X4_says σ a1 a2 = some (r, σ')) : Ct l yX4_says prog_6_method_18_code 4 (Option.some Jvm.ClassFile.FieldType.int) (rmk 8 180) ev 13 ad (mw ev ad σ) (mw ev ad σ') [.ref (ad 0), .int a1, .int a2] (some (.int r)) := by
  refine Ct.of (by decide +kernel) (Nat.le_of_ble_eq_true rfl) ?_
  intro p e s m args below meth c Qc C hap hP hend ls hl
  have hAA : ∀ j, j < 13 → inA ad 13 (ad j) := fun j hj => ⟨j, hj, rfl⟩
  have hx := C.1
  have hb := C.2.1
  have hl : lv_has ls 4 [(0, .ref (ad 0)), (1, .int a1), (2, .int a2)] := hl
  have h := (f_X4_says.eq_1 _ _ _ ).symm.trans h
  refine lv_iload_n hx hb dX4_says_0 rfl (lv_at hl 1 rfl) ?_
  refine k_callSi C hP hap hAA (c_X4_isShelf l ev ad a1   _ rfl) Emb.none (apart_0 _) gz_X4_isShelf qML_RX4_73 qSM_yX4_isShelf ⟨(Nat.le_of_ble_eq_true rfl), (Nat.le_of_ble_eq_true rfl)⟩ rfl hl.1 rfl (Nat.le_of_ble_eq_true rfl) dX4_says_1 ⟨Nat.le_refl _, Nat.le_refl _⟩ (fun H locs hP => ?_)
  refine r_ifz_eq (tgt := 16) hx hb dX4_says_4 (by decide) (fun c4 => ?_) (fun c4 => ?_)
  · have h := k_nf c4 h
    refine lv_aload_n hx hb dX4_says_16 rfl (lv_at hl 0 rfl) ?_
    refine lv_bipush (v := (-2)) hx hb dX4_says_17 (by decide) ?_
    obtain ⟨x2, σ1, h1, h⟩ := k_ob2 h
    refine k_callVi C hP hap hAA (c_X4_no l ev ad σ (-2)   _ _ h1) Emb.same hap gz_X4_no qML_RX4_56 qIM_yX4_no qSE_yX4_no ⟨(Nat.le_of_ble_eq_true rfl), (Nat.le_of_ble_eq_true rfl)⟩ (q0 := 0) rfl (by decide) rfl rfl rfl rfl hl.1 rfl (Nat.le_of_ble_eq_true rfl) dX4_says_19 ⟨Nat.le_refl _, Nat.le_refl _⟩ (fun H locs hP => ?_)
    exact e_iret C hend hP (k_some2 h).1 (congrArg (mw ev ad) (k_some2 h).2) dX4_says_22
  · have h := k_if c4 h
    refine lv_iload_n hx hb dX4_says_7 rfl (lv_at hl 2 rfl) ?_
    refine lv_iconst (v := 0) hx hb dX4_says_8 (by decide) ?_
    refine lv_iconst (v := 5) hx hb dX4_says_9 (by decide) ?_
    refine k_callSi C hP hap hAA (c_X4_within l ev ad a2 0 5   _ rfl) Emb.none (apart_0 _) gz_X4_within qML_RX4_63 qSM_yX4_within ⟨(Nat.le_of_ble_eq_true rfl), (Nat.le_of_ble_eq_true rfl)⟩ rfl hl.1 rfl (Nat.le_of_ble_eq_true rfl) dX4_says_10 ⟨Nat.le_refl _, Nat.le_refl _⟩ (fun H locs hP => ?_)
    refine r_ifz_ne (tgt := 23) hx hb dX4_says_13 (by decide) (fun c13 => ?_) (fun c13 => ?_)
    · have h := k_if c13 h
      refine lv_aload_n hx hb dX4_says_23 rfl (lv_at hl 0 rfl) ?_
      refine lv_iload_n hx hb dX4_says_24 rfl (lv_at hl 1 rfl) ?_
      obtain ⟨b3, h1, h⟩ := k_ob h
      refine k_callVi C hP hap hAA (c_X4_isRow l ev ad σ a1   _ h1) Emb.same hap gz_X4_isRow qML_RX4_77 qIM_yX4_isRow qSE_yX4_isRow ⟨(Nat.le_of_ble_eq_true rfl), (Nat.le_of_ble_eq_true rfl)⟩ (q0 := 0) rfl (by decide) rfl rfl rfl rfl hl.1 rfl (Nat.le_of_ble_eq_true rfl) dX4_says_25 ⟨Nat.le_refl _, Nat.le_refl _⟩ (fun H locs hP => ?_)
      refine r_ifz_eq (tgt := 38) hx hb dX4_says_28 (by decide) (fun c28 => ?_) (fun c28 => ?_)
      · have h := k_nf c28 h
        refine lv_aload_n hx hb dX4_says_38 rfl (lv_at hl 0 rfl) ?_
        refine r_get C hP (ci := 4) rfl uin_X4 17 (by decide) 0 (by decide) rfl qFL_RX4_29 rfl rfl dX4_says_39 ?_
        refine lv_iload_n hx hb dX4_says_42 rfl (lv_at hl 1 rfl) ?_
        obtain ⟨hg, h⟩ := k_gd h
        refine r_iald C hP 7 (by decide) rfl hg dX4_says_43 ?_
        refine lv_if_ge (tgt := 54) hx hb dX4_says_44 (by decide) (fun c44 => ?_) (fun c44 => ?_)
        · have h := k_if c44 h
          refine lv_aload_n hx hb dX4_says_54 rfl (lv_at hl 0 rfl) ?_
          refine r_get C hP (ci := 4) rfl uin_X4 17 (by decide) 0 (by decide) rfl qFL_RX4_29 rfl rfl dX4_says_55 ?_
          refine lv_iload_n hx hb dX4_says_58 rfl (lv_at hl 1 rfl) ?_
          obtain ⟨hg, h⟩ := k_gd h
          refine r_iald C hP 7 (by decide) rfl hg dX4_says_59 ?_
          refine lv_bipush (v := 10) hx hb dX4_says_60 (by decide) ?_
          refine lv_isub hx hb dX4_says_62 ?_
          refine lv_topi (fun x4 ex4 => ?_)
          have h := k_lt ex4 h
          refine lv_istore_n (lv' := [(3, .int x4), (0, .ref (ad 0)), (1, .int a1), (2, .int a2)]) hx hb dX4_says_63 rfl hl (by decide) rfl (fun ls hl => ?_)
          refine lv_aload_n hx hb dX4_says_64 rfl (lv_at hl 1 rfl) ?_
          refine r_get C hP (ci := 4) rfl uin_X4 8 (by decide) 0 (by decide) rfl qFL_RX4_20 rfl rfl dX4_says_65 ?_
          refine lv_iload_n hx hb dX4_says_68 rfl (lv_at hl 0 rfl) ?_
          obtain ⟨hg, h⟩ := k_gd h
          refine r_iald C hP 4 (by decide) rfl hg dX4_says_69 ?_
          refine lv_iload_n hx hb dX4_says_70 rfl (lv_at hl 3 rfl) ?_
          refine k_callSi C hP hap hAA (c_X4_isUnder l ev ad ((m_kind σ) (Int32.toNatClampNeg x4)) a2   _ rfl) Emb.none (apart_0 _) gz_X4_isUnder qML_RX4_90 qSM_yX4_isUnder ⟨(Nat.le_of_ble_eq_true rfl), (Nat.le_of_ble_eq_true rfl)⟩ rfl hl.1 rfl (Nat.le_of_ble_eq_true rfl) dX4_says_71 ⟨Nat.le_refl _, Nat.le_refl _⟩ (fun H locs hP => ?_)
          refine r_ifz_ne (tgt := 84) hx hb dX4_says_74 (by decide) (fun c74 => ?_) (fun c74 => ?_)
          · have h := k_if c74 h
            refine lv_iload_n hx hb dX4_says_84 rfl (lv_at hl 3 rfl) ?_
            refine lv_if_ne (tgt := 97) hx hb dX4_says_85 (by decide) (fun c85 => ?_) (fun c85 => ?_)
            · have h := k_nf c85 h
              refine lv_iload_n hx hb dX4_says_97 rfl (lv_at hl 3 rfl) ?_
              refine lv_iconst (v := 5) hx hb dX4_says_98 (by decide) ?_
              refine lv_icmp_ne (tgt := 109) hx hb dX4_says_99 (by decide) (fun c99 => ?_) (fun c99 => ?_)
              · have h := k_nf c99 h
                refine lv_aload_n hx hb dX4_says_109 rfl (lv_at hl 1 rfl) ?_
                refine lv_iload_n hx hb dX4_says_110 rfl (lv_at hl 0 rfl) ?_
                obtain ⟨x6, σ5, h1, h⟩ := k_ob2 h
                refine k_callVi C hP hap hAA (c_X4_choiceOf l ev ad σ x4   _ _ h1) Emb.same hap gz_X4_choiceOf qML_RX4_98 qIM_yX4_choiceOf qSE_yX4_choiceOf ⟨(Nat.le_of_ble_eq_true rfl), (Nat.le_of_ble_eq_true rfl)⟩ (q0 := 0) rfl (by decide) rfl rfl rfl rfl hl.1 rfl (Nat.le_of_ble_eq_true rfl) dX4_says_111 ⟨Nat.le_refl _, Nat.le_refl _⟩ (fun H locs hP => ?_)
                exact e_iret C hend hP (k_some2 h).1 (congrArg (mw ev ad) (k_some2 h).2) dX4_says_114
              · have h := k_if c99 h
                refine lv_aload_n hx hb dX4_says_102 rfl (lv_at hl 1 rfl) ?_
                obtain ⟨x7, h1, h⟩ := k_ob h
                refine k_callVi C hP hap hAA (c_X4_howMany l ev ad σ   _ h1) Emb.same hap gz_X4_howMany qML_RX4_94 qIM_yX4_howMany qSE_yX4_howMany ⟨(Nat.le_of_ble_eq_true rfl), (Nat.le_of_ble_eq_true rfl)⟩ (q0 := 0) rfl (by decide) rfl rfl rfl rfl hl.1 rfl (Nat.le_of_ble_eq_true rfl) dX4_says_103 ⟨Nat.le_refl _, Nat.le_refl _⟩ (fun H locs hP => ?_)
                refine lv_goto (tgt := 114) hx hb dX4_says_106 (by decide) ?_
                exact e_iret C hend hP (k_some2 h).1 (congrArg (mw ev ad) (k_some2 h).2) dX4_says_114
            · have h := k_if c85 h
              refine lv_aload_n hx hb dX4_says_88 rfl (lv_at hl 1 rfl) ?_
              refine r_get C hP (ci := 4) rfl uin_X4 9 (by decide) 0 (by decide) rfl qFL_RX4_23 rfl rfl dX4_says_89 ?_
              refine lv_iload_n hx hb dX4_says_92 rfl (lv_at hl 0 rfl) ?_
              obtain ⟨hg, h⟩ := k_gd h
              refine r_iald C hP 5 (by decide) rfl hg dX4_says_93 ?_
              refine lv_goto (tgt := 114) hx hb dX4_says_94 (by decide) ?_
              exact e_iret C hend hP (k_some2 h).1 (congrArg (mw ev ad) (k_some2 h).2) dX4_says_114
          · have h := k_nf c74 h
            refine lv_aload_n hx hb dX4_says_77 rfl (lv_at hl 1 rfl) ?_
            refine lv_bipush (v := (-3)) hx hb dX4_says_78 (by decide) ?_
            obtain ⟨x9, σ8, h1, h⟩ := k_ob2 h
            refine k_callVi C hP hap hAA (c_X4_no l ev ad σ (-3)   _ _ h1) Emb.same hap gz_X4_no qML_RX4_56 qIM_yX4_no qSE_yX4_no ⟨(Nat.le_of_ble_eq_true rfl), (Nat.le_of_ble_eq_true rfl)⟩ (q0 := 0) rfl (by decide) rfl rfl rfl rfl hl.1 rfl (Nat.le_of_ble_eq_true rfl) dX4_says_80 ⟨Nat.le_refl _, Nat.le_refl _⟩ (fun H locs hP => ?_)
            exact e_iret C hend hP (k_some2 h).1 (congrArg (mw ev ad) (k_some2 h).2) dX4_says_83
        · have h := k_nf c44 h
          refine lv_aload_n hx hb dX4_says_47 rfl (lv_at hl 0 rfl) ?_
          refine lv_bipush (v := (-4)) hx hb dX4_says_48 (by decide) ?_
          obtain ⟨x11, σ10, h1, h⟩ := k_ob2 h
          refine k_callVi C hP hap hAA (c_X4_no l ev ad σ (-4)   _ _ h1) Emb.same hap gz_X4_no qML_RX4_56 qIM_yX4_no qSE_yX4_no ⟨(Nat.le_of_ble_eq_true rfl), (Nat.le_of_ble_eq_true rfl)⟩ (q0 := 0) rfl (by decide) rfl rfl rfl rfl hl.1 rfl (Nat.le_of_ble_eq_true rfl) dX4_says_50 ⟨Nat.le_refl _, Nat.le_refl _⟩ (fun H locs hP => ?_)
          exact e_iret C hend hP (k_some2 h).1 (congrArg (mw ev ad) (k_some2 h).2) dX4_says_53
      · have h := k_if c28 h
        refine lv_aload_n hx hb dX4_says_31 rfl (lv_at hl 0 rfl) ?_
        refine lv_bipush (v := (-3)) hx hb dX4_says_32 (by decide) ?_
        obtain ⟨x13, σ12, h1, h⟩ := k_ob2 h
        refine k_callVi C hP hap hAA (c_X4_no l ev ad σ (-3)   _ _ h1) Emb.same hap gz_X4_no qML_RX4_56 qIM_yX4_no qSE_yX4_no ⟨(Nat.le_of_ble_eq_true rfl), (Nat.le_of_ble_eq_true rfl)⟩ (q0 := 0) rfl (by decide) rfl rfl rfl rfl hl.1 rfl (Nat.le_of_ble_eq_true rfl) dX4_says_34 ⟨Nat.le_refl _, Nat.le_refl _⟩ (fun H locs hP => ?_)
        exact e_iret C hend hP (k_some2 h).1 (congrArg (mw ev ad) (k_some2 h).2) dX4_says_37
    · have h := k_nf c13 h
      refine lv_aload_n hx hb dX4_says_16 rfl (lv_at hl 0 rfl) ?_
      refine lv_bipush (v := (-2)) hx hb dX4_says_17 (by decide) ?_
      obtain ⟨x15, σ14, h1, h⟩ := k_ob2 h
      refine k_callVi C hP hap hAA (c_X4_no l ev ad σ (-2)   _ _ h1) Emb.same hap gz_X4_no qML_RX4_56 qIM_yX4_no qSE_yX4_no ⟨(Nat.le_of_ble_eq_true rfl), (Nat.le_of_ble_eq_true rfl)⟩ (q0 := 0) rfl (by decide) rfl rfl rfl rfl hl.1 rfl (Nat.le_of_ble_eq_true rfl) dX4_says_19 ⟨Nat.le_refl _, Nat.le_refl _⟩ (fun H locs hP => ?_)
      exact e_iret C hend hP (k_some2 h).1 (congrArg (mw ev ad) (k_some2 h).2) dX4_says_22
def f_X4_sized_L12_b  (k31 : MM → Option (Int32 × MM)) (rec12 : Int32 → MM → Option (Int32 × MM)) (x3 : Int32) (σ4 : MM) : Option (Int32 × MM) :=
  if 40 ≤ x3 then k31 σ4 else gd (inb x3 40) (lt (m_hedge' σ4 (upd (m_hedge σ4) (Int32.toNatClampNeg x3) (vp_nar .boolean 0))) (fun σ5 => lt (x3 + 1) (fun x6 => rec12 x6 σ5)))
def f_X4_sized_L12  (k31 : MM → Option (Int32 × MM)) (x3 : Int32) (σ4 : MM) : Option (Int32 × MM) :=
  lp (fun _ _ => none) (f_X4_sized_L12_b  k31) FU x3 σ4
def f_X4_sized_L33_b  (k59 : MM → Option (Int32 × MM)) (rec33 : Int32 → MM → Option (Int32 × MM)) (x8 : Int32) (σ9 : MM) : Option (Int32 × MM) :=
  if 16 ≤ x8 then k59 σ9 else gd (inb x8 16) (lt (m_dug' σ9 (upd (m_dug σ9) (Int32.toNatClampNeg x8) (vp_nar .boolean 0))) (fun σ10 => gd (inb x8 16) (lt (m_owner' σ10 (upd (m_owner σ10) (Int32.toNatClampNeg x8) (-1))) (fun σ11 => lt (x8 + 1) (fun x12 => rec33 x12 σ11)))))
def f_X4_sized_L33  (k59 : MM → Option (Int32 × MM)) (x8 : Int32) (σ9 : MM) : Option (Int32 × MM) :=
  lp (fun _ _ => none) (f_X4_sized_L33_b  k59) FU x8 σ9
def f_X4_sized (σ : MM) (a1 : Int32) (a2 : Int32) : Option (Int32 × MM) :=
  lt (m_w' σ a1) (fun σ1 => lt (m_h' σ1 a2) (fun σ2 => f_X4_sized_L12 (fun σ7 => f_X4_sized_L33 (fun σ13 => lt (m_turn' σ13 0) (fun σ14 => lt (m_made' σ14 0) (fun σ15 => some ((f_X4_edges σ15), σ15)))) 0 σ7) 0 σ2))
set_option maxHeartbeats 4000000 in
set_option maxRecDepth 100000 in
theorem c_X4_sized (l : Launch) (ev : EV) (ad : Nat → Nat) (σ : MM) (a1 : Int32) (a2 : Int32)   (r : Int32) (σ' : MM) (h : f_X4_sized σ a1 a2 = some (r, σ')) : Ct l yX4_sized prog_6_method_19_code 4 (Option.some Jvm.ClassFile.FieldType.int) (rmk 2 40) ev 13 ad (mw ev ad σ) (mw ev ad σ') [.ref (ad 0), .int a1, .int a2] (some (.int r)) := by
  refine Ct.of (by decide +kernel) (Nat.le_of_ble_eq_true rfl) ?_
  intro p e s m args below meth c Qc C hap hP hend ls hl
  have hAA : ∀ j, j < 13 → inA ad 13 (ad j) := fun j hj => ⟨j, hj, rfl⟩
  have hx := C.1
  have hb := C.2.1
  have hl : lv_has ls 4 [(0, .ref (ad 0)), (1, .int a1), (2, .int a2)] := hl
  have h := (f_X4_sized.eq_1 _ _ _ ).symm.trans h
  refine lv_aload_n hx hb dX4_sized_0 rfl (lv_at hl 0 rfl) ?_
  refine lv_iload_n hx hb dX4_sized_1 rfl (lv_at hl 1 rfl) ?_
  obtain ⟨σ1, eσ1, h⟩ := k_ltx h
  refine pt_M_X4_w C hP hap hAA eσ1 qFL_RX4_67 dX4_sized_2 (fun H locs hP => ?_)
  refine lv_aload_n hx hb dX4_sized_5 rfl (lv_at hl 0 rfl) ?_
  refine lv_iload_n hx hb dX4_sized_6 rfl (lv_at hl 2 rfl) ?_
  obtain ⟨σ2, eσ2, h⟩ := k_ltx h
  refine pt_M_X4_h C hP hap hAA eσ2 qFL_RX4_70 dX4_sized_7 (fun H locs hP => ?_)
  refine lv_iconst (v := 0) hx hb dX4_sized_10 (by decide) ?_
  refine lv_istore_n (lv' := [(3, .int 0), (0, .ref (ad 0)), (1, .int a1), (2, .int a2)]) hx hb dX4_sized_11 rfl hl (by decide) rfl (fun ls hl => ?_)
  have hL12 : ∀ (k31 : MM → Option (Int32 × MM)) (hk31 : ∀  (σk : MM) (H : Heap) (locs : List Loc) (ls : Array Slot), k31  σk = some (r, σ') → PS ev 13 ad (mw ev ad σk) (inA ad 13) s H locs → lv_has ls 4 [(0, .ref (ad 0))] → WW ev p l e (rmk 2 40) s m args below meth c Qc ad 13 H locs 31 ls []) (n : Nat) (x3 : Int32) (σ4 : MM) (H : Heap) (locs : List Loc) (ls : Array Slot), lp (fun _ _ => none) (f_X4_sized_L12_b  k31) n x3 σ4 = some (r, σ') → PS ev 13 ad (mw ev ad σ4) (inA ad 13) s H locs → lv_has ls 4 [(0, .ref (ad 0)), (3, .int x3)] → WW ev p l e (rmk 2 40) s m args below meth c Qc ad 13 H locs 12 ls [] := by
    intro k31 hk31 n
    induction n with
    | zero =>
      intro x3 σ4 H locs ls h; exact k_none h
    | succ n ih =>
      intro x3 σ4 H locs ls h hP hl
      have h : f_X4_sized_L12_b  k31 (lp (fun _ _ => none) (f_X4_sized_L12_b  k31) n) x3 σ4 = some (r, σ') := h
      have h := (f_X4_sized_L12_b.eq_1 _ _ _ _ ).symm.trans h
      refine lv_iload_n hx hb dX4_sized_12 rfl (lv_at hl 1 rfl) ?_
      refine lv_bipush (v := 40) hx hb dX4_sized_13 (by decide) ?_
      refine lv_icmp_ge (tgt := 31) hx hb dX4_sized_15 (by decide) (fun c15 => ?_) (fun c15 => ?_)
      · have h := k_if c15 h
        exact hk31 _ _ _ _ h hP (lv_sub hl [0] rfl)
      · have h := k_nf c15 h
        refine lv_aload_n hx hb dX4_sized_18 rfl (lv_at hl 0 rfl) ?_
        refine r_get C hP (ci := 4) rfl uin_X4 2 (by decide) 0 (by decide) rfl qFL_RX4_7 rfl rfl dX4_sized_19 ?_
        refine lv_iload_n hx hb dX4_sized_22 rfl (lv_at hl 1 rfl) ?_
        refine lv_iconst (v := 0) hx hb dX4_sized_23 (by decide) ?_
        obtain ⟨hg, h⟩ := k_gd h
        obtain ⟨σ5, eσ5, h⟩ := k_ltx h
        refine st_M_hedge C hP hap hAA eσ5 hg dX4_sized_24 (fun H locs hP => ?_)
        obtain ⟨x6, ex6, h⟩ := k_ltx h
        refine lv_iinc (v := x6) (lv' := [(3, .int x6), (0, .ref (ad 0))]) hx hb dX4_sized_25 hl (k := 1) rfl (by rw [ex6]; rfl) (by decide) rfl (fun ls hl => ?_)
        refine lv_goto (tgt := 12) hx hb dX4_sized_28 (by decide) ?_
        exact ih _ _ _ _ _ h hP (lv_sub hl [1, 0] rfl)
  refine hL12 _ (fun σ7 H locs ls h hP hl => ?_) FU _ _ _ _ _ h hP (lv_sub hl [1, 0] rfl)
  refine lv_iconst (v := 0) hx hb dX4_sized_31 (by decide) ?_
  refine lv_istore_n (lv' := [(3, .int 0), (0, .ref (ad 0))]) hx hb dX4_sized_32 rfl hl (by decide) rfl (fun ls hl => ?_)
  have hL33 : ∀ (k59 : MM → Option (Int32 × MM)) (hk59 : ∀  (σk : MM) (H : Heap) (locs : List Loc) (ls : Array Slot), k59  σk = some (r, σ') → PS ev 13 ad (mw ev ad σk) (inA ad 13) s H locs → lv_has ls 4 [(0, .ref (ad 0))] → WW ev p l e (rmk 2 40) s m args below meth c Qc ad 13 H locs 59 ls []) (n : Nat) (x8 : Int32) (σ9 : MM) (H : Heap) (locs : List Loc) (ls : Array Slot), lp (fun _ _ => none) (f_X4_sized_L33_b  k59) n x8 σ9 = some (r, σ') → PS ev 13 ad (mw ev ad σ9) (inA ad 13) s H locs → lv_has ls 4 [(0, .ref (ad 0)), (3, .int x8)] → WW ev p l e (rmk 2 40) s m args below meth c Qc ad 13 H locs 33 ls [] := by
    intro k59 hk59 n
    induction n with
    | zero =>
      intro x8 σ9 H locs ls h; exact k_none h
    | succ n ih =>
      intro x8 σ9 H locs ls h hP hl
      have h : f_X4_sized_L33_b  k59 (lp (fun _ _ => none) (f_X4_sized_L33_b  k59) n) x8 σ9 = some (r, σ') := h
      have h := (f_X4_sized_L33_b.eq_1 _ _ _ _ ).symm.trans h
      refine lv_iload_n hx hb dX4_sized_33 rfl (lv_at hl 1 rfl) ?_
      refine lv_bipush (v := 16) hx hb dX4_sized_34 (by decide) ?_
      refine lv_icmp_ge (tgt := 59) hx hb dX4_sized_36 (by decide) (fun c36 => ?_) (fun c36 => ?_)
      · have h := k_if c36 h
        exact hk59 _ _ _ _ h hP (lv_sub hl [0] rfl)
      · have h := k_nf c36 h
        refine lv_aload_n hx hb dX4_sized_39 rfl (lv_at hl 0 rfl) ?_
        refine r_get C hP (ci := 4) rfl uin_X4 3 (by decide) 0 (by decide) rfl qFL_RX4_13 rfl rfl dX4_sized_40 ?_
        refine lv_iload_n hx hb dX4_sized_43 rfl (lv_at hl 1 rfl) ?_
        refine lv_iconst (v := 0) hx hb dX4_sized_44 (by decide) ?_
        obtain ⟨hg, h⟩ := k_gd h
        obtain ⟨σ10, eσ10, h⟩ := k_ltx h
        refine st_M_dug C hP hap hAA eσ10 hg dX4_sized_45 (fun H locs hP => ?_)
        refine lv_aload_n hx hb dX4_sized_46 rfl (lv_at hl 0 rfl) ?_
        refine r_get C hP (ci := 4) rfl uin_X4 4 (by decide) 0 (by decide) rfl qFL_RX4_16 rfl rfl dX4_sized_47 ?_
        refine lv_iload_n hx hb dX4_sized_50 rfl (lv_at hl 1 rfl) ?_
        refine lv_iconst (v := (-1)) hx hb dX4_sized_51 (by decide) ?_
        obtain ⟨hg, h⟩ := k_gd h
        obtain ⟨σ11, eσ11, h⟩ := k_ltx h
        refine st_M_owner C hP hap hAA eσ11 hg dX4_sized_52 (fun H locs hP => ?_)
        obtain ⟨x12, ex12, h⟩ := k_ltx h
        refine lv_iinc (v := x12) (lv' := [(3, .int x12), (0, .ref (ad 0))]) hx hb dX4_sized_53 hl (k := 1) rfl (by rw [ex12]; rfl) (by decide) rfl (fun ls hl => ?_)
        refine lv_goto (tgt := 33) hx hb dX4_sized_56 (by decide) ?_
        exact ih _ _ _ _ _ h hP (lv_sub hl [1, 0] rfl)
  refine hL33 _ (fun σ13 H locs ls h hP hl => ?_) FU _ _ _ _ _ h hP (lv_sub hl [1, 0] rfl)
  refine lv_aload_n hx hb dX4_sized_59 rfl (lv_at hl 0 rfl) ?_
  refine lv_iconst (v := 0) hx hb dX4_sized_60 (by decide) ?_
  obtain ⟨σ14, eσ14, h⟩ := k_ltx h
  refine pt_M_X4_turn C hP hap hAA eσ14 qFL_RX4_101 dX4_sized_61 (fun H locs hP => ?_)
  refine lv_aload_n hx hb dX4_sized_64 rfl (lv_at hl 0 rfl) ?_
  refine lv_iconst (v := 0) hx hb dX4_sized_65 (by decide) ?_
  obtain ⟨σ15, eσ15, h⟩ := k_ltx h
  refine pt_M_X4_made C hP hap hAA eσ15 qFL_RX4_104 dX4_sized_66 (fun H locs hP => ?_)
  refine lv_aload_n hx hb dX4_sized_69 rfl (lv_at hl 0 rfl) ?_
  refine k_callVi C hP hap hAA (c_X4_edges l ev ad σ15   _ rfl) Emb.same hap gz_X4_edges qML_RX4_107 qIM_yX4_edges qSE_yX4_edges ⟨(Nat.le_of_ble_eq_true rfl), (Nat.le_of_ble_eq_true rfl)⟩ (q0 := 0) rfl (by decide) rfl rfl rfl rfl hl.1 rfl (Nat.le_of_ble_eq_true rfl) dX4_sized_70 ⟨Nat.le_refl _, Nat.le_refl _⟩ (fun H locs hP => ?_)
  exact e_iret C hend hP (k_some2 h).1 (congrArg (mw ev ad) (k_some2 h).2) dX4_sized_73
def f_X4_size (σ : MM) (a1 : Int32) (a2 : Int32) : Option (Int32 × MM) :=
  if (f_X4_within a1 1 4) = true then if (f_X4_within a2 1 4) = true then ob2 (f_X4_sized σ a1 a2) (fun x6 σ5 => some (x6, σ5)) else ob2 (f_X4_no σ (-2)) (fun x4 σ3 => some (x4, σ3)) else ob2 (f_X4_no σ (-2)) (fun x2 σ1 => some (x2, σ1))
set_option maxHeartbeats 4000000 in
set_option maxRecDepth 100000 in
theorem c_X4_size (l : Launch) (ev : EV) (ad : Nat → Nat) (σ : MM) (a1 : Int32) (a2 : Int32)   (r : Int32) (σ' : MM) (h : f_X4_size σ a1 a2 = some (r, σ')) : Ct l yX4_size prog_6_method_22_code 3 (Option.some Jvm.ClassFile.FieldType.int) (rmk 3 63) ev 13 ad (mw ev ad σ) (mw ev ad σ') [.ref (ad 0), .int a1, .int a2] (some (.int r)) := by
  refine Ct.of (by decide +kernel) (Nat.le_of_ble_eq_true rfl) ?_
  intro p e s m args below meth c Qc C hap hP hend ls hl
  have hAA : ∀ j, j < 13 → inA ad 13 (ad j) := fun j hj => ⟨j, hj, rfl⟩
  have hx := C.1
  have hb := C.2.1
  have hl : lv_has ls 3 [(0, .ref (ad 0)), (1, .int a1), (2, .int a2)] := hl
  have h := (f_X4_size.eq_1 _ _ _ ).symm.trans h
  refine lv_iload_n hx hb dX4_size_0 rfl (lv_at hl 1 rfl) ?_
  refine lv_iconst (v := 1) hx hb dX4_size_1 (by decide) ?_
  refine lv_iconst (v := 4) hx hb dX4_size_2 (by decide) ?_
  refine k_callSi C hP hap hAA (c_X4_within l ev ad a1 1 4   _ rfl) Emb.none (apart_0 _) gz_X4_within qML_RX4_63 qSM_yX4_within ⟨(Nat.le_of_ble_eq_true rfl), (Nat.le_of_ble_eq_true rfl)⟩ rfl hl.1 rfl (Nat.le_of_ble_eq_true rfl) dX4_size_3 ⟨Nat.le_refl _, Nat.le_refl _⟩ (fun H locs hP => ?_)
  refine r_ifz_eq (tgt := 27) hx hb dX4_size_6 (by decide) (fun c6 => ?_) (fun c6 => ?_)
  · have h := k_nf c6 h
    refine lv_aload_n hx hb dX4_size_27 rfl (lv_at hl 0 rfl) ?_
    refine lv_bipush (v := (-2)) hx hb dX4_size_28 (by decide) ?_
    obtain ⟨x2, σ1, h1, h⟩ := k_ob2 h
    refine k_callVi C hP hap hAA (c_X4_no l ev ad σ (-2)   _ _ h1) Emb.same hap gz_X4_no qML_RX4_56 qIM_yX4_no qSE_yX4_no ⟨(Nat.le_of_ble_eq_true rfl), (Nat.le_of_ble_eq_true rfl)⟩ (q0 := 0) rfl (by decide) rfl rfl rfl rfl hl.1 rfl (Nat.le_of_ble_eq_true rfl) dX4_size_30 ⟨Nat.le_refl _, Nat.le_refl _⟩ (fun H locs hP => ?_)
    exact e_iret C hend hP (k_some2 h).1 (congrArg (mw ev ad) (k_some2 h).2) dX4_size_33
  · have h := k_if c6 h
    refine lv_iload_n hx hb dX4_size_9 rfl (lv_at hl 2 rfl) ?_
    refine lv_iconst (v := 1) hx hb dX4_size_10 (by decide) ?_
    refine lv_iconst (v := 4) hx hb dX4_size_11 (by decide) ?_
    refine k_callSi C hP hap hAA (c_X4_within l ev ad a2 1 4   _ rfl) Emb.none (apart_0 _) gz_X4_within qML_RX4_63 qSM_yX4_within ⟨(Nat.le_of_ble_eq_true rfl), (Nat.le_of_ble_eq_true rfl)⟩ rfl hl.1 rfl (Nat.le_of_ble_eq_true rfl) dX4_size_12 ⟨Nat.le_refl _, Nat.le_refl _⟩ (fun H locs hP => ?_)
    refine r_ifz_eq (tgt := 27) hx hb dX4_size_15 (by decide) (fun c15 => ?_) (fun c15 => ?_)
    · have h := k_nf c15 h
      refine lv_aload_n hx hb dX4_size_27 rfl (lv_at hl 0 rfl) ?_
      refine lv_bipush (v := (-2)) hx hb dX4_size_28 (by decide) ?_
      obtain ⟨x4, σ3, h1, h⟩ := k_ob2 h
      refine k_callVi C hP hap hAA (c_X4_no l ev ad σ (-2)   _ _ h1) Emb.same hap gz_X4_no qML_RX4_56 qIM_yX4_no qSE_yX4_no ⟨(Nat.le_of_ble_eq_true rfl), (Nat.le_of_ble_eq_true rfl)⟩ (q0 := 0) rfl (by decide) rfl rfl rfl rfl hl.1 rfl (Nat.le_of_ble_eq_true rfl) dX4_size_30 ⟨Nat.le_refl _, Nat.le_refl _⟩ (fun H locs hP => ?_)
      exact e_iret C hend hP (k_some2 h).1 (congrArg (mw ev ad) (k_some2 h).2) dX4_size_33
    · have h := k_if c15 h
      refine lv_aload_n hx hb dX4_size_18 rfl (lv_at hl 0 rfl) ?_
      refine lv_iload_n hx hb dX4_size_19 rfl (lv_at hl 1 rfl) ?_
      refine lv_iload_n hx hb dX4_size_20 rfl (lv_at hl 2 rfl) ?_
      obtain ⟨x6, σ5, h1, h⟩ := k_ob2 h
      refine k_callVi C hP hap hAA (c_X4_sized l ev ad σ a1 a2   _ _ h1) Emb.same hap gz_X4_sized qML_RX4_52 qIM_yX4_sized qSE_yX4_sized ⟨(Nat.le_of_ble_eq_true rfl), (Nat.le_of_ble_eq_true rfl)⟩ (q0 := 0) rfl (by decide) rfl rfl rfl rfl hl.1 rfl (Nat.le_of_ble_eq_true rfl) dX4_size_21 ⟨Nat.le_refl _, Nat.le_refl _⟩ (fun H locs hP => ?_)
      refine lv_goto (tgt := 33) hx hb dX4_size_24 (by decide) ?_
      exact e_iret C hend hP (k_some2 h).1 (congrArg (mw ev ad) (k_some2 h).2) dX4_size_33
