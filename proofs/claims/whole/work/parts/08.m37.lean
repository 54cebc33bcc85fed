/-! functions read off, and their contracts: by program (wip/whole/gen2.py) -/
def f_X4_field (σ : MM) (a1 : Int32) (a2 : Int32) : Option (Int32) :=
  if (f_X4_level σ) ≤ a1 then gd (nz ((m_w σ) + 1)) (lt (idiv (a1 - (f_X4_level σ)) ((m_w σ) + 1)) (fun x1 => gd (nz ((m_w σ) + 1)) (lt (((irem (a1 - (f_X4_level σ)) ((m_w σ) + 1)) - 1) + a2) (fun x2 => if (f_X4_within x2 0 ((m_w σ) - 1)) = true then some ((x1 * (m_w σ)) + x2) else some (-1))))) else if a2 = 0 then lt (a1 - (m_w σ)) (fun x3 => if (f_X4_isField σ x3) = true then some x3 else some (-1)) else if (f_X4_isField σ a1) = true then some a1 else some (-1)
set_option maxHeartbeats 4000000 in
set_option maxRecDepth 100000 in
theorem c_X4_field (l : Launch) (ev : EV) (ad : Nat → Nat) (σ : MM) (a1 : Int32) (a2 : Int32)   (r : Int32)  (h : f_X4_field σ a1 a2 = some r) : Ct l yX4_field prog_6_method_27_code 5 (Option.some Jvm.ClassFile.FieldType.int) (rmk 2 43) ev 13 ad (mw ev ad σ) (mw ev ad σ) [.ref (ad 0), .int a1, .int a2] (some (.int r)) := by
  refine Ct.of (by decide +kernel) (Nat.le_of_ble_eq_true rfl) ?_
  intro p e s m args below meth c Qc C hap hP hend ls hl
  have hAA : ∀ j, j < 13 → inA ad 13 (ad j) := fun j hj => ⟨j, hj, rfl⟩
  have hx := C.1
  have hb := C.2.1
  have hl : lv_has ls 5 [(0, .ref (ad 0)), (1, .int a1), (2, .int a2)] := hl
  have h := (f_X4_field.eq_1 _ _ _ ).symm.trans h
  refine lv_iload_n hx hb dX4_field_0 rfl (lv_at hl 1 rfl) ?_
  refine lv_aload_n hx hb dX4_field_1 rfl (lv_at hl 0 rfl) ?_
  refine k_callVi C hP hap hAA (c_X4_level l ev ad σ   _ rfl) Emb.same hap gz_X4_level qML_RX4_110 qIM_yX4_level qSE_yX4_level ⟨(Nat.le_of_ble_eq_true rfl), (Nat.le_of_ble_eq_true rfl)⟩ (q0 := 0) rfl (by decide) rfl rfl rfl rfl hl.1 rfl (Nat.le_of_ble_eq_true rfl) dX4_field_2 ⟨Nat.le_refl _, Nat.le_refl _⟩ (fun H locs hP => ?_)
  refine lv_icmp_ge (tgt := 37) hx hb dX4_field_5 (by decide) (fun c5 => ?_) (fun c5 => ?_)
  · have h := k_if c5 h
    refine lv_iload_n hx hb dX4_field_37 rfl (lv_at hl 1 rfl) ?_
    refine lv_aload_n hx hb dX4_field_38 rfl (lv_at hl 0 rfl) ?_
    refine k_callVi C hP hap hAA (c_X4_level l ev ad σ   _ rfl) Emb.same hap gz_X4_level qML_RX4_110 qIM_yX4_level qSE_yX4_level ⟨(Nat.le_of_ble_eq_true rfl), (Nat.le_of_ble_eq_true rfl)⟩ (q0 := 0) rfl (by decide) rfl rfl rfl rfl hl.1 rfl (Nat.le_of_ble_eq_true rfl) dX4_field_39 ⟨Nat.le_refl _, Nat.le_refl _⟩ (fun H locs hP => ?_)
    refine lv_isub hx hb dX4_field_42 ?_
    refine lv_aload_n hx hb dX4_field_43 rfl (lv_at hl 0 rfl) ?_
    refine r_get C hP (ci := 4) rfl uin_X4 0 (by decide) 0 (by decide) rfl qFL_RX4_67 rfl rfl dX4_field_44 ?_
    refine lv_iconst (v := 1) hx hb dX4_field_47 (by decide) ?_
    refine lv_iadd hx hb dX4_field_48 ?_
    obtain ⟨hg, h⟩ := k_gd h
    refine r_idiv hx hb dX4_field_49 (nz_ne hg) ?_
    refine lv_topi (fun x1 ex1 => ?_)
    have h := k_lt ex1 h
    refine lv_istore_n (lv' := [(3, .int x1), (0, .ref (ad 0)), (1, .int a1), (2, .int a2)]) hx hb dX4_field_50 rfl hl (by decide) rfl (fun ls hl => ?_)
    refine lv_iload_n hx hb dX4_field_51 rfl (lv_at hl 2 rfl) ?_
    refine lv_aload_n hx hb dX4_field_52 rfl (lv_at hl 1 rfl) ?_
    refine k_callVi C hP hap hAA (c_X4_level l ev ad σ   _ rfl) Emb.same hap gz_X4_level qML_RX4_110 qIM_yX4_level qSE_yX4_level ⟨(Nat.le_of_ble_eq_true rfl), (Nat.le_of_ble_eq_true rfl)⟩ (q0 := 0) rfl (by decide) rfl rfl rfl rfl hl.1 rfl (Nat.le_of_ble_eq_true rfl) dX4_field_53 ⟨Nat.le_refl _, Nat.le_refl _⟩ (fun H locs hP => ?_)
    refine lv_isub hx hb dX4_field_56 ?_
    refine lv_aload_n hx hb dX4_field_57 rfl (lv_at hl 1 rfl) ?_
    refine r_get C hP (ci := 4) rfl uin_X4 0 (by decide) 0 (by decide) rfl qFL_RX4_67 rfl rfl dX4_field_58 ?_
    refine lv_iconst (v := 1) hx hb dX4_field_61 (by decide) ?_
    refine lv_iadd hx hb dX4_field_62 ?_
    obtain ⟨hg, h⟩ := k_gd h
    refine r_irem hx hb dX4_field_63 (nz_ne hg) ?_
    refine lv_iconst (v := 1) hx hb dX4_field_64 (by decide) ?_
    refine lv_isub hx hb dX4_field_65 ?_
    refine lv_iload_n hx hb dX4_field_66 rfl (lv_at hl 3 rfl) ?_
    refine lv_iadd hx hb dX4_field_67 ?_
    refine lv_topi (fun x2 ex2 => ?_)
    have h := k_lt ex2 h
    refine lv_istore (lv' := [(4, .int x2), (3, .int x1), (0, .ref (ad 0)), (1, .int a1), (2, .int a2)]) hx hb dX4_field_68 hl (by decide) rfl (fun ls hl => ?_)
    refine lv_iload hx hb dX4_field_70 (lv_at hl 0 rfl) ?_
    refine lv_iconst (v := 0) hx hb dX4_field_72 (by decide) ?_
    refine lv_aload_n hx hb dX4_field_73 rfl (lv_at hl 2 rfl) ?_
    refine r_get C hP (ci := 4) rfl uin_X4 0 (by decide) 0 (by decide) rfl qFL_RX4_67 rfl rfl dX4_field_74 ?_
    refine lv_iconst (v := 1) hx hb dX4_field_77 (by decide) ?_
    refine lv_isub hx hb dX4_field_78 ?_
    refine k_callSi C hP hap hAA (c_X4_within l ev ad x2 0 ((m_w σ) - 1)   _ rfl) Emb.none (apart_0 _) gz_X4_within qML_RX4_63 qSM_yX4_within ⟨(Nat.le_of_ble_eq_true rfl), (Nat.le_of_ble_eq_true rfl)⟩ rfl hl.1 rfl (Nat.le_of_ble_eq_true rfl) dX4_field_79 ⟨Nat.le_refl _, Nat.le_refl _⟩ (fun H locs hP => ?_)
    refine r_ifz_eq (tgt := 97) hx hb dX4_field_82 (by decide) (fun c82 => ?_) (fun c82 => ?_)
    · have h := k_nf c82 h
      refine lv_iconst (v := (-1)) hx hb dX4_field_97 (by decide) ?_
      exact e_iret C hend hP (k_some h) rfl dX4_field_98
    · have h := k_if c82 h
      refine lv_iload_n hx hb dX4_field_85 rfl (lv_at hl 1 rfl) ?_
      refine lv_aload_n hx hb dX4_field_86 rfl (lv_at hl 2 rfl) ?_
      refine r_get C hP (ci := 4) rfl uin_X4 0 (by decide) 0 (by decide) rfl qFL_RX4_67 rfl rfl dX4_field_87 ?_
      refine lv_imul hx hb dX4_field_90 ?_
      refine lv_iload hx hb dX4_field_91 (lv_at hl 0 rfl) ?_
      refine lv_iadd hx hb dX4_field_93 ?_
      refine lv_goto (tgt := 98) hx hb dX4_field_94 (by decide) ?_
      exact e_iret C hend hP (k_some h) rfl dX4_field_98
  · have h := k_nf c5 h
    refine lv_iload_n hx hb dX4_field_8 rfl (lv_at hl 2 rfl) ?_
    refine lv_if_ne (tgt := 21) hx hb dX4_field_9 (by decide) (fun c9 => ?_) (fun c9 => ?_)
    · have h := k_nf c9 h
      refine lv_iload_n hx hb dX4_field_21 rfl (lv_at hl 1 rfl) ?_
      refine lv_istore_n (lv' := [(3, .int a1), (0, .ref (ad 0)), (1, .int a1), (2, .int a2)]) hx hb dX4_field_22 rfl hl (by decide) rfl (fun ls hl => ?_)
      refine lv_aload_n hx hb dX4_field_23 rfl (lv_at hl 1 rfl) ?_
      refine lv_iload_n hx hb dX4_field_24 rfl (lv_at hl 0 rfl) ?_
      refine k_callVi C hP hap hAA (c_X4_isField l ev ad σ a1   _ rfl) Emb.same hap gz_X4_isField qML_RX4_116 qIM_yX4_isField qSE_yX4_isField ⟨(Nat.le_of_ble_eq_true rfl), (Nat.le_of_ble_eq_true rfl)⟩ (q0 := 0) rfl (by decide) rfl rfl rfl rfl hl.1 rfl (Nat.le_of_ble_eq_true rfl) dX4_field_25 ⟨Nat.le_refl _, Nat.le_refl _⟩ (fun H locs hP => ?_)
      refine r_ifz_eq (tgt := 35) hx hb dX4_field_28 (by decide) (fun c28 => ?_) (fun c28 => ?_)
      · have h := k_nf c28 h
        refine lv_iconst (v := (-1)) hx hb dX4_field_35 (by decide) ?_
        exact e_iret C hend hP (k_some h) rfl dX4_field_36
      · have h := k_if c28 h
        refine lv_iload_n hx hb dX4_field_31 rfl (lv_at hl 0 rfl) ?_
        refine lv_goto (tgt := 36) hx hb dX4_field_32 (by decide) ?_
        exact e_iret C hend hP (k_some h) rfl dX4_field_36
    · have h := k_if c9 h
      refine lv_iload_n hx hb dX4_field_12 rfl (lv_at hl 1 rfl) ?_
      refine lv_aload_n hx hb dX4_field_13 rfl (lv_at hl 0 rfl) ?_
      refine r_get C hP (ci := 4) rfl uin_X4 0 (by decide) 0 (by decide) rfl qFL_RX4_67 rfl rfl dX4_field_14 ?_
      refine lv_isub hx hb dX4_field_17 ?_
      refine lv_goto (tgt := 22) hx hb dX4_field_18 (by decide) ?_
      refine lv_topi (fun x3 ex3 => ?_)
      have h := k_lt ex3 h
      refine lv_istore_n (lv' := [(3, .int x3), (0, .ref (ad 0)), (1, .int a1), (2, .int a2)]) hx hb dX4_field_22 rfl hl (by decide) rfl (fun ls hl => ?_)
      refine lv_aload_n hx hb dX4_field_23 rfl (lv_at hl 1 rfl) ?_
      refine lv_iload_n hx hb dX4_field_24 rfl (lv_at hl 0 rfl) ?_
      refine k_callVi C hP hap hAA (c_X4_isField l ev ad σ x3   _ rfl) Emb.same hap gz_X4_isField qML_RX4_116 qIM_yX4_isField qSE_yX4_isField ⟨(Nat.le_of_ble_eq_true rfl), (Nat.le_of_ble_eq_true rfl)⟩ (q0 := 0) rfl (by decide) rfl rfl rfl rfl hl.1 rfl (Nat.le_of_ble_eq_true rfl) dX4_field_25 ⟨Nat.le_refl _, Nat.le_refl _⟩ (fun H locs hP => ?_)
      refine r_ifz_eq (tgt := 35) hx hb dX4_field_28 (by decide) (fun c28 => ?_) (fun c28 => ?_)
      · have h := k_nf c28 h
        refine lv_iconst (v := (-1)) hx hb dX4_field_35 (by decide) ?_
        exact e_iret C hend hP (k_some h) rfl dX4_field_36
      · have h := k_if c28 h
        refine lv_iload_n hx hb dX4_field_31 rfl (lv_at hl 0 rfl) ?_
        refine lv_goto (tgt := 36) hx hb dX4_field_32 (by decide) ?_
        exact e_iret C hend hP (k_some h) rfl dX4_field_36
def f_X4_shuts_L24_b (σ : MM) (x1 : Int32) (k61 : Option (Int32)) (rec24 : Int32 → Option (Int32)) (x2 : Int32) : Option (Int32) :=
  if 2 ≤ x2 then k61 else ob (f_X4_field σ x1 x2) (fun x3 => if x3 = (-1) then lt (x2 + 1) (fun x4 => rec24 x4) else ob (f_X4_field σ x1 x2) (fun x5 => ob (f_X4_hedges σ x5) (fun x6 => if x6 = 3 then some x1 else lt (x2 + 1) (fun x7 => rec24 x7))))
def f_X4_shuts_L24 (σ : MM) (x1 : Int32) (k61 : Option (Int32)) (x2 : Int32) : Option (Int32) :=
  lp (fun _ => none) (f_X4_shuts_L24_b σ x1 k61) FU x2
def f_X4_shuts_L2_b (σ : MM)  (rec2 : Int32 → Option (Int32)) (x1 : Int32) : Option (Int32) :=
  if (f_X4_edges σ) ≤ x1 then some (-1) else gd (inb x1 40) (if ((m_hedge σ) (Int32.toNatClampNeg x1)) = 0 then f_X4_shuts_L24 σ x1 (lt (x1 + 1) (fun x8 => rec2 x8)) 0 else lt (x1 + 1) (fun x9 => rec2 x9))
def f_X4_shuts_L2 (σ : MM)  (x1 : Int32) : Option (Int32) :=
  lp (fun _ => none) (f_X4_shuts_L2_b σ ) FU x1
def f_X4_shuts (σ : MM) : Option (Int32) :=
  f_X4_shuts_L2 σ 0
set_option maxHeartbeats 4000000 in
set_option maxRecDepth 100000 in
theorem c_X4_shuts (l : Launch) (ev : EV) (ad : Nat → Nat) (σ : MM)   (r : Int32)  (h : f_X4_shuts σ = some r) : Ct l yX4_shuts prog_6_method_71_code 3 (Option.some Jvm.ClassFile.FieldType.int) (rmk 3 67) ev 13 ad (mw ev ad σ) (mw ev ad σ) [.ref (ad 0)] (some (.int r)) := by
  refine Ct.of (by decide +kernel) (Nat.le_of_ble_eq_true rfl) ?_
  intro p e s m args below meth c Qc C hap hP hend ls hl
  have hAA : ∀ j, j < 13 → inA ad 13 (ad j) := fun j hj => ⟨j, hj, rfl⟩
  have hx := C.1
  have hb := C.2.1
  have hl : lv_has ls 3 [(0, .ref (ad 0))] := hl
  have h := (f_X4_shuts.eq_1 _ ).symm.trans h
  refine lv_iconst (v := 0) hx hb dX4_shuts_0 (by decide) ?_
  refine lv_istore_n (lv' := [(1, .int 0), (0, .ref (ad 0))]) hx hb dX4_shuts_1 rfl hl (by decide) rfl (fun ls hl => ?_)
  have hL2 : ∀ (n : Nat) (x1 : Int32) (H : Heap) (locs : List Loc) (ls : Array Slot), lp (fun _ => none) (f_X4_shuts_L2_b σ ) n x1 = some r → PS ev 13 ad (mw ev ad σ) (inA ad 13) s H locs → lv_has ls 3 [(0, .ref (ad 0)), (1, .int x1)] → WW ev p l e (rmk 3 67) s m args below meth c Qc ad 13 H locs 2 ls [] := by
    intro n
    induction n with
    | zero =>
      intro x1 H locs ls h; exact k_none h
    | succ n ih =>
      intro x1 H locs ls h hP hl
      have h : f_X4_shuts_L2_b σ  (lp (fun _ => none) (f_X4_shuts_L2_b σ ) n) x1 = some r := h
      have h := (f_X4_shuts_L2_b.eq_1 _ _ _ ).symm.trans h
      refine lv_iload_n hx hb dX4_shuts_2 rfl (lv_at hl 1 rfl) ?_
      refine lv_aload_n hx hb dX4_shuts_3 rfl (lv_at hl 0 rfl) ?_
      refine k_callVi C hP hap hAA (c_X4_edges l ev ad σ   _ rfl) Emb.same hap gz_X4_edges qML_RX4_107 qIM_yX4_edges qSE_yX4_edges ⟨(Nat.le_of_ble_eq_true rfl), (Nat.le_of_ble_eq_true rfl)⟩ (q0 := 0) rfl (by decide) rfl rfl rfl rfl hl.1 rfl (Nat.le_of_ble_eq_true rfl) dX4_shuts_4 ⟨Nat.le_refl _, Nat.le_refl _⟩ (fun H locs hP => ?_)
      refine lv_icmp_ge (tgt := 67) hx hb dX4_shuts_7 (by decide) (fun c7 => ?_) (fun c7 => ?_)
      · have h := k_if c7 h
        refine lv_iconst (v := (-1)) hx hb dX4_shuts_67 (by decide) ?_
        exact e_iret C hend hP (k_some h) rfl dX4_shuts_68
      · have h := k_nf c7 h
        refine lv_aload_n hx hb dX4_shuts_10 rfl (lv_at hl 0 rfl) ?_
        refine r_get C hP (ci := 4) rfl uin_X4 2 (by decide) 0 (by decide) rfl qFL_RX4_7 rfl rfl dX4_shuts_11 ?_
        refine lv_iload_n hx hb dX4_shuts_14 rfl (lv_at hl 1 rfl) ?_
        obtain ⟨hg, h⟩ := k_gd h
        refine r_zald C hP 1 (by decide) rfl hg dX4_shuts_15 ?_
        refine lv_if_eq (tgt := 22) hx hb dX4_shuts_16 (by decide) (fun c16 => ?_) (fun c16 => ?_)
        · have h := k_if c16 h
          refine lv_iconst (v := 0) hx hb dX4_shuts_22 (by decide) ?_
          refine lv_istore_n (lv' := [(2, .int 0), (0, .ref (ad 0)), (1, .int x1)]) hx hb dX4_shuts_23 rfl hl (by decide) rfl (fun ls hl => ?_)
          have hL24 : ∀ (k61 : Option (Int32)) (hk61 : ∀  (H : Heap) (locs : List Loc) (ls : Array Slot), k61  = some r → PS ev 13 ad (mw ev ad σ) (inA ad 13) s H locs → lv_has ls 3 [(0, .ref (ad 0)), (1, .int x1)] → WW ev p l e (rmk 3 67) s m args below meth c Qc ad 13 H locs 61 ls []) (n : Nat) (x2 : Int32) (H : Heap) (locs : List Loc) (ls : Array Slot), lp (fun _ => none) (f_X4_shuts_L24_b σ x1 k61) n x2 = some r → PS ev 13 ad (mw ev ad σ) (inA ad 13) s H locs → lv_has ls 3 [(0, .ref (ad 0)), (1, .int x1), (2, .int x2)] → WW ev p l e (rmk 3 67) s m args below meth c Qc ad 13 H locs 24 ls [] := by
            intro k61 hk61 n
            induction n with
            | zero =>
              intro x2 H locs ls h; exact k_none h
            | succ n ih =>
              intro x2 H locs ls h hP hl
              have h : f_X4_shuts_L24_b σ x1 k61 (lp (fun _ => none) (f_X4_shuts_L24_b σ x1 k61) n) x2 = some r := h
              have h := (f_X4_shuts_L24_b.eq_1 _ _ _ _ _ ).symm.trans h
              refine lv_iload_n hx hb dX4_shuts_24 rfl (lv_at hl 2 rfl) ?_
              refine lv_iconst (v := 2) hx hb dX4_shuts_25 (by decide) ?_
              refine lv_icmp_ge (tgt := 61) hx hb dX4_shuts_26 (by decide) (fun c26 => ?_) (fun c26 => ?_)
              · have h := k_if c26 h
                exact hk61 _ _ _ h hP (lv_sub hl [0, 1] rfl)
              · have h := k_nf c26 h
                refine lv_aload_n hx hb dX4_shuts_29 rfl (lv_at hl 0 rfl) ?_
                refine lv_iload_n hx hb dX4_shuts_30 rfl (lv_at hl 1 rfl) ?_
                refine lv_iload_n hx hb dX4_shuts_31 rfl (lv_at hl 2 rfl) ?_
                obtain ⟨x3, h1, h⟩ := k_ob h
                refine k_callVi C hP hap hAA (c_X4_field l ev ad σ x1 x2   _ h1) Emb.same hap gz_X4_field qML_RX4_119 qIM_yX4_field qSE_yX4_field ⟨(Nat.le_of_ble_eq_true rfl), (Nat.le_of_ble_eq_true rfl)⟩ (q0 := 0) rfl (by decide) rfl rfl rfl rfl hl.1 rfl (Nat.le_of_ble_eq_true rfl) dX4_shuts_32 ⟨Nat.le_refl _, Nat.le_refl _⟩ (fun H locs hP => ?_)
                refine lv_iconst (v := (-1)) hx hb dX4_shuts_35 (by decide) ?_
                refine lv_icmp_eq (tgt := 55) hx hb dX4_shuts_36 (by decide) (fun c36 => ?_) (fun c36 => ?_)
                · have h := k_if c36 h
                  obtain ⟨x4, ex4, h⟩ := k_ltx h
                  refine lv_iinc (v := x4) (lv' := [(2, .int x4), (0, .ref (ad 0)), (1, .int x1)]) hx hb dX4_shuts_55 hl (k := 2) rfl (by rw [ex4]; rfl) (by decide) rfl (fun ls hl => ?_)
                  refine lv_goto (tgt := 24) hx hb dX4_shuts_58 (by decide) ?_
                  exact ih _ _ _ _ h hP (lv_sub hl [1, 2, 0] rfl)
                · have h := k_nf c36 h
                  refine lv_aload_n hx hb dX4_shuts_39 rfl (lv_at hl 0 rfl) ?_
                  refine lv_aload_n hx hb dX4_shuts_40 rfl (lv_at hl 0 rfl) ?_
                  refine lv_iload_n hx hb dX4_shuts_41 rfl (lv_at hl 1 rfl) ?_
                  refine lv_iload_n hx hb dX4_shuts_42 rfl (lv_at hl 2 rfl) ?_
                  obtain ⟨x5, h1, h⟩ := k_ob h
                  refine k_callVi C hP hap hAA (c_X4_field l ev ad σ x1 x2   _ h1) Emb.same hap gz_X4_field qML_RX4_119 qIM_yX4_field qSE_yX4_field ⟨(Nat.le_of_ble_eq_true rfl), (Nat.le_of_ble_eq_true rfl)⟩ (q0 := 0) rfl (by decide) rfl rfl rfl rfl hl.1 rfl (Nat.le_of_ble_eq_true rfl) dX4_shuts_43 ⟨Nat.le_refl _, Nat.le_refl _⟩ (fun H locs hP => ?_)
                  obtain ⟨x6, h1, h⟩ := k_ob h
                  refine k_callVi C hP hap hAA (c_X4_hedges l ev ad σ x5   _ h1) Emb.same hap gz_X4_hedges qML_RX4_196 qIM_yX4_hedges qSE_yX4_hedges ⟨(Nat.le_of_ble_eq_true rfl), (Nat.le_of_ble_eq_true rfl)⟩ (q0 := 0) rfl (by decide) rfl rfl rfl rfl hl.1 rfl (Nat.le_of_ble_eq_true rfl) dX4_shuts_46 ⟨Nat.le_refl _, Nat.le_refl _⟩ (fun H locs hP => ?_)
                  refine lv_iconst (v := 3) hx hb dX4_shuts_49 (by decide) ?_
                  refine lv_icmp_ne (tgt := 55) hx hb dX4_shuts_50 (by decide) (fun c50 => ?_) (fun c50 => ?_)
                  · have h := k_nf c50 h
                    obtain ⟨x7, ex7, h⟩ := k_ltx h
                    refine lv_iinc (v := x7) (lv' := [(2, .int x7), (0, .ref (ad 0)), (1, .int x1)]) hx hb dX4_shuts_55 hl (k := 2) rfl (by rw [ex7]; rfl) (by decide) rfl (fun ls hl => ?_)
                    refine lv_goto (tgt := 24) hx hb dX4_shuts_58 (by decide) ?_
                    exact ih _ _ _ _ h hP (lv_sub hl [1, 2, 0] rfl)
                  · have h := k_if c50 h
                    refine lv_iload_n hx hb dX4_shuts_53 rfl (lv_at hl 1 rfl) ?_
                    exact e_iret C hend hP (k_some h) rfl dX4_shuts_54
          refine hL24 _ (fun  H locs ls h hP hl => ?_) FU _ _ _ _ h hP (lv_sub hl [1, 2, 0] rfl)
          obtain ⟨x8, ex8, h⟩ := k_ltx h
          refine lv_iinc (v := x8) (lv' := [(1, .int x8), (0, .ref (ad 0))]) hx hb dX4_shuts_61 hl (k := 1) rfl (by rw [ex8]; rfl) (by decide) rfl (fun ls hl => ?_)
          refine lv_goto (tgt := 2) hx hb dX4_shuts_64 (by decide) ?_
          exact ih _ _ _ _ h hP (lv_sub hl [1, 0] rfl)
        · have h := k_nf c16 h
          refine lv_goto (tgt := 61) hx hb dX4_shuts_19 (by decide) ?_
          obtain ⟨x9, ex9, h⟩ := k_ltx h
          refine lv_iinc (v := x9) (lv' := [(1, .int x9), (0, .ref (ad 0))]) hx hb dX4_shuts_61 hl (k := 1) rfl (by rw [ex9]; rfl) (by decide) rfl (fun ls hl => ?_)
          refine lv_goto (tgt := 2) hx hb dX4_shuts_64 (by decide) ?_
          exact ih _ _ _ _ h hP (lv_sub hl [1, 0] rfl)
  exact hL2 FU _ _ _ _ h hP (lv_sub hl [1, 0] rfl)
def f_X4_ith_L4_b (σ : MM)  (rec4 : Int32 → Int32 → Option (Int32)) (x1 : Int32) (x2 : Int32) : Option (Int32) :=
  if 116 ≤ x2 then some (-1) else if (f_X4_isMove σ x2) = true then ob (f_X4_mayBe σ x2) (fun b4 => if b4 = true then if x1 = 0 then some x2 else lt (x1 + (-1)) (fun x5 => lt (x2 + 1) (fun x6 => rec4 x5 x6)) else lt (x2 + 1) (fun x7 => rec4 x1 x7)) else lt (x2 + 1) (fun x3 => rec4 x1 x3)
def f_X4_ith_L4 (σ : MM)  (x1 : Int32) (x2 : Int32) : Option (Int32) :=
  lp (fun _ _ => none) (f_X4_ith_L4_b σ ) FU x1 x2
def f_X4_ith (σ : MM) (a1 : Int32) : Option (Int32) :=
  f_X4_ith_L4 σ a1 0
set_option maxHeartbeats 4000000 in
set_option maxRecDepth 100000 in
theorem c_X4_ith (l : Launch) (ev : EV) (ad : Nat → Nat) (σ : MM) (a1 : Int32)   (r : Int32)  (h : f_X4_ith σ a1 = some r) : Ct l yX4_ith prog_6_method_44_code 4 (Option.some Jvm.ClassFile.FieldType.int) (rmk 4 88) ev 13 ad (mw ev ad σ) (mw ev ad σ) [.ref (ad 0), .int a1] (some (.int r)) := by
  refine Ct.of (by decide +kernel) (Nat.le_of_ble_eq_true rfl) ?_
  intro p e s m args below meth c Qc C hap hP hend ls hl
  have hAA : ∀ j, j < 13 → inA ad 13 (ad j) := fun j hj => ⟨j, hj, rfl⟩
  have hx := C.1
  have hb := C.2.1
  have hl : lv_has ls 4 [(0, .ref (ad 0)), (1, .int a1)] := hl
  have h := (f_X4_ith.eq_1 _ _ ).symm.trans h
  refine lv_iload_n hx hb dX4_ith_0 rfl (lv_at hl 1 rfl) ?_
  refine lv_istore_n (lv' := [(2, .int a1), (0, .ref (ad 0)), (1, .int a1)]) hx hb dX4_ith_1 rfl hl (by decide) rfl (fun ls hl => ?_)
  refine lv_iconst (v := 0) hx hb dX4_ith_2 (by decide) ?_
  refine lv_istore_n (lv' := [(3, .int 0), (2, .int a1), (0, .ref (ad 0)), (1, .int a1)]) hx hb dX4_ith_3 rfl hl (by decide) rfl (fun ls hl => ?_)
  have hL4 : ∀ (n : Nat) (x1 : Int32) (x2 : Int32) (H : Heap) (locs : List Loc) (ls : Array Slot), lp (fun _ _ => none) (f_X4_ith_L4_b σ ) n x1 x2 = some r → PS ev 13 ad (mw ev ad σ) (inA ad 13) s H locs → lv_has ls 4 [(0, .ref (ad 0)), (2, .int x1), (3, .int x2)] → WW ev p l e (rmk 4 88) s m args below meth c Qc ad 13 H locs 4 ls [] := by
    intro n
    induction n with
    | zero =>
      intro x1 x2 H locs ls h; exact k_none h
    | succ n ih =>
      intro x1 x2 H locs ls h hP hl
      have h : f_X4_ith_L4_b σ  (lp (fun _ _ => none) (f_X4_ith_L4_b σ ) n) x1 x2 = some r := h
      have h := (f_X4_ith_L4_b.eq_1 _ _ _ _ ).symm.trans h
      refine lv_iload_n hx hb dX4_ith_4 rfl (lv_at hl 2 rfl) ?_
      refine lv_bipush (v := 116) hx hb dX4_ith_5 (by decide) ?_
      refine lv_icmp_ge (tgt := 44) hx hb dX4_ith_7 (by decide) (fun c7 => ?_) (fun c7 => ?_)
      · have h := k_if c7 h
        refine lv_iconst (v := (-1)) hx hb dX4_ith_44 (by decide) ?_
        exact e_iret C hend hP (k_some h) rfl dX4_ith_45
      · have h := k_nf c7 h
        refine lv_aload_n hx hb dX4_ith_10 rfl (lv_at hl 0 rfl) ?_
        refine lv_iload_n hx hb dX4_ith_11 rfl (lv_at hl 2 rfl) ?_
        refine k_callVi C hP hap hAA (c_X4_isMove l ev ad σ x2   _ rfl) Emb.same hap gz_X4_isMove qML_RX4_173 qIM_yX4_isMove qSE_yX4_isMove ⟨(Nat.le_of_ble_eq_true rfl), (Nat.le_of_ble_eq_true rfl)⟩ (q0 := 0) rfl (by decide) rfl rfl rfl rfl hl.1 rfl (Nat.le_of_ble_eq_true rfl) dX4_ith_12 ⟨Nat.le_refl _, Nat.le_refl _⟩ (fun H locs hP => ?_)
        refine r_ifz_eq (tgt := 38) hx hb dX4_ith_15 (by decide) (fun c15 => ?_) (fun c15 => ?_)
        · have h := k_nf c15 h
          obtain ⟨x3, ex3, h⟩ := k_ltx h
          refine lv_iinc (v := x3) (lv' := [(3, .int x3), (0, .ref (ad 0)), (2, .int x1)]) hx hb dX4_ith_38 hl (k := 2) rfl (by rw [ex3]; rfl) (by decide) rfl (fun ls hl => ?_)
          refine lv_goto (tgt := 4) hx hb dX4_ith_41 (by decide) ?_
          exact ih _ _ _ _ _ h hP (lv_sub hl [1, 2, 0] rfl)
        · have h := k_if c15 h
          refine lv_aload_n hx hb dX4_ith_18 rfl (lv_at hl 0 rfl) ?_
          refine lv_iload_n hx hb dX4_ith_19 rfl (lv_at hl 2 rfl) ?_
          obtain ⟨b4, h1, h⟩ := k_ob h
          refine k_callVi C hP hap hAA (c_X4_mayBe l ev ad σ x2   _ h1) Emb.same hap gz_X4_mayBe qML_RX4_176 qIM_yX4_mayBe qSE_yX4_mayBe ⟨(Nat.le_of_ble_eq_true rfl), (Nat.le_of_ble_eq_true rfl)⟩ (q0 := 0) rfl (by decide) rfl rfl rfl rfl hl.1 rfl (Nat.le_of_ble_eq_true rfl) dX4_ith_20 ⟨Nat.le_refl _, Nat.le_refl _⟩ (fun H locs hP => ?_)
          refine r_ifz_ne (tgt := 29) hx hb dX4_ith_23 (by decide) (fun c23 => ?_) (fun c23 => ?_)
          · have h := k_if c23 h
            refine lv_iload_n hx hb dX4_ith_29 rfl (lv_at hl 1 rfl) ?_
            refine lv_if_ne (tgt := 35) hx hb dX4_ith_30 (by decide) (fun c30 => ?_) (fun c30 => ?_)
            · have h := k_nf c30 h
              obtain ⟨x5, ex5, h⟩ := k_ltx h
              refine lv_iinc (v := x5) (lv' := [(2, .int x5), (0, .ref (ad 0)), (3, .int x2)]) hx hb dX4_ith_35 hl (k := 1) rfl (by rw [ex5]; rfl) (by decide) rfl (fun ls hl => ?_)
              obtain ⟨x6, ex6, h⟩ := k_ltx h
              refine lv_iinc (v := x6) (lv' := [(3, .int x6), (2, .int x5), (0, .ref (ad 0))]) hx hb dX4_ith_38 hl (k := 2) rfl (by rw [ex6]; rfl) (by decide) rfl (fun ls hl => ?_)
              refine lv_goto (tgt := 4) hx hb dX4_ith_41 (by decide) ?_
              exact ih _ _ _ _ _ h hP (lv_sub hl [2, 1, 0] rfl)
            · have h := k_if c30 h
              refine lv_iload_n hx hb dX4_ith_33 rfl (lv_at hl 2 rfl) ?_
              exact e_iret C hend hP (k_some h) rfl dX4_ith_34
          · have h := k_nf c23 h
            refine lv_goto (tgt := 38) hx hb dX4_ith_26 (by decide) ?_
            obtain ⟨x7, ex7, h⟩ := k_ltx h
            refine lv_iinc (v := x7) (lv' := [(3, .int x7), (0, .ref (ad 0)), (2, .int x1)]) hx hb dX4_ith_38 hl (k := 2) rfl (by rw [ex7]; rfl) (by decide) rfl (fun ls hl => ?_)
            refine lv_goto (tgt := 4) hx hb dX4_ith_41 (by decide) ?_
            exact ih _ _ _ _ _ h hP (lv_sub hl [1, 2, 0] rfl)
  exact hL4 FU _ _ _ _ _ h hP (lv_sub hl [2, 1, 0] rfl)
