/-! functions read off, and their contracts: by program (wip/whole/gen2.py) -/
def f_X4_image (σ : MM) : Option (Int32 × MM) :=
  lt (m_imaged' σ 1) (fun σ1 => ob (f_X4_keep_old σ1) (fun σ2 => some (1, σ2)))
set_option maxHeartbeats 4000000 in
set_option maxRecDepth 100000 in
theorem c_X4_image (l : Launch) (ev : EV) (ad : Nat → Nat) (σ : MM)   (r : Int32) (σ' : MM) (h : f_X4_image σ = some (r, σ')) : Ct l yX4_image prog_6_method_118_code 1 (Option.some Jvm.ClassFile.FieldType.int) (rmk 1 22) ev 13 ad (mw ev ad σ) (mw ev ad σ') [.ref (ad 0)] (some (.int r)) := by
  refine Ct.of (by decide +kernel) (Nat.le_of_ble_eq_true rfl) ?_
  intro p e s m args below meth c Qc C hap hP hend ls hl
  have hAA : ∀ j, j < 13 → inA ad 13 (ad j) := fun j hj => ⟨j, hj, rfl⟩
  have hx := C.1
  have hb := C.2.1
  have hl : lv_has ls 1 [(0, .ref (ad 0))] := hl
  have h := (f_X4_image.eq_1 _ ).symm.trans h
  refine lv_aload_n hx hb dX4_image_0 rfl (lv_at hl 0 rfl) ?_
  refine lv_iconst (v := 1) hx hb dX4_image_1 (by decide) ?_
  obtain ⟨σ1, eσ1, h⟩ := k_ltx h
  refine pt_M_X4_imaged C hP hap hAA eσ1 ⟨rfl, rfl⟩ qFL_RX4_306 dX4_image_2 (fun H locs hP => ?_)
  refine lv_aload_n hx hb dX4_image_5 rfl (lv_at hl 0 rfl) ?_
  refine lv_aload_n hx hb dX4_image_6 rfl (lv_at hl 0 rfl) ?_
  refine r_get C hP (ci := 4) rfl uin_X4 22 (by decide) 0 (by decide) rfl qFL_RX4_42 rfl rfl dX4_image_7 ?_
  obtain ⟨σ2, h1, h⟩ := k_ob h
  refine k_callVv C hP hap hAA (c_X4_keep_old l ev ad σ1   _ h1) Emb.same hap gz_X4_keep qML_RX4_185 qIM_yX4_keep qSE_yX4_keep ⟨(Nat.le_of_ble_eq_true rfl), (Nat.le_of_ble_eq_true rfl)⟩ (q0 := 0) rfl (by decide) rfl rfl rfl rfl hl.1 rfl (Nat.le_of_ble_eq_true rfl) dX4_image_10 ⟨Nat.le_refl _, Nat.le_refl _⟩ (fun H locs hP => ?_)
  refine lv_iconst (v := 1) hx hb dX4_image_13 (by decide) ?_
  exact e_iret C hend hP (k_some2 h).1 (congrArg (mw ev ad) (k_some2 h).2) dX4_image_14
def f_X4_back_L24_b   (rec24 : Int32 → MM → Option (Int32 × MM)) (x2 : Int32) (σ3 : MM) : Option (Int32 × MM) :=
  if 8 ≤ x2 then some (1, σ3) else gd (inb x2 8) (if ((m_holding σ3) (Int32.toNatClampNeg x2)) < (10 + (m_players σ3)) then lt (x2 + 1) (fun x4 => rec24 x4 σ3) else gd (inb x2 8) (lt (m_holding' σ3 (upd (m_holding σ3) (Int32.toNatClampNeg x2) (-1))) (fun σ5 => lt (x2 + 1) (fun x6 => rec24 x6 σ5))))
def f_X4_back_L24   (x2 : Int32) (σ3 : MM) : Option (Int32 × MM) :=
  lp (fun _ _ => none) (f_X4_back_L24_b  ) FU x2 σ3
def f_X4_back (σ : MM) : Option (Int32 × MM) :=
  if (m_imaged σ) = 0 then ob2 (f_X4_no σ (-5)) (fun x8 σ7 => some (x8, σ7)) else ob (f_X4_again_old σ) (fun σ1 => f_X4_back_L24 0 σ1)
set_option maxHeartbeats 4000000 in
set_option maxRecDepth 100000 in
theorem c_X4_back (l : Launch) (ev : EV) (ad : Nat → Nat) (σ : MM)   (r : Int32) (σ' : MM) (h : f_X4_back σ = some (r, σ')) : Ct l yX4_back prog_6_method_119_code 2 (Option.some Jvm.ClassFile.FieldType.int) (rmk 1 22) ev 13 ad (mw ev ad σ) (mw ev ad σ') [.ref (ad 0)] (some (.int r)) := by
  refine Ct.of (by decide +kernel) (Nat.le_of_ble_eq_true rfl) ?_
  intro p e s m args below meth c Qc C hap hP hend ls hl
  have hAA : ∀ j, j < 13 → inA ad 13 (ad j) := fun j hj => ⟨j, hj, rfl⟩
  have hx := C.1
  have hb := C.2.1
  have hl : lv_has ls 2 [(0, .ref (ad 0))] := hl
  have h := (f_X4_back.eq_1 _ ).symm.trans h
  refine lv_aload_n hx hb dX4_back_0 rfl (lv_at hl 0 rfl) ?_
  refine r_get C hP (ci := 4) rfl uin_X4 21 (by decide) 0 (by decide) rfl qFL_RX4_306 rfl rfl dX4_back_1 ?_
  refine lv_if_ne (tgt := 14) hx hb dX4_back_4 (by decide) (fun c4 => ?_) (fun c4 => ?_)
  · have h := k_nf c4 h
    refine lv_aload_n hx hb dX4_back_14 rfl (lv_at hl 0 rfl) ?_
    refine lv_aload_n hx hb dX4_back_15 rfl (lv_at hl 0 rfl) ?_
    refine r_get C hP (ci := 4) rfl uin_X4 22 (by decide) 0 (by decide) rfl qFL_RX4_42 rfl rfl dX4_back_16 ?_
    obtain ⟨σ1, h1, h⟩ := k_ob h
    refine k_callVv C hP hap hAA (c_X4_again_old l ev ad σ   _ h1) Emb.same hap gz_X4_again qML_RX4_193 qIM_yX4_again qSE_yX4_again ⟨(Nat.le_of_ble_eq_true rfl), (Nat.le_of_ble_eq_true rfl)⟩ (q0 := 0) rfl (by decide) rfl rfl rfl rfl hl.1 rfl (Nat.le_of_ble_eq_true rfl) dX4_back_19 ⟨Nat.le_refl _, Nat.le_refl _⟩ (fun H locs hP => ?_)
    refine lv_iconst (v := 0) hx hb dX4_back_22 (by decide) ?_
    refine lv_istore_n (lv' := [(1, .int 0), (0, .ref (ad 0))]) hx hb dX4_back_23 rfl hl (by decide) rfl (fun ls hl => ?_)
    have hL24 : ∀ (n : Nat) (x2 : Int32) (σ3 : MM) (H : Heap) (locs : List Loc) (ls : Array Slot), lp (fun _ _ => none) (f_X4_back_L24_b  ) n x2 σ3 = some (r, σ') → PS ev 13 ad (mw ev ad σ3) (inA ad 13) s H locs → lv_has ls 2 [(0, .ref (ad 0)), (1, .int x2)] → WW ev p l e (rmk 1 22) s m args below meth c Qc ad 13 H locs 24 ls [] := by
      intro n
      induction n with
      | zero =>
        intro x2 σ3 H locs ls h; exact k_none h
      | succ n ih =>
        intro x2 σ3 H locs ls h hP hl
        have h : f_X4_back_L24_b   (lp (fun _ _ => none) (f_X4_back_L24_b  ) n) x2 σ3 = some (r, σ') := h
        have h := (f_X4_back_L24_b.eq_1 _ _ _ ).symm.trans h
        refine lv_iload_n hx hb dX4_back_24 rfl (lv_at hl 1 rfl) ?_
        refine lv_bipush (v := 8) hx hb dX4_back_25 (by decide) ?_
        refine lv_icmp_ge (tgt := 59) hx hb dX4_back_27 (by decide) (fun c27 => ?_) (fun c27 => ?_)
        · have h := k_if c27 h
          refine lv_iconst (v := 1) hx hb dX4_back_59 (by decide) ?_
          exact e_iret C hend hP (k_some2 h).1 (congrArg (mw ev ad) (k_some2 h).2) dX4_back_60
        · have h := k_nf c27 h
          refine lv_aload_n hx hb dX4_back_30 rfl (lv_at hl 0 rfl) ?_
          refine r_get C hP (ci := 4) rfl uin_X4 17 (by decide) 0 (by decide) rfl qFL_RX4_29 rfl rfl dX4_back_31 ?_
          refine lv_iload_n hx hb dX4_back_34 rfl (lv_at hl 1 rfl) ?_
          obtain ⟨hg, h⟩ := k_gd h
          refine r_iald C hP 7 (by decide) rfl hg dX4_back_35 ?_
          refine lv_bipush (v := 10) hx hb dX4_back_36 (by decide) ?_
          refine lv_aload_n hx hb dX4_back_38 rfl (lv_at hl 0 rfl) ?_
          refine r_get C hP (ci := 4) rfl uin_X4 7 (by decide) 0 (by decide) rfl qFL_RX4_60 rfl rfl dX4_back_39 ?_
          refine lv_iadd hx hb dX4_back_42 ?_
          refine lv_icmp_lt (tgt := 53) hx hb dX4_back_43 (by decide) (fun c43 => ?_) (fun c43 => ?_)
          · have h := k_if c43 h
            obtain ⟨x4, ex4, h⟩ := k_ltx h
            refine lv_iinc (v := x4) (lv' := [(1, .int x4), (0, .ref (ad 0))]) hx hb dX4_back_53 hl (k := 1) rfl (by rw [ex4]; rfl) (by decide) rfl (fun ls hl => ?_)
            refine lv_goto (tgt := 24) hx hb dX4_back_56 (by decide) ?_
            exact ih _ _ _ _ _ h hP (lv_sub hl [1, 0] rfl)
          · have h := k_nf c43 h
            refine lv_aload_n hx hb dX4_back_46 rfl (lv_at hl 0 rfl) ?_
            refine r_get C hP (ci := 4) rfl uin_X4 17 (by decide) 0 (by decide) rfl qFL_RX4_29 rfl rfl dX4_back_47 ?_
            refine lv_iload_n hx hb dX4_back_50 rfl (lv_at hl 1 rfl) ?_
            refine lv_iconst (v := (-1)) hx hb dX4_back_51 (by decide) ?_
            obtain ⟨hg, h⟩ := k_gd h
            obtain ⟨σ5, eσ5, h⟩ := k_ltx h
            refine st_M_holding C hP hap hAA eσ5 hg dX4_back_52 (fun H locs hP => ?_)
            obtain ⟨x6, ex6, h⟩ := k_ltx h
            refine lv_iinc (v := x6) (lv' := [(1, .int x6), (0, .ref (ad 0))]) hx hb dX4_back_53 hl (k := 1) rfl (by rw [ex6]; rfl) (by decide) rfl (fun ls hl => ?_)
            refine lv_goto (tgt := 24) hx hb dX4_back_56 (by decide) ?_
            exact ih _ _ _ _ _ h hP (lv_sub hl [1, 0] rfl)
    exact hL24 FU _ _ _ _ _ h hP (lv_sub hl [1, 0] rfl)
  · have h := k_if c4 h
    refine lv_aload_n hx hb dX4_back_7 rfl (lv_at hl 0 rfl) ?_
    refine lv_bipush (v := (-5)) hx hb dX4_back_8 (by decide) ?_
    obtain ⟨x8, σ7, h1, h⟩ := k_ob2 h
    refine k_callVi C hP hap hAA (c_X4_no l ev ad σ (-5)   _ _ h1) Emb.same hap gz_X4_no qML_RX4_56 qIM_yX4_no qSE_yX4_no ⟨(Nat.le_of_ble_eq_true rfl), (Nat.le_of_ble_eq_true rfl)⟩ (q0 := 0) rfl (by decide) rfl rfl rfl rfl hl.1 rfl (Nat.le_of_ble_eq_true rfl) dX4_back_10 ⟨Nat.le_refl _, Nat.le_refl _⟩ (fun H locs hP => ?_)
    exact e_iret C hend hP (k_some2 h).1 (congrArg (mw ev ad) (k_some2 h).2) dX4_back_13
def f_X4_status_L76_b (σ : MM)  (rec76 : Int32 → Int32 → Option (Int32)) (x1 : Int32) (x2 : Int32) : Option (Int32) :=
  if (f_X4_edges σ) ≤ x2 then some x1 else gd (inb x2 40) (if ((m_hedge σ) (Int32.toNatClampNeg x2)) = 0 then lt (x2 + 1) (fun x3 => rec76 x1 x3) else lt (x1 + 1) (fun x4 => lt (x2 + 1) (fun x5 => rec76 x4 x5)))
def f_X4_status_L76 (σ : MM)  (x1 : Int32) (x2 : Int32) : Option (Int32) :=
  lp (fun _ _ => none) (f_X4_status_L76_b σ ) FU x1 x2
def f_X4_status_L106_b (σ : MM)  (rec106 : Int32 → Int32 → Option (Int32)) (x6 : Int32) (x7 : Int32) : Option (Int32) :=
  if ((m_w σ) * (m_h σ)) ≤ x7 then some x6 else gd (inb x7 16) (if ((m_dug σ) (Int32.toNatClampNeg x7)) = 0 then lt (x7 + 1) (fun x8 => rec106 x6 x8) else lt (x6 + 1) (fun x9 => lt (x7 + 1) (fun x10 => rec106 x9 x10)))
def f_X4_status_L106 (σ : MM)  (x6 : Int32) (x7 : Int32) : Option (Int32) :=
  lp (fun _ _ => none) (f_X4_status_L106_b σ ) FU x6 x7
def f_X4_status_L141_b (σ : MM)  (rec141 : Int32 → Int32 → Option (Int32)) (x11 : Int32) (x12 : Int32) : Option (Int32) :=
  if ((m_w σ) * (m_h σ)) ≤ x12 then some x11 else ob (f_X4_hedges σ x12) (fun x13 => if x13 = 4 then lt (x11 + 1) (fun x15 => lt (x12 + 1) (fun x16 => rec141 x15 x16)) else lt (x12 + 1) (fun x14 => rec141 x11 x14))
def f_X4_status_L141 (σ : MM)  (x11 : Int32) (x12 : Int32) : Option (Int32) :=
  lp (fun _ _ => none) (f_X4_status_L141_b σ ) FU x11 x12
def f_X4_status_L201_b (σ : MM)  (rec201 : Int32 → Int32 → Option (Int32)) (x17 : Int32) (x18 : Int32) : Option (Int32) :=
  if 8 ≤ x18 then some x17 else gd (inb x18 8) (if ((m_holding σ) (Int32.toNatClampNeg x18)) = (-1) then lt (x18 + 1) (fun x19 => rec201 x17 x19) else lt (x17 + 1) (fun x20 => lt (x18 + 1) (fun x21 => rec201 x20 x21)))
def f_X4_status_L201 (σ : MM)  (x17 : Int32) (x18 : Int32) : Option (Int32) :=
  lp (fun _ _ => none) (f_X4_status_L201_b σ ) FU x17 x18
def f_X4_status (σ : MM) (a1 : Int32) : Option (Int32) :=
  if a1 = 0 then some (m_w σ) else if a1 = 1 then some (m_h σ) else if a1 = 2 then f_X4_status_L76 σ 0 0 else if a1 = 3 then f_X4_status_L106 σ 0 0 else if a1 = 4 then f_X4_status_L141 σ 0 0 else if a1 = 5 then some (m_turn σ) else if a1 = 6 then some (m_made σ) else if a1 = 7 then some (m_players σ) else if a1 = 8 then some (m_taped σ) else if a1 = 9 then some (m_seed σ) else if a1 = 10 then f_X4_status_L201 σ 0 0 else if a1 = 11 then some (f_X4_edges σ) else if (f_X4_within a1 12 16) = true then gd (inb (a1 - 10) 7) (some ((m_refusals σ) (Int32.toNatClampNeg (a1 - 10)))) else some (-1)
set_option maxHeartbeats 4000000 in
set_option maxRecDepth 100000 in
theorem c_X4_status (l : Launch) (ev : EV) (ad : Nat → Nat) (σ : MM) (a1 : Int32)   (r : Int32)  (h : f_X4_status σ a1 = some r) : Ct l yX4_status prog_6_method_120_code 4 (Option.some Jvm.ClassFile.FieldType.int) (rmk 3 67) ev 13 ad (mw ev ad σ) (mw ev ad σ) [.ref (ad 0), .int a1] (some (.int r)) := by
  refine Ct.of (by decide +kernel) (Nat.le_of_ble_eq_true rfl) ?_
  intro p e s m args below meth c Qc C hap hP hend ls hl
  have hAA : ∀ j, j < 13 → inA ad 13 (ad j) := fun j hj => ⟨j, hj, rfl⟩
  have hx := C.1
  have hb := C.2.1
  have hl : lv_has ls 4 [(0, .ref (ad 0)), (1, .int a1)] := hl
  have h := (f_X4_status.eq_1 _ _ ).symm.trans h
  refine lv_iconst (v := 0) hx hb dX4_status_0 (by decide) ?_
  refine lv_istore_n (lv' := [(2, .int 0), (0, .ref (ad 0)), (1, .int a1)]) hx hb dX4_status_1 rfl hl (by decide) rfl (fun ls hl => ?_)
  refine lv_iload_n hx hb dX4_status_2 rfl (lv_at hl 2 rfl) ?_
  by_cases cs0 : a1 = 0
  · have h := k_if cs0 h
    refine r_tabIn (tgt := 64) (off := 61) (i := 0) hx hb dX4_status_3 cs0 (by decide) (by decide) (by decide) (by decide) ?_
    refine lv_aload_n hx hb dX4_status_64 rfl (lv_at hl 1 rfl) ?_
    refine r_get C hP (ci := 4) rfl uin_X4 0 (by decide) 0 (by decide) rfl qFL_RX4_67 rfl rfl dX4_status_65 ?_
    exact e_iret C hend hP (k_some h) rfl dX4_status_68
  · have h := k_nf cs0 h
    by_cases cs1 : a1 = 1
    · have h := k_if cs1 h
      refine r_tabIn (tgt := 69) (off := 66) (i := 1) hx hb dX4_status_3 cs1 (by decide) (by decide) (by decide) (by decide) ?_
      refine lv_aload_n hx hb dX4_status_69 rfl (lv_at hl 1 rfl) ?_
      refine r_get C hP (ci := 4) rfl uin_X4 1 (by decide) 0 (by decide) rfl qFL_RX4_70 rfl rfl dX4_status_70 ?_
      exact e_iret C hend hP (k_some h) rfl dX4_status_73
    · have h := k_nf cs1 h
      by_cases cs2 : a1 = 2
      · have h := k_if cs2 h
        refine r_tabIn (tgt := 74) (off := 71) (i := 2) hx hb dX4_status_3 cs2 (by decide) (by decide) (by decide) (by decide) ?_
        refine lv_iconst (v := 0) hx hb dX4_status_74 (by decide) ?_
        refine lv_istore_n (lv' := [(3, .int 0), (2, .int 0), (0, .ref (ad 0)), (1, .int a1)]) hx hb dX4_status_75 rfl hl (by decide) rfl (fun ls hl => ?_)
        have hL76 : ∀ (n : Nat) (x1 : Int32) (x2 : Int32) (H : Heap) (locs : List Loc) (ls : Array Slot), lp (fun _ _ => none) (f_X4_status_L76_b σ ) n x1 x2 = some r → PS ev 13 ad (mw ev ad σ) (inA ad 13) s H locs → lv_has ls 4 [(0, .ref (ad 0)), (2, .int x1), (3, .int x2)] → WW ev p l e (rmk 3 67) s m args below meth c Qc ad 13 H locs 76 ls [] := by
          intro n
          induction n with
          | zero =>
            intro x1 x2 H locs ls h; exact k_none h
          | succ n ih =>
            intro x1 x2 H locs ls h hP hl
            have h : f_X4_status_L76_b σ  (lp (fun _ _ => none) (f_X4_status_L76_b σ ) n) x1 x2 = some r := h
            have h := (f_X4_status_L76_b.eq_1 _ _ _ _ ).symm.trans h
            refine lv_iload_n hx hb dX4_status_76 rfl (lv_at hl 2 rfl) ?_
            refine lv_aload_n hx hb dX4_status_77 rfl (lv_at hl 0 rfl) ?_
            refine k_callVi C hP hap hAA (c_X4_edges l ev ad σ   _ rfl) Emb.same hap gz_X4_edges qML_RX4_107 qIM_yX4_edges qSE_yX4_edges ⟨(Nat.le_of_ble_eq_true rfl), (Nat.le_of_ble_eq_true rfl)⟩ (q0 := 0) rfl (by decide) rfl rfl rfl rfl hl.1 rfl (Nat.le_of_ble_eq_true rfl) dX4_status_78 ⟨Nat.le_refl _, Nat.le_refl _⟩ (fun H locs hP => ?_)
            refine lv_icmp_ge (tgt := 102) hx hb dX4_status_81 (by decide) (fun c81 => ?_) (fun c81 => ?_)
            · have h := k_if c81 h
              refine lv_iload_n hx hb dX4_status_102 rfl (lv_at hl 1 rfl) ?_
              exact e_iret C hend hP (k_some h) rfl dX4_status_103
            · have h := k_nf c81 h
              refine lv_aload_n hx hb dX4_status_84 rfl (lv_at hl 0 rfl) ?_
              refine r_get C hP (ci := 4) rfl uin_X4 2 (by decide) 0 (by decide) rfl qFL_RX4_7 rfl rfl dX4_status_85 ?_
              refine lv_iload_n hx hb dX4_status_88 rfl (lv_at hl 2 rfl) ?_
              obtain ⟨hg, h⟩ := k_gd h
              refine r_zald C hP 1 (by decide) rfl hg dX4_status_89 ?_
              refine lv_if_eq (tgt := 96) hx hb dX4_status_90 (by decide) (fun c90 => ?_) (fun c90 => ?_)
              · have h := k_if c90 h
                obtain ⟨x3, ex3, h⟩ := k_ltx h
                refine lv_iinc (v := x3) (lv' := [(3, .int x3), (0, .ref (ad 0)), (2, .int x1)]) hx hb dX4_status_96 hl (k := 2) rfl (by rw [ex3]; rfl) (by decide) rfl (fun ls hl => ?_)
                refine lv_goto (tgt := 76) hx hb dX4_status_99 (by decide) ?_
                exact ih _ _ _ _ _ h hP (lv_sub hl [1, 2, 0] rfl)
              · have h := k_nf c90 h
                obtain ⟨x4, ex4, h⟩ := k_ltx h
                refine lv_iinc (v := x4) (lv' := [(2, .int x4), (0, .ref (ad 0)), (3, .int x2)]) hx hb dX4_status_93 hl (k := 1) rfl (by rw [ex4]; rfl) (by decide) rfl (fun ls hl => ?_)
                obtain ⟨x5, ex5, h⟩ := k_ltx h
                refine lv_iinc (v := x5) (lv' := [(3, .int x5), (2, .int x4), (0, .ref (ad 0))]) hx hb dX4_status_96 hl (k := 2) rfl (by rw [ex5]; rfl) (by decide) rfl (fun ls hl => ?_)
                refine lv_goto (tgt := 76) hx hb dX4_status_99 (by decide) ?_
                exact ih _ _ _ _ _ h hP (lv_sub hl [2, 1, 0] rfl)
        exact hL76 FU _ _ _ _ _ h hP (lv_sub hl [2, 1, 0] rfl)
      · have h := k_nf cs2 h
        by_cases cs3 : a1 = 3
        · have h := k_if cs3 h
          refine r_tabIn (tgt := 104) (off := 101) (i := 3) hx hb dX4_status_3 cs3 (by decide) (by decide) (by decide) (by decide) ?_
          refine lv_iconst (v := 0) hx hb dX4_status_104 (by decide) ?_
          refine lv_istore_n (lv' := [(3, .int 0), (2, .int 0), (0, .ref (ad 0)), (1, .int a1)]) hx hb dX4_status_105 rfl hl (by decide) rfl (fun ls hl => ?_)
          have hL106 : ∀ (n : Nat) (x6 : Int32) (x7 : Int32) (H : Heap) (locs : List Loc) (ls : Array Slot), lp (fun _ _ => none) (f_X4_status_L106_b σ ) n x6 x7 = some r → PS ev 13 ad (mw ev ad σ) (inA ad 13) s H locs → lv_has ls 4 [(0, .ref (ad 0)), (2, .int x6), (3, .int x7)] → WW ev p l e (rmk 3 67) s m args below meth c Qc ad 13 H locs 106 ls [] := by
            intro n
            induction n with
            | zero =>
              intro x6 x7 H locs ls h; exact k_none h
            | succ n ih =>
              intro x6 x7 H locs ls h hP hl
              have h : f_X4_status_L106_b σ  (lp (fun _ _ => none) (f_X4_status_L106_b σ ) n) x6 x7 = some r := h
              have h := (f_X4_status_L106_b.eq_1 _ _ _ _ ).symm.trans h
              refine lv_iload_n hx hb dX4_status_106 rfl (lv_at hl 2 rfl) ?_
              refine lv_aload_n hx hb dX4_status_107 rfl (lv_at hl 0 rfl) ?_
              refine r_get C hP (ci := 4) rfl uin_X4 0 (by decide) 0 (by decide) rfl qFL_RX4_67 rfl rfl dX4_status_108 ?_
              refine lv_aload_n hx hb dX4_status_111 rfl (lv_at hl 0 rfl) ?_
              refine r_get C hP (ci := 4) rfl uin_X4 1 (by decide) 0 (by decide) rfl qFL_RX4_70 rfl rfl dX4_status_112 ?_
              refine lv_imul hx hb dX4_status_115 ?_
              refine lv_icmp_ge (tgt := 137) hx hb dX4_status_116 (by decide) (fun c116 => ?_) (fun c116 => ?_)
              · have h := k_if c116 h
                refine lv_iload_n hx hb dX4_status_137 rfl (lv_at hl 1 rfl) ?_
                exact e_iret C hend hP (k_some h) rfl dX4_status_138
              · have h := k_nf c116 h
                refine lv_aload_n hx hb dX4_status_119 rfl (lv_at hl 0 rfl) ?_
                refine r_get C hP (ci := 4) rfl uin_X4 3 (by decide) 0 (by decide) rfl qFL_RX4_13 rfl rfl dX4_status_120 ?_
                refine lv_iload_n hx hb dX4_status_123 rfl (lv_at hl 2 rfl) ?_
                obtain ⟨hg, h⟩ := k_gd h
                refine r_zald C hP 2 (by decide) rfl hg dX4_status_124 ?_
                refine lv_if_eq (tgt := 131) hx hb dX4_status_125 (by decide) (fun c125 => ?_) (fun c125 => ?_)
                · have h := k_if c125 h
                  obtain ⟨x8, ex8, h⟩ := k_ltx h
                  refine lv_iinc (v := x8) (lv' := [(3, .int x8), (0, .ref (ad 0)), (2, .int x6)]) hx hb dX4_status_131 hl (k := 2) rfl (by rw [ex8]; rfl) (by decide) rfl (fun ls hl => ?_)
                  refine lv_goto (tgt := 106) hx hb dX4_status_134 (by decide) ?_
                  exact ih _ _ _ _ _ h hP (lv_sub hl [1, 2, 0] rfl)
                · have h := k_nf c125 h
                  obtain ⟨x9, ex9, h⟩ := k_ltx h
                  refine lv_iinc (v := x9) (lv' := [(2, .int x9), (0, .ref (ad 0)), (3, .int x7)]) hx hb dX4_status_128 hl (k := 1) rfl (by rw [ex9]; rfl) (by decide) rfl (fun ls hl => ?_)
                  obtain ⟨x10, ex10, h⟩ := k_ltx h
                  refine lv_iinc (v := x10) (lv' := [(3, .int x10), (2, .int x9), (0, .ref (ad 0))]) hx hb dX4_status_131 hl (k := 2) rfl (by rw [ex10]; rfl) (by decide) rfl (fun ls hl => ?_)
                  refine lv_goto (tgt := 106) hx hb dX4_status_134 (by decide) ?_
                  exact ih _ _ _ _ _ h hP (lv_sub hl [2, 1, 0] rfl)
          exact hL106 FU _ _ _ _ _ h hP (lv_sub hl [2, 1, 0] rfl)
        · have h := k_nf cs3 h
          by_cases cs4 : a1 = 4
          · have h := k_if cs4 h
            refine r_tabIn (tgt := 139) (off := 136) (i := 4) hx hb dX4_status_3 cs4 (by decide) (by decide) (by decide) (by decide) ?_
            refine lv_iconst (v := 0) hx hb dX4_status_139 (by decide) ?_
            refine lv_istore_n (lv' := [(3, .int 0), (2, .int 0), (0, .ref (ad 0)), (1, .int a1)]) hx hb dX4_status_140 rfl hl (by decide) rfl (fun ls hl => ?_)
            have hL141 : ∀ (n : Nat) (x11 : Int32) (x12 : Int32) (H : Heap) (locs : List Loc) (ls : Array Slot), lp (fun _ _ => none) (f_X4_status_L141_b σ ) n x11 x12 = some r → PS ev 13 ad (mw ev ad σ) (inA ad 13) s H locs → lv_has ls 4 [(0, .ref (ad 0)), (2, .int x11), (3, .int x12)] → WW ev p l e (rmk 3 67) s m args below meth c Qc ad 13 H locs 141 ls [] := by
              intro n
              induction n with
              | zero =>
                intro x11 x12 H locs ls h; exact k_none h
              | succ n ih =>
                intro x11 x12 H locs ls h hP hl
                have h : f_X4_status_L141_b σ  (lp (fun _ _ => none) (f_X4_status_L141_b σ ) n) x11 x12 = some r := h
                have h := (f_X4_status_L141_b.eq_1 _ _ _ _ ).symm.trans h
                refine lv_iload_n hx hb dX4_status_141 rfl (lv_at hl 2 rfl) ?_
                refine lv_aload_n hx hb dX4_status_142 rfl (lv_at hl 0 rfl) ?_
                refine r_get C hP (ci := 4) rfl uin_X4 0 (by decide) 0 (by decide) rfl qFL_RX4_67 rfl rfl dX4_status_143 ?_
                refine lv_aload_n hx hb dX4_status_146 rfl (lv_at hl 0 rfl) ?_
                refine r_get C hP (ci := 4) rfl uin_X4 1 (by decide) 0 (by decide) rfl qFL_RX4_70 rfl rfl dX4_status_147 ?_
                refine lv_imul hx hb dX4_status_150 ?_
                refine lv_icmp_ge (tgt := 172) hx hb dX4_status_151 (by decide) (fun c151 => ?_) (fun c151 => ?_)
                · have h := k_if c151 h
                  refine lv_iload_n hx hb dX4_status_172 rfl (lv_at hl 1 rfl) ?_
                  exact e_iret C hend hP (k_some h) rfl dX4_status_173
                · have h := k_nf c151 h
                  refine lv_aload_n hx hb dX4_status_154 rfl (lv_at hl 0 rfl) ?_
                  refine lv_iload_n hx hb dX4_status_155 rfl (lv_at hl 2 rfl) ?_
                  obtain ⟨x13, h1, h⟩ := k_ob h
                  refine k_callVi C hP hap hAA (c_X4_hedges l ev ad σ x12   _ h1) Emb.same hap gz_X4_hedges qML_RX4_196 qIM_yX4_hedges qSE_yX4_hedges ⟨(Nat.le_of_ble_eq_true rfl), (Nat.le_of_ble_eq_true rfl)⟩ (q0 := 0) rfl (by decide) rfl rfl rfl rfl hl.1 rfl (Nat.le_of_ble_eq_true rfl) dX4_status_156 ⟨Nat.le_refl _, Nat.le_refl _⟩ (fun H locs hP => ?_)
                  refine lv_iconst (v := 4) hx hb dX4_status_159 (by decide) ?_
                  refine lv_icmp_ne (tgt := 166) hx hb dX4_status_160 (by decide) (fun c160 => ?_) (fun c160 => ?_)
                  · have h := k_nf c160 h
                    obtain ⟨x14, ex14, h⟩ := k_ltx h
                    refine lv_iinc (v := x14) (lv' := [(3, .int x14), (0, .ref (ad 0)), (2, .int x11)]) hx hb dX4_status_166 hl (k := 2) rfl (by rw [ex14]; rfl) (by decide) rfl (fun ls hl => ?_)
                    refine lv_goto (tgt := 141) hx hb dX4_status_169 (by decide) ?_
                    exact ih _ _ _ _ _ h hP (lv_sub hl [1, 2, 0] rfl)
                  · have h := k_if c160 h
                    obtain ⟨x15, ex15, h⟩ := k_ltx h
                    refine lv_iinc (v := x15) (lv' := [(2, .int x15), (0, .ref (ad 0)), (3, .int x12)]) hx hb dX4_status_163 hl (k := 1) rfl (by rw [ex15]; rfl) (by decide) rfl (fun ls hl => ?_)
                    obtain ⟨x16, ex16, h⟩ := k_ltx h
                    refine lv_iinc (v := x16) (lv' := [(3, .int x16), (2, .int x15), (0, .ref (ad 0))]) hx hb dX4_status_166 hl (k := 2) rfl (by rw [ex16]; rfl) (by decide) rfl (fun ls hl => ?_)
                    refine lv_goto (tgt := 141) hx hb dX4_status_169 (by decide) ?_
                    exact ih _ _ _ _ _ h hP (lv_sub hl [2, 1, 0] rfl)
            exact hL141 FU _ _ _ _ _ h hP (lv_sub hl [2, 1, 0] rfl)
          · have h := k_nf cs4 h
            by_cases cs5 : a1 = 5
            · have h := k_if cs5 h
              refine r_tabIn (tgt := 174) (off := 171) (i := 5) hx hb dX4_status_3 cs5 (by decide) (by decide) (by decide) (by decide) ?_
              refine lv_aload_n hx hb dX4_status_174 rfl (lv_at hl 1 rfl) ?_
              refine r_get C hP (ci := 4) rfl uin_X4 5 (by decide) 0 (by decide) rfl qFL_RX4_101 rfl rfl dX4_status_175 ?_
              exact e_iret C hend hP (k_some h) rfl dX4_status_178
            · have h := k_nf cs5 h
              by_cases cs6 : a1 = 6
              · have h := k_if cs6 h
                refine r_tabIn (tgt := 179) (off := 176) (i := 6) hx hb dX4_status_3 cs6 (by decide) (by decide) (by decide) (by decide) ?_
                refine lv_aload_n hx hb dX4_status_179 rfl (lv_at hl 1 rfl) ?_
                refine r_get C hP (ci := 4) rfl uin_X4 6 (by decide) 0 (by decide) rfl qFL_RX4_104 rfl rfl dX4_status_180 ?_
                exact e_iret C hend hP (k_some h) rfl dX4_status_183
              · have h := k_nf cs6 h
                by_cases cs7 : a1 = 7
                · have h := k_if cs7 h
                  refine r_tabIn (tgt := 184) (off := 181) (i := 7) hx hb dX4_status_3 cs7 (by decide) (by decide) (by decide) (by decide) ?_
                  refine lv_aload_n hx hb dX4_status_184 rfl (lv_at hl 1 rfl) ?_
                  refine r_get C hP (ci := 4) rfl uin_X4 7 (by decide) 0 (by decide) rfl qFL_RX4_60 rfl rfl dX4_status_185 ?_
                  exact e_iret C hend hP (k_some h) rfl dX4_status_188
                · have h := k_nf cs7 h
                  by_cases cs8 : a1 = 8
                  · have h := k_if cs8 h
                    refine r_tabIn (tgt := 189) (off := 186) (i := 8) hx hb dX4_status_3 cs8 (by decide) (by decide) (by decide) (by decide) ?_
                    refine lv_aload_n hx hb dX4_status_189 rfl (lv_at hl 1 rfl) ?_
                    refine r_get C hP (ci := 4) rfl uin_X4 11 (by decide) 0 (by decide) rfl qFL_RX4_128 rfl rfl dX4_status_190 ?_
                    exact e_iret C hend hP (k_some h) rfl dX4_status_193
                  · have h := k_nf cs8 h
                    by_cases cs9 : a1 = 9
                    · have h := k_if cs9 h
                      refine r_tabIn (tgt := 194) (off := 191) (i := 9) hx hb dX4_status_3 cs9 (by decide) (by decide) (by decide) (by decide) ?_
                      refine lv_aload_n hx hb dX4_status_194 rfl (lv_at hl 1 rfl) ?_
                      refine r_get C hP (ci := 4) rfl uin_X4 10 (by decide) 0 (by decide) rfl qFL_RX4_48 rfl rfl dX4_status_195 ?_
                      exact e_iret C hend hP (k_some h) rfl dX4_status_198
                    · have h := k_nf cs9 h
                      by_cases cs10 : a1 = 10
                      · have h := k_if cs10 h
                        refine r_tabIn (tgt := 199) (off := 196) (i := 10) hx hb dX4_status_3 cs10 (by decide) (by decide) (by decide) (by decide) ?_
                        refine lv_iconst (v := 0) hx hb dX4_status_199 (by decide) ?_
                        refine lv_istore_n (lv' := [(3, .int 0), (2, .int 0), (0, .ref (ad 0)), (1, .int a1)]) hx hb dX4_status_200 rfl hl (by decide) rfl (fun ls hl => ?_)
                        have hL201 : ∀ (n : Nat) (x17 : Int32) (x18 : Int32) (H : Heap) (locs : List Loc) (ls : Array Slot), lp (fun _ _ => none) (f_X4_status_L201_b σ ) n x17 x18 = some r → PS ev 13 ad (mw ev ad σ) (inA ad 13) s H locs → lv_has ls 4 [(0, .ref (ad 0)), (2, .int x17), (3, .int x18)] → WW ev p l e (rmk 3 67) s m args below meth c Qc ad 13 H locs 201 ls [] := by
                          intro n
                          induction n with
                          | zero =>
                            intro x17 x18 H locs ls h; exact k_none h
                          | succ n ih =>
                            intro x17 x18 H locs ls h hP hl
                            have h : f_X4_status_L201_b σ  (lp (fun _ _ => none) (f_X4_status_L201_b σ ) n) x17 x18 = some r := h
                            have h := (f_X4_status_L201_b.eq_1 _ _ _ _ ).symm.trans h
                            refine lv_iload_n hx hb dX4_status_201 rfl (lv_at hl 2 rfl) ?_
                            refine lv_bipush (v := 8) hx hb dX4_status_202 (by decide) ?_
                            refine lv_icmp_ge (tgt := 226) hx hb dX4_status_204 (by decide) (fun c204 => ?_) (fun c204 => ?_)
                            · have h := k_if c204 h
                              refine lv_iload_n hx hb dX4_status_226 rfl (lv_at hl 1 rfl) ?_
                              exact e_iret C hend hP (k_some h) rfl dX4_status_227
                            · have h := k_nf c204 h
                              refine lv_aload_n hx hb dX4_status_207 rfl (lv_at hl 0 rfl) ?_
                              refine r_get C hP (ci := 4) rfl uin_X4 17 (by decide) 0 (by decide) rfl qFL_RX4_29 rfl rfl dX4_status_208 ?_
                              refine lv_iload_n hx hb dX4_status_211 rfl (lv_at hl 2 rfl) ?_
                              obtain ⟨hg, h⟩ := k_gd h
                              refine r_iald C hP 7 (by decide) rfl hg dX4_status_212 ?_
                              refine lv_iconst (v := (-1)) hx hb dX4_status_213 (by decide) ?_
                              refine lv_icmp_eq (tgt := 220) hx hb dX4_status_214 (by decide) (fun c214 => ?_) (fun c214 => ?_)
                              · have h := k_if c214 h
                                obtain ⟨x19, ex19, h⟩ := k_ltx h
                                refine lv_iinc (v := x19) (lv' := [(3, .int x19), (0, .ref (ad 0)), (2, .int x17)]) hx hb dX4_status_220 hl (k := 2) rfl (by rw [ex19]; rfl) (by decide) rfl (fun ls hl => ?_)
                                refine lv_goto (tgt := 201) hx hb dX4_status_223 (by decide) ?_
                                exact ih _ _ _ _ _ h hP (lv_sub hl [1, 2, 0] rfl)
                              · have h := k_nf c214 h
                                obtain ⟨x20, ex20, h⟩ := k_ltx h
                                refine lv_iinc (v := x20) (lv' := [(2, .int x20), (0, .ref (ad 0)), (3, .int x18)]) hx hb dX4_status_217 hl (k := 1) rfl (by rw [ex20]; rfl) (by decide) rfl (fun ls hl => ?_)
                                obtain ⟨x21, ex21, h⟩ := k_ltx h
                                refine lv_iinc (v := x21) (lv' := [(3, .int x21), (2, .int x20), (0, .ref (ad 0))]) hx hb dX4_status_220 hl (k := 2) rfl (by rw [ex21]; rfl) (by decide) rfl (fun ls hl => ?_)
                                refine lv_goto (tgt := 201) hx hb dX4_status_223 (by decide) ?_
                                exact ih _ _ _ _ _ h hP (lv_sub hl [2, 1, 0] rfl)
                        exact hL201 FU _ _ _ _ _ h hP (lv_sub hl [2, 1, 0] rfl)
                      · have h := k_nf cs10 h
                        by_cases cs11 : a1 = 11
                        · have h := k_if cs11 h
                          refine r_tabIn (tgt := 228) (off := 225) (i := 11) hx hb dX4_status_3 cs11 (by decide) (by decide) (by decide) (by decide) ?_
                          refine lv_aload_n hx hb dX4_status_228 rfl (lv_at hl 1 rfl) ?_
                          refine k_callVi C hP hap hAA (c_X4_edges l ev ad σ   _ rfl) Emb.same hap gz_X4_edges qML_RX4_107 qIM_yX4_edges qSE_yX4_edges ⟨(Nat.le_of_ble_eq_true rfl), (Nat.le_of_ble_eq_true rfl)⟩ (q0 := 0) rfl (by decide) rfl rfl rfl rfl hl.1 rfl (Nat.le_of_ble_eq_true rfl) dX4_status_229 ⟨Nat.le_refl _, Nat.le_refl _⟩ (fun H locs hP => ?_)
                          exact e_iret C hend hP (k_some h) rfl dX4_status_232
                        · have h := k_nf cs11 h
                          refine r_tabOut (tgt := 233) hx hb dX4_status_3 (fun i h1 h2 => by
                            have h3 : i = 0 ∨ i = 1 ∨ i = 2 ∨ i = 3 ∨ i = 4 ∨ i = 5 ∨ i = 6 ∨ i = 7 ∨ i = 8 ∨ i = 9 ∨ i = 10 ∨ i = 11 := by omega
                            rcases h3 with rfl | rfl | rfl | rfl | rfl | rfl | rfl | rfl | rfl | rfl | rfl | rfl
                            · exact cs0
                            · exact cs1
                            · exact cs2
                            · exact cs3
                            · exact cs4
                            · exact cs5
                            · exact cs6
                            · exact cs7
                            · exact cs8
                            · exact cs9
                            · exact cs10
                            · exact cs11
                            ) (by decide) ?_
                          refine lv_iload_n hx hb dX4_status_233 rfl (lv_at hl 2 rfl) ?_
                          refine lv_bipush (v := 12) hx hb dX4_status_234 (by decide) ?_
                          refine lv_bipush (v := 16) hx hb dX4_status_236 (by decide) ?_
                          refine k_callSi C hP hap hAA (c_X4_within l ev ad a1 12 16   _ rfl) Emb.none (apart_0 _) gz_X4_within qML_RX4_63 qSM_yX4_within ⟨(Nat.le_of_ble_eq_true rfl), (Nat.le_of_ble_eq_true rfl)⟩ rfl hl.1 rfl (Nat.le_of_ble_eq_true rfl) dX4_status_238 ⟨Nat.le_refl _, Nat.le_refl _⟩ (fun H locs hP => ?_)
                          refine r_ifz_eq (tgt := 256) hx hb dX4_status_241 (by decide) (fun c241 => ?_) (fun c241 => ?_)
                          · have h := k_nf c241 h
                            refine lv_iconst (v := (-1)) hx hb dX4_status_256 (by decide) ?_
                            exact e_iret C hend hP (k_some h) rfl dX4_status_257
                          · have h := k_if c241 h
                            refine lv_aload_n hx hb dX4_status_244 rfl (lv_at hl 1 rfl) ?_
                            refine r_get C hP (ci := 4) rfl uin_X4 20 (by decide) 0 (by decide) rfl qFL_RX4_39 rfl rfl dX4_status_245 ?_
                            refine lv_iload_n hx hb dX4_status_248 rfl (lv_at hl 2 rfl) ?_
                            refine lv_bipush (v := 10) hx hb dX4_status_249 (by decide) ?_
                            refine lv_isub hx hb dX4_status_251 ?_
                            obtain ⟨hg, h⟩ := k_gd h
                            refine r_iald C hP 10 (by decide) rfl hg dX4_status_252 ?_
                            refine lv_goto (tgt := 257) hx hb dX4_status_253 (by decide) ?_
                            exact e_iret C hend hP (k_some h) rfl dX4_status_257
