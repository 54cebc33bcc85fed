/-! functions read off, and their contracts: by program (wip/whole/gen2.py) -/
def f_X4_isShelf (a1 : Int32) : Bool :=
  (f_X4_within a1 0 7)
set_option maxHeartbeats 4000000 in
set_option maxRecDepth 100000 in
theorem c_X4_isShelf (l : Launch) (ev : EV) (ad : Nat → Nat) (a1 : Int32)   (r : Bool)  (h : f_X4_isShelf a1 = r) : Ct l yX4_isShelf prog_6_method_7_code 1 (Option.some Jvm.ClassFile.FieldType.boolean) (rmk 1 22) ev 0 ad w00 w00 [.int a1] (some (.int (bi r))) := by
  refine Ct.of (by decide +kernel) (Nat.le_of_ble_eq_true rfl) ?_
  intro p e s m args below meth c Qc C hap hP hend ls hl
  have hAA : ∀ j, j < 0 → inA ad 0 (ad j) := fun j hj => ⟨j, hj, rfl⟩
  have hx := C.1
  have hb := C.2.1
  have hl : lv_has ls 1 [(0, .int a1)] := hl
  have h := (f_X4_isShelf.eq_1 _ ).symm.trans h
  refine lv_iload_n hx hb dX4_isShelf_0 rfl (lv_at hl 0 rfl) ?_
  refine lv_iconst (v := 0) hx hb dX4_isShelf_1 (by decide) ?_
  refine lv_bipush (v := 7) hx hb dX4_isShelf_2 (by decide) ?_
  refine k_callSi C hP hap hAA (c_X4_within l ev ad a1 0 7   _ rfl) Emb.none (apart_0 _) gz_X4_within qML_RX4_63 qSM_yX4_within ⟨(Nat.le_of_ble_eq_true rfl), (Nat.le_of_ble_eq_true rfl)⟩ rfl hl.1 rfl (Nat.le_of_ble_eq_true rfl) dX4_isShelf_4 ⟨Nat.le_refl _, Nat.le_refl _⟩ (fun H locs hP => ?_)
  exact e_zret C hend hP h rfl dX4_isShelf_7 rfl
def f_X4_isRow (σ : MM) (a1 : Int32) : Option (Bool) :=
  gd (inb a1 8) (some (f_X4_within ((m_holding σ) (Int32.toNatClampNeg a1)) 0 4))
set_option maxHeartbeats 4000000 in
set_option maxRecDepth 100000 in
theorem c_X4_isRow (l : Launch) (ev : EV) (ad : Nat → Nat) (σ : MM) (a1 : Int32)   (r : Bool)  (h : f_X4_isRow σ a1 = some r) : Ct l yX4_isRow prog_6_method_8_code 2 (Option.some Jvm.ClassFile.FieldType.boolean) (rmk 1 22) ev 13 ad (mw ev ad σ) (mw ev ad σ) [.ref (ad 0), .int a1] (some (.int (bi r))) := by
  refine Ct.of (by decide +kernel) (Nat.le_of_ble_eq_true rfl) ?_
  intro p e s m args below meth c Qc C hap hP hend ls hl
  have hAA : ∀ j, j < 13 → inA ad 13 (ad j) := fun j hj => ⟨j, hj, rfl⟩
  have hx := C.1
  have hb := C.2.1
  have hl : lv_has ls 2 [(0, .ref (ad 0)), (1, .int a1)] := hl
  have h := (f_X4_isRow.eq_1 _ _ ).symm.trans h
  refine lv_aload_n hx hb dX4_isRow_0 rfl (lv_at hl 0 rfl) ?_
  refine r_get C hP (ci := 4) rfl uin_X4 17 (by decide) 0 (by decide) rfl qFL_RX4_29 rfl rfl dX4_isRow_1 ?_
  refine lv_iload_n hx hb dX4_isRow_4 rfl (lv_at hl 1 rfl) ?_
  obtain ⟨hg, h⟩ := k_gd h
  refine r_iald C hP 7 (by decide) rfl hg dX4_isRow_5 ?_
  refine lv_iconst (v := 0) hx hb dX4_isRow_6 (by decide) ?_
  refine lv_iconst (v := 4) hx hb dX4_isRow_7 (by decide) ?_
  refine k_callSi C hP hap hAA (c_X4_within l ev ad ((m_holding σ) (Int32.toNatClampNeg a1)) 0 4   _ rfl) Emb.none (apart_0 _) gz_X4_within qML_RX4_63 qSM_yX4_within ⟨(Nat.le_of_ble_eq_true rfl), (Nat.le_of_ble_eq_true rfl)⟩ rfl hl.1 rfl (Nat.le_of_ble_eq_true rfl) dX4_isRow_8 ⟨Nat.le_refl _, Nat.le_refl _⟩ (fun H locs hP => ?_)
  exact e_zret C hend hP (k_some h) rfl dX4_isRow_11 rfl
def f_X4_row_L50_b (a1 : Int32)  (rec50 : Int32 → MM → Option (Int32 × MM)) (x7 : Int32) (σ8 : MM) : Option (Int32 × MM) :=
  if 40 ≤ x7 then some (1, σ8) else gd (inb ((40 * a1) + x7) 320) (lt (m_rowOf' σ8 (vp_updL (m_rowOf σ8) (Int32.toNatClampNeg ((40 * a1) + x7)) 0)) (fun σ9 => lt (x7 + 1) (fun x10 => rec50 x10 σ9)))
def f_X4_row_L50 (a1 : Int32)  (x7 : Int32) (σ8 : MM) : Option (Int32 × MM) :=
  lp (fun _ _ => none) (f_X4_row_L50_b a1 ) FU x7 σ8
def f_X4_row (σ : MM) (a1 : Int32) (a2 : Int32) (a3 : Int32) : Option (Int32 × MM) :=
  if (f_X4_isShelf a1) = true then if (f_X4_within a2 0 4) = true then if (f_X4_within a3 0 40) = true then gd (inb a1 8) (lt (m_holding' σ (upd (m_holding σ) (Int32.toNatClampNeg a1) a2)) (fun σ5 => gd (inb a1 8) (lt (m_rowLength' σ5 (upd (m_rowLength σ5) (Int32.toNatClampNeg a1) a3)) (fun σ6 => f_X4_row_L50 a1 0 σ6)))) else ob2 (f_X4_no σ (-2)) (fun x12 σ11 => some (x12, σ11)) else ob2 (f_X4_no σ (-2)) (fun x4 σ3 => some (x4, σ3)) else ob2 (f_X4_no σ (-2)) (fun x2 σ1 => some (x2, σ1))
set_option maxHeartbeats 4000000 in
set_option maxRecDepth 100000 in
theorem c_X4_row (l : Launch) (ev : EV) (ad : Nat → Nat) (σ : MM) (a1 : Int32) (a2 : Int32) (a3 : Int32)   (r : Int32) (σ' : MM) (h : f_X4_row σ a1 a2 a3 = some (r, σ')) : Ct l yX4_row prog_6_method_9_code 5 (Option.some Jvm.ClassFile.FieldType.int) (rmk 2 42) ev 13 ad (mw ev ad σ) (mw ev ad σ') [.ref (ad 0), .int a1, .int a2, .int a3] (some (.int r)) := by
  refine Ct.of (by decide +kernel) (Nat.le_of_ble_eq_true rfl) ?_
  intro p e s m args below meth c Qc C hap hP hend ls hl
  have hAA : ∀ j, j < 13 → inA ad 13 (ad j) := fun j hj => ⟨j, hj, rfl⟩
  have hx := C.1
  have hb := C.2.1
  have hl : lv_has ls 5 [(0, .ref (ad 0)), (1, .int a1), (2, .int a2), (3, .int a3)] := hl
  have h := (f_X4_row.eq_1 _ _ _ _ ).symm.trans h
  refine lv_iload_n hx hb dX4_row_0 rfl (lv_at hl 1 rfl) ?_
  refine k_callSi C hP hap hAA (c_X4_isShelf l ev ad a1   _ rfl) Emb.none (apart_0 _) gz_X4_isShelf qML_RX4_73 qSM_yX4_isShelf ⟨(Nat.le_of_ble_eq_true rfl), (Nat.le_of_ble_eq_true rfl)⟩ rfl hl.1 rfl (Nat.le_of_ble_eq_true rfl) dX4_row_1 ⟨Nat.le_refl _, Nat.le_refl _⟩ (fun H locs hP => ?_)
  refine r_ifz_eq (tgt := 26) hx hb dX4_row_4 (by decide) (fun c4 => ?_) (fun c4 => ?_)
  · have h := k_nf c4 h
    refine lv_aload_n hx hb dX4_row_26 rfl (lv_at hl 0 rfl) ?_
    refine lv_bipush (v := (-2)) hx hb dX4_row_27 (by decide) ?_
    obtain ⟨x2, σ1, h1, h⟩ := k_ob2 h
    refine k_callVi C hP hap hAA (c_X4_no l ev ad σ (-2)   _ _ h1) Emb.same hap gz_X4_no qML_RX4_56 qIM_yX4_no qSE_yX4_no ⟨(Nat.le_of_ble_eq_true rfl), (Nat.le_of_ble_eq_true rfl)⟩ (q0 := 0) rfl (by decide) rfl rfl rfl rfl hl.1 rfl (Nat.le_of_ble_eq_true rfl) dX4_row_29 ⟨Nat.le_refl _, Nat.le_refl _⟩ (fun H locs hP => ?_)
    exact e_iret C hend hP (k_some2 h).1 (congrArg (mw ev ad) (k_some2 h).2) dX4_row_32
  · have h := k_if c4 h
    refine lv_iload_n hx hb dX4_row_7 rfl (lv_at hl 2 rfl) ?_
    refine lv_iconst (v := 0) hx hb dX4_row_8 (by decide) ?_
    refine lv_iconst (v := 4) hx hb dX4_row_9 (by decide) ?_
    refine k_callSi C hP hap hAA (c_X4_within l ev ad a2 0 4   _ rfl) Emb.none (apart_0 _) gz_X4_within qML_RX4_63 qSM_yX4_within ⟨(Nat.le_of_ble_eq_true rfl), (Nat.le_of_ble_eq_true rfl)⟩ rfl hl.1 rfl (Nat.le_of_ble_eq_true rfl) dX4_row_10 ⟨Nat.le_refl _, Nat.le_refl _⟩ (fun H locs hP => ?_)
    refine r_ifz_eq (tgt := 26) hx hb dX4_row_13 (by decide) (fun c13 => ?_) (fun c13 => ?_)
    · have h := k_nf c13 h
      refine lv_aload_n hx hb dX4_row_26 rfl (lv_at hl 0 rfl) ?_
      refine lv_bipush (v := (-2)) hx hb dX4_row_27 (by decide) ?_
      obtain ⟨x4, σ3, h1, h⟩ := k_ob2 h
      refine k_callVi C hP hap hAA (c_X4_no l ev ad σ (-2)   _ _ h1) Emb.same hap gz_X4_no qML_RX4_56 qIM_yX4_no qSE_yX4_no ⟨(Nat.le_of_ble_eq_true rfl), (Nat.le_of_ble_eq_true rfl)⟩ (q0 := 0) rfl (by decide) rfl rfl rfl rfl hl.1 rfl (Nat.le_of_ble_eq_true rfl) dX4_row_29 ⟨Nat.le_refl _, Nat.le_refl _⟩ (fun H locs hP => ?_)
      exact e_iret C hend hP (k_some2 h).1 (congrArg (mw ev ad) (k_some2 h).2) dX4_row_32
    · have h := k_if c13 h
      refine lv_iload_n hx hb dX4_row_16 rfl (lv_at hl 3 rfl) ?_
      refine lv_iconst (v := 0) hx hb dX4_row_17 (by decide) ?_
      refine lv_bipush (v := 40) hx hb dX4_row_18 (by decide) ?_
      refine k_callSi C hP hap hAA (c_X4_within l ev ad a3 0 40   _ rfl) Emb.none (apart_0 _) gz_X4_within qML_RX4_63 qSM_yX4_within ⟨(Nat.le_of_ble_eq_true rfl), (Nat.le_of_ble_eq_true rfl)⟩ rfl hl.1 rfl (Nat.le_of_ble_eq_true rfl) dX4_row_20 ⟨Nat.le_refl _, Nat.le_refl _⟩ (fun H locs hP => ?_)
      refine r_ifz_ne (tgt := 33) hx hb dX4_row_23 (by decide) (fun c23 => ?_) (fun c23 => ?_)
      · have h := k_if c23 h
        refine lv_aload_n hx hb dX4_row_33 rfl (lv_at hl 0 rfl) ?_
        refine r_get C hP (ci := 4) rfl uin_X4 17 (by decide) 0 (by decide) rfl qFL_RX4_29 rfl rfl dX4_row_34 ?_
        refine lv_iload_n hx hb dX4_row_37 rfl (lv_at hl 1 rfl) ?_
        refine lv_iload_n hx hb dX4_row_38 rfl (lv_at hl 2 rfl) ?_
        obtain ⟨hg, h⟩ := k_gd h
        obtain ⟨σ5, eσ5, h⟩ := k_ltx h
        refine st_M_holding C hP hap hAA eσ5 hg dX4_row_39 (fun H locs hP => ?_)
        refine lv_aload_n hx hb dX4_row_40 rfl (lv_at hl 0 rfl) ?_
        refine r_get C hP (ci := 4) rfl uin_X4 18 (by decide) 0 (by decide) rfl qFL_RX4_32 rfl rfl dX4_row_41 ?_
        refine lv_iload_n hx hb dX4_row_44 rfl (lv_at hl 1 rfl) ?_
        refine lv_iload_n hx hb dX4_row_45 rfl (lv_at hl 3 rfl) ?_
        obtain ⟨hg, h⟩ := k_gd h
        obtain ⟨σ6, eσ6, h⟩ := k_ltx h
        refine st_M_rowLength C hP hap hAA eσ6 hg dX4_row_46 (fun H locs hP => ?_)
        refine lv_iconst (v := 0) hx hb dX4_row_47 (by decide) ?_
        refine lv_istore (lv' := [(4, .int 0), (0, .ref (ad 0)), (1, .int a1), (2, .int a2), (3, .int a3)]) hx hb dX4_row_48 hl (by decide) rfl (fun ls hl => ?_)
        have hL50 : ∀ (n : Nat) (x7 : Int32) (σ8 : MM) (H : Heap) (locs : List Loc) (ls : Array Slot), lp (fun _ _ => none) (f_X4_row_L50_b a1 ) n x7 σ8 = some (r, σ') → PS ev 13 ad (mw ev ad σ8) (inA ad 13) s H locs → lv_has ls 5 [(0, .ref (ad 0)), (1, .int a1), (4, .int x7)] → WW ev p l e (rmk 2 42) s m args below meth c Qc ad 13 H locs 50 ls [] := by
          intro n
          induction n with
          | zero =>
            intro x7 σ8 H locs ls h; exact k_none h
          | succ n ih =>
            intro x7 σ8 H locs ls h hP hl
            have h : f_X4_row_L50_b a1  (lp (fun _ _ => none) (f_X4_row_L50_b a1 ) n) x7 σ8 = some (r, σ') := h
            have h := (f_X4_row_L50_b.eq_1 _ _ _ _ ).symm.trans h
            refine lv_iload hx hb dX4_row_50 (lv_at hl 2 rfl) ?_
            refine lv_bipush (v := 40) hx hb dX4_row_52 (by decide) ?_
            refine lv_icmp_ge (tgt := 76) hx hb dX4_row_54 (by decide) (fun c54 => ?_) (fun c54 => ?_)
            · have h := k_if c54 h
              refine lv_iconst (v := 1) hx hb dX4_row_76 (by decide) ?_
              exact e_iret C hend hP (k_some2 h).1 (congrArg (mw ev ad) (k_some2 h).2) dX4_row_77
            · have h := k_nf c54 h
              refine lv_aload_n hx hb dX4_row_57 rfl (lv_at hl 0 rfl) ?_
              refine r_get C hP (ci := 4) rfl uin_X4 19 (by decide) 0 (by decide) rfl qFL_RX4_35 rfl rfl dX4_row_58 ?_
              refine lv_bipush (v := 40) hx hb dX4_row_61 (by decide) ?_
              refine lv_iload_n hx hb dX4_row_63 rfl (lv_at hl 1 rfl) ?_
              refine lv_imul hx hb dX4_row_64 ?_
              refine lv_iload hx hb dX4_row_65 (lv_at hl 2 rfl) ?_
              refine lv_iadd hx hb dX4_row_67 ?_
              refine lv_lconst (v := 0) hx hb dX4_row_68 (by decide) ?_
              obtain ⟨hg, h⟩ := k_gd h
              obtain ⟨σ9, eσ9, h⟩ := k_ltx h
              refine st_M_rowOf C hP hap hAA eσ9 hg dX4_row_69 (fun H locs hP => ?_)
              obtain ⟨x10, ex10, h⟩ := k_ltx h
              refine lv_iinc (v := x10) (lv' := [(4, .int x10), (0, .ref (ad 0)), (1, .int a1)]) hx hb dX4_row_70 hl (k := 2) rfl (by rw [ex10]; rfl) (by decide) rfl (fun ls hl => ?_)
              refine lv_goto (tgt := 50) hx hb dX4_row_73 (by decide) ?_
              exact ih _ _ _ _ _ h hP (lv_sub hl [1, 2, 0] rfl)
        exact hL50 FU _ _ _ _ _ h hP (lv_sub hl [1, 2, 0] rfl)
      · have h := k_nf c23 h
        refine lv_aload_n hx hb dX4_row_26 rfl (lv_at hl 0 rfl) ?_
        refine lv_bipush (v := (-2)) hx hb dX4_row_27 (by decide) ?_
        obtain ⟨x12, σ11, h1, h⟩ := k_ob2 h
        refine k_callVi C hP hap hAA (c_X4_no l ev ad σ (-2)   _ _ h1) Emb.same hap gz_X4_no qML_RX4_56 qIM_yX4_no qSE_yX4_no ⟨(Nat.le_of_ble_eq_true rfl), (Nat.le_of_ble_eq_true rfl)⟩ (q0 := 0) rfl (by decide) rfl rfl rfl rfl hl.1 rfl (Nat.le_of_ble_eq_true rfl) dX4_row_29 ⟨Nat.le_refl _, Nat.le_refl _⟩ (fun H locs hP => ?_)
        exact e_iret C hend hP (k_some2 h).1 (congrArg (mw ev ad) (k_some2 h).2) dX4_row_32
def f_X4_noRow (σ : MM) (a1 : Int32) : Option (Int32) :=
  gd (inb a1 8) (if ((m_holding σ) (Int32.toNatClampNeg a1)) < 10 then gd (inb a1 8) (if 0 ≤ ((m_holding σ) (Int32.toNatClampNeg a1)) then some 0 else some (-4)) else some (-3))
set_option maxHeartbeats 4000000 in
set_option maxRecDepth 100000 in
theorem c_X4_noRow (l : Launch) (ev : EV) (ad : Nat → Nat) (σ : MM) (a1 : Int32)   (r : Int32)  (h : f_X4_noRow σ a1 = some r) : Ct l yX4_noRow prog_6_method_10_code 2 (Option.some Jvm.ClassFile.FieldType.int) (rmk 0 0) ev 13 ad (mw ev ad σ) (mw ev ad σ) [.ref (ad 0), .int a1] (some (.int r)) := by
  refine Ct.of (by decide +kernel) (Nat.le_of_ble_eq_true rfl) ?_
  intro p e s m args below meth c Qc C hap hP hend ls hl
  have hAA : ∀ j, j < 13 → inA ad 13 (ad j) := fun j hj => ⟨j, hj, rfl⟩
  have hx := C.1
  have hb := C.2.1
  have hl : lv_has ls 2 [(0, .ref (ad 0)), (1, .int a1)] := hl
  have h := (f_X4_noRow.eq_1 _ _ ).symm.trans h
  refine lv_aload_n hx hb dX4_noRow_0 rfl (lv_at hl 0 rfl) ?_
  refine r_get C hP (ci := 4) rfl uin_X4 17 (by decide) 0 (by decide) rfl qFL_RX4_29 rfl rfl dX4_noRow_1 ?_
  refine lv_iload_n hx hb dX4_noRow_4 rfl (lv_at hl 1 rfl) ?_
  obtain ⟨hg, h⟩ := k_gd h
  refine r_iald C hP 7 (by decide) rfl hg dX4_noRow_5 ?_
  refine lv_bipush (v := 10) hx hb dX4_noRow_6 (by decide) ?_
  refine lv_icmp_lt (tgt := 16) hx hb dX4_noRow_8 (by decide) (fun c8 => ?_) (fun c8 => ?_)
  · have h := k_if c8 h
    refine lv_aload_n hx hb dX4_noRow_16 rfl (lv_at hl 0 rfl) ?_
    refine r_get C hP (ci := 4) rfl uin_X4 17 (by decide) 0 (by decide) rfl qFL_RX4_29 rfl rfl dX4_noRow_17 ?_
    refine lv_iload_n hx hb dX4_noRow_20 rfl (lv_at hl 1 rfl) ?_
    obtain ⟨hg, h⟩ := k_gd h
    refine r_iald C hP 7 (by decide) rfl hg dX4_noRow_21 ?_
    refine lv_if_ge (tgt := 30) hx hb dX4_noRow_22 (by decide) (fun c22 => ?_) (fun c22 => ?_)
    · have h := k_if c22 h
      refine lv_iconst (v := 0) hx hb dX4_noRow_30 (by decide) ?_
      exact e_iret C hend hP (k_some h) rfl dX4_noRow_31
    · have h := k_nf c22 h
      refine lv_bipush (v := (-4)) hx hb dX4_noRow_25 (by decide) ?_
      refine lv_goto (tgt := 31) hx hb dX4_noRow_27 (by decide) ?_
      exact e_iret C hend hP (k_some h) rfl dX4_noRow_31
  · have h := k_nf c8 h
    refine lv_bipush (v := (-3)) hx hb dX4_noRow_11 (by decide) ?_
    refine lv_goto (tgt := 31) hx hb dX4_noRow_13 (by decide) ?_
    exact e_iret C hend hP (k_some h) rfl dX4_noRow_31
def f_X4_kept (a1 : Int32) (a2 : Int64) : Int64 :=
  if a1 = 0 then (Int32.toInt64 ((Int32.toInt8 (Int64.toInt32 a2)).toInt32)) else if a1 = 1 then (Int32.toInt64 ((Int32.toInt16 (Int64.toInt32 a2)).toInt32)) else if a1 = 2 then (Int32.toInt64 (Int64.toInt32 a2)) else if a1 = 3 then a2 else if (lg_cmp a2 0) = 0 then 0 else 1
set_option maxHeartbeats 4000000 in
set_option maxRecDepth 100000 in
theorem c_X4_kept (l : Launch) (ev : EV) (ad : Nat → Nat) (a1 : Int32) (a2 : Int64)   (r : Int64)  (h : f_X4_kept a1 a2 = r) : Ct l yX4_kept prog_6_method_11_code 3 (Option.some Jvm.ClassFile.FieldType.long) (rmk 0 0) ev 0 ad w00 w00 [.int a1, .long a2] (some (.long r)) := by
  refine Ct.of (by decide +kernel) (Nat.le_of_ble_eq_true rfl) ?_
  intro p e s m args below meth c Qc C hap hP hend ls hl
  have hAA : ∀ j, j < 0 → inA ad 0 (ad j) := fun j hj => ⟨j, hj, rfl⟩
  have hx := C.1
  have hb := C.2.1
  have hl : lv_has ls 3 [(0, .int a1), (1, .long a2)] := hl
  have h := (f_X4_kept.eq_1 _ _ ).symm.trans h
  refine lv_iload_n hx hb dX4_kept_0 rfl (lv_at hl 0 rfl) ?_
  by_cases cs0 : a1 = 0
  · have h := k_if cs0 h
    refine r_tabIn (tgt := 32) (off := 31) (i := 0) hx hb dX4_kept_1 cs0 (by decide) (by decide) (by decide) (by decide) ?_
    refine lv_lload_n hx hb dX4_kept_32 rfl (lv_at hl 1 rfl) ?_
    refine lv_l2i hx hb dX4_kept_33 rfl ?_
    refine lv_i2b hx hb dX4_kept_34 rfl ?_
    refine lv_i2l hx hb dX4_kept_35 rfl ?_
    exact e_lret C hend hP h rfl dX4_kept_36
  · have h := k_nf cs0 h
    by_cases cs1 : a1 = 1
    · have h := k_if cs1 h
      refine r_tabIn (tgt := 37) (off := 36) (i := 1) hx hb dX4_kept_1 cs1 (by decide) (by decide) (by decide) (by decide) ?_
      refine lv_lload_n hx hb dX4_kept_37 rfl (lv_at hl 1 rfl) ?_
      refine lv_l2i hx hb dX4_kept_38 rfl ?_
      refine lv_i2s hx hb dX4_kept_39 rfl ?_
      refine lv_i2l hx hb dX4_kept_40 rfl ?_
      exact e_lret C hend hP h rfl dX4_kept_41
    · have h := k_nf cs1 h
      by_cases cs2 : a1 = 2
      · have h := k_if cs2 h
        refine r_tabIn (tgt := 42) (off := 41) (i := 2) hx hb dX4_kept_1 cs2 (by decide) (by decide) (by decide) (by decide) ?_
        refine lv_lload_n hx hb dX4_kept_42 rfl (lv_at hl 1 rfl) ?_
        refine lv_l2i hx hb dX4_kept_43 rfl ?_
        refine lv_i2l hx hb dX4_kept_44 rfl ?_
        exact e_lret C hend hP h rfl dX4_kept_45
      · have h := k_nf cs2 h
        by_cases cs3 : a1 = 3
        · have h := k_if cs3 h
          refine r_tabIn (tgt := 46) (off := 45) (i := 3) hx hb dX4_kept_1 cs3 (by decide) (by decide) (by decide) (by decide) ?_
          refine lv_lload_n hx hb dX4_kept_46 rfl (lv_at hl 1 rfl) ?_
          exact e_lret C hend hP h rfl dX4_kept_47
        · have h := k_nf cs3 h
          refine r_tabOut (tgt := 48) hx hb dX4_kept_1 (fun i h1 h2 => by
            have h3 : i = 0 ∨ i = 1 ∨ i = 2 ∨ i = 3 := by omega
            rcases h3 with rfl | rfl | rfl | rfl
            · exact cs0
            · exact cs1
            · exact cs2
            · exact cs3
            ) (by decide) ?_
          refine lv_lload_n hx hb dX4_kept_48 rfl (lv_at hl 1 rfl) ?_
          refine lv_lconst (v := 0) hx hb dX4_kept_49 (by decide) ?_
          refine W.lcmp hx hb dX4_kept_50 ?_
          refine lv_if_eq (tgt := 58) hx hb dX4_kept_51 (by decide) (fun c51 => ?_) (fun c51 => ?_)
          · have h := k_if c51 h
            refine lv_lconst (v := 0) hx hb dX4_kept_58 (by decide) ?_
            exact e_lret C hend hP h rfl dX4_kept_59
          · have h := k_nf c51 h
            refine lv_lconst (v := 1) hx hb dX4_kept_54 (by decide) ?_
            refine lv_goto (tgt := 59) hx hb dX4_kept_55 (by decide) ?_
            exact e_lret C hend hP h rfl dX4_kept_59
def f_X4_set (σ : MM) (a1 : Int32) (a2 : Int32) (a3 : Int64) : Option (Int32 × MM) :=
  if (f_X4_isShelf a1) = true then ob (f_X4_isRow σ a1) (fun b1 => if b1 = true then gd (inb a1 8) (if (f_X4_within a2 0 (((m_rowLength σ) (Int32.toNatClampNeg a1)) - 1)) = true then gd (inb a1 8) (gd (inb ((40 * a1) + a2) 320) (lt (m_rowOf' σ (vp_updL (m_rowOf σ) (Int32.toNatClampNeg ((40 * a1) + a2)) (f_X4_kept ((m_holding σ) (Int32.toNatClampNeg a1)) a3))) (fun σ2 => some (1, σ2)))) else ob2 (f_X4_no σ (-2)) (fun x4 σ3 => some (x4, σ3))) else ob (f_X4_noRow σ a1) (fun x5 => ob2 (f_X4_no σ x5) (fun x7 σ6 => some (x7, σ6)))) else ob2 (f_X4_no σ (-2)) (fun x9 σ8 => some (x9, σ8))
set_option maxHeartbeats 4000000 in
set_option maxRecDepth 100000 in
theorem c_X4_set (l : Launch) (ev : EV) (ad : Nat → Nat) (σ : MM) (a1 : Int32) (a2 : Int32) (a3 : Int64)   (r : Int32) (σ' : MM) (h : f_X4_set σ a1 a2 a3 = some (r, σ')) : Ct l yX4_set prog_6_method_12_code 5 (Option.some Jvm.ClassFile.FieldType.int) (rmk 2 43) ev 13 ad (mw ev ad σ) (mw ev ad σ') [.ref (ad 0), .int a1, .int a2, .long a3] (some (.int r)) := by
  refine Ct.of (by decide +kernel) (Nat.le_of_ble_eq_true rfl) ?_
  intro p e s m args below meth c Qc C hap hP hend ls hl
  have hAA : ∀ j, j < 13 → inA ad 13 (ad j) := fun j hj => ⟨j, hj, rfl⟩
  have hx := C.1
  have hb := C.2.1
  have hl : lv_has ls 5 [(0, .ref (ad 0)), (1, .int a1), (2, .int a2), (3, .long a3)] := hl
  have h := (f_X4_set.eq_1 _ _ _ _ ).symm.trans h
  refine lv_iload_n hx hb dX4_set_0 rfl (lv_at hl 1 rfl) ?_
  refine k_callSi C hP hap hAA (c_X4_isShelf l ev ad a1   _ rfl) Emb.none (apart_0 _) gz_X4_isShelf qML_RX4_73 qSM_yX4_isShelf ⟨(Nat.le_of_ble_eq_true rfl), (Nat.le_of_ble_eq_true rfl)⟩ rfl hl.1 rfl (Nat.le_of_ble_eq_true rfl) dX4_set_1 ⟨Nat.le_refl _, Nat.le_refl _⟩ (fun H locs hP => ?_)
  refine r_ifz_ne (tgt := 14) hx hb dX4_set_4 (by decide) (fun c4 => ?_) (fun c4 => ?_)
  · have h := k_if c4 h
    refine lv_aload_n hx hb dX4_set_14 rfl (lv_at hl 0 rfl) ?_
    refine lv_iload_n hx hb dX4_set_15 rfl (lv_at hl 1 rfl) ?_
    obtain ⟨b1, h1, h⟩ := k_ob h
    refine k_callVi C hP hap hAA (c_X4_isRow l ev ad σ a1   _ h1) Emb.same hap gz_X4_isRow qML_RX4_77 qIM_yX4_isRow qSE_yX4_isRow ⟨(Nat.le_of_ble_eq_true rfl), (Nat.le_of_ble_eq_true rfl)⟩ (q0 := 0) rfl (by decide) rfl rfl rfl rfl hl.1 rfl (Nat.le_of_ble_eq_true rfl) dX4_set_16 ⟨Nat.le_refl _, Nat.le_refl _⟩ (fun H locs hP => ?_)
    refine r_ifz_ne (tgt := 32) hx hb dX4_set_19 (by decide) (fun c19 => ?_) (fun c19 => ?_)
    · have h := k_if c19 h
      refine lv_iload_n hx hb dX4_set_32 rfl (lv_at hl 2 rfl) ?_
      refine lv_iconst (v := 0) hx hb dX4_set_33 (by decide) ?_
      refine lv_aload_n hx hb dX4_set_34 rfl (lv_at hl 0 rfl) ?_
      refine r_get C hP (ci := 4) rfl uin_X4 18 (by decide) 0 (by decide) rfl qFL_RX4_32 rfl rfl dX4_set_35 ?_
      refine lv_iload_n hx hb dX4_set_38 rfl (lv_at hl 1 rfl) ?_
      obtain ⟨hg, h⟩ := k_gd h
      refine r_iald C hP 8 (by decide) rfl hg dX4_set_39 ?_
      refine lv_iconst (v := 1) hx hb dX4_set_40 (by decide) ?_
      refine lv_isub hx hb dX4_set_41 ?_
      refine k_callSi C hP hap hAA (c_X4_within l ev ad a2 0 (((m_rowLength σ) (Int32.toNatClampNeg a1)) - 1)   _ rfl) Emb.none (apart_0 _) gz_X4_within qML_RX4_63 qSM_yX4_within ⟨(Nat.le_of_ble_eq_true rfl), (Nat.le_of_ble_eq_true rfl)⟩ rfl hl.1 rfl (Nat.le_of_ble_eq_true rfl) dX4_set_42 ⟨Nat.le_refl _, Nat.le_refl _⟩ (fun H locs hP => ?_)
      refine r_ifz_ne (tgt := 55) hx hb dX4_set_45 (by decide) (fun c45 => ?_) (fun c45 => ?_)
      · have h := k_if c45 h
        refine lv_aload_n hx hb dX4_set_55 rfl (lv_at hl 0 rfl) ?_
        refine r_get C hP (ci := 4) rfl uin_X4 19 (by decide) 0 (by decide) rfl qFL_RX4_35 rfl rfl dX4_set_56 ?_
        refine lv_bipush (v := 40) hx hb dX4_set_59 (by decide) ?_
        refine lv_iload_n hx hb dX4_set_61 rfl (lv_at hl 1 rfl) ?_
        refine lv_imul hx hb dX4_set_62 ?_
        refine lv_iload_n hx hb dX4_set_63 rfl (lv_at hl 2 rfl) ?_
        refine lv_iadd hx hb dX4_set_64 ?_
        refine lv_aload_n hx hb dX4_set_65 rfl (lv_at hl 0 rfl) ?_
        refine r_get C hP (ci := 4) rfl uin_X4 17 (by decide) 0 (by decide) rfl qFL_RX4_29 rfl rfl dX4_set_66 ?_
        refine lv_iload_n hx hb dX4_set_69 rfl (lv_at hl 1 rfl) ?_
        obtain ⟨hg, h⟩ := k_gd h
        refine r_iald C hP 7 (by decide) rfl hg dX4_set_70 ?_
        refine lv_lload_n hx hb dX4_set_71 rfl (lv_at hl 3 rfl) ?_
        refine k_callSl C hP hap hAA (c_X4_kept l ev ad ((m_holding σ) (Int32.toNatClampNeg a1)) a3   _ rfl) Emb.none (apart_0 _) gz_X4_kept qML_RX4_83 qSM_yX4_kept ⟨(Nat.le_of_ble_eq_true rfl), (Nat.le_of_ble_eq_true rfl)⟩ rfl hl.1 rfl (Nat.le_of_ble_eq_true rfl) dX4_set_72 ⟨Nat.le_refl _, Nat.le_refl _⟩ (fun H locs hP => ?_)
        obtain ⟨hg, h⟩ := k_gd h
        obtain ⟨σ2, eσ2, h⟩ := k_ltx h
        refine st_M_rowOf C hP hap hAA eσ2 hg dX4_set_75 (fun H locs hP => ?_)
        refine lv_iconst (v := 1) hx hb dX4_set_76 (by decide) ?_
        exact e_iret C hend hP (k_some2 h).1 (congrArg (mw ev ad) (k_some2 h).2) dX4_set_77
      · have h := k_nf c45 h
        refine lv_aload_n hx hb dX4_set_48 rfl (lv_at hl 0 rfl) ?_
        refine lv_bipush (v := (-2)) hx hb dX4_set_49 (by decide) ?_
        obtain ⟨x4, σ3, h1, h⟩ := k_ob2 h
        refine k_callVi C hP hap hAA (c_X4_no l ev ad σ (-2)   _ _ h1) Emb.same hap gz_X4_no qML_RX4_56 qIM_yX4_no qSE_yX4_no ⟨(Nat.le_of_ble_eq_true rfl), (Nat.le_of_ble_eq_true rfl)⟩ (q0 := 0) rfl (by decide) rfl rfl rfl rfl hl.1 rfl (Nat.le_of_ble_eq_true rfl) dX4_set_51 ⟨Nat.le_refl _, Nat.le_refl _⟩ (fun H locs hP => ?_)
        exact e_iret C hend hP (k_some2 h).1 (congrArg (mw ev ad) (k_some2 h).2) dX4_set_54
    · have h := k_nf c19 h
      refine lv_aload_n hx hb dX4_set_22 rfl (lv_at hl 0 rfl) ?_
      refine lv_aload_n hx hb dX4_set_23 rfl (lv_at hl 0 rfl) ?_
      refine lv_iload_n hx hb dX4_set_24 rfl (lv_at hl 1 rfl) ?_
      obtain ⟨x5, h1, h⟩ := k_ob h
      refine k_callVi C hP hap hAA (c_X4_noRow l ev ad σ a1   _ h1) Emb.same hap gz_X4_noRow qML_RX4_80 qIM_yX4_noRow qSE_yX4_noRow ⟨(Nat.le_of_ble_eq_true rfl), (Nat.le_of_ble_eq_true rfl)⟩ (q0 := 0) rfl (by decide) rfl rfl rfl rfl hl.1 rfl (Nat.le_of_ble_eq_true rfl) dX4_set_25 ⟨Nat.le_refl _, Nat.le_refl _⟩ (fun H locs hP => ?_)
      obtain ⟨x7, σ6, h1, h⟩ := k_ob2 h
      refine k_callVi C hP hap hAA (c_X4_no l ev ad σ x5   _ _ h1) Emb.same hap gz_X4_no qML_RX4_56 qIM_yX4_no qSE_yX4_no ⟨(Nat.le_of_ble_eq_true rfl), (Nat.le_of_ble_eq_true rfl)⟩ (q0 := 0) rfl (by decide) rfl rfl rfl rfl hl.1 rfl (Nat.le_of_ble_eq_true rfl) dX4_set_28 ⟨Nat.le_refl _, Nat.le_refl _⟩ (fun H locs hP => ?_)
      exact e_iret C hend hP (k_some2 h).1 (congrArg (mw ev ad) (k_some2 h).2) dX4_set_31
  · have h := k_nf c4 h
    refine lv_aload_n hx hb dX4_set_7 rfl (lv_at hl 0 rfl) ?_
    refine lv_bipush (v := (-2)) hx hb dX4_set_8 (by decide) ?_
    obtain ⟨x9, σ8, h1, h⟩ := k_ob2 h
    refine k_callVi C hP hap hAA (c_X4_no l ev ad σ (-2)   _ _ h1) Emb.same hap gz_X4_no qML_RX4_56 qIM_yX4_no qSE_yX4_no ⟨(Nat.le_of_ble_eq_true rfl), (Nat.le_of_ble_eq_true rfl)⟩ (q0 := 0) rfl (by decide) rfl rfl rfl rfl hl.1 rfl (Nat.le_of_ble_eq_true rfl) dX4_set_10 ⟨Nat.le_refl _, Nat.le_refl _⟩ (fun H locs hP => ?_)
    exact e_iret C hend hP (k_some2 h).1 (congrArg (mw ev ad) (k_some2 h).2) dX4_set_13
