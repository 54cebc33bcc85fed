/-! functions read off, and their contracts: by program (wip/whole/gen2.py) -/
def f_X4_isCalm (σ : MM) (a1 : Int32) : Option (Bool × MM) :=
  gd (inb a1 40) (if ((m_hedge σ) (Int32.toNatClampNeg a1)) = 0 then gd (inb a1 40) (lt (m_hedge' σ (upd (m_hedge σ) (Int32.toNatClampNeg a1) (vp_nar .boolean 1))) (fun σ1 => ob (f_X4_thirds σ1) (fun x2 => if x2 = 0 then gd (inb a1 40) (lt (m_hedge' σ1 (upd (m_hedge σ1) (Int32.toNatClampNeg a1) (vp_nar .boolean 0))) (fun σ4 => some (true, σ4))) else gd (inb a1 40) (lt (m_hedge' σ1 (upd (m_hedge σ1) (Int32.toNatClampNeg a1) (vp_nar .boolean 0))) (fun σ3 => some (false, σ3)))))) else some (false, σ))
set_option maxHeartbeats 4000000 in
set_option maxRecDepth 100000 in
theorem c_X4_isCalm (l : Launch) (ev : EV) (ad : Nat → Nat) (σ : MM) (a1 : Int32)   (r : Bool) (σ' : MM) (h : f_X4_isCalm σ a1 = some (r, σ')) : Ct l yX4_isCalm prog_6_method_72_code 3 (Option.some Jvm.ClassFile.FieldType.boolean) (rmk 4 89) ev 13 ad (mw ev ad σ) (mw ev ad σ') [.ref (ad 0), .int a1] (some (.int (bi r))) := by
  refine Ct.of (by decide +kernel) (Nat.le_of_ble_eq_true rfl) ?_
  intro p e s m args below meth c Qc C hap hP hend ls hl
  have hAA : ∀ j, j < 13 → inA ad 13 (ad j) := fun j hj => ⟨j, hj, rfl⟩
  have hx := C.1
  have hb := C.2.1
  have hl : lv_has ls 3 [(0, .ref (ad 0)), (1, .int a1)] := hl
  have h := (f_X4_isCalm.eq_1 _ _ ).symm.trans h
  refine lv_aload_n hx hb dX4_isCalm_0 rfl (lv_at hl 0 rfl) ?_
  refine r_get C hP (ci := 4) rfl uin_X4 2 (by decide) 0 (by decide) rfl qFL_RX4_7 rfl rfl dX4_isCalm_1 ?_
  refine lv_iload_n hx hb dX4_isCalm_4 rfl (lv_at hl 1 rfl) ?_
  obtain ⟨hg, h⟩ := k_gd h
  refine r_zald C hP 1 (by decide) rfl hg dX4_isCalm_5 ?_
  refine lv_if_eq (tgt := 11) hx hb dX4_isCalm_6 (by decide) (fun c6 => ?_) (fun c6 => ?_)
  · have h := k_if c6 h
    refine lv_aload_n hx hb dX4_isCalm_11 rfl (lv_at hl 0 rfl) ?_
    refine r_get C hP (ci := 4) rfl uin_X4 2 (by decide) 0 (by decide) rfl qFL_RX4_7 rfl rfl dX4_isCalm_12 ?_
    refine lv_iload_n hx hb dX4_isCalm_15 rfl (lv_at hl 1 rfl) ?_
    refine lv_iconst (v := 1) hx hb dX4_isCalm_16 (by decide) ?_
    obtain ⟨hg, h⟩ := k_gd h
    obtain ⟨σ1, eσ1, h⟩ := k_ltx h
    refine st_M_hedge C hP hap hAA eσ1 hg dX4_isCalm_17 (fun H locs hP => ?_)
    refine lv_aload_n hx hb dX4_isCalm_18 rfl (lv_at hl 0 rfl) ?_
    obtain ⟨x2, h1, h⟩ := k_ob h
    refine k_callVi C hP hap hAA (c_X4_thirds l ev ad σ1   _ h1) Emb.same hap gz_X4_thirds qML_RX4_246 qIM_yX4_thirds qSE_yX4_thirds ⟨(Nat.le_of_ble_eq_true rfl), (Nat.le_of_ble_eq_true rfl)⟩ (q0 := 0) rfl (by decide) rfl rfl rfl rfl hl.1 rfl (Nat.le_of_ble_eq_true rfl) dX4_isCalm_19 ⟨Nat.le_refl _, Nat.le_refl _⟩ (fun H locs hP => ?_)
    refine lv_if_ne (tgt := 29) hx hb dX4_isCalm_22 (by decide) (fun c22 => ?_) (fun c22 => ?_)
    · have h := k_nf c22 h
      refine lv_iconst (v := 0) hx hb dX4_isCalm_29 (by decide) ?_
      refine lv_istore_n (lv' := [(2, .int (bi false)), (0, .ref (ad 0)), (1, .int a1)]) hx hb dX4_isCalm_30 rfl hl (by decide) rfl (fun ls hl => ?_)
      refine lv_aload_n hx hb dX4_isCalm_31 rfl (lv_at hl 1 rfl) ?_
      refine r_get C hP (ci := 4) rfl uin_X4 2 (by decide) 0 (by decide) rfl qFL_RX4_7 rfl rfl dX4_isCalm_32 ?_
      refine lv_iload_n hx hb dX4_isCalm_35 rfl (lv_at hl 2 rfl) ?_
      refine lv_iconst (v := 0) hx hb dX4_isCalm_36 (by decide) ?_
      obtain ⟨hg, h⟩ := k_gd h
      obtain ⟨σ3, eσ3, h⟩ := k_ltx h
      refine st_M_hedge C hP hap hAA eσ3 hg dX4_isCalm_37 (fun H locs hP => ?_)
      refine lv_iload_n hx hb dX4_isCalm_38 rfl (lv_at hl 0 rfl) ?_
      exact e_zret C hend hP (k_some2 h).1 (congrArg (mw ev ad) (k_some2 h).2) dX4_isCalm_39 rfl
    · have h := k_if c22 h
      refine lv_iconst (v := 1) hx hb dX4_isCalm_25 (by decide) ?_
      refine lv_goto (tgt := 30) hx hb dX4_isCalm_26 (by decide) ?_
      refine lv_istore_n (lv' := [(2, .int (bi true)), (0, .ref (ad 0)), (1, .int a1)]) hx hb dX4_isCalm_30 rfl hl (by decide) rfl (fun ls hl => ?_)
      refine lv_aload_n hx hb dX4_isCalm_31 rfl (lv_at hl 1 rfl) ?_
      refine r_get C hP (ci := 4) rfl uin_X4 2 (by decide) 0 (by decide) rfl qFL_RX4_7 rfl rfl dX4_isCalm_32 ?_
      refine lv_iload_n hx hb dX4_isCalm_35 rfl (lv_at hl 2 rfl) ?_
      refine lv_iconst (v := 0) hx hb dX4_isCalm_36 (by decide) ?_
      obtain ⟨hg, h⟩ := k_gd h
      obtain ⟨σ4, eσ4, h⟩ := k_ltx h
      refine st_M_hedge C hP hap hAA eσ4 hg dX4_isCalm_37 (fun H locs hP => ?_)
      refine lv_iload_n hx hb dX4_isCalm_38 rfl (lv_at hl 0 rfl) ?_
      exact e_zret C hend hP (k_some2 h).1 (congrArg (mw ev ad) (k_some2 h).2) dX4_isCalm_39 rfl
  · have h := k_nf c6 h
    refine lv_iconst (v := 0) hx hb dX4_isCalm_9 (by decide) ?_
    exact e_zret C hend hP (k_some2 h).1 (congrArg (mw ev ad) (k_some2 h).2) dX4_isCalm_10 rfl
def f_X4_careful_L2_b   (rec2 : Int32 → MM → Option (Int32 × MM)) (x1 : Int32) (σ2 : MM) : Option (Int32 × MM) :=
  if (f_X4_edges σ2) ≤ x1 then some ((-1), σ2) else ob2 (f_X4_isCalm σ2 x1) (fun b4 σ3 => if b4 = true then some (x1, σ3) else lt (x1 + 1) (fun x5 => rec2 x5 σ3))
def f_X4_careful_L2   (x1 : Int32) (σ2 : MM) : Option (Int32 × MM) :=
  lp (fun _ _ => none) (f_X4_careful_L2_b  ) FU x1 σ2
def f_X4_careful (σ : MM) : Option (Int32 × MM) :=
  f_X4_careful_L2 0 σ
set_option maxHeartbeats 4000000 in
set_option maxRecDepth 100000 in
theorem c_X4_careful (l : Launch) (ev : EV) (ad : Nat → Nat) (σ : MM)   (r : Int32) (σ' : MM) (h : f_X4_careful σ = some (r, σ')) : Ct l yX4_careful prog_6_method_73_code 2 (Option.some Jvm.ClassFile.FieldType.int) (rmk 5 111) ev 13 ad (mw ev ad σ) (mw ev ad σ') [.ref (ad 0)] (some (.int r)) := by
  refine Ct.of (by decide +kernel) (Nat.le_of_ble_eq_true rfl) ?_
  intro p e s m args below meth c Qc C hap hP hend ls hl
  have hAA : ∀ j, j < 13 → inA ad 13 (ad j) := fun j hj => ⟨j, hj, rfl⟩
  have hx := C.1
  have hb := C.2.1
  have hl : lv_has ls 2 [(0, .ref (ad 0))] := hl
  have h := (f_X4_careful.eq_1 _ ).symm.trans h
  refine lv_iconst (v := 0) hx hb dX4_careful_0 (by decide) ?_
  refine lv_istore_n (lv' := [(1, .int 0), (0, .ref (ad 0))]) hx hb dX4_careful_1 rfl hl (by decide) rfl (fun ls hl => ?_)
  have hL2 : ∀ (n : Nat) (x1 : Int32) (σ2 : MM) (H : Heap) (locs : List Loc) (ls : Array Slot), lp (fun _ _ => none) (f_X4_careful_L2_b  ) n x1 σ2 = some (r, σ') → PS ev 13 ad (mw ev ad σ2) (inA ad 13) s H locs → lv_has ls 2 [(0, .ref (ad 0)), (1, .int x1)] → WW ev p l e (rmk 5 111) s m args below meth c Qc ad 13 H locs 2 ls [] := by
    intro n
    induction n with
    | zero =>
      intro x1 σ2 H locs ls h; exact k_none h
    | succ n ih =>
      intro x1 σ2 H locs ls h hP hl
      have h : f_X4_careful_L2_b   (lp (fun _ _ => none) (f_X4_careful_L2_b  ) n) x1 σ2 = some (r, σ') := h
      have h := (f_X4_careful_L2_b.eq_1 _ _ _ ).symm.trans h
      refine lv_iload_n hx hb dX4_careful_2 rfl (lv_at hl 1 rfl) ?_
      refine lv_aload_n hx hb dX4_careful_3 rfl (lv_at hl 0 rfl) ?_
      refine k_callVi C hP hap hAA (c_X4_edges l ev ad σ2   _ rfl) Emb.same hap gz_X4_edges qML_RX4_107 qIM_yX4_edges qSE_yX4_edges ⟨(Nat.le_of_ble_eq_true rfl), (Nat.le_of_ble_eq_true rfl)⟩ (q0 := 0) rfl (by decide) rfl rfl rfl rfl hl.1 rfl (Nat.le_of_ble_eq_true rfl) dX4_careful_4 ⟨Nat.le_refl _, Nat.le_refl _⟩ (fun H locs hP => ?_)
      refine lv_icmp_ge (tgt := 26) hx hb dX4_careful_7 (by decide) (fun c7 => ?_) (fun c7 => ?_)
      · have h := k_if c7 h
        refine lv_iconst (v := (-1)) hx hb dX4_careful_26 (by decide) ?_
        exact e_iret C hend hP (k_some2 h).1 (congrArg (mw ev ad) (k_some2 h).2) dX4_careful_27
      · have h := k_nf c7 h
        refine lv_aload_n hx hb dX4_careful_10 rfl (lv_at hl 0 rfl) ?_
        refine lv_iload_n hx hb dX4_careful_11 rfl (lv_at hl 1 rfl) ?_
        obtain ⟨b4, σ3, h1, h⟩ := k_ob2 h
        refine k_callVi C hP hap hAA (c_X4_isCalm l ev ad σ2 x1   _ _ h1) Emb.same hap gz_X4_isCalm qML_RX4_249 qIM_yX4_isCalm qSE_yX4_isCalm ⟨(Nat.le_of_ble_eq_true rfl), (Nat.le_of_ble_eq_true rfl)⟩ (q0 := 0) rfl (by decide) rfl rfl rfl rfl hl.1 rfl (Nat.le_of_ble_eq_true rfl) dX4_careful_12 ⟨Nat.le_refl _, Nat.le_refl _⟩ (fun H locs hP => ?_)
        refine r_ifz_eq (tgt := 20) hx hb dX4_careful_15 (by decide) (fun c15 => ?_) (fun c15 => ?_)
        · have h := k_nf c15 h
          obtain ⟨x5, ex5, h⟩ := k_ltx h
          refine lv_iinc (v := x5) (lv' := [(1, .int x5), (0, .ref (ad 0))]) hx hb dX4_careful_20 hl (k := 1) rfl (by rw [ex5]; rfl) (by decide) rfl (fun ls hl => ?_)
          refine lv_goto (tgt := 2) hx hb dX4_careful_23 (by decide) ?_
          exact ih _ _ _ _ _ h hP (lv_sub hl [1, 0] rfl)
        · have h := k_if c15 h
          refine lv_iload_n hx hb dX4_careful_18 rfl (lv_at hl 1 rfl) ?_
          exact e_iret C hend hP (k_some2 h).1 (congrArg (mw ev ad) (k_some2 h).2) dX4_careful_19
  exact hL2 FU _ _ _ _ _ h hP (lv_sub hl [1, 0] rfl)
def f_X4_draw (σ : MM) (a1 : Int32) : Option (Int32 × MM) :=
  lt (m_seed' σ (((m_seed σ) * 1103515245) + 12345)) (fun σ1 => gd (nz a1) (some ((irem (iushr (m_seed σ1) 16) a1), σ1)))
set_option maxHeartbeats 4000000 in
set_option maxRecDepth 100000 in
theorem c_X4_draw (l : Launch) (ev : EV) (ad : Nat → Nat) (σ : MM) (a1 : Int32)   (r : Int32) (σ' : MM) (h : f_X4_draw σ a1 = some (r, σ')) : Ct l yX4_draw prog_6_method_70_code 2 (Option.some Jvm.ClassFile.FieldType.int) (rmk 0 0) ev 13 ad (mw ev ad σ) (mw ev ad σ') [.ref (ad 0), .int a1] (some (.int r)) := by
  refine Ct.of (by decide +kernel) (Nat.le_of_ble_eq_true rfl) ?_
  intro p e s m args below meth c Qc C hap hP hend ls hl
  have hAA : ∀ j, j < 13 → inA ad 13 (ad j) := fun j hj => ⟨j, hj, rfl⟩
  have hx := C.1
  have hb := C.2.1
  have hl : lv_has ls 2 [(0, .ref (ad 0)), (1, .int a1)] := hl
  have h := (f_X4_draw.eq_1 _ _ ).symm.trans h
  refine lv_aload_n hx hb dX4_draw_0 rfl (lv_at hl 0 rfl) ?_
  refine lv_aload_n hx hb dX4_draw_1 rfl (lv_at hl 0 rfl) ?_
  refine r_get C hP (ci := 4) rfl uin_X4 10 (by decide) 0 (by decide) rfl qFL_RX4_48 rfl rfl dX4_draw_2 ?_
  refine lv_ldc (v := 1103515245) hx hb C.2.2.2.2.2.1 (C.2.2.2.2.1 _ qCT_RX4_245) dX4_draw_5 ?_
  refine lv_imul hx hb dX4_draw_7 ?_
  refine lv_sipush (v := 12345) hx hb dX4_draw_8 (by decide) ?_
  refine lv_iadd hx hb dX4_draw_11 ?_
  obtain ⟨σ1, eσ1, h⟩ := k_ltx h
  refine pt_M_X4_seed C hP hap hAA eσ1 qFL_RX4_48 dX4_draw_12 (fun H locs hP => ?_)
  refine lv_aload_n hx hb dX4_draw_15 rfl (lv_at hl 0 rfl) ?_
  refine r_get C hP (ci := 4) rfl uin_X4 10 (by decide) 0 (by decide) rfl qFL_RX4_48 rfl rfl dX4_draw_16 ?_
  refine lv_bipush (v := 16) hx hb dX4_draw_19 (by decide) ?_
  refine r_iushr hx hb dX4_draw_21 ?_
  refine lv_iload_n hx hb dX4_draw_22 rfl (lv_at hl 1 rfl) ?_
  obtain ⟨hg, h⟩ := k_gd h
  refine r_irem hx hb dX4_draw_23 (nz_ne hg) ?_
  exact e_iret C hend hP (k_some2 h).1 (congrArg (mw ev ad) (k_some2 h).2) dX4_draw_24
def f_X4_chosen_b82  (x4 : Int32) (x5 : Int32) (σ6 : MM) : Option (Int32 × MM) :=
  ob (f_X4_digs σ6 x5 x4) (fun x7 => if x7 = (-1) then ob (f_X4_ith σ6 0) (fun x8 => some (x8, σ6)) else some (x7, σ6))
def f_X4_chosen (σ : MM) (a1 : Int32) : Option (Int32 × MM) :=
  ob (f_X4_howMany σ) (fun x1 => if x1 = 0 then some ((-1), σ) else gd (inb a1 6) (if ((m_kind σ) (Int32.toNatClampNeg a1)) = 1 then ob (f_X4_shuts σ) (fun x2 => if x2 = (-1) then ob (f_X4_ith σ 0) (fun x3 => some (x3, σ)) else some (x2, σ)) else if ((m_kind σ) (Int32.toNatClampNeg a1)) = 2 then gd (inb a1 6) (gd (inb a1 6) (if ((m_kind σ) (Int32.toNatClampNeg a1)) = 4 then f_X4_chosen_b82 1 (((m_own σ) (Int32.toNatClampNeg a1))) σ else f_X4_chosen_b82 0 (((m_own σ) (Int32.toNatClampNeg a1))) σ)) else if ((m_kind σ) (Int32.toNatClampNeg a1)) = 3 then ob (f_X4_shuts σ) (fun x9 => if x9 = (-1) then ob2 (f_X4_careful σ) (fun x12 σ11 => if x12 = (-1) then ob (f_X4_ith σ11 0) (fun x13 => some (x13, σ11)) else some (x12, σ11)) else if x9 = (-1) then ob (f_X4_ith σ 0) (fun x10 => some (x10, σ)) else some (x9, σ)) else if ((m_kind σ) (Int32.toNatClampNeg a1)) = 4 then gd (inb a1 6) (gd (inb a1 6) (if ((m_kind σ) (Int32.toNatClampNeg a1)) = 4 then f_X4_chosen_b82 1 (((m_own σ) (Int32.toNatClampNeg a1))) σ else f_X4_chosen_b82 0 (((m_own σ) (Int32.toNatClampNeg a1))) σ)) else if ((m_kind σ) (Int32.toNatClampNeg a1)) = 5 then ob2 (f_X4_draw σ x1) (fun x15 σ14 => ob (f_X4_ith σ14 x15) (fun x16 => some (x16, σ14))) else ob (f_X4_ith σ 0) (fun x17 => some (x17, σ))))
set_option maxHeartbeats 4000000 in
set_option maxRecDepth 100000 in
theorem c_X4_chosen (l : Launch) (ev : EV) (ad : Nat → Nat) (σ : MM) (a1 : Int32)   (r : Int32) (σ' : MM) (h : f_X4_chosen σ a1 = some (r, σ')) : Ct l yX4_chosen prog_6_method_75_code 4 (Option.some Jvm.ClassFile.FieldType.int) (rmk 6 134) ev 13 ad (mw ev ad σ) (mw ev ad σ') [.ref (ad 0), .int a1] (some (.int r)) := by
  refine Ct.of (by decide +kernel) (Nat.le_of_ble_eq_true rfl) ?_
  intro p e s m args below meth c Qc C hap hP hend ls hl
  have hAA : ∀ j, j < 13 → inA ad 13 (ad j) := fun j hj => ⟨j, hj, rfl⟩
  have hx := C.1
  have hb := C.2.1
  have hl : lv_has ls 4 [(0, .ref (ad 0)), (1, .int a1)] := hl
  have h := (f_X4_chosen.eq_1 _ _ ).symm.trans h
  have hB82 : ∀ (x4 : Int32) (x5 : Int32) (σ6 : MM) (H : Heap) (locs : List Loc) (ls : Array Slot), f_X4_chosen_b82  x4 x5 σ6 = some (r, σ') → PS ev 13 ad (mw ev ad σ6) (inA ad 13) s H locs → lv_has ls 4 [(0, .ref (ad 0))] → WW ev p l e (rmk 6 134) s m args below meth c Qc ad 13 H locs 82 ls [.int x4, .int x5, .ref (ad 0)] := by
    intro x4 x5 σ6 H locs ls h hP hl
    have h := (f_X4_chosen_b82.eq_1 _ _ _ ).symm.trans h
    obtain ⟨x7, h1, h⟩ := k_ob h
    refine k_callVi C hP hap hAA (c_X4_digs l ev ad σ6 x5 x4   _ h1) Emb.same hap gz_X4_digs qML_RX4_255 qIM_yX4_digs qSE_yX4_digs ⟨(Nat.le_of_ble_eq_true rfl), (Nat.le_of_ble_eq_true rfl)⟩ (q0 := 0) rfl (by decide) rfl rfl rfl rfl hl.1 rfl (Nat.le_of_ble_eq_true rfl) dX4_chosen_82 ⟨Nat.le_refl _, Nat.le_refl _⟩ (fun H locs hP => ?_)
    refine lv_istore_n (lv' := [(2, .int x7), (0, .ref (ad 0))]) hx hb dX4_chosen_85 rfl hl (by decide) rfl (fun ls hl => ?_)
    refine lv_goto (tgt := 117) hx hb dX4_chosen_86 (by decide) ?_
    refine lv_iload_n hx hb dX4_chosen_117 rfl (lv_at hl 0 rfl) ?_
    refine lv_iconst (v := (-1)) hx hb dX4_chosen_118 (by decide) ?_
    refine lv_icmp_ne (tgt := 130) hx hb dX4_chosen_119 (by decide) (fun c119 => ?_) (fun c119 => ?_)
    · have h := k_nf c119 h
      refine lv_iload_n hx hb dX4_chosen_130 rfl (lv_at hl 0 rfl) ?_
      exact e_iret C hend hP (k_some2 h).1 (congrArg (mw ev ad) (k_some2 h).2) dX4_chosen_131
    · have h := k_if c119 h
      refine lv_aload_n hx hb dX4_chosen_122 rfl (lv_at hl 1 rfl) ?_
      refine lv_iconst (v := 0) hx hb dX4_chosen_123 (by decide) ?_
      obtain ⟨x8, h1, h⟩ := k_ob h
      refine k_callVi C hP hap hAA (c_X4_ith l ev ad σ6 0   _ h1) Emb.same hap gz_X4_ith qML_RX4_208 qIM_yX4_ith qSE_yX4_ith ⟨(Nat.le_of_ble_eq_true rfl), (Nat.le_of_ble_eq_true rfl)⟩ (q0 := 0) rfl (by decide) rfl rfl rfl rfl hl.1 rfl (Nat.le_of_ble_eq_true rfl) dX4_chosen_124 ⟨Nat.le_refl _, Nat.le_refl _⟩ (fun H locs hP => ?_)
      refine lv_goto (tgt := 131) hx hb dX4_chosen_127 (by decide) ?_
      exact e_iret C hend hP (k_some2 h).1 (congrArg (mw ev ad) (k_some2 h).2) dX4_chosen_131
  refine lv_iconst (v := (-1)) hx hb dX4_chosen_0 (by decide) ?_
  refine lv_istore_n (lv' := [(2, .int (-1)), (0, .ref (ad 0)), (1, .int a1)]) hx hb dX4_chosen_1 rfl hl (by decide) rfl (fun ls hl => ?_)
  refine lv_aload_n hx hb dX4_chosen_2 rfl (lv_at hl 1 rfl) ?_
  obtain ⟨x1, h1, h⟩ := k_ob h
  refine k_callVi C hP hap hAA (c_X4_howMany l ev ad σ   _ h1) Emb.same hap gz_X4_howMany qML_RX4_94 qIM_yX4_howMany qSE_yX4_howMany ⟨(Nat.le_of_ble_eq_true rfl), (Nat.le_of_ble_eq_true rfl)⟩ (q0 := 0) rfl (by decide) rfl rfl rfl rfl hl.1 rfl (Nat.le_of_ble_eq_true rfl) dX4_chosen_3 ⟨Nat.le_refl _, Nat.le_refl _⟩ (fun H locs hP => ?_)
  refine lv_istore_n (lv' := [(3, .int x1), (2, .int (-1)), (0, .ref (ad 0)), (1, .int a1)]) hx hb dX4_chosen_6 rfl hl (by decide) rfl (fun ls hl => ?_)
  refine lv_iload_n hx hb dX4_chosen_7 rfl (lv_at hl 0 rfl) ?_
  refine lv_if_ne (tgt := 13) hx hb dX4_chosen_8 (by decide) (fun c8 => ?_) (fun c8 => ?_)
  · have h := k_nf c8 h
    refine lv_aload_n hx hb dX4_chosen_13 rfl (lv_at hl 2 rfl) ?_
    refine r_get C hP (ci := 4) rfl uin_X4 8 (by decide) 0 (by decide) rfl qFL_RX4_20 rfl rfl dX4_chosen_14 ?_
    refine lv_iload_n hx hb dX4_chosen_17 rfl (lv_at hl 3 rfl) ?_
    obtain ⟨hg, h⟩ := k_gd h
    refine r_iald C hP 4 (by decide) rfl hg dX4_chosen_18 ?_
    by_cases cs1 : ((m_kind σ) (Int32.toNatClampNeg a1)) = 1
    · have h := k_if cs1 h
      refine r_tabIn (tgt := 52) (off := 33) (i := 1) hx hb dX4_chosen_19 cs1 (by decide) (by decide) (by decide) (by decide) ?_
      refine lv_aload_n hx hb dX4_chosen_52 rfl (lv_at hl 2 rfl) ?_
      obtain ⟨x2, h1, h⟩ := k_ob h
      refine k_callVi C hP hap hAA (c_X4_shuts l ev ad σ   _ h1) Emb.same hap gz_X4_shuts qML_RX4_252 qIM_yX4_shuts qSE_yX4_shuts ⟨(Nat.le_of_ble_eq_true rfl), (Nat.le_of_ble_eq_true rfl)⟩ (q0 := 0) rfl (by decide) rfl rfl rfl rfl hl.1 rfl (Nat.le_of_ble_eq_true rfl) dX4_chosen_53 ⟨Nat.le_refl _, Nat.le_refl _⟩ (fun H locs hP => ?_)
      refine lv_istore_n (lv' := [(2, .int x2), (3, .int x1), (0, .ref (ad 0)), (1, .int a1)]) hx hb dX4_chosen_56 rfl hl (by decide) rfl (fun ls hl => ?_)
      refine lv_goto (tgt := 117) hx hb dX4_chosen_57 (by decide) ?_
      refine lv_iload_n hx hb dX4_chosen_117 rfl (lv_at hl 0 rfl) ?_
      refine lv_iconst (v := (-1)) hx hb dX4_chosen_118 (by decide) ?_
      refine lv_icmp_ne (tgt := 130) hx hb dX4_chosen_119 (by decide) (fun c119 => ?_) (fun c119 => ?_)
      · have h := k_nf c119 h
        refine lv_iload_n hx hb dX4_chosen_130 rfl (lv_at hl 0 rfl) ?_
        exact e_iret C hend hP (k_some2 h).1 (congrArg (mw ev ad) (k_some2 h).2) dX4_chosen_131
      · have h := k_if c119 h
        refine lv_aload_n hx hb dX4_chosen_122 rfl (lv_at hl 2 rfl) ?_
        refine lv_iconst (v := 0) hx hb dX4_chosen_123 (by decide) ?_
        obtain ⟨x3, h1, h⟩ := k_ob h
        refine k_callVi C hP hap hAA (c_X4_ith l ev ad σ 0   _ h1) Emb.same hap gz_X4_ith qML_RX4_208 qIM_yX4_ith qSE_yX4_ith ⟨(Nat.le_of_ble_eq_true rfl), (Nat.le_of_ble_eq_true rfl)⟩ (q0 := 0) rfl (by decide) rfl rfl rfl rfl hl.1 rfl (Nat.le_of_ble_eq_true rfl) dX4_chosen_124 ⟨Nat.le_refl _, Nat.le_refl _⟩ (fun H locs hP => ?_)
        refine lv_goto (tgt := 131) hx hb dX4_chosen_127 (by decide) ?_
        exact e_iret C hend hP (k_some2 h).1 (congrArg (mw ev ad) (k_some2 h).2) dX4_chosen_131
    · have h := k_nf cs1 h
      by_cases cs2 : ((m_kind σ) (Int32.toNatClampNeg a1)) = 2
      · have h := k_if cs2 h
        refine r_tabIn (tgt := 60) (off := 41) (i := 2) hx hb dX4_chosen_19 cs2 (by decide) (by decide) (by decide) (by decide) ?_
        refine lv_aload_n hx hb dX4_chosen_60 rfl (lv_at hl 2 rfl) ?_
        refine lv_aload_n hx hb dX4_chosen_61 rfl (lv_at hl 2 rfl) ?_
        refine r_get C hP (ci := 4) rfl uin_X4 9 (by decide) 0 (by decide) rfl qFL_RX4_23 rfl rfl dX4_chosen_62 ?_
        refine lv_iload_n hx hb dX4_chosen_65 rfl (lv_at hl 3 rfl) ?_
        obtain ⟨hg, h⟩ := k_gd h
        refine r_iald C hP 5 (by decide) rfl hg dX4_chosen_66 ?_
        refine lv_aload_n hx hb dX4_chosen_67 rfl (lv_at hl 2 rfl) ?_
        refine r_get C hP (ci := 4) rfl uin_X4 8 (by decide) 0 (by decide) rfl qFL_RX4_20 rfl rfl dX4_chosen_68 ?_
        refine lv_iload_n hx hb dX4_chosen_71 rfl (lv_at hl 3 rfl) ?_
        obtain ⟨hg, h⟩ := k_gd h
        refine r_iald C hP 4 (by decide) rfl hg dX4_chosen_72 ?_
        refine lv_iconst (v := 4) hx hb dX4_chosen_73 (by decide) ?_
        refine lv_icmp_ne (tgt := 81) hx hb dX4_chosen_74 (by decide) (fun c74 => ?_) (fun c74 => ?_)
        · have h := k_nf c74 h
          refine lv_iconst (v := 0) hx hb dX4_chosen_81 (by decide) ?_
          exact hB82 _ _ _ _ _ _ h hP (lv_sub hl [2] rfl)
        · have h := k_if c74 h
          refine lv_iconst (v := 1) hx hb dX4_chosen_77 (by decide) ?_
          refine lv_goto (tgt := 82) hx hb dX4_chosen_78 (by decide) ?_
          exact hB82 _ _ _ _ _ _ h hP (lv_sub hl [2] rfl)
      · have h := k_nf cs2 h
        by_cases cs3 : ((m_kind σ) (Int32.toNatClampNeg a1)) = 3
        · have h := k_if cs3 h
          refine r_tabIn (tgt := 89) (off := 70) (i := 3) hx hb dX4_chosen_19 cs3 (by decide) (by decide) (by decide) (by decide) ?_
          refine lv_aload_n hx hb dX4_chosen_89 rfl (lv_at hl 2 rfl) ?_
          obtain ⟨x9, h1, h⟩ := k_ob h
          refine k_callVi C hP hap hAA (c_X4_shuts l ev ad σ   _ h1) Emb.same hap gz_X4_shuts qML_RX4_252 qIM_yX4_shuts qSE_yX4_shuts ⟨(Nat.le_of_ble_eq_true rfl), (Nat.le_of_ble_eq_true rfl)⟩ (q0 := 0) rfl (by decide) rfl rfl rfl rfl hl.1 rfl (Nat.le_of_ble_eq_true rfl) dX4_chosen_90 ⟨Nat.le_refl _, Nat.le_refl _⟩ (fun H locs hP => ?_)
          refine lv_istore_n (lv' := [(2, .int x9), (3, .int x1), (0, .ref (ad 0)), (1, .int a1)]) hx hb dX4_chosen_93 rfl hl (by decide) rfl (fun ls hl => ?_)
          refine lv_iload_n hx hb dX4_chosen_94 rfl (lv_at hl 0 rfl) ?_
          refine lv_iconst (v := (-1)) hx hb dX4_chosen_95 (by decide) ?_
          refine lv_icmp_ne (tgt := 117) hx hb dX4_chosen_96 (by decide) (fun c96 => ?_) (fun c96 => ?_)
          · have h := k_nf c96 h
            refine lv_iload_n hx hb dX4_chosen_117 rfl (lv_at hl 0 rfl) ?_
            refine lv_iconst (v := (-1)) hx hb dX4_chosen_118 (by decide) ?_
            refine lv_icmp_ne (tgt := 130) hx hb dX4_chosen_119 (by decide) (fun c119 => ?_) (fun c119 => ?_)
            · have h := k_nf c119 h
              refine lv_iload_n hx hb dX4_chosen_130 rfl (lv_at hl 0 rfl) ?_
              exact e_iret C hend hP (k_some2 h).1 (congrArg (mw ev ad) (k_some2 h).2) dX4_chosen_131
            · have h := k_if c119 h
              refine lv_aload_n hx hb dX4_chosen_122 rfl (lv_at hl 2 rfl) ?_
              refine lv_iconst (v := 0) hx hb dX4_chosen_123 (by decide) ?_
              obtain ⟨x10, h1, h⟩ := k_ob h
              refine k_callVi C hP hap hAA (c_X4_ith l ev ad σ 0   _ h1) Emb.same hap gz_X4_ith qML_RX4_208 qIM_yX4_ith qSE_yX4_ith ⟨(Nat.le_of_ble_eq_true rfl), (Nat.le_of_ble_eq_true rfl)⟩ (q0 := 0) rfl (by decide) rfl rfl rfl rfl hl.1 rfl (Nat.le_of_ble_eq_true rfl) dX4_chosen_124 ⟨Nat.le_refl _, Nat.le_refl _⟩ (fun H locs hP => ?_)
              refine lv_goto (tgt := 131) hx hb dX4_chosen_127 (by decide) ?_
              exact e_iret C hend hP (k_some2 h).1 (congrArg (mw ev ad) (k_some2 h).2) dX4_chosen_131
          · have h := k_if c96 h
            refine lv_aload_n hx hb dX4_chosen_99 rfl (lv_at hl 2 rfl) ?_
            obtain ⟨x12, σ11, h1, h⟩ := k_ob2 h
            refine k_callVi C hP hap hAA (c_X4_careful l ev ad σ   _ _ h1) Emb.same hap gz_X4_careful qML_RX4_259 qIM_yX4_careful qSE_yX4_careful ⟨(Nat.le_of_ble_eq_true rfl), (Nat.le_of_ble_eq_true rfl)⟩ (q0 := 0) rfl (by decide) rfl rfl rfl rfl hl.1 rfl (Nat.le_of_ble_eq_true rfl) dX4_chosen_100 ⟨Nat.le_refl _, Nat.le_refl _⟩ (fun H locs hP => ?_)
            refine lv_istore_n (lv' := [(2, .int x12), (3, .int x1), (0, .ref (ad 0)), (1, .int a1)]) hx hb dX4_chosen_103 rfl hl (by decide) rfl (fun ls hl => ?_)
            refine lv_goto (tgt := 117) hx hb dX4_chosen_104 (by decide) ?_
            refine lv_iload_n hx hb dX4_chosen_117 rfl (lv_at hl 0 rfl) ?_
            refine lv_iconst (v := (-1)) hx hb dX4_chosen_118 (by decide) ?_
            refine lv_icmp_ne (tgt := 130) hx hb dX4_chosen_119 (by decide) (fun c119 => ?_) (fun c119 => ?_)
            · have h := k_nf c119 h
              refine lv_iload_n hx hb dX4_chosen_130 rfl (lv_at hl 0 rfl) ?_
              exact e_iret C hend hP (k_some2 h).1 (congrArg (mw ev ad) (k_some2 h).2) dX4_chosen_131
            · have h := k_if c119 h
              refine lv_aload_n hx hb dX4_chosen_122 rfl (lv_at hl 2 rfl) ?_
              refine lv_iconst (v := 0) hx hb dX4_chosen_123 (by decide) ?_
              obtain ⟨x13, h1, h⟩ := k_ob h
              refine k_callVi C hP hap hAA (c_X4_ith l ev ad σ11 0   _ h1) Emb.same hap gz_X4_ith qML_RX4_208 qIM_yX4_ith qSE_yX4_ith ⟨(Nat.le_of_ble_eq_true rfl), (Nat.le_of_ble_eq_true rfl)⟩ (q0 := 0) rfl (by decide) rfl rfl rfl rfl hl.1 rfl (Nat.le_of_ble_eq_true rfl) dX4_chosen_124 ⟨Nat.le_refl _, Nat.le_refl _⟩ (fun H locs hP => ?_)
              refine lv_goto (tgt := 131) hx hb dX4_chosen_127 (by decide) ?_
              exact e_iret C hend hP (k_some2 h).1 (congrArg (mw ev ad) (k_some2 h).2) dX4_chosen_131
        · have h := k_nf cs3 h
          by_cases cs4 : ((m_kind σ) (Int32.toNatClampNeg a1)) = 4
          · have h := k_if cs4 h
            refine r_tabIn (tgt := 60) (off := 41) (i := 4) hx hb dX4_chosen_19 cs4 (by decide) (by decide) (by decide) (by decide) ?_
            refine lv_aload_n hx hb dX4_chosen_60 rfl (lv_at hl 2 rfl) ?_
            refine lv_aload_n hx hb dX4_chosen_61 rfl (lv_at hl 2 rfl) ?_
            refine r_get C hP (ci := 4) rfl uin_X4 9 (by decide) 0 (by decide) rfl qFL_RX4_23 rfl rfl dX4_chosen_62 ?_
            refine lv_iload_n hx hb dX4_chosen_65 rfl (lv_at hl 3 rfl) ?_
            obtain ⟨hg, h⟩ := k_gd h
            refine r_iald C hP 5 (by decide) rfl hg dX4_chosen_66 ?_
            refine lv_aload_n hx hb dX4_chosen_67 rfl (lv_at hl 2 rfl) ?_
            refine r_get C hP (ci := 4) rfl uin_X4 8 (by decide) 0 (by decide) rfl qFL_RX4_20 rfl rfl dX4_chosen_68 ?_
            refine lv_iload_n hx hb dX4_chosen_71 rfl (lv_at hl 3 rfl) ?_
            obtain ⟨hg, h⟩ := k_gd h
            refine r_iald C hP 4 (by decide) rfl hg dX4_chosen_72 ?_
            refine lv_iconst (v := 4) hx hb dX4_chosen_73 (by decide) ?_
            refine lv_icmp_ne (tgt := 81) hx hb dX4_chosen_74 (by decide) (fun c74 => ?_) (fun c74 => ?_)
            · have h := k_nf c74 h
              refine lv_iconst (v := 0) hx hb dX4_chosen_81 (by decide) ?_
              exact hB82 _ _ _ _ _ _ h hP (lv_sub hl [2] rfl)
            · have h := k_if c74 h
              refine lv_iconst (v := 1) hx hb dX4_chosen_77 (by decide) ?_
              refine lv_goto (tgt := 82) hx hb dX4_chosen_78 (by decide) ?_
              exact hB82 _ _ _ _ _ _ h hP (lv_sub hl [2] rfl)
          · have h := k_nf cs4 h
            by_cases cs5 : ((m_kind σ) (Int32.toNatClampNeg a1)) = 5
            · have h := k_if cs5 h
              refine r_tabIn (tgt := 107) (off := 88) (i := 5) hx hb dX4_chosen_19 cs5 (by decide) (by decide) (by decide) (by decide) ?_
              refine lv_aload_n hx hb dX4_chosen_107 rfl (lv_at hl 2 rfl) ?_
              refine lv_aload_n hx hb dX4_chosen_108 rfl (lv_at hl 2 rfl) ?_
              refine lv_iload_n hx hb dX4_chosen_109 rfl (lv_at hl 0 rfl) ?_
              obtain ⟨x15, σ14, h1, h⟩ := k_ob2 h
              refine k_callVi C hP hap hAA (c_X4_draw l ev ad σ x1   _ _ h1) Emb.same hap gz_X4_draw qML_RX4_262 qIM_yX4_draw qSE_yX4_draw ⟨(Nat.le_of_ble_eq_true rfl), (Nat.le_of_ble_eq_true rfl)⟩ (q0 := 0) rfl (by decide) rfl rfl rfl rfl hl.1 rfl (Nat.le_of_ble_eq_true rfl) dX4_chosen_110 ⟨Nat.le_refl _, Nat.le_refl _⟩ (fun H locs hP => ?_)
              obtain ⟨x16, h1, h⟩ := k_ob h
              refine k_callVi C hP hap hAA (c_X4_ith l ev ad σ14 x15   _ h1) Emb.same hap gz_X4_ith qML_RX4_208 qIM_yX4_ith qSE_yX4_ith ⟨(Nat.le_of_ble_eq_true rfl), (Nat.le_of_ble_eq_true rfl)⟩ (q0 := 0) rfl (by decide) rfl rfl rfl rfl hl.1 rfl (Nat.le_of_ble_eq_true rfl) dX4_chosen_113 ⟨Nat.le_refl _, Nat.le_refl _⟩ (fun H locs hP => ?_)
              exact e_iret C hend hP (k_some2 h).1 (congrArg (mw ev ad) (k_some2 h).2) dX4_chosen_116
            · have h := k_nf cs5 h
              refine r_tabOut (tgt := 117) hx hb dX4_chosen_19 (fun i h1 h2 => by
                have h3 : i = 1 ∨ i = 2 ∨ i = 3 ∨ i = 4 ∨ i = 5 := by omega
                rcases h3 with rfl | rfl | rfl | rfl | rfl
                · exact cs1
                · exact cs2
                · exact cs3
                · exact cs4
                · exact cs5
                ) (by decide) ?_
              refine lv_iload_n hx hb dX4_chosen_117 rfl (lv_at hl 1 rfl) ?_
              refine lv_iconst (v := (-1)) hx hb dX4_chosen_118 (by decide) ?_
              refine lv_icmp_ne (tgt := 130) hx hb dX4_chosen_119 (by decide) (fun c119 => ?_) (fun c119 => ?_)
              · exact absurd (by decide) c119
              · refine lv_aload_n hx hb dX4_chosen_122 rfl (lv_at hl 2 rfl) ?_
                refine lv_iconst (v := 0) hx hb dX4_chosen_123 (by decide) ?_
                obtain ⟨x17, h1, h⟩ := k_ob h
                refine k_callVi C hP hap hAA (c_X4_ith l ev ad σ 0   _ h1) Emb.same hap gz_X4_ith qML_RX4_208 qIM_yX4_ith qSE_yX4_ith ⟨(Nat.le_of_ble_eq_true rfl), (Nat.le_of_ble_eq_true rfl)⟩ (q0 := 0) rfl (by decide) rfl rfl rfl rfl hl.1 rfl (Nat.le_of_ble_eq_true rfl) dX4_chosen_124 ⟨Nat.le_refl _, Nat.le_refl _⟩ (fun H locs hP => ?_)
                refine lv_goto (tgt := 131) hx hb dX4_chosen_127 (by decide) ?_
                exact e_iret C hend hP (k_some2 h).1 (congrArg (mw ev ad) (k_some2 h).2) dX4_chosen_131
  · have h := k_if c8 h
    refine lv_iconst (v := (-1)) hx hb dX4_chosen_11 (by decide) ?_
    exact e_iret C hend hP (k_some2 h).1 (congrArg (mw ev ad) (k_some2 h).2) dX4_chosen_12
