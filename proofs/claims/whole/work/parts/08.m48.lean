/-! functions read off, and their contracts: by program (wip/whole/gen2.py) -/
def f_X4_drains_L4_b (σ : MM)  (rec4 : Int32 → Int32 → Option (Int32)) (x1 : Int32) (x2 : Int32) : Option (Int32) :=
  if ((m_w σ) * (m_h σ)) ≤ x2 then some x1 else gd (inb x2 16) (if ((m_dug σ) (Int32.toNatClampNeg x2)) = 0 then lt (x2 + 1) (fun x3 => rec4 x1 x3) else ob (f_X4_ditchOf σ x2) (fun x4 => ob (f_X4_isOpen σ x4) (fun b5 => if b5 = true then lt (x1 ||| (ishl 1 x2)) (fun x7 => lt (x2 + 1) (fun x8 => rec4 x7 x8)) else lt (x2 + 1) (fun x6 => rec4 x1 x6))))
def f_X4_drains_L4 (σ : MM)  (x1 : Int32) (x2 : Int32) : Option (Int32) :=
  lp (fun _ _ => none) (f_X4_drains_L4_b σ ) FU x1 x2
def f_X4_drains (σ : MM) : Option (Int32) :=
  f_X4_drains_L4 σ 0 0
set_option maxHeartbeats 4000000 in
set_option maxRecDepth 100000 in
theorem c_X4_drains (l : Launch) (ev : EV) (ad : Nat → Nat) (σ : MM)   (r : Int32)  (h : f_X4_drains σ = some r) : Ct l yX4_drains prog_6_method_53_code 3 (Option.some Jvm.ClassFile.FieldType.int) (rmk 5 115) ev 13 ad (mw ev ad σ) (mw ev ad σ) [.ref (ad 0)] (some (.int r)) := by
  refine Ct.of (by decide +kernel) (Nat.le_of_ble_eq_true rfl) ?_
  intro p e s m args below meth c Qc C hap hP hend ls hl
  have hAA : ∀ j, j < 13 → inA ad 13 (ad j) := fun j hj => ⟨j, hj, rfl⟩
  have hx := C.1
  have hb := C.2.1
  have hl : lv_has ls 3 [(0, .ref (ad 0))] := hl
  have h := (f_X4_drains.eq_1 _ ).symm.trans h
  refine lv_iconst (v := 0) hx hb dX4_drains_0 (by decide) ?_
  refine lv_istore_n (lv' := [(1, .int 0), (0, .ref (ad 0))]) hx hb dX4_drains_1 rfl hl (by decide) rfl (fun ls hl => ?_)
  refine lv_iconst (v := 0) hx hb dX4_drains_2 (by decide) ?_
  refine lv_istore_n (lv' := [(2, .int 0), (1, .int 0), (0, .ref (ad 0))]) hx hb dX4_drains_3 rfl hl (by decide) rfl (fun ls hl => ?_)
  have hL4 : ∀ (n : Nat) (x1 : Int32) (x2 : Int32) (H : Heap) (locs : List Loc) (ls : Array Slot), lp (fun _ _ => none) (f_X4_drains_L4_b σ ) n x1 x2 = some r → PS ev 13 ad (mw ev ad σ) (inA ad 13) s H locs → lv_has ls 3 [(0, .ref (ad 0)), (1, .int x1), (2, .int x2)] → WW ev p l e (rmk 5 115) s m args below meth c Qc ad 13 H locs 4 ls [] := by
    intro n
    induction n with
    | zero =>
      intro x1 x2 H locs ls h; exact k_none h
    | succ n ih =>
      intro x1 x2 H locs ls h hP hl
      have h : f_X4_drains_L4_b σ  (lp (fun _ _ => none) (f_X4_drains_L4_b σ ) n) x1 x2 = some r := h
      have h := (f_X4_drains_L4_b.eq_1 _ _ _ _ ).symm.trans h
      refine lv_iload_n hx hb dX4_drains_4 rfl (lv_at hl 2 rfl) ?_
      refine lv_aload_n hx hb dX4_drains_5 rfl (lv_at hl 0 rfl) ?_
      refine r_get C hP (ci := 4) rfl uin_X4 0 (by decide) 0 (by decide) rfl qFL_RX4_67 rfl rfl dX4_drains_6 ?_
      refine lv_aload_n hx hb dX4_drains_9 rfl (lv_at hl 0 rfl) ?_
      refine r_get C hP (ci := 4) rfl uin_X4 1 (by decide) 0 (by decide) rfl qFL_RX4_70 rfl rfl dX4_drains_10 ?_
      refine lv_imul hx hb dX4_drains_13 ?_
      refine lv_icmp_ge (tgt := 50) hx hb dX4_drains_14 (by decide) (fun c14 => ?_) (fun c14 => ?_)
      · have h := k_if c14 h
        refine lv_iload_n hx hb dX4_drains_50 rfl (lv_at hl 1 rfl) ?_
        exact e_iret C hend hP (k_some h) rfl dX4_drains_51
      · have h := k_nf c14 h
        refine lv_aload_n hx hb dX4_drains_17 rfl (lv_at hl 0 rfl) ?_
        refine r_get C hP (ci := 4) rfl uin_X4 3 (by decide) 0 (by decide) rfl qFL_RX4_13 rfl rfl dX4_drains_18 ?_
        refine lv_iload_n hx hb dX4_drains_21 rfl (lv_at hl 2 rfl) ?_
        obtain ⟨hg, h⟩ := k_gd h
        refine r_zald C hP 2 (by decide) rfl hg dX4_drains_22 ?_
        refine lv_if_eq (tgt := 44) hx hb dX4_drains_23 (by decide) (fun c23 => ?_) (fun c23 => ?_)
        · have h := k_if c23 h
          obtain ⟨x3, ex3, h⟩ := k_ltx h
          refine lv_iinc (v := x3) (lv' := [(2, .int x3), (0, .ref (ad 0)), (1, .int x1)]) hx hb dX4_drains_44 hl (k := 2) rfl (by rw [ex3]; rfl) (by decide) rfl (fun ls hl => ?_)
          refine lv_goto (tgt := 4) hx hb dX4_drains_47 (by decide) ?_
          exact ih _ _ _ _ _ h hP (lv_sub hl [1, 2, 0] rfl)
        · have h := k_nf c23 h
          refine lv_aload_n hx hb dX4_drains_26 rfl (lv_at hl 0 rfl) ?_
          refine lv_aload_n hx hb dX4_drains_27 rfl (lv_at hl 0 rfl) ?_
          refine lv_iload_n hx hb dX4_drains_28 rfl (lv_at hl 2 rfl) ?_
          obtain ⟨x4, h1, h⟩ := k_ob h
          refine k_callVi C hP hap hAA (c_X4_ditchOf l ev ad σ x2   _ h1) Emb.same hap gz_X4_ditchOf qML_RX4_214 qIM_yX4_ditchOf qSE_yX4_ditchOf ⟨(Nat.le_of_ble_eq_true rfl), (Nat.le_of_ble_eq_true rfl)⟩ (q0 := 0) rfl (by decide) rfl rfl rfl rfl hl.1 rfl (Nat.le_of_ble_eq_true rfl) dX4_drains_29 ⟨Nat.le_refl _, Nat.le_refl _⟩ (fun H locs hP => ?_)
          obtain ⟨b5, h1, h⟩ := k_ob h
          refine k_callVi C hP hap hAA (c_X4_isOpen l ev ad σ x4   _ h1) Emb.same hap gz_X4_isOpen qML_RX4_217 qIM_yX4_isOpen qSE_yX4_isOpen ⟨(Nat.le_of_ble_eq_true rfl), (Nat.le_of_ble_eq_true rfl)⟩ (q0 := 0) rfl (by decide) rfl rfl rfl rfl hl.1 rfl (Nat.le_of_ble_eq_true rfl) dX4_drains_32 ⟨Nat.le_refl _, Nat.le_refl _⟩ (fun H locs hP => ?_)
          refine r_ifz_eq (tgt := 44) hx hb dX4_drains_35 (by decide) (fun c35 => ?_) (fun c35 => ?_)
          · have h := k_nf c35 h
            obtain ⟨x6, ex6, h⟩ := k_ltx h
            refine lv_iinc (v := x6) (lv' := [(2, .int x6), (0, .ref (ad 0)), (1, .int x1)]) hx hb dX4_drains_44 hl (k := 2) rfl (by rw [ex6]; rfl) (by decide) rfl (fun ls hl => ?_)
            refine lv_goto (tgt := 4) hx hb dX4_drains_47 (by decide) ?_
            exact ih _ _ _ _ _ h hP (lv_sub hl [1, 2, 0] rfl)
          · have h := k_if c35 h
            refine lv_iload_n hx hb dX4_drains_38 rfl (lv_at hl 1 rfl) ?_
            refine lv_iconst (v := 1) hx hb dX4_drains_39 (by decide) ?_
            refine lv_iload_n hx hb dX4_drains_40 rfl (lv_at hl 2 rfl) ?_
            refine r_ishl hx hb dX4_drains_41 ?_
            refine lv_ior hx hb dX4_drains_42 ?_
            refine lv_topi (fun x7 ex7 => ?_)
            have h := k_lt ex7 h
            refine lv_istore_n (lv' := [(1, .int x7), (0, .ref (ad 0)), (2, .int x2)]) hx hb dX4_drains_43 rfl hl (by decide) rfl (fun ls hl => ?_)
            obtain ⟨x8, ex8, h⟩ := k_ltx h
            refine lv_iinc (v := x8) (lv' := [(2, .int x8), (1, .int x7), (0, .ref (ad 0))]) hx hb dX4_drains_44 hl (k := 2) rfl (by rw [ex8]; rfl) (by decide) rfl (fun ls hl => ?_)
            refine lv_goto (tgt := 4) hx hb dX4_drains_47 (by decide) ?_
            exact ih _ _ _ _ _ h hP (lv_sub hl [2, 1, 0] rfl)
  exact hL4 FU _ _ _ _ _ h hP (lv_sub hl [2, 1, 0] rfl)
def f_X4_colour_L13_b (σ : MM) (a1 : Int32) (a2 : Int32)  (rec13 : Int32 → Option (Int32)) (x1 : Int32) : Option (Int32) :=
  if 4 ≤ x1 then gd (inb a1 16) (some ((m_owner σ) (Int32.toNatClampNeg a1))) else ob (f_X4_beside σ a1 x1) (fun x2 => if x2 = (-1) then lt (x1 + 1) (fun x3 => rec13 x3) else if ((ishr a2 x2) &&& 1) = 1 then some (-1) else lt (x1 + 1) (fun x4 => rec13 x4))
def f_X4_colour_L13 (σ : MM) (a1 : Int32) (a2 : Int32)  (x1 : Int32) : Option (Int32) :=
  lp (fun _ => none) (f_X4_colour_L13_b σ a1 a2 ) FU x1
def f_X4_colour (σ : MM) (a1 : Int32) (a2 : Int32) : Option (Int32) :=
  if ((ishr a2 a1) &&& 1) = 1 then some (-1) else f_X4_colour_L13 σ a1 a2 0
set_option maxHeartbeats 4000000 in
set_option maxRecDepth 100000 in
theorem c_X4_colour (l : Launch) (ev : EV) (ad : Nat → Nat) (σ : MM) (a1 : Int32) (a2 : Int32)   (r : Int32)  (h : f_X4_colour σ a1 a2 = some r) : Ct l yX4_colour prog_6_method_54_code 5 (Option.some Jvm.ClassFile.FieldType.int) (rmk 4 89) ev 13 ad (mw ev ad σ) (mw ev ad σ) [.ref (ad 0), .int a1, .int a2] (some (.int r)) := by
  refine Ct.of (by decide +kernel) (Nat.le_of_ble_eq_true rfl) ?_
  intro p e s m args below meth c Qc C hap hP hend ls hl
  have hAA : ∀ j, j < 13 → inA ad 13 (ad j) := fun j hj => ⟨j, hj, rfl⟩
  have hx := C.1
  have hb := C.2.1
  have hl : lv_has ls 5 [(0, .ref (ad 0)), (1, .int a1), (2, .int a2)] := hl
  have h := (f_X4_colour.eq_1 _ _ _ ).symm.trans h
  refine lv_iload_n hx hb dX4_colour_0 rfl (lv_at hl 2 rfl) ?_
  refine lv_iload_n hx hb dX4_colour_1 rfl (lv_at hl 1 rfl) ?_
  refine r_ishr hx hb dX4_colour_2 ?_
  refine lv_iconst (v := 1) hx hb dX4_colour_3 (by decide) ?_
  refine lv_iand hx hb dX4_colour_4 ?_
  refine lv_iconst (v := 1) hx hb dX4_colour_5 (by decide) ?_
  refine lv_icmp_ne (tgt := 11) hx hb dX4_colour_6 (by decide) (fun c6 => ?_) (fun c6 => ?_)
  · have h := k_nf c6 h
    refine lv_iconst (v := 0) hx hb dX4_colour_11 (by decide) ?_
    refine lv_istore_n (lv' := [(3, .int 0), (0, .ref (ad 0)), (1, .int a1), (2, .int a2)]) hx hb dX4_colour_12 rfl hl (by decide) rfl (fun ls hl => ?_)
    have hL13 : ∀ (n : Nat) (x1 : Int32) (H : Heap) (locs : List Loc) (ls : Array Slot), lp (fun _ => none) (f_X4_colour_L13_b σ a1 a2 ) n x1 = some r → PS ev 13 ad (mw ev ad σ) (inA ad 13) s H locs → lv_has ls 5 [(0, .ref (ad 0)), (1, .int a1), (2, .int a2), (3, .int x1)] → WW ev p l e (rmk 4 89) s m args below meth c Qc ad 13 H locs 13 ls [] := by
      intro n
      induction n with
      | zero =>
        intro x1 H locs ls h; exact k_none h
      | succ n ih =>
        intro x1 H locs ls h hP hl
        have h : f_X4_colour_L13_b σ a1 a2  (lp (fun _ => none) (f_X4_colour_L13_b σ a1 a2 ) n) x1 = some r := h
        have h := (f_X4_colour_L13_b.eq_1 _ _ _ _ _ ).symm.trans h
        refine lv_iload_n hx hb dX4_colour_13 rfl (lv_at hl 3 rfl) ?_
        refine lv_iconst (v := 4) hx hb dX4_colour_14 (by decide) ?_
        refine lv_icmp_ge (tgt := 50) hx hb dX4_colour_15 (by decide) (fun c15 => ?_) (fun c15 => ?_)
        · have h := k_if c15 h
          refine lv_aload_n hx hb dX4_colour_50 rfl (lv_at hl 0 rfl) ?_
          refine r_get C hP (ci := 4) rfl uin_X4 4 (by decide) 0 (by decide) rfl qFL_RX4_16 rfl rfl dX4_colour_51 ?_
          refine lv_iload_n hx hb dX4_colour_54 rfl (lv_at hl 1 rfl) ?_
          obtain ⟨hg, h⟩ := k_gd h
          refine r_iald C hP 3 (by decide) rfl hg dX4_colour_55 ?_
          exact e_iret C hend hP (k_some h) rfl dX4_colour_56
        · have h := k_nf c15 h
          refine lv_aload_n hx hb dX4_colour_18 rfl (lv_at hl 0 rfl) ?_
          refine lv_iload_n hx hb dX4_colour_19 rfl (lv_at hl 1 rfl) ?_
          refine lv_iload_n hx hb dX4_colour_20 rfl (lv_at hl 3 rfl) ?_
          obtain ⟨x2, h1, h⟩ := k_ob h
          refine k_callVi C hP hap hAA (c_X4_beside l ev ad σ a1 x1   _ h1) Emb.same hap gz_X4_beside qML_RX4_211 qIM_yX4_beside qSE_yX4_beside ⟨(Nat.le_of_ble_eq_true rfl), (Nat.le_of_ble_eq_true rfl)⟩ (q0 := 0) rfl (by decide) rfl rfl rfl rfl hl.1 rfl (Nat.le_of_ble_eq_true rfl) dX4_colour_21 ⟨Nat.le_refl _, Nat.le_refl _⟩ (fun H locs hP => ?_)
          refine lv_istore (lv' := [(4, .int x2), (0, .ref (ad 0)), (1, .int a1), (2, .int a2), (3, .int x1)]) hx hb dX4_colour_24 hl (by decide) rfl (fun ls hl => ?_)
          refine lv_iload hx hb dX4_colour_26 (lv_at hl 0 rfl) ?_
          refine lv_iconst (v := (-1)) hx hb dX4_colour_28 (by decide) ?_
          refine lv_icmp_eq (tgt := 44) hx hb dX4_colour_29 (by decide) (fun c29 => ?_) (fun c29 => ?_)
          · have h := k_if c29 h
            obtain ⟨x3, ex3, h⟩ := k_ltx h
            refine lv_iinc (v := x3) (lv' := [(3, .int x3), (4, .int x2), (0, .ref (ad 0)), (1, .int a1), (2, .int a2)]) hx hb dX4_colour_44 hl (k := 4) rfl (by rw [ex3]; rfl) (by decide) rfl (fun ls hl => ?_)
            refine lv_goto (tgt := 13) hx hb dX4_colour_47 (by decide) ?_
            exact ih _ _ _ _ h hP (lv_sub hl [2, 3, 4, 0] rfl)
          · have h := k_nf c29 h
            refine lv_iload_n hx hb dX4_colour_32 rfl (lv_at hl 3 rfl) ?_
            refine lv_iload hx hb dX4_colour_33 (lv_at hl 0 rfl) ?_
            refine r_ishr hx hb dX4_colour_35 ?_
            refine lv_iconst (v := 1) hx hb dX4_colour_36 (by decide) ?_
            refine lv_iand hx hb dX4_colour_37 ?_
            refine lv_iconst (v := 1) hx hb dX4_colour_38 (by decide) ?_
            refine lv_icmp_ne (tgt := 44) hx hb dX4_colour_39 (by decide) (fun c39 => ?_) (fun c39 => ?_)
            · have h := k_nf c39 h
              obtain ⟨x4, ex4, h⟩ := k_ltx h
              refine lv_iinc (v := x4) (lv' := [(3, .int x4), (4, .int x2), (0, .ref (ad 0)), (1, .int a1), (2, .int a2)]) hx hb dX4_colour_44 hl (k := 4) rfl (by rw [ex4]; rfl) (by decide) rfl (fun ls hl => ?_)
              refine lv_goto (tgt := 13) hx hb dX4_colour_47 (by decide) ?_
              exact ih _ _ _ _ h hP (lv_sub hl [2, 3, 4, 0] rfl)
            · have h := k_if c39 h
              refine lv_iconst (v := (-1)) hx hb dX4_colour_42 (by decide) ?_
              exact e_iret C hend hP (k_some h) rfl dX4_colour_43
    exact hL13 FU _ _ _ _ h hP (lv_sub hl [1, 2, 3, 0] rfl)
  · have h := k_if c6 h
    refine lv_iconst (v := (-1)) hx hb dX4_colour_9 (by decide) ?_
    exact e_iret C hend hP (k_some h) rfl dX4_colour_10
def f_X4_fieldOf (σ : MM) (a1 : Int32) (a2 : Int32) : Option (Int32 × MM) :=
  if (f_X4_isField σ a1) = true then if (f_X4_within a2 0 8) = true then if a2 = 0 then ob (f_X4_hedges σ a1) (fun x3 => some (x3, σ)) else if a2 = 1 then gd (inb a1 16) (if ((m_dug σ) (Int32.toNatClampNeg a1)) = 0 then some (0, σ) else some (1, σ)) else if a2 = 2 then gd (inb a1 16) (some (((m_owner σ) (Int32.toNatClampNeg a1)), σ)) else if a2 = 3 then ob (f_X4_drains σ) (fun x4 => ob (f_X4_colour σ a1 x4) (fun x5 => some (x5, σ))) else if a2 = 4 then ob (f_X4_edge σ a1 (a2 - 4)) (fun x6 => some (x6, σ)) else if a2 = 5 then ob (f_X4_edge σ a1 (a2 - 4)) (fun x7 => some (x7, σ)) else if a2 = 6 then ob (f_X4_edge σ a1 (a2 - 4)) (fun x8 => some (x8, σ)) else if a2 = 7 then ob (f_X4_edge σ a1 (a2 - 4)) (fun x9 => some (x9, σ)) else if a2 = 8 then ob (f_X4_hasRim σ a1) (fun b10 => if b10 = true then some (1, σ) else some (0, σ)) else ob (f_X4_edge σ a1 (a2 - 4)) (fun x11 => some (x11, σ)) else ob2 (f_X4_no σ (-2)) (fun x13 σ12 => some (x13, σ12)) else ob2 (f_X4_no σ (-2)) (fun x2 σ1 => some (x2, σ1))
set_option maxHeartbeats 4000000 in
set_option maxRecDepth 100000 in
theorem c_X4_fieldOf (l : Launch) (ev : EV) (ad : Nat → Nat) (σ : MM) (a1 : Int32) (a2 : Int32)   (r : Int32) (σ' : MM) (h : f_X4_fieldOf σ a1 a2 = some (r, σ')) : Ct l yX4_fieldOf prog_6_method_46_code 3 (Option.some Jvm.ClassFile.FieldType.int) (rmk 6 137) ev 13 ad (mw ev ad σ) (mw ev ad σ') [.ref (ad 0), .int a1, .int a2] (some (.int r)) := by
  refine Ct.of (by decide +kernel) (Nat.le_of_ble_eq_true rfl) ?_
  intro p e s m args below meth c Qc C hap hP hend ls hl
  have hAA : ∀ j, j < 13 → inA ad 13 (ad j) := fun j hj => ⟨j, hj, rfl⟩
  have hx := C.1
  have hb := C.2.1
  have hl : lv_has ls 3 [(0, .ref (ad 0)), (1, .int a1), (2, .int a2)] := hl
  have h := (f_X4_fieldOf.eq_1 _ _ _ ).symm.trans h
  refine lv_aload_n hx hb dX4_fieldOf_0 rfl (lv_at hl 0 rfl) ?_
  refine lv_iload_n hx hb dX4_fieldOf_1 rfl (lv_at hl 1 rfl) ?_
  refine k_callVi C hP hap hAA (c_X4_isField l ev ad σ a1   _ rfl) Emb.same hap gz_X4_isField qML_RX4_116 qIM_yX4_isField qSE_yX4_isField ⟨(Nat.le_of_ble_eq_true rfl), (Nat.le_of_ble_eq_true rfl)⟩ (q0 := 0) rfl (by decide) rfl rfl rfl rfl hl.1 rfl (Nat.le_of_ble_eq_true rfl) dX4_fieldOf_2 ⟨Nat.le_refl _, Nat.le_refl _⟩ (fun H locs hP => ?_)
  refine r_ifz_eq (tgt := 18) hx hb dX4_fieldOf_5 (by decide) (fun c5 => ?_) (fun c5 => ?_)
  · have h := k_nf c5 h
    refine lv_aload_n hx hb dX4_fieldOf_18 rfl (lv_at hl 0 rfl) ?_
    refine lv_bipush (v := (-2)) hx hb dX4_fieldOf_19 (by decide) ?_
    obtain ⟨x2, σ1, h1, h⟩ := k_ob2 h
    refine k_callVi C hP hap hAA (c_X4_no l ev ad σ (-2)   _ _ h1) Emb.same hap gz_X4_no qML_RX4_56 qIM_yX4_no qSE_yX4_no ⟨(Nat.le_of_ble_eq_true rfl), (Nat.le_of_ble_eq_true rfl)⟩ (q0 := 0) rfl (by decide) rfl rfl rfl rfl hl.1 rfl (Nat.le_of_ble_eq_true rfl) dX4_fieldOf_21 ⟨Nat.le_refl _, Nat.le_refl _⟩ (fun H locs hP => ?_)
    exact e_iret C hend hP (k_some2 h).1 (congrArg (mw ev ad) (k_some2 h).2) dX4_fieldOf_24
  · have h := k_if c5 h
    refine lv_iload_n hx hb dX4_fieldOf_8 rfl (lv_at hl 2 rfl) ?_
    refine lv_iconst (v := 0) hx hb dX4_fieldOf_9 (by decide) ?_
    refine lv_bipush (v := 8) hx hb dX4_fieldOf_10 (by decide) ?_
    refine k_callSi C hP hap hAA (c_X4_within l ev ad a2 0 8   _ rfl) Emb.none (apart_0 _) gz_X4_within qML_RX4_63 qSM_yX4_within ⟨(Nat.le_of_ble_eq_true rfl), (Nat.le_of_ble_eq_true rfl)⟩ rfl hl.1 rfl (Nat.le_of_ble_eq_true rfl) dX4_fieldOf_12 ⟨Nat.le_refl _, Nat.le_refl _⟩ (fun H locs hP => ?_)
    refine r_ifz_ne (tgt := 25) hx hb dX4_fieldOf_15 (by decide) (fun c15 => ?_) (fun c15 => ?_)
    · have h := k_if c15 h
      refine lv_iload_n hx hb dX4_fieldOf_25 rfl (lv_at hl 2 rfl) ?_
      by_cases cs0 : a2 = 0
      · have h := k_if cs0 h
        refine r_tabIn (tgt := 76) (off := 50) (i := 0) hx hb dX4_fieldOf_26 cs0 (by decide) (by decide) (by decide) (by decide) ?_
        refine lv_aload_n hx hb dX4_fieldOf_76 rfl (lv_at hl 0 rfl) ?_
        refine lv_iload_n hx hb dX4_fieldOf_77 rfl (lv_at hl 1 rfl) ?_
        obtain ⟨x3, h1, h⟩ := k_ob h
        refine k_callVi C hP hap hAA (c_X4_hedges l ev ad σ a1   _ h1) Emb.same hap gz_X4_hedges qML_RX4_196 qIM_yX4_hedges qSE_yX4_hedges ⟨(Nat.le_of_ble_eq_true rfl), (Nat.le_of_ble_eq_true rfl)⟩ (q0 := 0) rfl (by decide) rfl rfl rfl rfl hl.1 rfl (Nat.le_of_ble_eq_true rfl) dX4_fieldOf_78 ⟨Nat.le_refl _, Nat.le_refl _⟩ (fun H locs hP => ?_)
        exact e_iret C hend hP (k_some2 h).1 (congrArg (mw ev ad) (k_some2 h).2) dX4_fieldOf_81
      · have h := k_nf cs0 h
        by_cases cs1 : a2 = 1
        · have h := k_if cs1 h
          refine r_tabIn (tgt := 82) (off := 56) (i := 1) hx hb dX4_fieldOf_26 cs1 (by decide) (by decide) (by decide) (by decide) ?_
          refine lv_aload_n hx hb dX4_fieldOf_82 rfl (lv_at hl 0 rfl) ?_
          refine r_get C hP (ci := 4) rfl uin_X4 3 (by decide) 0 (by decide) rfl qFL_RX4_13 rfl rfl dX4_fieldOf_83 ?_
          refine lv_iload_n hx hb dX4_fieldOf_86 rfl (lv_at hl 1 rfl) ?_
          obtain ⟨hg, h⟩ := k_gd h
          refine r_zald C hP 2 (by decide) rfl hg dX4_fieldOf_87 ?_
          refine lv_if_eq (tgt := 95) hx hb dX4_fieldOf_88 (by decide) (fun c88 => ?_) (fun c88 => ?_)
          · have h := k_if c88 h
            refine lv_iconst (v := 0) hx hb dX4_fieldOf_95 (by decide) ?_
            exact e_iret C hend hP (k_some2 h).1 (congrArg (mw ev ad) (k_some2 h).2) dX4_fieldOf_96
          · have h := k_nf c88 h
            refine lv_iconst (v := 1) hx hb dX4_fieldOf_91 (by decide) ?_
            refine lv_goto (tgt := 96) hx hb dX4_fieldOf_92 (by decide) ?_
            exact e_iret C hend hP (k_some2 h).1 (congrArg (mw ev ad) (k_some2 h).2) dX4_fieldOf_96
        · have h := k_nf cs1 h
          by_cases cs2 : a2 = 2
          · have h := k_if cs2 h
            refine r_tabIn (tgt := 97) (off := 71) (i := 2) hx hb dX4_fieldOf_26 cs2 (by decide) (by decide) (by decide) (by decide) ?_
            refine lv_aload_n hx hb dX4_fieldOf_97 rfl (lv_at hl 0 rfl) ?_
            refine r_get C hP (ci := 4) rfl uin_X4 4 (by decide) 0 (by decide) rfl qFL_RX4_16 rfl rfl dX4_fieldOf_98 ?_
            refine lv_iload_n hx hb dX4_fieldOf_101 rfl (lv_at hl 1 rfl) ?_
            obtain ⟨hg, h⟩ := k_gd h
            refine r_iald C hP 3 (by decide) rfl hg dX4_fieldOf_102 ?_
            exact e_iret C hend hP (k_some2 h).1 (congrArg (mw ev ad) (k_some2 h).2) dX4_fieldOf_103
          · have h := k_nf cs2 h
            by_cases cs3 : a2 = 3
            · have h := k_if cs3 h
              refine r_tabIn (tgt := 104) (off := 78) (i := 3) hx hb dX4_fieldOf_26 cs3 (by decide) (by decide) (by decide) (by decide) ?_
              refine lv_aload_n hx hb dX4_fieldOf_104 rfl (lv_at hl 0 rfl) ?_
              refine lv_iload_n hx hb dX4_fieldOf_105 rfl (lv_at hl 1 rfl) ?_
              refine lv_aload_n hx hb dX4_fieldOf_106 rfl (lv_at hl 0 rfl) ?_
              obtain ⟨x4, h1, h⟩ := k_ob h
              refine k_callVi C hP hap hAA (c_X4_drains l ev ad σ   _ h1) Emb.same hap gz_X4_drains qML_RX4_199 qIM_yX4_drains qSE_yX4_drains ⟨(Nat.le_of_ble_eq_true rfl), (Nat.le_of_ble_eq_true rfl)⟩ (q0 := 0) rfl (by decide) rfl rfl rfl rfl hl.1 rfl (Nat.le_of_ble_eq_true rfl) dX4_fieldOf_107 ⟨Nat.le_refl _, Nat.le_refl _⟩ (fun H locs hP => ?_)
              obtain ⟨x5, h1, h⟩ := k_ob h
              refine k_callVi C hP hap hAA (c_X4_colour l ev ad σ a1 x4   _ h1) Emb.same hap gz_X4_colour qML_RX4_202 qIM_yX4_colour qSE_yX4_colour ⟨(Nat.le_of_ble_eq_true rfl), (Nat.le_of_ble_eq_true rfl)⟩ (q0 := 0) rfl (by decide) rfl rfl rfl rfl hl.1 rfl (Nat.le_of_ble_eq_true rfl) dX4_fieldOf_110 ⟨Nat.le_refl _, Nat.le_refl _⟩ (fun H locs hP => ?_)
              exact e_iret C hend hP (k_some2 h).1 (congrArg (mw ev ad) (k_some2 h).2) dX4_fieldOf_113
            · have h := k_nf cs3 h
              by_cases cs4 : a2 = 4
              · have h := k_if cs4 h
                refine r_tabIn (tgt := 128) (off := 102) (i := 4) hx hb dX4_fieldOf_26 cs4 (by decide) (by decide) (by decide) (by decide) ?_
                refine lv_aload_n hx hb dX4_fieldOf_128 rfl (lv_at hl 0 rfl) ?_
                refine lv_iload_n hx hb dX4_fieldOf_129 rfl (lv_at hl 1 rfl) ?_
                refine lv_iload_n hx hb dX4_fieldOf_130 rfl (lv_at hl 2 rfl) ?_
                refine lv_iconst (v := 4) hx hb dX4_fieldOf_131 (by decide) ?_
                refine lv_isub hx hb dX4_fieldOf_132 ?_
                obtain ⟨x6, h1, h⟩ := k_ob h
                refine k_callVi C hP hap hAA (c_X4_edge l ev ad σ a1 (a2 - 4)   _ h1) Emb.same hap gz_X4_edge qML_RX4_122 qIM_yX4_edge qSE_yX4_edge ⟨(Nat.le_of_ble_eq_true rfl), (Nat.le_of_ble_eq_true rfl)⟩ (q0 := 0) rfl (by decide) rfl rfl rfl rfl hl.1 rfl (Nat.le_of_ble_eq_true rfl) dX4_fieldOf_133 ⟨Nat.le_refl _, Nat.le_refl _⟩ (fun H locs hP => ?_)
                exact e_iret C hend hP (k_some2 h).1 (congrArg (mw ev ad) (k_some2 h).2) dX4_fieldOf_136
              · have h := k_nf cs4 h
                by_cases cs5 : a2 = 5
                · have h := k_if cs5 h
                  refine r_tabIn (tgt := 128) (off := 102) (i := 5) hx hb dX4_fieldOf_26 cs5 (by decide) (by decide) (by decide) (by decide) ?_
                  refine lv_aload_n hx hb dX4_fieldOf_128 rfl (lv_at hl 0 rfl) ?_
                  refine lv_iload_n hx hb dX4_fieldOf_129 rfl (lv_at hl 1 rfl) ?_
                  refine lv_iload_n hx hb dX4_fieldOf_130 rfl (lv_at hl 2 rfl) ?_
                  refine lv_iconst (v := 4) hx hb dX4_fieldOf_131 (by decide) ?_
                  refine lv_isub hx hb dX4_fieldOf_132 ?_
                  obtain ⟨x7, h1, h⟩ := k_ob h
                  refine k_callVi C hP hap hAA (c_X4_edge l ev ad σ a1 (a2 - 4)   _ h1) Emb.same hap gz_X4_edge qML_RX4_122 qIM_yX4_edge qSE_yX4_edge ⟨(Nat.le_of_ble_eq_true rfl), (Nat.le_of_ble_eq_true rfl)⟩ (q0 := 0) rfl (by decide) rfl rfl rfl rfl hl.1 rfl (Nat.le_of_ble_eq_true rfl) dX4_fieldOf_133 ⟨Nat.le_refl _, Nat.le_refl _⟩ (fun H locs hP => ?_)
                  exact e_iret C hend hP (k_some2 h).1 (congrArg (mw ev ad) (k_some2 h).2) dX4_fieldOf_136
                · have h := k_nf cs5 h
                  by_cases cs6 : a2 = 6
                  · have h := k_if cs6 h
                    refine r_tabIn (tgt := 128) (off := 102) (i := 6) hx hb dX4_fieldOf_26 cs6 (by decide) (by decide) (by decide) (by decide) ?_
                    refine lv_aload_n hx hb dX4_fieldOf_128 rfl (lv_at hl 0 rfl) ?_
                    refine lv_iload_n hx hb dX4_fieldOf_129 rfl (lv_at hl 1 rfl) ?_
                    refine lv_iload_n hx hb dX4_fieldOf_130 rfl (lv_at hl 2 rfl) ?_
                    refine lv_iconst (v := 4) hx hb dX4_fieldOf_131 (by decide) ?_
                    refine lv_isub hx hb dX4_fieldOf_132 ?_
                    obtain ⟨x8, h1, h⟩ := k_ob h
                    refine k_callVi C hP hap hAA (c_X4_edge l ev ad σ a1 (a2 - 4)   _ h1) Emb.same hap gz_X4_edge qML_RX4_122 qIM_yX4_edge qSE_yX4_edge ⟨(Nat.le_of_ble_eq_true rfl), (Nat.le_of_ble_eq_true rfl)⟩ (q0 := 0) rfl (by decide) rfl rfl rfl rfl hl.1 rfl (Nat.le_of_ble_eq_true rfl) dX4_fieldOf_133 ⟨Nat.le_refl _, Nat.le_refl _⟩ (fun H locs hP => ?_)
                    exact e_iret C hend hP (k_some2 h).1 (congrArg (mw ev ad) (k_some2 h).2) dX4_fieldOf_136
                  · have h := k_nf cs6 h
                    by_cases cs7 : a2 = 7
                    · have h := k_if cs7 h
                      refine r_tabIn (tgt := 128) (off := 102) (i := 7) hx hb dX4_fieldOf_26 cs7 (by decide) (by decide) (by decide) (by decide) ?_
                      refine lv_aload_n hx hb dX4_fieldOf_128 rfl (lv_at hl 0 rfl) ?_
                      refine lv_iload_n hx hb dX4_fieldOf_129 rfl (lv_at hl 1 rfl) ?_
                      refine lv_iload_n hx hb dX4_fieldOf_130 rfl (lv_at hl 2 rfl) ?_
                      refine lv_iconst (v := 4) hx hb dX4_fieldOf_131 (by decide) ?_
                      refine lv_isub hx hb dX4_fieldOf_132 ?_
                      obtain ⟨x9, h1, h⟩ := k_ob h
                      refine k_callVi C hP hap hAA (c_X4_edge l ev ad σ a1 (a2 - 4)   _ h1) Emb.same hap gz_X4_edge qML_RX4_122 qIM_yX4_edge qSE_yX4_edge ⟨(Nat.le_of_ble_eq_true rfl), (Nat.le_of_ble_eq_true rfl)⟩ (q0 := 0) rfl (by decide) rfl rfl rfl rfl hl.1 rfl (Nat.le_of_ble_eq_true rfl) dX4_fieldOf_133 ⟨Nat.le_refl _, Nat.le_refl _⟩ (fun H locs hP => ?_)
                      exact e_iret C hend hP (k_some2 h).1 (congrArg (mw ev ad) (k_some2 h).2) dX4_fieldOf_136
                    · have h := k_nf cs7 h
                      by_cases cs8 : a2 = 8
                      · have h := k_if cs8 h
                        refine r_tabIn (tgt := 114) (off := 88) (i := 8) hx hb dX4_fieldOf_26 cs8 (by decide) (by decide) (by decide) (by decide) ?_
                        refine lv_aload_n hx hb dX4_fieldOf_114 rfl (lv_at hl 0 rfl) ?_
                        refine lv_iload_n hx hb dX4_fieldOf_115 rfl (lv_at hl 1 rfl) ?_
                        obtain ⟨b10, h1, h⟩ := k_ob h
                        refine k_callVi C hP hap hAA (c_X4_hasRim l ev ad σ a1   _ h1) Emb.same hap gz_X4_hasRim qML_RX4_205 qIM_yX4_hasRim qSE_yX4_hasRim ⟨(Nat.le_of_ble_eq_true rfl), (Nat.le_of_ble_eq_true rfl)⟩ (q0 := 0) rfl (by decide) rfl rfl rfl rfl hl.1 rfl (Nat.le_of_ble_eq_true rfl) dX4_fieldOf_116 ⟨Nat.le_refl _, Nat.le_refl _⟩ (fun H locs hP => ?_)
                        refine r_ifz_eq (tgt := 126) hx hb dX4_fieldOf_119 (by decide) (fun c119 => ?_) (fun c119 => ?_)
                        · have h := k_nf c119 h
                          refine lv_iconst (v := 0) hx hb dX4_fieldOf_126 (by decide) ?_
                          exact e_iret C hend hP (k_some2 h).1 (congrArg (mw ev ad) (k_some2 h).2) dX4_fieldOf_127
                        · have h := k_if c119 h
                          refine lv_iconst (v := 1) hx hb dX4_fieldOf_122 (by decide) ?_
                          refine lv_goto (tgt := 127) hx hb dX4_fieldOf_123 (by decide) ?_
                          exact e_iret C hend hP (k_some2 h).1 (congrArg (mw ev ad) (k_some2 h).2) dX4_fieldOf_127
                      · have h := k_nf cs8 h
                        refine r_tabOut (tgt := 128) hx hb dX4_fieldOf_26 (fun i h1 h2 => by
                          have h3 : i = 0 ∨ i = 1 ∨ i = 2 ∨ i = 3 ∨ i = 4 ∨ i = 5 ∨ i = 6 ∨ i = 7 ∨ i = 8 := by omega
                          rcases h3 with rfl | rfl | rfl | rfl | rfl | rfl | rfl | rfl | rfl
                          · exact cs0
                          · exact cs1
                          · exact cs2
                          · exact cs3
                          · exact cs4
                          · exact cs5
                          · exact cs6
                          · exact cs7
                          · exact cs8
                          ) (by decide) ?_
                        refine lv_aload_n hx hb dX4_fieldOf_128 rfl (lv_at hl 0 rfl) ?_
                        refine lv_iload_n hx hb dX4_fieldOf_129 rfl (lv_at hl 1 rfl) ?_
                        refine lv_iload_n hx hb dX4_fieldOf_130 rfl (lv_at hl 2 rfl) ?_
                        refine lv_iconst (v := 4) hx hb dX4_fieldOf_131 (by decide) ?_
                        refine lv_isub hx hb dX4_fieldOf_132 ?_
                        obtain ⟨x11, h1, h⟩ := k_ob h
                        refine k_callVi C hP hap hAA (c_X4_edge l ev ad σ a1 (a2 - 4)   _ h1) Emb.same hap gz_X4_edge qML_RX4_122 qIM_yX4_edge qSE_yX4_edge ⟨(Nat.le_of_ble_eq_true rfl), (Nat.le_of_ble_eq_true rfl)⟩ (q0 := 0) rfl (by decide) rfl rfl rfl rfl hl.1 rfl (Nat.le_of_ble_eq_true rfl) dX4_fieldOf_133 ⟨Nat.le_refl _, Nat.le_refl _⟩ (fun H locs hP => ?_)
                        exact e_iret C hend hP (k_some2 h).1 (congrArg (mw ev ad) (k_some2 h).2) dX4_fieldOf_136
    · have h := k_nf c15 h
      refine lv_aload_n hx hb dX4_fieldOf_18 rfl (lv_at hl 0 rfl) ?_
      refine lv_bipush (v := (-2)) hx hb dX4_fieldOf_19 (by decide) ?_
      obtain ⟨x13, σ12, h1, h⟩ := k_ob2 h
      refine k_callVi C hP hap hAA (c_X4_no l ev ad σ (-2)   _ _ h1) Emb.same hap gz_X4_no qML_RX4_56 qIM_yX4_no qSE_yX4_no ⟨(Nat.le_of_ble_eq_true rfl), (Nat.le_of_ble_eq_true rfl)⟩ (q0 := 0) rfl (by decide) rfl rfl rfl rfl hl.1 rfl (Nat.le_of_ble_eq_true rfl) dX4_fieldOf_21 ⟨Nat.le_refl _, Nat.le_refl _⟩ (fun H locs hP => ?_)
      exact e_iret C hend hP (k_some2 h).1 (congrArg (mw ev ad) (k_some2 h).2) dX4_fieldOf_24
