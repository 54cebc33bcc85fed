/-! functions read off, and their contracts: by program (wip/whole/gen2.py) -/
def f_X4_digs_L5_b (σ : MM) (k38 : Int32 → Option (Int32)) (rec5 : Int32 → Int32 → Option (Int32)) (x1 : Int32) (x2 : Int32) : Option (Int32) :=
  if ((m_w σ) * (m_h σ)) ≤ x2 then k38 x1 else gd (inb x2 16) (if ((m_dug σ) (Int32.toNatClampNeg x2)) = 0 then lt (x2 + 1) (fun x3 => rec5 x1 x3) else lt (x1 + 1) (fun x4 => lt (x2 + 1) (fun x5 => rec5 x4 x5)))
def f_X4_digs_L5 (σ : MM) (k38 : Int32 → Option (Int32)) (x1 : Int32) (x2 : Int32) : Option (Int32) :=
  lp (fun _ _ => none) (f_X4_digs_L5_b σ k38) FU x1 x2
def f_X4_digs_L41_b (σ : MM) (a1 : Int32) (a2 : Int32) (x7 : Int32)  (rec41 : Int32 → Option (Int32)) (x8 : Int32) : Option (Int32) :=
  if ((m_w σ) * (m_h σ)) ≤ x8 then some (-1) else if a1 ≤ x7 then some (-1) else ob (f_X4_mayBe σ (100 + x8)) (fun b9 => if b9 = true then if a2 = 0 then some (100 + x8) else ob (f_X4_hasRim σ x8) (fun b11 => if b11 = true then some (100 + x8) else lt (x8 + 1) (fun x12 => rec41 x12)) else lt (x8 + 1) (fun x10 => rec41 x10))
def f_X4_digs_L41 (σ : MM) (a1 : Int32) (a2 : Int32) (x7 : Int32)  (x8 : Int32) : Option (Int32) :=
  lp (fun _ => none) (f_X4_digs_L41_b σ a1 a2 x7 ) FU x8
def f_X4_digs (σ : MM) (a1 : Int32) (a2 : Int32) : Option (Int32) :=
  f_X4_digs_L5 σ (fun x7 => f_X4_digs_L41 σ a1 a2 x7 0) 0 0
set_option maxHeartbeats 4000000 in
set_option maxRecDepth 100000 in
theorem c_X4_digs (l : Launch) (ev : EV) (ad : Nat → Nat) (σ : MM) (a1 : Int32) (a2 : Int32)   (r : Int32)  (h : f_X4_digs σ a1 a2 = some r) : Ct l yX4_digs prog_6_method_74_code 5 (Option.some Jvm.ClassFile.FieldType.int) (rmk 5 110) ev 13 ad (mw ev ad σ) (mw ev ad σ) [.ref (ad 0), .int a1, .int a2] (some (.int r)) := by
  refine Ct.of (by decide +kernel) (Nat.le_of_ble_eq_true rfl) ?_
  intro p e s m args below meth c Qc C hap hP hend ls hl
  have hAA : ∀ j, j < 13 → inA ad 13 (ad j) := fun j hj => ⟨j, hj, rfl⟩
  have hx := C.1
  have hb := C.2.1
  have hl : lv_has ls 5 [(0, .ref (ad 0)), (1, .int a1), (2, .int a2)] := hl
  have h := (f_X4_digs.eq_1 _ _ _ ).symm.trans h
  refine lv_iconst (v := 0) hx hb dX4_digs_0 (by decide) ?_
  refine lv_istore_n (lv' := [(3, .int 0), (0, .ref (ad 0)), (1, .int a1), (2, .int a2)]) hx hb dX4_digs_1 rfl hl (by decide) rfl (fun ls hl => ?_)
  refine lv_iconst (v := 0) hx hb dX4_digs_2 (by decide) ?_
  refine lv_istore (lv' := [(4, .int 0), (3, .int 0), (0, .ref (ad 0)), (1, .int a1), (2, .int a2)]) hx hb dX4_digs_3 hl (by decide) rfl (fun ls hl => ?_)
  have hL5 : ∀ (k38 : Int32 → Option (Int32)) (hk38 : ∀ (z6 : Int32) (H : Heap) (locs : List Loc) (ls : Array Slot), k38 z6 = some r → PS ev 13 ad (mw ev ad σ) (inA ad 13) s H locs → lv_has ls 5 [(0, .ref (ad 0)), (1, .int a1), (2, .int a2), (3, .int z6)] → WW ev p l e (rmk 5 110) s m args below meth c Qc ad 13 H locs 38 ls []) (n : Nat) (x1 : Int32) (x2 : Int32) (H : Heap) (locs : List Loc) (ls : Array Slot), lp (fun _ _ => none) (f_X4_digs_L5_b σ k38) n x1 x2 = some r → PS ev 13 ad (mw ev ad σ) (inA ad 13) s H locs → lv_has ls 5 [(0, .ref (ad 0)), (1, .int a1), (2, .int a2), (3, .int x1), (4, .int x2)] → WW ev p l e (rmk 5 110) s m args below meth c Qc ad 13 H locs 5 ls [] := by
    intro k38 hk38 n
    induction n with
    | zero =>
      intro x1 x2 H locs ls h; exact k_none h
    | succ n ih =>
      intro x1 x2 H locs ls h hP hl
      have h : f_X4_digs_L5_b σ k38 (lp (fun _ _ => none) (f_X4_digs_L5_b σ k38) n) x1 x2 = some r := h
      have h := (f_X4_digs_L5_b.eq_1 _ _ _ _ _ ).symm.trans h
      refine lv_iload hx hb dX4_digs_5 (lv_at hl 4 rfl) ?_
      refine lv_aload_n hx hb dX4_digs_7 rfl (lv_at hl 0 rfl) ?_
      refine r_get C hP (ci := 4) rfl uin_X4 0 (by decide) 0 (by decide) rfl qFL_RX4_67 rfl rfl dX4_digs_8 ?_
      refine lv_aload_n hx hb dX4_digs_11 rfl (lv_at hl 0 rfl) ?_
      refine r_get C hP (ci := 4) rfl uin_X4 1 (by decide) 0 (by decide) rfl qFL_RX4_70 rfl rfl dX4_digs_12 ?_
      refine lv_imul hx hb dX4_digs_15 ?_
      refine lv_icmp_ge (tgt := 38) hx hb dX4_digs_16 (by decide) (fun c16 => ?_) (fun c16 => ?_)
      · have h := k_if c16 h
        exact hk38 _ _ _ _ h hP (lv_sub hl [0, 1, 2, 3] rfl)
      · have h := k_nf c16 h
        refine lv_aload_n hx hb dX4_digs_19 rfl (lv_at hl 0 rfl) ?_
        refine r_get C hP (ci := 4) rfl uin_X4 3 (by decide) 0 (by decide) rfl qFL_RX4_13 rfl rfl dX4_digs_20 ?_
        refine lv_iload hx hb dX4_digs_23 (lv_at hl 4 rfl) ?_
        obtain ⟨hg, h⟩ := k_gd h
        refine r_zald C hP 2 (by decide) rfl hg dX4_digs_25 ?_
        refine lv_if_eq (tgt := 32) hx hb dX4_digs_26 (by decide) (fun c26 => ?_) (fun c26 => ?_)
        · have h := k_if c26 h
          obtain ⟨x3, ex3, h⟩ := k_ltx h
          refine lv_iinc (v := x3) (lv' := [(4, .int x3), (0, .ref (ad 0)), (1, .int a1), (2, .int a2), (3, .int x1)]) hx hb dX4_digs_32 hl (k := 4) rfl (by rw [ex3]; rfl) (by decide) rfl (fun ls hl => ?_)
          refine lv_goto (tgt := 5) hx hb dX4_digs_35 (by decide) ?_
          exact ih _ _ _ _ _ h hP (lv_sub hl [1, 2, 3, 4, 0] rfl)
        · have h := k_nf c26 h
          obtain ⟨x4, ex4, h⟩ := k_ltx h
          refine lv_iinc (v := x4) (lv' := [(3, .int x4), (0, .ref (ad 0)), (1, .int a1), (2, .int a2), (4, .int x2)]) hx hb dX4_digs_29 hl (k := 3) rfl (by rw [ex4]; rfl) (by decide) rfl (fun ls hl => ?_)
          obtain ⟨x5, ex5, h⟩ := k_ltx h
          refine lv_iinc (v := x5) (lv' := [(4, .int x5), (3, .int x4), (0, .ref (ad 0)), (1, .int a1), (2, .int a2)]) hx hb dX4_digs_32 hl (k := 4) rfl (by rw [ex5]; rfl) (by decide) rfl (fun ls hl => ?_)
          refine lv_goto (tgt := 5) hx hb dX4_digs_35 (by decide) ?_
          exact ih _ _ _ _ _ h hP (lv_sub hl [2, 3, 4, 1, 0] rfl)
  refine hL5 _ (fun x7 H locs ls h hP hl => ?_) FU _ _ _ _ _ h hP (lv_sub hl [2, 3, 4, 1, 0] rfl)
  refine lv_iconst (v := 0) hx hb dX4_digs_38 (by decide) ?_
  refine lv_istore (lv' := [(4, .int 0), (0, .ref (ad 0)), (1, .int a1), (2, .int a2), (3, .int x7)]) hx hb dX4_digs_39 hl (by decide) rfl (fun ls hl => ?_)
  have hL41 : ∀ (n : Nat) (x8 : Int32) (H : Heap) (locs : List Loc) (ls : Array Slot), lp (fun _ => none) (f_X4_digs_L41_b σ a1 a2 x7 ) n x8 = some r → PS ev 13 ad (mw ev ad σ) (inA ad 13) s H locs → lv_has ls 5 [(0, .ref (ad 0)), (1, .int a1), (2, .int a2), (3, .int x7), (4, .int x8)] → WW ev p l e (rmk 5 110) s m args below meth c Qc ad 13 H locs 41 ls [] := by
    intro n
    induction n with
    | zero =>
      intro x8 H locs ls h; exact k_none h
    | succ n ih =>
      intro x8 H locs ls h hP hl
      have h : f_X4_digs_L41_b σ a1 a2 x7  (lp (fun _ => none) (f_X4_digs_L41_b σ a1 a2 x7 ) n) x8 = some r := h
      have h := (f_X4_digs_L41_b.eq_1 _ _ _ _ _ _ ).symm.trans h
      refine lv_iload hx hb dX4_digs_41 (lv_at hl 4 rfl) ?_
      refine lv_aload_n hx hb dX4_digs_43 rfl (lv_at hl 0 rfl) ?_
      refine r_get C hP (ci := 4) rfl uin_X4 0 (by decide) 0 (by decide) rfl qFL_RX4_67 rfl rfl dX4_digs_44 ?_
      refine lv_aload_n hx hb dX4_digs_47 rfl (lv_at hl 0 rfl) ?_
      refine r_get C hP (ci := 4) rfl uin_X4 1 (by decide) 0 (by decide) rfl qFL_RX4_70 rfl rfl dX4_digs_48 ?_
      refine lv_imul hx hb dX4_digs_51 ?_
      refine lv_icmp_ge (tgt := 97) hx hb dX4_digs_52 (by decide) (fun c52 => ?_) (fun c52 => ?_)
      · have h := k_if c52 h
        refine lv_iconst (v := (-1)) hx hb dX4_digs_97 (by decide) ?_
        exact e_iret C hend hP (k_some h) rfl dX4_digs_98
      · have h := k_nf c52 h
        refine lv_iload_n hx hb dX4_digs_55 rfl (lv_at hl 3 rfl) ?_
        refine lv_iload_n hx hb dX4_digs_56 rfl (lv_at hl 1 rfl) ?_
        refine lv_icmp_ge (tgt := 97) hx hb dX4_digs_57 (by decide) (fun c57 => ?_) (fun c57 => ?_)
        · have h := k_if c57 h
          refine lv_iconst (v := (-1)) hx hb dX4_digs_97 (by decide) ?_
          exact e_iret C hend hP (k_some h) rfl dX4_digs_98
        · have h := k_nf c57 h
          refine lv_aload_n hx hb dX4_digs_60 rfl (lv_at hl 0 rfl) ?_
          refine lv_bipush (v := 100) hx hb dX4_digs_61 (by decide) ?_
          refine lv_iload hx hb dX4_digs_63 (lv_at hl 4 rfl) ?_
          refine lv_iadd hx hb dX4_digs_65 ?_
          obtain ⟨b9, h1, h⟩ := k_ob h
          refine k_callVi C hP hap hAA (c_X4_mayBe l ev ad σ (100 + x8)   _ h1) Emb.same hap gz_X4_mayBe qML_RX4_176 qIM_yX4_mayBe qSE_yX4_mayBe ⟨(Nat.le_of_ble_eq_true rfl), (Nat.le_of_ble_eq_true rfl)⟩ (q0 := 0) rfl (by decide) rfl rfl rfl rfl hl.1 rfl (Nat.le_of_ble_eq_true rfl) dX4_digs_66 ⟨Nat.le_refl _, Nat.le_refl _⟩ (fun H locs hP => ?_)
          refine r_ifz_eq (tgt := 91) hx hb dX4_digs_69 (by decide) (fun c69 => ?_) (fun c69 => ?_)
          · have h := k_nf c69 h
            obtain ⟨x10, ex10, h⟩ := k_ltx h
            refine lv_iinc (v := x10) (lv' := [(4, .int x10), (0, .ref (ad 0)), (1, .int a1), (2, .int a2), (3, .int x7)]) hx hb dX4_digs_91 hl (k := 4) rfl (by rw [ex10]; rfl) (by decide) rfl (fun ls hl => ?_)
            refine lv_goto (tgt := 41) hx hb dX4_digs_94 (by decide) ?_
            exact ih _ _ _ _ h hP (lv_sub hl [1, 2, 3, 4, 0] rfl)
          · have h := k_if c69 h
            refine lv_iload_n hx hb dX4_digs_72 rfl (lv_at hl 2 rfl) ?_
            refine lv_if_eq (tgt := 85) hx hb dX4_digs_73 (by decide) (fun c73 => ?_) (fun c73 => ?_)
            · have h := k_if c73 h
              refine lv_bipush (v := 100) hx hb dX4_digs_85 (by decide) ?_
              refine lv_iload hx hb dX4_digs_87 (lv_at hl 4 rfl) ?_
              refine lv_iadd hx hb dX4_digs_89 ?_
              exact e_iret C hend hP (k_some h) rfl dX4_digs_90
            · have h := k_nf c73 h
              refine lv_aload_n hx hb dX4_digs_76 rfl (lv_at hl 0 rfl) ?_
              refine lv_iload hx hb dX4_digs_77 (lv_at hl 4 rfl) ?_
              obtain ⟨b11, h1, h⟩ := k_ob h
              refine k_callVi C hP hap hAA (c_X4_hasRim l ev ad σ x8   _ h1) Emb.same hap gz_X4_hasRim qML_RX4_205 qIM_yX4_hasRim qSE_yX4_hasRim ⟨(Nat.le_of_ble_eq_true rfl), (Nat.le_of_ble_eq_true rfl)⟩ (q0 := 0) rfl (by decide) rfl rfl rfl rfl hl.1 rfl (Nat.le_of_ble_eq_true rfl) dX4_digs_79 ⟨Nat.le_refl _, Nat.le_refl _⟩ (fun H locs hP => ?_)
              refine r_ifz_eq (tgt := 91) hx hb dX4_digs_82 (by decide) (fun c82 => ?_) (fun c82 => ?_)
              · have h := k_nf c82 h
                obtain ⟨x12, ex12, h⟩ := k_ltx h
                refine lv_iinc (v := x12) (lv' := [(4, .int x12), (0, .ref (ad 0)), (1, .int a1), (2, .int a2), (3, .int x7)]) hx hb dX4_digs_91 hl (k := 4) rfl (by rw [ex12]; rfl) (by decide) rfl (fun ls hl => ?_)
                refine lv_goto (tgt := 41) hx hb dX4_digs_94 (by decide) ?_
                exact ih _ _ _ _ h hP (lv_sub hl [1, 2, 3, 4, 0] rfl)
              · have h := k_if c82 h
                refine lv_bipush (v := 100) hx hb dX4_digs_85 (by decide) ?_
                refine lv_iload hx hb dX4_digs_87 (lv_at hl 4 rfl) ?_
                refine lv_iadd hx hb dX4_digs_89 ?_
                exact e_iret C hend hP (k_some h) rfl dX4_digs_90
  exact hL41 FU _ _ _ _ h hP (lv_sub hl [1, 2, 3, 4, 0] rfl)
def f_X4_thirds_L4_b (σ : MM)  (rec4 : Int32 → Int32 → Option (Int32)) (x1 : Int32) (x2 : Int32) : Option (Int32) :=
  if ((m_w σ) * (m_h σ)) ≤ x2 then some x1 else ob (f_X4_hedges σ x2) (fun x3 => if x3 = 3 then lt (x1 ||| (ishl 1 x2)) (fun x5 => lt (x2 + 1) (fun x6 => rec4 x5 x6)) else lt (x2 + 1) (fun x4 => rec4 x1 x4))
def f_X4_thirds_L4 (σ : MM)  (x1 : Int32) (x2 : Int32) : Option (Int32) :=
  lp (fun _ _ => none) (f_X4_thirds_L4_b σ ) FU x1 x2
def f_X4_thirds (σ : MM) : Option (Int32) :=
  f_X4_thirds_L4 σ 0 0
set_option maxHeartbeats 4000000 in
set_option maxRecDepth 100000 in
theorem c_X4_thirds (l : Launch) (ev : EV) (ad : Nat → Nat) (σ : MM)   (r : Int32)  (h : f_X4_thirds σ = some r) : Ct l yX4_thirds prog_6_method_63_code 3 (Option.some Jvm.ClassFile.FieldType.int) (rmk 3 67) ev 13 ad (mw ev ad σ) (mw ev ad σ) [.ref (ad 0)] (some (.int r)) := by
  refine Ct.of (by decide +kernel) (Nat.le_of_ble_eq_true rfl) ?_
  intro p e s m args below meth c Qc C hap hP hend ls hl
  have hAA : ∀ j, j < 13 → inA ad 13 (ad j) := fun j hj => ⟨j, hj, rfl⟩
  have hx := C.1
  have hb := C.2.1
  have hl : lv_has ls 3 [(0, .ref (ad 0))] := hl
  have h := (f_X4_thirds.eq_1 _ ).symm.trans h
  refine lv_iconst (v := 0) hx hb dX4_thirds_0 (by decide) ?_
  refine lv_istore_n (lv' := [(1, .int 0), (0, .ref (ad 0))]) hx hb dX4_thirds_1 rfl hl (by decide) rfl (fun ls hl => ?_)
  refine lv_iconst (v := 0) hx hb dX4_thirds_2 (by decide) ?_
  refine lv_istore_n (lv' := [(2, .int 0), (1, .int 0), (0, .ref (ad 0))]) hx hb dX4_thirds_3 rfl hl (by decide) rfl (fun ls hl => ?_)
  have hL4 : ∀ (n : Nat) (x1 : Int32) (x2 : Int32) (H : Heap) (locs : List Loc) (ls : Array Slot), lp (fun _ _ => none) (f_X4_thirds_L4_b σ ) n x1 x2 = some r → PS ev 13 ad (mw ev ad σ) (inA ad 13) s H locs → lv_has ls 3 [(0, .ref (ad 0)), (1, .int x1), (2, .int x2)] → WW ev p l e (rmk 3 67) s m args below meth c Qc ad 13 H locs 4 ls [] := by
    intro n
    induction n with
    | zero =>
      intro x1 x2 H locs ls h; exact k_none h
    | succ n ih =>
      intro x1 x2 H locs ls h hP hl
      have h : f_X4_thirds_L4_b σ  (lp (fun _ _ => none) (f_X4_thirds_L4_b σ ) n) x1 x2 = some r := h
      have h := (f_X4_thirds_L4_b.eq_1 _ _ _ _ ).symm.trans h
      refine lv_iload_n hx hb dX4_thirds_4 rfl (lv_at hl 2 rfl) ?_
      refine lv_aload_n hx hb dX4_thirds_5 rfl (lv_at hl 0 rfl) ?_
      refine r_get C hP (ci := 4) rfl uin_X4 0 (by decide) 0 (by decide) rfl qFL_RX4_67 rfl rfl dX4_thirds_6 ?_
      refine lv_aload_n hx hb dX4_thirds_9 rfl (lv_at hl 0 rfl) ?_
      refine r_get C hP (ci := 4) rfl uin_X4 1 (by decide) 0 (by decide) rfl qFL_RX4_70 rfl rfl dX4_thirds_10 ?_
      refine lv_imul hx hb dX4_thirds_13 ?_
      refine lv_icmp_ge (tgt := 38) hx hb dX4_thirds_14 (by decide) (fun c14 => ?_) (fun c14 => ?_)
      · have h := k_if c14 h
        refine lv_iload_n hx hb dX4_thirds_38 rfl (lv_at hl 1 rfl) ?_
        exact e_iret C hend hP (k_some h) rfl dX4_thirds_39
      · have h := k_nf c14 h
        refine lv_aload_n hx hb dX4_thirds_17 rfl (lv_at hl 0 rfl) ?_
        refine lv_iload_n hx hb dX4_thirds_18 rfl (lv_at hl 2 rfl) ?_
        obtain ⟨x3, h1, h⟩ := k_ob h
        refine k_callVi C hP hap hAA (c_X4_hedges l ev ad σ x2   _ h1) Emb.same hap gz_X4_hedges qML_RX4_196 qIM_yX4_hedges qSE_yX4_hedges ⟨(Nat.le_of_ble_eq_true rfl), (Nat.le_of_ble_eq_true rfl)⟩ (q0 := 0) rfl (by decide) rfl rfl rfl rfl hl.1 rfl (Nat.le_of_ble_eq_true rfl) dX4_thirds_19 ⟨Nat.le_refl _, Nat.le_refl _⟩ (fun H locs hP => ?_)
        refine lv_iconst (v := 3) hx hb dX4_thirds_22 (by decide) ?_
        refine lv_icmp_ne (tgt := 32) hx hb dX4_thirds_23 (by decide) (fun c23 => ?_) (fun c23 => ?_)
        · have h := k_nf c23 h
          obtain ⟨x4, ex4, h⟩ := k_ltx h
          refine lv_iinc (v := x4) (lv' := [(2, .int x4), (0, .ref (ad 0)), (1, .int x1)]) hx hb dX4_thirds_32 hl (k := 2) rfl (by rw [ex4]; rfl) (by decide) rfl (fun ls hl => ?_)
          refine lv_goto (tgt := 4) hx hb dX4_thirds_35 (by decide) ?_
          exact ih _ _ _ _ _ h hP (lv_sub hl [1, 2, 0] rfl)
        · have h := k_if c23 h
          refine lv_iload_n hx hb dX4_thirds_26 rfl (lv_at hl 1 rfl) ?_
          refine lv_iconst (v := 1) hx hb dX4_thirds_27 (by decide) ?_
          refine lv_iload_n hx hb dX4_thirds_28 rfl (lv_at hl 2 rfl) ?_
          refine r_ishl hx hb dX4_thirds_29 ?_
          refine lv_ior hx hb dX4_thirds_30 ?_
          refine lv_topi (fun x5 ex5 => ?_)
          have h := k_lt ex5 h
          refine lv_istore_n (lv' := [(1, .int x5), (0, .ref (ad 0)), (2, .int x2)]) hx hb dX4_thirds_31 rfl hl (by decide) rfl (fun ls hl => ?_)
          obtain ⟨x6, ex6, h⟩ := k_ltx h
          refine lv_iinc (v := x6) (lv' := [(2, .int x6), (1, .int x5), (0, .ref (ad 0))]) hx hb dX4_thirds_32 hl (k := 2) rfl (by rw [ex6]; rfl) (by decide) rfl (fun ls hl => ?_)
          refine lv_goto (tgt := 4) hx hb dX4_thirds_35 (by decide) ?_
          exact ih _ _ _ _ _ h hP (lv_sub hl [2, 1, 0] rfl)
  exact hL4 FU _ _ _ _ _ h hP (lv_sub hl [2, 1, 0] rfl)
def f_X4_isCalm (σ : MM) (a1 : Int32) : Option (Bool × MM) :=
  gd (inb a1 40) (if ((m_hedge σ) (Int32.toNatClampNeg a1)) = 0 then gd (inb a1 40) (lt (m_hedge' σ (upd (m_hedge σ) (Int32.toNatClampNeg a1) (vp_nar .boolean 1))) (fun σ1 => ob (f_X4_thirds σ1) (fun x2 => if x2 = 0 then gd (inb a1 40) (lt (m_hedge' σ1 (upd (m_hedge σ1) (Int32.toNatClampNeg a1) (vp_nar .boolean 0))) (fun σ4 => some (true, σ4))) else gd (inb a1 40) (lt (m_hedge' σ1 (upd (m_hedge σ1) (Int32.toNatClampNeg a1) (vp_nar .boolean 0))) (fun σ3 => some (false, σ3)))))) else some (false, σ))
set_option maxHeartbeats 4000000 in
set_option maxRecDepth 100000 in
theorem c_X4_isCalm (l : Launch) (ev : EV) (ad : Nat → Nat) (σ : MM) (a1 : Int32)   (r : Bool) (σ' : MM) (h : f_X4_isCalm σ a1 = some (r, σ')) : Ct l yX4_isCalm prog_6_method_72_code 3 (Option.some Jvm.ClassFile.FieldType.boolean) (rmk 4 89) ev 13 ad (mw ev ad σ) (mw ev ad σ') [.ref (ad 0), .int a1] (some (.int (bi r))) := by
  refine Ct.of (by decide +kernel) (Nat.le_of_ble_eq_true rfl) ?_
  intro p e s m args below meth c Qc C hap hP hend ls hl
  have hAA : ∀ j, j < 13 → inA ad 13 (ad j) := fun j hj => ⟨j, hj, rfl⟩
  have hx := C.1
  have hb := C.2.1
  have hl : lv_has ls 3 [(0, .ref (ad 0)), (1, .int a1)] := hl
  have h := (f_X4_isCalm.eq_1 _ _ ).symm.trans h
  refine lv_aload_n hx hb dX4_isCalm_0 rfl (lv_at hl 0 rfl) ?_
  refine r_get C hP (ci := 4) rfl uin_X4 2 (by decide) 0 (by decide) rfl qFL_RX4_7 rfl rfl dX4_isCalm_1 ?_
  refine lv_iload_n hx hb dX4_isCalm_4 rfl (lv_at hl 1 rfl) ?_
  obtain ⟨hg, h⟩ := k_gd h
  refine r_zald C hP 1 (by decide) rfl hg dX4_isCalm_5 ?_
  refine lv_if_eq (tgt := 11) hx hb dX4_isCalm_6 (by decide) (fun c6 => ?_) (fun c6 => ?_)
  · have h := k_if c6 h
    refine lv_aload_n hx hb dX4_isCalm_11 rfl (lv_at hl 0 rfl) ?_
    refine r_get C hP (ci := 4) rfl uin_X4 2 (by decide) 0 (by decide) rfl qFL_RX4_7 rfl rfl dX4_isCalm_12 ?_
    refine lv_iload_n hx hb dX4_isCalm_15 rfl (lv_at hl 1 rfl) ?_
    refine lv_iconst (v := 1) hx hb dX4_isCalm_16 (by decide) ?_
    obtain ⟨hg, h⟩ := k_gd h
    obtain ⟨σ1, eσ1, h⟩ := k_ltx h
    refine st_M_hedge C hP hap hAA eσ1 hg dX4_isCalm_17 (fun H locs hP => ?_)
    refine lv_aload_n hx hb dX4_isCalm_18 rfl (lv_at hl 0 rfl) ?_
    obtain ⟨x2, h1, h⟩ := k_ob h
    refine k_callVi C hP hap hAA (c_X4_thirds l ev ad σ1   _ h1) Emb.same hap gz_X4_thirds qML_RX4_246 qIM_yX4_thirds qSE_yX4_thirds ⟨(Nat.le_of_ble_eq_true rfl), (Nat.le_of_ble_eq_true rfl)⟩ (q0 := 0) rfl (by decide) rfl rfl rfl rfl hl.1 rfl (Nat.le_of_ble_eq_true rfl) dX4_isCalm_19 ⟨Nat.le_refl _, Nat.le_refl _⟩ (fun H locs hP => ?_)
    refine lv_if_ne (tgt := 29) hx hb dX4_isCalm_22 (by decide) (fun c22 => ?_) (fun c22 => ?_)
    · have h := k_nf c22 h
      refine lv_iconst (v := 0) hx hb dX4_isCalm_29 (by decide) ?_
      refine lv_istore_n (lv' := [(2, .int (bi false)), (0, .ref (ad 0)), (1, .int a1)]) hx hb dX4_isCalm_30 rfl hl (by decide) rfl (fun ls hl => ?_)
      refine lv_aload_n hx hb dX4_isCalm_31 rfl (lv_at hl 1 rfl) ?_
      refine r_get C hP (ci := 4) rfl uin_X4 2 (by decide) 0 (by decide) rfl qFL_RX4_7 rfl rfl dX4_isCalm_32 ?_
      refine lv_iload_n hx hb dX4_isCalm_35 rfl (lv_at hl 2 rfl) ?_
      refine lv_iconst (v := 0) hx hb dX4_isCalm_36 (by decide) ?_
      obtain ⟨hg, h⟩ := k_gd h
      obtain ⟨σ3, eσ3, h⟩ := k_ltx h
      refine st_M_hedge C hP hap hAA eσ3 hg dX4_isCalm_37 (fun H locs hP => ?_)
      refine lv_iload_n hx hb dX4_isCalm_38 rfl (lv_at hl 0 rfl) ?_
      exact e_zret C hend hP (k_some2 h).1 (congrArg (mw ev ad) (k_some2 h).2) dX4_isCalm_39 rfl
    · have h := k_if c22 h
      refine lv_iconst (v := 1) hx hb dX4_isCalm_25 (by decide) ?_
      refine lv_goto (tgt := 30) hx hb dX4_isCalm_26 (by decide) ?_
      refine lv_istore_n (lv' := [(2, .int (bi true)), (0, .ref (ad 0)), (1, .int a1)]) hx hb dX4_isCalm_30 rfl hl (by decide) rfl (fun ls hl => ?_)
      refine lv_aload_n hx hb dX4_isCalm_31 rfl (lv_at hl 1 rfl) ?_
      refine r_get C hP (ci := 4) rfl uin_X4 2 (by decide) 0 (by decide) rfl qFL_RX4_7 rfl rfl dX4_isCalm_32 ?_
      refine lv_iload_n hx hb dX4_isCalm_35 rfl (lv_at hl 2 rfl) ?_
      refine lv_iconst (v := 0) hx hb dX4_isCalm_36 (by decide) ?_
      obtain ⟨hg, h⟩ := k_gd h
      obtain ⟨σ4, eσ4, h⟩ := k_ltx h
      refine st_M_hedge C hP hap hAA eσ4 hg dX4_isCalm_37 (fun H locs hP => ?_)
      refine lv_iload_n hx hb dX4_isCalm_38 rfl (lv_at hl 0 rfl) ?_
      exact e_zret C hend hP (k_some2 h).1 (congrArg (mw ev ad) (k_some2 h).2) dX4_isCalm_39 rfl
  · have h := k_nf c6 h
    refine lv_iconst (v := 0) hx hb dX4_isCalm_9 (by decide) ?_
    exact e_zret C hend hP (k_some2 h).1 (congrArg (mw ev ad) (k_some2 h).2) dX4_isCalm_10 rfl
def f_X4_careful_L2_b   (rec2 : Int32 → MM → Option (Int32 × MM)) (x1 : Int32) (σ2 : MM) : Option (Int32 × MM) :=
  if (f_X4_edges σ2) ≤ x1 then some ((-1), σ2) else ob2 (f_X4_isCalm σ2 x1) (fun b4 σ3 => if b4 = true then some (x1, σ3) else lt (x1 + 1) (fun x5 => rec2 x5 σ3))
def f_X4_careful_L2   (x1 : Int32) (σ2 : MM) : Option (Int32 × MM) :=
  lp (fun _ _ => none) (f_X4_careful_L2_b  ) FU x1 σ2
def f_X4_careful (σ : MM) : Option (Int32 × MM) :=
  f_X4_careful_L2 0 σ
set_option maxHeartbeats 4000000 in
set_option maxRecDepth 100000 in
theorem c_X4_careful (l : Launch) (ev : EV) (ad : Nat → Nat) (σ : MM)   (r : Int32) (σ' : MM) (h : f_X4_careful σ = some (r, σ')) : Ct l yX4_careful prog_6_method_73_code 2 (Option.some Jvm.ClassFile.FieldType.int) (rmk 5 111) ev 13 ad (mw ev ad σ) (mw ev ad σ') [.ref (ad 0)] (some (.int r)) := by
  refine Ct.of (by decide +kernel) (Nat.le_of_ble_eq_true rfl) ?_
  intro p e s m args below meth c Qc C hap hP hend ls hl
  have hAA : ∀ j, j < 13 → inA ad 13 (ad j) := fun j hj => ⟨j, hj, rfl⟩
  have hx := C.1
  have hb := C.2.1
  have hl : lv_has ls 2 [(0, .ref (ad 0))] := hl
  have h := (f_X4_careful.eq_1 _ ).symm.trans h
  refine lv_iconst (v := 0) hx hb dX4_careful_0 (by decide) ?_
  refine lv_istore_n (lv' := [(1, .int 0), (0, .ref (ad 0))]) hx hb dX4_careful_1 rfl hl (by decide) rfl (fun ls hl => ?_)
  have hL2 : ∀ (n : Nat) (x1 : Int32) (σ2 : MM) (H : Heap) (locs : List Loc) (ls : Array Slot), lp (fun _ _ => none) (f_X4_careful_L2_b  ) n x1 σ2 = some (r, σ') → PS ev 13 ad (mw ev ad σ2) (inA ad 13) s H locs → lv_has ls 2 [(0, .ref (ad 0)), (1, .int x1)] → WW ev p l e (rmk 5 111) s m args below meth c Qc ad 13 H locs 2 ls [] := by
    intro n
    induction n with
    | zero =>
      intro x1 σ2 H locs ls h; exact k_none h
    | succ n ih =>
      intro x1 σ2 H locs ls h hP hl
      have h : f_X4_careful_L2_b   (lp (fun _ _ => none) (f_X4_careful_L2_b  ) n) x1 σ2 = some (r, σ') := h
      have h := (f_X4_careful_L2_b.eq_1 _ _ _ ).symm.trans h
      refine lv_iload_n hx hb dX4_careful_2 rfl (lv_at hl 1 rfl) ?_
      refine lv_aload_n hx hb dX4_careful_3 rfl (lv_at hl 0 rfl) ?_
      refine k_callVi C hP hap hAA (c_X4_edges l ev ad σ2   _ rfl) Emb.same hap gz_X4_edges qML_RX4_107 qIM_yX4_edges qSE_yX4_edges ⟨(Nat.le_of_ble_eq_true rfl), (Nat.le_of_ble_eq_true rfl)⟩ (q0 := 0) rfl (by decide) rfl rfl rfl rfl hl.1 rfl (Nat.le_of_ble_eq_true rfl) dX4_careful_4 ⟨Nat.le_refl _, Nat.le_refl _⟩ (fun H locs hP => ?_)
      refine lv_icmp_ge (tgt := 26) hx hb dX4_careful_7 (by decide) (fun c7 => ?_) (fun c7 => ?_)
      · have h := k_if c7 h
        refine lv_iconst (v := (-1)) hx hb dX4_careful_26 (by decide) ?_
        exact e_iret C hend hP (k_some2 h).1 (congrArg (mw ev ad) (k_some2 h).2) dX4_careful_27
      · have h := k_nf c7 h
        refine lv_aload_n hx hb dX4_careful_10 rfl (lv_at hl 0 rfl) ?_
        refine lv_iload_n hx hb dX4_careful_11 rfl (lv_at hl 1 rfl) ?_
        obtain ⟨b4, σ3, h1, h⟩ := k_ob2 h
        refine k_callVi C hP hap hAA (c_X4_isCalm l ev ad σ2 x1   _ _ h1) Emb.same hap gz_X4_isCalm qML_RX4_249 qIM_yX4_isCalm qSE_yX4_isCalm ⟨(Nat.le_of_ble_eq_true rfl), (Nat.le_of_ble_eq_true rfl)⟩ (q0 := 0) rfl (by decide) rfl rfl rfl rfl hl.1 rfl (Nat.le_of_ble_eq_true rfl) dX4_careful_12 ⟨Nat.le_refl _, Nat.le_refl _⟩ (fun H locs hP => ?_)
        refine r_ifz_eq (tgt := 20) hx hb dX4_careful_15 (by decide) (fun c15 => ?_) (fun c15 => ?_)
        · have h := k_nf c15 h
          obtain ⟨x5, ex5, h⟩ := k_ltx h
          refine lv_iinc (v := x5) (lv' := [(1, .int x5), (0, .ref (ad 0))]) hx hb dX4_careful_20 hl (k := 1) rfl (by rw [ex5]; rfl) (by decide) rfl (fun ls hl => ?_)
          refine lv_goto (tgt := 2) hx hb dX4_careful_23 (by decide) ?_
          exact ih _ _ _ _ _ h hP (lv_sub hl [1, 0] rfl)
        · have h := k_if c15 h
          refine lv_iload_n hx hb dX4_careful_18 rfl (lv_at hl 1 rfl) ?_
          exact e_iret C hend hP (k_some2 h).1 (congrArg (mw ev ad) (k_some2 h).2) dX4_careful_19
  exact hL2 FU _ _ _ _ _ h hP (lv_sub hl [1, 0] rfl)
def f_X4_draw (σ : MM) (a1 : Int32) : Option (Int32 × MM) :=
  lt (m_seed' σ (((m_seed σ) * 1103515245) + 12345)) (fun σ1 => gd (nz a1) (some ((irem (iushr (m_seed σ1) 16) a1), σ1)))
set_option maxHeartbeats 4000000 in
set_option maxRecDepth 100000 in
theorem c_X4_draw (l : Launch) (ev : EV) (ad : Nat → Nat) (σ : MM) (a1 : Int32)   (r : Int32) (σ' : MM) (h : f_X4_draw σ a1 = some (r, σ')) : Ct l yX4_draw prog_6_method_70_code 2 (Option.some Jvm.ClassFile.FieldType.int) (rmk 0 0) ev 13 ad (mw ev ad σ) (mw ev ad σ') [.ref (ad 0), .int a1] (some (.int r)) := by
  refine Ct.of (by decide +kernel) (Nat.le_of_ble_eq_true rfl) ?_
  intro p e s m args below meth c Qc C hap hP hend ls hl
  have hAA : ∀ j, j < 13 → inA ad 13 (ad j) := fun j hj => ⟨j, hj, rfl⟩
  have hx := C.1
  have hb := C.2.1
  have hl : lv_has ls 2 [(0, .ref (ad 0)), (1, .int a1)] := hl
  have h := (f_X4_draw.eq_1 _ _ ).symm.trans h
  refine lv_aload_n hx hb dX4_draw_0 rfl (lv_at hl 0 rfl) ?_
  refine lv_aload_n hx hb dX4_draw_1 rfl (lv_at hl 0 rfl) ?_
  refine r_get C hP (ci := 4) rfl uin_X4 10 (by decide) 0 (by decide) rfl qFL_RX4_48 rfl rfl dX4_draw_2 ?_
  refine lv_ldc (v := 1103515245) hx hb C.2.2.2.2.2.1 (C.2.2.2.2.1 _ qCT_RX4_245) dX4_draw_5 ?_
  refine lv_imul hx hb dX4_draw_7 ?_
  refine lv_sipush (v := 12345) hx hb dX4_draw_8 (by decide) ?_
  refine lv_iadd hx hb dX4_draw_11 ?_
  obtain ⟨σ1, eσ1, h⟩ := k_ltx h
  refine pt_M_X4_seed C hP hap hAA eσ1 qFL_RX4_48 dX4_draw_12 (fun H locs hP => ?_)
  refine lv_aload_n hx hb dX4_draw_15 rfl (lv_at hl 0 rfl) ?_
  refine r_get C hP (ci := 4) rfl uin_X4 10 (by decide) 0 (by decide) rfl qFL_RX4_48 rfl rfl dX4_draw_16 ?_
  refine lv_bipush (v := 16) hx hb dX4_draw_19 (by decide) ?_
  refine r_iushr hx hb dX4_draw_21 ?_
  refine lv_iload_n hx hb dX4_draw_22 rfl (lv_at hl 1 rfl) ?_
  obtain ⟨hg, h⟩ := k_gd h
  refine r_irem hx hb dX4_draw_23 (nz_ne hg) ?_
  exact e_iret C hend hP (k_some2 h).1 (congrArg (mw ev ad) (k_some2 h).2) dX4_draw_24
def f_X4_chosen_b82  (x4 : Int32) (x5 : Int32) (σ6 : MM) : Option (Int32 × MM) :=
  ob (f_X4_digs σ6 x5 x4) (fun x7 => if x7 = (-1) then ob (f_X4_ith σ6 0) (fun x8 => some (x8, σ6)) else some (x7, σ6))
def f_X4_chosen (σ : MM) (a1 : Int32) : Option (Int32 × MM) :=
  ob (f_X4_howMany σ) (fun x1 => if x1 = 0 then some ((-1), σ) else gd (inb a1 6) (if ((m_kind σ) (Int32.toNatClampNeg a1)) = 1 then ob (f_X4_shuts σ) (fun x2 => if x2 = (-1) then ob (f_X4_ith σ 0) (fun x3 => some (x3, σ)) else some (x2, σ)) else if ((m_kind σ) (Int32.toNatClampNeg a1)) = 2 then gd (inb a1 6) (gd (inb a1 6) (if ((m_kind σ) (Int32.toNatClampNeg a1)) = 4 then f_X4_chosen_b82 1 (((m_own σ) (Int32.toNatClampNeg a1))) σ else f_X4_chosen_b82 0 (((m_own σ) (Int32.toNatClampNeg a1))) σ)) else if ((m_kind σ) (Int32.toNatClampNeg a1)) = 3 then ob (f_X4_shuts σ) (fun x9 => if x9 = (-1) then ob2 (f_X4_careful σ) (fun x12 σ11 => if x12 = (-1) then ob (f_X4_ith σ11 0) (fun x13 => some (x13, σ11)) else some (x12, σ11)) else if x9 = (-1) then ob (f_X4_ith σ 0) (fun x10 => some (x10, σ)) else some (x9, σ)) else if ((m_kind σ) (Int32.toNatClampNeg a1)) = 4 then gd (inb a1 6) (gd (inb a1 6) (if ((m_kind σ) (Int32.toNatClampNeg a1)) = 4 then f_X4_chosen_b82 1 (((m_own σ) (Int32.toNatClampNeg a1))) σ else f_X4_chosen_b82 0 (((m_own σ) (Int32.toNatClampNeg a1))) σ)) else if ((m_kind σ) (Int32.toNatClampNeg a1)) = 5 then ob2 (f_X4_draw σ x1) (fun x15 σ14 => ob (f_X4_ith σ14 x15) (fun x16 => some (x16, σ14))) else ob (f_X4_ith σ 0) (fun x17 => some (x17, σ))))
set_option maxHeartbeats 4000000 in
set_option maxRecDepth 100000 in
theorem c_X4_chosen (l : Launch) (ev : EV) (ad : Nat → Nat) (σ : MM) (a1 : Int32)   (r : Int32) (σ' : MM) (h : f_X4_chosen σ a1 = some (r, σ')) : Ct l yX4_chosen prog_6_method_75_code 4 (Option.some Jvm.ClassFile.FieldType.int) (rmk 6 134) ev 13 ad (mw ev ad σ) (mw ev ad σ') [.ref (ad 0), .int a1] (some (.int r)) := by
  refine Ct.of (by decide +kernel) (Nat.le_of_ble_eq_true rfl) ?_
  intro p e s m args below meth c Qc C hap hP hend ls hl
  have hAA : ∀ j, j < 13 → inA ad 13 (ad j) := fun j hj => ⟨j, hj, rfl⟩
  have hx := C.1
  have hb := C.2.1
  have hl : lv_has ls 4 [(0, .ref (ad 0)), (1, .int a1)] := hl
  have h := (f_X4_chosen.eq_1 _ _ ).symm.trans h
  have hB82 : ∀ (x4 : Int32) (x5 : Int32) (σ6 : MM) (H : Heap) (locs : List Loc) (ls : Array Slot), f_X4_chosen_b82  x4 x5 σ6 = some (r, σ') → PS ev 13 ad (mw ev ad σ6) (inA ad 13) s H locs → lv_has ls 4 [(0, .ref (ad 0))] → WW ev p l e (rmk 6 134) s m args below meth c Qc ad 13 H locs 82 ls [.int x4, .int x5, .ref (ad 0)] := by
    intro x4 x5 σ6 H locs ls h hP hl
    have h := (f_X4_chosen_b82.eq_1 _ _ _ ).symm.trans h
    obtain ⟨x7, h1, h⟩ := k_ob h
    refine k_callVi C hP hap hAA (c_X4_digs l ev ad σ6 x5 x4   _ h1) Emb.same hap gz_X4_digs qML_RX4_255 qIM_yX4_digs qSE_yX4_digs ⟨(Nat.le_of_ble_eq_true rfl), (Nat.le_of_ble_eq_true rfl)⟩ (q0 := 0) rfl (by decide) rfl rfl rfl rfl hl.1 rfl (Nat.le_of_ble_eq_true rfl) dX4_chosen_82 ⟨Nat.le_refl _, Nat.le_refl _⟩ (fun H locs hP => ?_)
    refine lv_istore_n (lv' := [(2, .int x7), (0, .ref (ad 0))]) hx hb dX4_chosen_85 rfl hl (by decide) rfl (fun ls hl => ?_)
    refine lv_goto (tgt := 117) hx hb dX4_chosen_86 (by decide) ?_
    refine lv_iload_n hx hb dX4_chosen_117 rfl (lv_at hl 0 rfl) ?_
    refine lv_iconst (v := (-1)) hx hb dX4_chosen_118 (by decide) ?_
    refine lv_icmp_ne (tgt := 130) hx hb dX4_chosen_119 (by decide) (fun c119 => ?_) (fun c119 => ?_)
    · have h := k_nf c119 h
      refine lv_iload_n hx hb dX4_chosen_130 rfl (lv_at hl 0 rfl) ?_
      exact e_iret C hend hP (k_some2 h).1 (congrArg (mw ev ad) (k_some2 h).2) dX4_chosen_131
    · have h := k_if c119 h
      refine lv_aload_n hx hb dX4_chosen_122 rfl (lv_at hl 1 rfl) ?_
      refine lv_iconst (v := 0) hx hb dX4_chosen_123 (by decide) ?_
      obtain ⟨x8, h1, h⟩ := k_ob h
      refine k_callVi C hP hap hAA (c_X4_ith l ev ad σ6 0   _ h1) Emb.same hap gz_X4_ith qML_RX4_208 qIM_yX4_ith qSE_yX4_ith ⟨(Nat.le_of_ble_eq_true rfl), (Nat.le_of_ble_eq_true rfl)⟩ (q0 := 0) rfl (by decide) rfl rfl rfl rfl hl.1 rfl (Nat.le_of_ble_eq_true rfl) dX4_chosen_124 ⟨Nat.le_refl _, Nat.le_refl _⟩ (fun H locs hP => ?_)
      refine lv_goto (tgt := 131) hx hb dX4_chosen_127 (by decide) ?_
      exact e_iret C hend hP (k_some2 h).1 (congrArg (mw ev ad) (k_some2 h).2) dX4_chosen_131
  refine lv_iconst (v := (-1)) hx hb dX4_chosen_0 (by decide) ?_
  refine lv_istore_n (lv' := [(2, .int (-1)), (0, .ref (ad 0)), (1, .int a1)]) hx hb dX4_chosen_1 rfl hl (by decide) rfl (fun ls hl => ?_)
  refine lv_aload_n hx hb dX4_chosen_2 rfl (lv_at hl 1 rfl) ?_
  obtain ⟨x1, h1, h⟩ := k_ob h
  refine k_callVi C hP hap hAA (c_X4_howMany l ev ad σ   _ h1) Emb.same hap gz_X4_howMany qML_RX4_94 qIM_yX4_howMany qSE_yX4_howMany ⟨(Nat.le_of_ble_eq_true rfl), (Nat.le_of_ble_eq_true rfl)⟩ (q0 := 0) rfl (by decide) rfl rfl rfl rfl hl.1 rfl (Nat.le_of_ble_eq_true rfl) dX4_chosen_3 ⟨Nat.le_refl _, Nat.le_refl _⟩ (fun H locs hP => ?_)
  refine lv_istore_n (lv' := [(3, .int x1), (2, .int (-1)), (0, .ref (ad 0)), (1, .int a1)]) hx hb dX4_chosen_6 rfl hl (by decide) rfl (fun ls hl => ?_)
  refine lv_iload_n hx hb dX4_chosen_7 rfl (lv_at hl 0 rfl) ?_
  refine lv_if_ne (tgt := 13) hx hb dX4_chosen_8 (by decide) (fun c8 => ?_) (fun c8 => ?_)
  · have h := k_nf c8 h
    refine lv_aload_n hx hb dX4_chosen_13 rfl (lv_at hl 2 rfl) ?_
    refine r_get C hP (ci := 4) rfl uin_X4 8 (by decide) 0 (by decide) rfl qFL_RX4_20 rfl rfl dX4_chosen_14 ?_
    refine lv_iload_n hx hb dX4_chosen_17 rfl (lv_at hl 3 rfl) ?_
    obtain ⟨hg, h⟩ := k_gd h
    refine r_iald C hP 4 (by decide) rfl hg dX4_chosen_18 ?_
    by_cases cs1 : ((m_kind σ) (Int32.toNatClampNeg a1)) = 1
    · have h := k_if cs1 h
      refine r_tabIn (tgt := 52) (off := 33) (i := 1) hx hb dX4_chosen_19 cs1 (by decide) (by decide) (by decide) (by decide) ?_
      refine lv_aload_n hx hb dX4_chosen_52 rfl (lv_at hl 2 rfl) ?_
      obtain ⟨x2, h1, h⟩ := k_ob h
      refine k_callVi C hP hap hAA (c_X4_shuts l ev ad σ   _ h1) Emb.same hap gz_X4_shuts qML_RX4_252 qIM_yX4_shuts qSE_yX4_shuts ⟨(Nat.le_of_ble_eq_true rfl), (Nat.le_of_ble_eq_true rfl)⟩ (q0 := 0) rfl (by decide) rfl rfl rfl rfl hl.1 rfl (Nat.le_of_ble_eq_true rfl) dX4_chosen_53 ⟨Nat.le_refl _, Nat.le_refl _⟩ (fun H locs hP => ?_)
      refine lv_istore_n (lv' := [(2, .int x2), (3, .int x1), (0, .ref (ad 0)), (1, .int a1)]) hx hb dX4_chosen_56 rfl hl (by decide) rfl (fun ls hl => ?_)
      refine lv_goto (tgt := 117) hx hb dX4_chosen_57 (by decide) ?_
      refine lv_iload_n hx hb dX4_chosen_117 rfl (lv_at hl 0 rfl) ?_
      refine lv_iconst (v := (-1)) hx hb dX4_chosen_118 (by decide) ?_
      refine lv_icmp_ne (tgt := 130) hx hb dX4_chosen_119 (by decide) (fun c119 => ?_) (fun c119 => ?_)
      · have h := k_nf c119 h
        refine lv_iload_n hx hb dX4_chosen_130 rfl (lv_at hl 0 rfl) ?_
        exact e_iret C hend hP (k_some2 h).1 (congrArg (mw ev ad) (k_some2 h).2) dX4_chosen_131
      · have h := k_if c119 h
        refine lv_aload_n hx hb dX4_chosen_122 rfl (lv_at hl 2 rfl) ?_
        refine lv_iconst (v := 0) hx hb dX4_chosen_123 (by decide) ?_
        obtain ⟨x3, h1, h⟩ := k_ob h
        refine k_callVi C hP hap hAA (c_X4_ith l ev ad σ 0   _ h1) Emb.same hap gz_X4_ith qML_RX4_208 qIM_yX4_ith qSE_yX4_ith ⟨(Nat.le_of_ble_eq_true rfl), (Nat.le_of_ble_eq_true rfl)⟩ (q0 := 0) rfl (by decide) rfl rfl rfl rfl hl.1 rfl (Nat.le_of_ble_eq_true rfl) dX4_chosen_124 ⟨Nat.le_refl _, Nat.le_refl _⟩ (fun H locs hP => ?_)
        refine lv_goto (tgt := 131) hx hb dX4_chosen_127 (by decide) ?_
        exact e_iret C hend hP (k_some2 h).1 (congrArg (mw ev ad) (k_some2 h).2) dX4_chosen_131
    · have h := k_nf cs1 h
      by_cases cs2 : ((m_kind σ) (Int32.toNatClampNeg a1)) = 2
      · have h := k_if cs2 h
        refine r_tabIn (tgt := 60) (off := 41) (i := 2) hx hb dX4_chosen_19 cs2 (by decide) (by decide) (by decide) (by decide) ?_
        refine lv_aload_n hx hb dX4_chosen_60 rfl (lv_at hl 2 rfl) ?_
        refine lv_aload_n hx hb dX4_chosen_61 rfl (lv_at hl 2 rfl) ?_
        refine r_get C hP (ci := 4) rfl uin_X4 9 (by decide) 0 (by decide) rfl qFL_RX4_23 rfl rfl dX4_chosen_62 ?_
        refine lv_iload_n hx hb dX4_chosen_65 rfl (lv_at hl 3 rfl) ?_
        obtain ⟨hg, h⟩ := k_gd h
        refine r_iald C hP 5 (by decide) rfl hg dX4_chosen_66 ?_
        refine lv_aload_n hx hb dX4_chosen_67 rfl (lv_at hl 2 rfl) ?_
        refine r_get C hP (ci := 4) rfl uin_X4 8 (by decide) 0 (by decide) rfl qFL_RX4_20 rfl rfl dX4_chosen_68 ?_
        refine lv_iload_n hx hb dX4_chosen_71 rfl (lv_at hl 3 rfl) ?_
        obtain ⟨hg, h⟩ := k_gd h
        refine r_iald C hP 4 (by decide) rfl hg dX4_chosen_72 ?_
        refine lv_iconst (v := 4) hx hb dX4_chosen_73 (by decide) ?_
        refine lv_icmp_ne (tgt := 81) hx hb dX4_chosen_74 (by decide) (fun c74 => ?_) (fun c74 => ?_)
        · have h := k_nf c74 h
          refine lv_iconst (v := 0) hx hb dX4_chosen_81 (by decide) ?_
          exact hB82 _ _ _ _ _ _ h hP (lv_sub hl [2] rfl)
        · have h := k_if c74 h
          refine lv_iconst (v := 1) hx hb dX4_chosen_77 (by decide) ?_
          refine lv_goto (tgt := 82) hx hb dX4_chosen_78 (by decide) ?_
          exact hB82 _ _ _ _ _ _ h hP (lv_sub hl [2] rfl)
      · have h := k_nf cs2 h
        by_cases cs3 : ((m_kind σ) (Int32.toNatClampNeg a1)) = 3
        · have h := k_if cs3 h
          refine r_tabIn (tgt := 89) (off := 70) (i := 3) hx hb dX4_chosen_19 cs3 (by decide) (by decide) (by decide) (by decide) ?_
          refine lv_aload_n hx hb dX4_chosen_89 rfl (lv_at hl 2 rfl) ?_
          obtain ⟨x9, h1, h⟩ := k_ob h
          refine k_callVi C hP hap hAA (c_X4_shuts l ev ad σ   _ h1) Emb.same hap gz_X4_shuts qML_RX4_252 qIM_yX4_shuts qSE_yX4_shuts ⟨(Nat.le_of_ble_eq_true rfl), (Nat.le_of_ble_eq_true rfl)⟩ (q0 := 0) rfl (by decide) rfl rfl rfl rfl hl.1 rfl (Nat.le_of_ble_eq_true rfl) dX4_chosen_90 ⟨Nat.le_refl _, Nat.le_refl _⟩ (fun H locs hP => ?_)
          refine lv_istore_n (lv' := [(2, .int x9), (3, .int x1), (0, .ref (ad 0)), (1, .int a1)]) hx hb dX4_chosen_93 rfl hl (by decide) rfl (fun ls hl => ?_)
          refine lv_iload_n hx hb dX4_chosen_94 rfl (lv_at hl 0 rfl) ?_
          refine lv_iconst (v := (-1)) hx hb dX4_chosen_95 (by decide) ?_
          refine lv_icmp_ne (tgt := 117) hx hb dX4_chosen_96 (by decide) (fun c96 => ?_) (fun c96 => ?_)
          · have h := k_nf c96 h
            refine lv_iload_n hx hb dX4_chosen_117 rfl (lv_at hl 0 rfl) ?_
            refine lv_iconst (v := (-1)) hx hb dX4_chosen_118 (by decide) ?_
            refine lv_icmp_ne (tgt := 130) hx hb dX4_chosen_119 (by decide) (fun c119 => ?_) (fun c119 => ?_)
            · have h := k_nf c119 h
              refine lv_iload_n hx hb dX4_chosen_130 rfl (lv_at hl 0 rfl) ?_
              exact e_iret C hend hP (k_some2 h).1 (congrArg (mw ev ad) (k_some2 h).2) dX4_chosen_131
            · have h := k_if c119 h
              refine lv_aload_n hx hb dX4_chosen_122 rfl (lv_at hl 2 rfl) ?_
              refine lv_iconst (v := 0) hx hb dX4_chosen_123 (by decide) ?_
              obtain ⟨x10, h1, h⟩ := k_ob h
              refine k_callVi C hP hap hAA (c_X4_ith l ev ad σ 0   _ h1) Emb.same hap gz_X4_ith qML_RX4_208 qIM_yX4_ith qSE_yX4_ith ⟨(Nat.le_of_ble_eq_true rfl), (Nat.le_of_ble_eq_true rfl)⟩ (q0 := 0) rfl (by decide) rfl rfl rfl rfl hl.1 rfl (Nat.le_of_ble_eq_true rfl) dX4_chosen_124 ⟨Nat.le_refl _, Nat.le_refl _⟩ (fun H locs hP => ?_)
              refine lv_goto (tgt := 131) hx hb dX4_chosen_127 (by decide) ?_
              exact e_iret C hend hP (k_some2 h).1 (congrArg (mw ev ad) (k_some2 h).2) dX4_chosen_131
          · have h := k_if c96 h
            refine lv_aload_n hx hb dX4_chosen_99 rfl (lv_at hl 2 rfl) ?_
            obtain ⟨x12, σ11, h1, h⟩ := k_ob2 h
            refine k_callVi C hP hap hAA (c_X4_careful l ev ad σ   _ _ h1) Emb.same hap gz_X4_careful qML_RX4_259 qIM_yX4_careful qSE_yX4_careful ⟨(Nat.le_of_ble_eq_true rfl), (Nat.le_of_ble_eq_true rfl)⟩ (q0 := 0) rfl (by decide) rfl rfl rfl rfl hl.1 rfl (Nat.le_of_ble_eq_true rfl) dX4_chosen_100 ⟨Nat.le_refl _, Nat.le_refl _⟩ (fun H locs hP => ?_)
            refine lv_istore_n (lv' := [(2, .int x12), (3, .int x1), (0, .ref (ad 0)), (1, .int a1)]) hx hb dX4_chosen_103 rfl hl (by decide) rfl (fun ls hl => ?_)
            refine lv_goto (tgt := 117) hx hb dX4_chosen_104 (by decide) ?_
            refine lv_iload_n hx hb dX4_chosen_117 rfl (lv_at hl 0 rfl) ?_
            refine lv_iconst (v := (-1)) hx hb dX4_chosen_118 (by decide) ?_
            refine lv_icmp_ne (tgt := 130) hx hb dX4_chosen_119 (by decide) (fun c119 => ?_) (fun c119 => ?_)
            · have h := k_nf c119 h
              refine lv_iload_n hx hb dX4_chosen_130 rfl (lv_at hl 0 rfl) ?_
              exact e_iret C hend hP (k_some2 h).1 (congrArg (mw ev ad) (k_some2 h).2) dX4_chosen_131
            · have h := k_if c119 h
              refine lv_aload_n hx hb dX4_chosen_122 rfl (lv_at hl 2 rfl) ?_
              refine lv_iconst (v := 0) hx hb dX4_chosen_123 (by decide) ?_
              obtain ⟨x13, h1, h⟩ := k_ob h
              refine k_callVi C hP hap hAA (c_X4_ith l ev ad σ11 0   _ h1) Emb.same hap gz_X4_ith qML_RX4_208 qIM_yX4_ith qSE_yX4_ith ⟨(Nat.le_of_ble_eq_true rfl), (Nat.le_of_ble_eq_true rfl)⟩ (q0 := 0) rfl (by decide) rfl rfl rfl rfl hl.1 rfl (Nat.le_of_ble_eq_true rfl) dX4_chosen_124 ⟨Nat.le_refl _, Nat.le_refl _⟩ (fun H locs hP => ?_)
              refine lv_goto (tgt := 131) hx hb dX4_chosen_127 (by decide) ?_
              exact e_iret C hend hP (k_some2 h).1 (congrArg (mw ev ad) (k_some2 h).2) dX4_chosen_131
        · have h := k_nf cs3 h
          by_cases cs4 : ((m_kind σ) (Int32.toNatClampNeg a1)) = 4
          · have h := k_if cs4 h
            refine r_tabIn (tgt := 60) (off := 41) (i := 4) hx hb dX4_chosen_19 cs4 (by decide) (by decide) (by decide) (by decide) ?_
            refine lv_aload_n hx hb dX4_chosen_60 rfl (lv_at hl 2 rfl) ?_
            refine lv_aload_n hx hb dX4_chosen_61 rfl (lv_at hl 2 rfl) ?_
            refine r_get C hP (ci := 4) rfl uin_X4 9 (by decide) 0 (by decide) rfl qFL_RX4_23 rfl rfl dX4_chosen_62 ?_
            refine lv_iload_n hx hb dX4_chosen_65 rfl (lv_at hl 3 rfl) ?_
            obtain ⟨hg, h⟩ := k_gd h
            refine r_iald C hP 5 (by decide) rfl hg dX4_chosen_66 ?_
            refine lv_aload_n hx hb dX4_chosen_67 rfl (lv_at hl 2 rfl) ?_
            refine r_get C hP (ci := 4) rfl uin_X4 8 (by decide) 0 (by decide) rfl qFL_RX4_20 rfl rfl dX4_chosen_68 ?_
            refine lv_iload_n hx hb dX4_chosen_71 rfl (lv_at hl 3 rfl) ?_
            obtain ⟨hg, h⟩ := k_gd h
            refine r_iald C hP 4 (by decide) rfl hg dX4_chosen_72 ?_
            refine lv_iconst (v := 4) hx hb dX4_chosen_73 (by decide) ?_
            refine lv_icmp_ne (tgt := 81) hx hb dX4_chosen_74 (by decide) (fun c74 => ?_) (fun c74 => ?_)
            · have h := k_nf c74 h
              refine lv_iconst (v := 0) hx hb dX4_chosen_81 (by decide) ?_
              exact hB82 _ _ _ _ _ _ h hP (lv_sub hl [2] rfl)
            · have h := k_if c74 h
              refine lv_iconst (v := 1) hx hb dX4_chosen_77 (by decide) ?_
              refine lv_goto (tgt := 82) hx hb dX4_chosen_78 (by decide) ?_
              exact hB82 _ _ _ _ _ _ h hP (lv_sub hl [2] rfl)
          · have h := k_nf cs4 h
            by_cases cs5 : ((m_kind σ) (Int32.toNatClampNeg a1)) = 5
            · have h := k_if cs5 h
              refine r_tabIn (tgt := 107) (off := 88) (i := 5) hx hb dX4_chosen_19 cs5 (by decide) (by decide) (by decide) (by decide) ?_
              refine lv_aload_n hx hb dX4_chosen_107 rfl (lv_at hl 2 rfl) ?_
              refine lv_aload_n hx hb dX4_chosen_108 rfl (lv_at hl 2 rfl) ?_
              refine lv_iload_n hx hb dX4_chosen_109 rfl (lv_at hl 0 rfl) ?_
              obtain ⟨x15, σ14, h1, h⟩ := k_ob2 h
              refine k_callVi C hP hap hAA (c_X4_draw l ev ad σ x1   _ _ h1) Emb.same hap gz_X4_draw qML_RX4_262 qIM_yX4_draw qSE_yX4_draw ⟨(Nat.le_of_ble_eq_true rfl), (Nat.le_of_ble_eq_true rfl)⟩ (q0 := 0) rfl (by decide) rfl rfl rfl rfl hl.1 rfl (Nat.le_of_ble_eq_true rfl) dX4_chosen_110 ⟨Nat.le_refl _, Nat.le_refl _⟩ (fun H locs hP => ?_)
              obtain ⟨x16, h1, h⟩ := k_ob h
              refine k_callVi C hP hap hAA (c_X4_ith l ev ad σ14 x15   _ h1) Emb.same hap gz_X4_ith qML_RX4_208 qIM_yX4_ith qSE_yX4_ith ⟨(Nat.le_of_ble_eq_true rfl), (Nat.le_of_ble_eq_true rfl)⟩ (q0 := 0) rfl (by decide) rfl rfl rfl rfl hl.1 rfl (Nat.le_of_ble_eq_true rfl) dX4_chosen_113 ⟨Nat.le_refl _, Nat.le_refl _⟩ (fun H locs hP => ?_)
              exact e_iret C hend hP (k_some2 h).1 (congrArg (mw ev ad) (k_some2 h).2) dX4_chosen_116
            · have h := k_nf cs5 h
              refine r_tabOut (tgt := 117) hx hb dX4_chosen_19 (fun i h1 h2 => by
                have h3 : i = 1 ∨ i = 2 ∨ i = 3 ∨ i = 4 ∨ i = 5 := by omega
                rcases h3 with rfl | rfl | rfl | rfl | rfl
                · exact cs1
                · exact cs2
                · exact cs3
                · exact cs4
                · exact cs5
                ) (by decide) ?_
              refine lv_iload_n hx hb dX4_chosen_117 rfl (lv_at hl 1 rfl) ?_
              refine lv_iconst (v := (-1)) hx hb dX4_chosen_118 (by decide) ?_
              refine lv_icmp_ne (tgt := 130) hx hb dX4_chosen_119 (by decide) (fun c119 => ?_) (fun c119 => ?_)
              · exact absurd (by decide) c119
              · refine lv_aload_n hx hb dX4_chosen_122 rfl (lv_at hl 2 rfl) ?_
                refine lv_iconst (v := 0) hx hb dX4_chosen_123 (by decide) ?_
                obtain ⟨x17, h1, h⟩ := k_ob h
                refine k_callVi C hP hap hAA (c_X4_ith l ev ad σ 0   _ h1) Emb.same hap gz_X4_ith qML_RX4_208 qIM_yX4_ith qSE_yX4_ith ⟨(Nat.le_of_ble_eq_true rfl), (Nat.le_of_ble_eq_true rfl)⟩ (q0 := 0) rfl (by decide) rfl rfl rfl rfl hl.1 rfl (Nat.le_of_ble_eq_true rfl) dX4_chosen_124 ⟨Nat.le_refl _, Nat.le_refl _⟩ (fun H locs hP => ?_)
                refine lv_goto (tgt := 131) hx hb dX4_chosen_127 (by decide) ?_
                exact e_iret C hend hP (k_some2 h).1 (congrArg (mw ev ad) (k_some2 h).2) dX4_chosen_131
  · have h := k_if c8 h
    refine lv_iconst (v := (-1)) hx hb dX4_chosen_11 (by decide) ?_
    exact e_iret C hend hP (k_some2 h).1 (congrArg (mw ev ad) (k_some2 h).2) dX4_chosen_12
def f_X4_choiceOf (σ : MM) (a1 : Int32) : Option (Int32 × MM) :=
  lt (m_seed σ) (fun x1 => ob2 (f_X4_chosen σ a1) (fun x3 σ2 => lt (m_seed' σ2 x1) (fun σ4 => some (x3, σ4))))
set_option maxHeartbeats 4000000 in
set_option maxRecDepth 100000 in
theorem c_X4_choiceOf (l : Launch) (ev : EV) (ad : Nat → Nat) (σ : MM) (a1 : Int32)   (r : Int32) (σ' : MM) (h : f_X4_choiceOf σ a1 = some (r, σ')) : Ct l yX4_choiceOf prog_6_method_76_code 4 (Option.some Jvm.ClassFile.FieldType.int) (rmk 7 157) ev 13 ad (mw ev ad σ) (mw ev ad σ') [.ref (ad 0), .int a1] (some (.int r)) := by
  refine Ct.of (by decide +kernel) (Nat.le_of_ble_eq_true rfl) ?_
  intro p e s m args below meth c Qc C hap hP hend ls hl
  have hAA : ∀ j, j < 13 → inA ad 13 (ad j) := fun j hj => ⟨j, hj, rfl⟩
  have hx := C.1
  have hb := C.2.1
  have hl : lv_has ls 4 [(0, .ref (ad 0)), (1, .int a1)] := hl
  have h := (f_X4_choiceOf.eq_1 _ _ ).symm.trans h
  refine lv_aload_n hx hb dX4_choiceOf_0 rfl (lv_at hl 0 rfl) ?_
  refine r_get C hP (ci := 4) rfl uin_X4 10 (by decide) 0 (by decide) rfl qFL_RX4_48 rfl rfl dX4_choiceOf_1 ?_
  refine lv_topi (fun x1 ex1 => ?_)
  have h := k_lt ex1 h
  refine lv_istore_n (lv' := [(2, .int x1), (0, .ref (ad 0)), (1, .int a1)]) hx hb dX4_choiceOf_4 rfl hl (by decide) rfl (fun ls hl => ?_)
  refine lv_aload_n hx hb dX4_choiceOf_5 rfl (lv_at hl 1 rfl) ?_
  refine lv_iload_n hx hb dX4_choiceOf_6 rfl (lv_at hl 2 rfl) ?_
  obtain ⟨x3, σ2, h1, h⟩ := k_ob2 h
  refine k_callVi C hP hap hAA (c_X4_chosen l ev ad σ a1   _ _ h1) Emb.same hap gz_X4_chosen qML_RX4_265 qIM_yX4_chosen qSE_yX4_chosen ⟨(Nat.le_of_ble_eq_true rfl), (Nat.le_of_ble_eq_true rfl)⟩ (q0 := 0) rfl (by decide) rfl rfl rfl rfl hl.1 rfl (Nat.le_of_ble_eq_true rfl) dX4_choiceOf_7 ⟨Nat.le_refl _, Nat.le_refl _⟩ (fun H locs hP => ?_)
  refine lv_istore_n (lv' := [(3, .int x3), (2, .int x1), (0, .ref (ad 0)), (1, .int a1)]) hx hb dX4_choiceOf_10 rfl hl (by decide) rfl (fun ls hl => ?_)
  refine lv_aload_n hx hb dX4_choiceOf_11 rfl (lv_at hl 2 rfl) ?_
  refine lv_iload_n hx hb dX4_choiceOf_12 rfl (lv_at hl 1 rfl) ?_
  obtain ⟨σ4, eσ4, h⟩ := k_ltx h
  refine pt_M_X4_seed C hP hap hAA eσ4 qFL_RX4_48 dX4_choiceOf_13 (fun H locs hP => ?_)
  refine lv_iload_n hx hb dX4_choiceOf_16 rfl (lv_at hl 0 rfl) ?_
  exact e_iret C hend hP (k_some2 h).1 (congrArg (mw ev ad) (k_some2 h).2) dX4_choiceOf_17
def f_X4_says (σ : MM) (a1 : Int32) (a2 : Int32) : Option (Int32 × MM) :=
  if (f_X4_isShelf a1) = true then if (f_X4_within a2 0 5) = true then ob (f_X4_isRow σ a1) (fun b3 => if b3 = true then ob2 (f_X4_no σ (-3)) (fun x13 σ12 => some (x13, σ12)) else gd (inb a1 8) (if 0 ≤ ((m_holding σ) (Int32.toNatClampNeg a1)) then gd (inb a1 8) (lt (((m_holding σ) (Int32.toNatClampNeg a1)) - 10) (fun x4 => gd (inb x4 6) (if (f_X4_isUnder ((m_kind σ) (Int32.toNatClampNeg x4)) a2) = true then if a2 = 0 then gd (inb x4 6) (some (((m_own σ) (Int32.toNatClampNeg x4)), σ)) else if a2 = 5 then ob (f_X4_howMany σ) (fun x7 => some (x7, σ)) else ob2 (f_X4_choiceOf σ x4) (fun x6 σ5 => some (x6, σ5)) else ob2 (f_X4_no σ (-3)) (fun x9 σ8 => some (x9, σ8))))) else ob2 (f_X4_no σ (-4)) (fun x11 σ10 => some (x11, σ10)))) else ob2 (f_X4_no σ (-2)) (fun x15 σ14 => some (x15, σ14)) else ob2 (f_X4_no σ (-2)) (fun x2 σ1 => some (x2, σ1))
set_option maxHeartbeats 4000000 in
set_option maxRecDepth 100000 in
theorem c_X4_says (l : Launch) (ev : EV) (ad : Nat → Nat) (σ : MM) (a1 : Int32) (a2 : Int32)   (r : Int32) (σ' : MM) (h : f_X4_says σ a1 a2 = some (r, σ')) : Ct l yX4_says prog_6_method_18_code 4 (Option.some Jvm.ClassFile.FieldType.int) (rmk 8 180) ev 13 ad (mw ev ad σ) (mw ev ad σ') [.ref (ad 0), .int a1, .int a2] (some (.int r)) := by
  refine Ct.of (by decide +kernel) (Nat.le_of_ble_eq_true rfl) ?_
  intro p e s m args below meth c Qc C hap hP hend ls hl
  have hAA : ∀ j, j < 13 → inA ad 13 (ad j) := fun j hj => ⟨j, hj, rfl⟩
  have hx := C.1
  have hb := C.2.1
  have hl : lv_has ls 4 [(0, .ref (ad 0)), (1, .int a1), (2, .int a2)] := hl
  have h := (f_X4_says.eq_1 _ _ _ ).symm.trans h
  refine lv_iload_n hx hb dX4_says_0 rfl (lv_at hl 1 rfl) ?_
  refine k_callSi C hP hap hAA (c_X4_isShelf l ev ad a1   _ rfl) Emb.none (apart_0 _) gz_X4_isShelf qML_RX4_73 qSM_yX4_isShelf ⟨(Nat.le_of_ble_eq_true rfl), (Nat.le_of_ble_eq_true rfl)⟩ rfl hl.1 rfl (Nat.le_of_ble_eq_true rfl) dX4_says_1 ⟨Nat.le_refl _, Nat.le_refl _⟩ (fun H locs hP => ?_)
  refine r_ifz_eq (tgt := 16) hx hb dX4_says_4 (by decide) (fun c4 => ?_) (fun c4 => ?_)
  · have h := k_nf c4 h
    refine lv_aload_n hx hb dX4_says_16 rfl (lv_at hl 0 rfl) ?_
    refine lv_bipush (v := (-2)) hx hb dX4_says_17 (by decide) ?_
    obtain ⟨x2, σ1, h1, h⟩ := k_ob2 h
    refine k_callVi C hP hap hAA (c_X4_no l ev ad σ (-2)   _ _ h1) Emb.same hap gz_X4_no qML_RX4_56 qIM_yX4_no qSE_yX4_no ⟨(Nat.le_of_ble_eq_true rfl), (Nat.le_of_ble_eq_true rfl)⟩ (q0 := 0) rfl (by decide) rfl rfl rfl rfl hl.1 rfl (Nat.le_of_ble_eq_true rfl) dX4_says_19 ⟨Nat.le_refl _, Nat.le_refl _⟩ (fun H locs hP => ?_)
    exact e_iret C hend hP (k_some2 h).1 (congrArg (mw ev ad) (k_some2 h).2) dX4_says_22
  · have h := k_if c4 h
    refine lv_iload_n hx hb dX4_says_7 rfl (lv_at hl 2 rfl) ?_
    refine lv_iconst (v := 0) hx hb dX4_says_8 (by decide) ?_
    refine lv_iconst (v := 5) hx hb dX4_says_9 (by decide) ?_
    refine k_callSi C hP hap hAA (c_X4_within l ev ad a2 0 5   _ rfl) Emb.none (apart_0 _) gz_X4_within qML_RX4_63 qSM_yX4_within ⟨(Nat.le_of_ble_eq_true rfl), (Nat.le_of_ble_eq_true rfl)⟩ rfl hl.1 rfl (Nat.le_of_ble_eq_true rfl) dX4_says_10 ⟨Nat.le_refl _, Nat.le_refl _⟩ (fun H locs hP => ?_)
    refine r_ifz_ne (tgt := 23) hx hb dX4_says_13 (by decide) (fun c13 => ?_) (fun c13 => ?_)
    · have h := k_if c13 h
      refine lv_aload_n hx hb dX4_says_23 rfl (lv_at hl 0 rfl) ?_
      refine lv_iload_n hx hb dX4_says_24 rfl (lv_at hl 1 rfl) ?_
      obtain ⟨b3, h1, h⟩ := k_ob h
      refine k_callVi C hP hap hAA (c_X4_isRow l ev ad σ a1   _ h1) Emb.same hap gz_X4_isRow qML_RX4_77 qIM_yX4_isRow qSE_yX4_isRow ⟨(Nat.le_of_ble_eq_true rfl), (Nat.le_of_ble_eq_true rfl)⟩ (q0 := 0) rfl (by decide) rfl rfl rfl rfl hl.1 rfl (Nat.le_of_ble_eq_true rfl) dX4_says_25 ⟨Nat.le_refl _, Nat.le_refl _⟩ (fun H locs hP => ?_)
      refine r_ifz_eq (tgt := 38) hx hb dX4_says_28 (by decide) (fun c28 => ?_) (fun c28 => ?_)
      · have h := k_nf c28 h
        refine lv_aload_n hx hb dX4_says_38 rfl (lv_at hl 0 rfl) ?_
        refine r_get C hP (ci := 4) rfl uin_X4 17 (by decide) 0 (by decide) rfl qFL_RX4_29 rfl rfl dX4_says_39 ?_
        refine lv_iload_n hx hb dX4_says_42 rfl (lv_at hl 1 rfl) ?_
        obtain ⟨hg, h⟩ := k_gd h
        refine r_iald C hP 7 (by decide) rfl hg dX4_says_43 ?_
        refine lv_if_ge (tgt := 54) hx hb dX4_says_44 (by decide) (fun c44 => ?_) (fun c44 => ?_)
        · have h := k_if c44 h
          refine lv_aload_n hx hb dX4_says_54 rfl (lv_at hl 0 rfl) ?_
          refine r_get C hP (ci := 4) rfl uin_X4 17 (by decide) 0 (by decide) rfl qFL_RX4_29 rfl rfl dX4_says_55 ?_
          refine lv_iload_n hx hb dX4_says_58 rfl (lv_at hl 1 rfl) ?_
          obtain ⟨hg, h⟩ := k_gd h
          refine r_iald C hP 7 (by decide) rfl hg dX4_says_59 ?_
          refine lv_bipush (v := 10) hx hb dX4_says_60 (by decide) ?_
          refine lv_isub hx hb dX4_says_62 ?_
          refine lv_topi (fun x4 ex4 => ?_)
          have h := k_lt ex4 h
          refine lv_istore_n (lv' := [(3, .int x4), (0, .ref (ad 0)), (1, .int a1), (2, .int a2)]) hx hb dX4_says_63 rfl hl (by decide) rfl (fun ls hl => ?_)
          refine lv_aload_n hx hb dX4_says_64 rfl (lv_at hl 1 rfl) ?_
          refine r_get C hP (ci := 4) rfl uin_X4 8 (by decide) 0 (by decide) rfl qFL_RX4_20 rfl rfl dX4_says_65 ?_
          refine lv_iload_n hx hb dX4_says_68 rfl (lv_at hl 0 rfl) ?_
          obtain ⟨hg, h⟩ := k_gd h
          refine r_iald C hP 4 (by decide) rfl hg dX4_says_69 ?_
          refine lv_iload_n hx hb dX4_says_70 rfl (lv_at hl 3 rfl) ?_
          refine k_callSi C hP hap hAA (c_X4_isUnder l ev ad ((m_kind σ) (Int32.toNatClampNeg x4)) a2   _ rfl) Emb.none (apart_0 _) gz_X4_isUnder qML_RX4_90 qSM_yX4_isUnder ⟨(Nat.le_of_ble_eq_true rfl), (Nat.le_of_ble_eq_true rfl)⟩ rfl hl.1 rfl (Nat.le_of_ble_eq_true rfl) dX4_says_71 ⟨Nat.le_refl _, Nat.le_refl _⟩ (fun H locs hP => ?_)
          refine r_ifz_ne (tgt := 84) hx hb dX4_says_74 (by decide) (fun c74 => ?_) (fun c74 => ?_)
          · have h := k_if c74 h
            refine lv_iload_n hx hb dX4_says_84 rfl (lv_at hl 3 rfl) ?_
            refine lv_if_ne (tgt := 97) hx hb dX4_says_85 (by decide) (fun c85 => ?_) (fun c85 => ?_)
            · have h := k_nf c85 h
              refine lv_iload_n hx hb dX4_says_97 rfl (lv_at hl 3 rfl) ?_
              refine lv_iconst (v := 5) hx hb dX4_says_98 (by decide) ?_
              refine lv_icmp_ne (tgt := 109) hx hb dX4_says_99 (by decide) (fun c99 => ?_) (fun c99 => ?_)
              · have h := k_nf c99 h
                refine lv_aload_n hx hb dX4_says_109 rfl (lv_at hl 1 rfl) ?_
                refine lv_iload_n hx hb dX4_says_110 rfl (lv_at hl 0 rfl) ?_
                obtain ⟨x6, σ5, h1, h⟩ := k_ob2 h
                refine k_callVi C hP hap hAA (c_X4_choiceOf l ev ad σ x4   _ _ h1) Emb.same hap gz_X4_choiceOf qML_RX4_98 qIM_yX4_choiceOf qSE_yX4_choiceOf ⟨(Nat.le_of_ble_eq_true rfl), (Nat.le_of_ble_eq_true rfl)⟩ (q0 := 0) rfl (by decide) rfl rfl rfl rfl hl.1 rfl (Nat.le_of_ble_eq_true rfl) dX4_says_111 ⟨Nat.le_refl _, Nat.le_refl _⟩ (fun H locs hP => ?_)
                exact e_iret C hend hP (k_some2 h).1 (congrArg (mw ev ad) (k_some2 h).2) dX4_says_114
              · have h := k_if c99 h
                refine lv_aload_n hx hb dX4_says_102 rfl (lv_at hl 1 rfl) ?_
                obtain ⟨x7, h1, h⟩ := k_ob h
                refine k_callVi C hP hap hAA (c_X4_howMany l ev ad σ   _ h1) Emb.same hap gz_X4_howMany qML_RX4_94 qIM_yX4_howMany qSE_yX4_howMany ⟨(Nat.le_of_ble_eq_true rfl), (Nat.le_of_ble_eq_true rfl)⟩ (q0 := 0) rfl (by decide) rfl rfl rfl rfl hl.1 rfl (Nat.le_of_ble_eq_true rfl) dX4_says_103 ⟨Nat.le_refl _, Nat.le_refl _⟩ (fun H locs hP => ?_)
                refine lv_goto (tgt := 114) hx hb dX4_says_106 (by decide) ?_
                exact e_iret C hend hP (k_some2 h).1 (congrArg (mw ev ad) (k_some2 h).2) dX4_says_114
            · have h := k_if c85 h
              refine lv_aload_n hx hb dX4_says_88 rfl (lv_at hl 1 rfl) ?_
              refine r_get C hP (ci := 4) rfl uin_X4 9 (by decide) 0 (by decide) rfl qFL_RX4_23 rfl rfl dX4_says_89 ?_
              refine lv_iload_n hx hb dX4_says_92 rfl (lv_at hl 0 rfl) ?_
              obtain ⟨hg, h⟩ := k_gd h
              refine r_iald C hP 5 (by decide) rfl hg dX4_says_93 ?_
              refine lv_goto (tgt := 114) hx hb dX4_says_94 (by decide) ?_
              exact e_iret C hend hP (k_some2 h).1 (congrArg (mw ev ad) (k_some2 h).2) dX4_says_114
          · have h := k_nf c74 h
            refine lv_aload_n hx hb dX4_says_77 rfl (lv_at hl 1 rfl) ?_
            refine lv_bipush (v := (-3)) hx hb dX4_says_78 (by decide) ?_
            obtain ⟨x9, σ8, h1, h⟩ := k_ob2 h
            refine k_callVi C hP hap hAA (c_X4_no l ev ad σ (-3)   _ _ h1) Emb.same hap gz_X4_no qML_RX4_56 qIM_yX4_no qSE_yX4_no ⟨(Nat.le_of_ble_eq_true rfl), (Nat.le_of_ble_eq_true rfl)⟩ (q0 := 0) rfl (by decide) rfl rfl rfl rfl hl.1 rfl (Nat.le_of_ble_eq_true rfl) dX4_says_80 ⟨Nat.le_refl _, Nat.le_refl _⟩ (fun H locs hP => ?_)
            exact e_iret C hend hP (k_some2 h).1 (congrArg (mw ev ad) (k_some2 h).2) dX4_says_83
        · have h := k_nf c44 h
          refine lv_aload_n hx hb dX4_says_47 rfl (lv_at hl 0 rfl) ?_
          refine lv_bipush (v := (-4)) hx hb dX4_says_48 (by decide) ?_
          obtain ⟨x11, σ10, h1, h⟩ := k_ob2 h
          refine k_callVi C hP hap hAA (c_X4_no l ev ad σ (-4)   _ _ h1) Emb.same hap gz_X4_no qML_RX4_56 qIM_yX4_no qSE_yX4_no ⟨(Nat.le_of_ble_eq_true rfl), (Nat.le_of_ble_eq_true rfl)⟩ (q0 := 0) rfl (by decide) rfl rfl rfl rfl hl.1 rfl (Nat.le_of_ble_eq_true rfl) dX4_says_50 ⟨Nat.le_refl _, Nat.le_refl _⟩ (fun H locs hP => ?_)
          exact e_iret C hend hP (k_some2 h).1 (congrArg (mw ev ad) (k_some2 h).2) dX4_says_53
      · have h := k_if c28 h
        refine lv_aload_n hx hb dX4_says_31 rfl (lv_at hl 0 rfl) ?_
        refine lv_bipush (v := (-3)) hx hb dX4_says_32 (by decide) ?_
        obtain ⟨x13, σ12, h1, h⟩ := k_ob2 h
        refine k_callVi C hP hap hAA (c_X4_no l ev ad σ (-3)   _ _ h1) Emb.same hap gz_X4_no qML_RX4_56 qIM_yX4_no qSE_yX4_no ⟨(Nat.le_of_ble_eq_true rfl), (Nat.le_of_ble_eq_true rfl)⟩ (q0 := 0) rfl (by decide) rfl rfl rfl rfl hl.1 rfl (Nat.le_of_ble_eq_true rfl) dX4_says_34 ⟨Nat.le_refl _, Nat.le_refl _⟩ (fun H locs hP => ?_)
        exact e_iret C hend hP (k_some2 h).1 (congrArg (mw ev ad) (k_some2 h).2) dX4_says_37
    · have h := k_nf c13 h
      refine lv_aload_n hx hb dX4_says_16 rfl (lv_at hl 0 rfl) ?_
      refine lv_bipush (v := (-2)) hx hb dX4_says_17 (by decide) ?_
      obtain ⟨x15, σ14, h1, h⟩ := k_ob2 h
      refine k_callVi C hP hap hAA (c_X4_no l ev ad σ (-2)   _ _ h1) Emb.same hap gz_X4_no qML_RX4_56 qIM_yX4_no qSE_yX4_no ⟨(Nat.le_of_ble_eq_true rfl), (Nat.le_of_ble_eq_true rfl)⟩ (q0 := 0) rfl (by decide) rfl rfl rfl rfl hl.1 rfl (Nat.le_of_ble_eq_true rfl) dX4_says_19 ⟨Nat.le_refl _, Nat.le_refl _⟩ (fun H locs hP => ?_)
      exact e_iret C hend hP (k_some2 h).1 (congrArg (mw ev ad) (k_some2 h).2) dX4_says_22
def f_X4_sized_L12_b  (k31 : MM → Option (Int32 × MM)) (rec12 : Int32 → MM → Option (Int32 × MM)) (x3 : Int32) (σ4 : MM) : Option (Int32 × MM) :=
  if 40 ≤ x3 then k31 σ4 else gd (inb x3 40) (lt (m_hedge' σ4 (upd (m_hedge σ4) (Int32.toNatClampNeg x3) (vp_nar .boolean 0))) (fun σ5 => lt (x3 + 1) (fun x6 => rec12 x6 σ5)))
def f_X4_sized_L12  (k31 : MM → Option (Int32 × MM)) (x3 : Int32) (σ4 : MM) : Option (Int32 × MM) :=
  lp (fun _ _ => none) (f_X4_sized_L12_b  k31) FU x3 σ4
def f_X4_sized_L33_b  (k59 : MM → Option (Int32 × MM)) (rec33 : Int32 → MM → Option (Int32 × MM)) (x8 : Int32) (σ9 : MM) : Option (Int32 × MM) :=
  if 16 ≤ x8 then k59 σ9 else gd (inb x8 16) (lt (m_dug' σ9 (upd (m_dug σ9) (Int32.toNatClampNeg x8) (vp_nar .boolean 0))) (fun σ10 => gd (inb x8 16) (lt (m_owner' σ10 (upd (m_owner σ10) (Int32.toNatClampNeg x8) (-1))) (fun σ11 => lt (x8 + 1) (fun x12 => rec33 x12 σ11)))))
def f_X4_sized_L33  (k59 : MM → Option (Int32 × MM)) (x8 : Int32) (σ9 : MM) : Option (Int32 × MM) :=
  lp (fun _ _ => none) (f_X4_sized_L33_b  k59) FU x8 σ9
def f_X4_sized (σ : MM) (a1 : Int32) (a2 : Int32) : Option (Int32 × MM) :=
  lt (m_w' σ a1) (fun σ1 => lt (m_h' σ1 a2) (fun σ2 => f_X4_sized_L12 (fun σ7 => f_X4_sized_L33 (fun σ13 => lt (m_turn' σ13 0) (fun σ14 => lt (m_made' σ14 0) (fun σ15 => some ((f_X4_edges σ15), σ15)))) 0 σ7) 0 σ2))
set_option maxHeartbeats 4000000 in
set_option maxRecDepth 100000 in
theorem c_X4_sized (l : Launch) (ev : EV) (ad : Nat → Nat) (σ : MM) (a1 : Int32) (a2 : Int32)   (r : Int32) (σ' : MM) (h : f_X4_sized σ a1 a2 = some (r, σ')) : Ct l yX4_sized prog_6_method_19_code 4 (Option.some Jvm.ClassFile.FieldType.int) (rmk 2 40) ev 13 ad (mw ev ad σ) (mw ev ad σ') [.ref (ad 0), .int a1, .int a2] (some (.int r)) := by
  refine Ct.of (by decide +kernel) (Nat.le_of_ble_eq_true rfl) ?_
  intro p e s m args below meth c Qc C hap hP hend ls hl
  have hAA : ∀ j, j < 13 → inA ad 13 (ad j) := fun j hj => ⟨j, hj, rfl⟩
  have hx := C.1
  have hb := C.2.1
  have hl : lv_has ls 4 [(0, .ref (ad 0)), (1, .int a1), (2, .int a2)] := hl
  have h := (f_X4_sized.eq_1 _ _ _ ).symm.trans h
  refine lv_aload_n hx hb dX4_sized_0 rfl (lv_at hl 0 rfl) ?_
  refine lv_iload_n hx hb dX4_sized_1 rfl (lv_at hl 1 rfl) ?_
  obtain ⟨σ1, eσ1, h⟩ := k_ltx h
  refine pt_M_X4_w C hP hap hAA eσ1 qFL_RX4_67 dX4_sized_2 (fun H locs hP => ?_)
  refine lv_aload_n hx hb dX4_sized_5 rfl (lv_at hl 0 rfl) ?_
  refine lv_iload_n hx hb dX4_sized_6 rfl (lv_at hl 2 rfl) ?_
  obtain ⟨σ2, eσ2, h⟩ := k_ltx h
  refine pt_M_X4_h C hP hap hAA eσ2 qFL_RX4_70 dX4_sized_7 (fun H locs hP => ?_)
  refine lv_iconst (v := 0) hx hb dX4_sized_10 (by decide) ?_
  refine lv_istore_n (lv' := [(3, .int 0), (0, .ref (ad 0)), (1, .int a1), (2, .int a2)]) hx hb dX4_sized_11 rfl hl (by decide) rfl (fun ls hl => ?_)
  have hL12 : ∀ (k31 : MM → Option (Int32 × MM)) (hk31 : ∀  (σk : MM) (H : Heap) (locs : List Loc) (ls : Array Slot), k31  σk = some (r, σ') → PS ev 13 ad (mw ev ad σk) (inA ad 13) s H locs → lv_has ls 4 [(0, .ref (ad 0))] → WW ev p l e (rmk 2 40) s m args below meth c Qc ad 13 H locs 31 ls []) (n : Nat) (x3 : Int32) (σ4 : MM) (H : Heap) (locs : List Loc) (ls : Array Slot), lp (fun _ _ => none) (f_X4_sized_L12_b  k31) n x3 σ4 = some (r, σ') → PS ev 13 ad (mw ev ad σ4) (inA ad 13) s H locs → lv_has ls 4 [(0, .ref (ad 0)), (3, .int x3)] → WW ev p l e (rmk 2 40) s m args below meth c Qc ad 13 H locs 12 ls [] := by
    intro k31 hk31 n
    induction n with
    | zero =>
      intro x3 σ4 H locs ls h; exact k_none h
    | succ n ih =>
      intro x3 σ4 H locs ls h hP hl
      have h : f_X4_sized_L12_b  k31 (lp (fun _ _ => none) (f_X4_sized_L12_b  k31) n) x3 σ4 = some (r, σ') := h
      have h := (f_X4_sized_L12_b.eq_1 _ _ _ _ ).symm.trans h
      refine lv_iload_n hx hb dX4_sized_12 rfl (lv_at hl 1 rfl) ?_
      refine lv_bipush (v := 40) hx hb dX4_sized_13 (by decide) ?_
      refine lv_icmp_ge (tgt := 31) hx hb dX4_sized_15 (by decide) (fun c15 => ?_) (fun c15 => ?_)
      · have h := k_if c15 h
        exact hk31 _ _ _ _ h hP (lv_sub hl [0] rfl)
      · have h := k_nf c15 h
        refine lv_aload_n hx hb dX4_sized_18 rfl (lv_at hl 0 rfl) ?_
        refine r_get C hP (ci := 4) rfl uin_X4 2 (by decide) 0 (by decide) rfl qFL_RX4_7 rfl rfl dX4_sized_19 ?_
        refine lv_iload_n hx hb dX4_sized_22 rfl (lv_at hl 1 rfl) ?_
        refine lv_iconst (v := 0) hx hb dX4_sized_23 (by decide) ?_
        obtain ⟨hg, h⟩ := k_gd h
        obtain ⟨σ5, eσ5, h⟩ := k_ltx h
        refine st_M_hedge C hP hap hAA eσ5 hg dX4_sized_24 (fun H locs hP => ?_)
        obtain ⟨x6, ex6, h⟩ := k_ltx h
        refine lv_iinc (v := x6) (lv' := [(3, .int x6), (0, .ref (ad 0))]) hx hb dX4_sized_25 hl (k := 1) rfl (by rw [ex6]; rfl) (by decide) rfl (fun ls hl => ?_)
        refine lv_goto (tgt := 12) hx hb dX4_sized_28 (by decide) ?_
        exact ih _ _ _ _ _ h hP (lv_sub hl [1, 0] rfl)
  refine hL12 _ (fun σ7 H locs ls h hP hl => ?_) FU _ _ _ _ _ h hP (lv_sub hl [1, 0] rfl)
  refine lv_iconst (v := 0) hx hb dX4_sized_31 (by decide) ?_
  refine lv_istore_n (lv' := [(3, .int 0), (0, .ref (ad 0))]) hx hb dX4_sized_32 rfl hl (by decide) rfl (fun ls hl => ?_)
  have hL33 : ∀ (k59 : MM → Option (Int32 × MM)) (hk59 : ∀  (σk : MM) (H : Heap) (locs : List Loc) (ls : Array Slot), k59  σk = some (r, σ') → PS ev 13 ad (mw ev ad σk) (inA ad 13) s H locs → lv_has ls 4 [(0, .ref (ad 0))] → WW ev p l e (rmk 2 40) s m args below meth c Qc ad 13 H locs 59 ls []) (n : Nat) (x8 : Int32) (σ9 : MM) (H : Heap) (locs : List Loc) (ls : Array Slot), lp (fun _ _ => none) (f_X4_sized_L33_b  k59) n x8 σ9 = some (r, σ') → PS ev 13 ad (mw ev ad σ9) (inA ad 13) s H locs → lv_has ls 4 [(0, .ref (ad 0)), (3, .int x8)] → WW ev p l e (rmk 2 40) s m args below meth c Qc ad 13 H locs 33 ls [] := by
    intro k59 hk59 n
    induction n with
    | zero =>
      intro x8 σ9 H locs ls h; exact k_none h
    | succ n ih =>
      intro x8 σ9 H locs ls h hP hl
      have h : f_X4_sized_L33_b  k59 (lp (fun _ _ => none) (f_X4_sized_L33_b  k59) n) x8 σ9 = some (r, σ') := h
      have h := (f_X4_sized_L33_b.eq_1 _ _ _ _ ).symm.trans h
      refine lv_iload_n hx hb dX4_sized_33 rfl (lv_at hl 1 rfl) ?_
      refine lv_bipush (v := 16) hx hb dX4_sized_34 (by decide) ?_
      refine lv_icmp_ge (tgt := 59) hx hb dX4_sized_36 (by decide) (fun c36 => ?_) (fun c36 => ?_)
      · have h := k_if c36 h
        exact hk59 _ _ _ _ h hP (lv_sub hl [0] rfl)
      · have h := k_nf c36 h
        refine lv_aload_n hx hb dX4_sized_39 rfl (lv_at hl 0 rfl) ?_
        refine r_get C hP (ci := 4) rfl uin_X4 3 (by decide) 0 (by decide) rfl qFL_RX4_13 rfl rfl dX4_sized_40 ?_
        refine lv_iload_n hx hb dX4_sized_43 rfl (lv_at hl 1 rfl) ?_
        refine lv_iconst (v := 0) hx hb dX4_sized_44 (by decide) ?_
        obtain ⟨hg, h⟩ := k_gd h
        obtain ⟨σ10, eσ10, h⟩ := k_ltx h
        refine st_M_dug C hP hap hAA eσ10 hg dX4_sized_45 (fun H locs hP => ?_)
        refine lv_aload_n hx hb dX4_sized_46 rfl (lv_at hl 0 rfl) ?_
        refine r_get C hP (ci := 4) rfl uin_X4 4 (by decide) 0 (by decide) rfl qFL_RX4_16 rfl rfl dX4_sized_47 ?_
        refine lv_iload_n hx hb dX4_sized_50 rfl (lv_at hl 1 rfl) ?_
        refine lv_iconst (v := (-1)) hx hb dX4_sized_51 (by decide) ?_
        obtain ⟨hg, h⟩ := k_gd h
        obtain ⟨σ11, eσ11, h⟩ := k_ltx h
        refine st_M_owner C hP hap hAA eσ11 hg dX4_sized_52 (fun H locs hP => ?_)
        obtain ⟨x12, ex12, h⟩ := k_ltx h
        refine lv_iinc (v := x12) (lv' := [(3, .int x12), (0, .ref (ad 0))]) hx hb dX4_sized_53 hl (k := 1) rfl (by rw [ex12]; rfl) (by decide) rfl (fun ls hl => ?_)
        refine lv_goto (tgt := 33) hx hb dX4_sized_56 (by decide) ?_
        exact ih _ _ _ _ _ h hP (lv_sub hl [1, 0] rfl)
  refine hL33 _ (fun σ13 H locs ls h hP hl => ?_) FU _ _ _ _ _ h hP (lv_sub hl [1, 0] rfl)
  refine lv_aload_n hx hb dX4_sized_59 rfl (lv_at hl 0 rfl) ?_
  refine lv_iconst (v := 0) hx hb dX4_sized_60 (by decide) ?_
  obtain ⟨σ14, eσ14, h⟩ := k_ltx h
  refine pt_M_X4_turn C hP hap hAA eσ14 qFL_RX4_101 dX4_sized_61 (fun H locs hP => ?_)
  refine lv_aload_n hx hb dX4_sized_64 rfl (lv_at hl 0 rfl) ?_
  refine lv_iconst (v := 0) hx hb dX4_sized_65 (by decide) ?_
  obtain ⟨σ15, eσ15, h⟩ := k_ltx h
  refine pt_M_X4_made C hP hap hAA eσ15 qFL_RX4_104 dX4_sized_66 (fun H locs hP => ?_)
  refine lv_aload_n hx hb dX4_sized_69 rfl (lv_at hl 0 rfl) ?_
  refine k_callVi C hP hap hAA (c_X4_edges l ev ad σ15   _ rfl) Emb.same hap gz_X4_edges qML_RX4_107 qIM_yX4_edges qSE_yX4_edges ⟨(Nat.le_of_ble_eq_true rfl), (Nat.le_of_ble_eq_true rfl)⟩ (q0 := 0) rfl (by decide) rfl rfl rfl rfl hl.1 rfl (Nat.le_of_ble_eq_true rfl) dX4_sized_70 ⟨Nat.le_refl _, Nat.le_refl _⟩ (fun H locs hP => ?_)
  exact e_iret C hend hP (k_some2 h).1 (congrArg (mw ev ad) (k_some2 h).2) dX4_sized_73
def f_X4_size (σ : MM) (a1 : Int32) (a2 : Int32) : Option (Int32 × MM) :=
  if (f_X4_within a1 1 4) = true then if (f_X4_within a2 1 4) = true then ob2 (f_X4_sized σ a1 a2) (fun x6 σ5 => some (x6, σ5)) else ob2 (f_X4_no σ (-2)) (fun x4 σ3 => some (x4, σ3)) else ob2 (f_X4_no σ (-2)) (fun x2 σ1 => some (x2, σ1))
set_option maxHeartbeats 4000000 in
set_option maxRecDepth 100000 in
theorem c_X4_size (l : Launch) (ev : EV) (ad : Nat → Nat) (σ : MM) (a1 : Int32) (a2 : Int32)   (r : Int32) (σ' : MM) (h : f_X4_size σ a1 a2 = some (r, σ')) : Ct l yX4_size prog_6_method_22_code 3 (Option.some Jvm.ClassFile.FieldType.int) (rmk 3 63) ev 13 ad (mw ev ad σ) (mw ev ad σ') [.ref (ad 0), .int a1, .int a2] (some (.int r)) := by
  refine Ct.of (by decide +kernel) (Nat.le_of_ble_eq_true rfl) ?_
  intro p e s m args below meth c Qc C hap hP hend ls hl
  have hAA : ∀ j, j < 13 → inA ad 13 (ad j) := fun j hj => ⟨j, hj, rfl⟩
  have hx := C.1
  have hb := C.2.1
  have hl : lv_has ls 3 [(0, .ref (ad 0)), (1, .int a1), (2, .int a2)] := hl
  have h := (f_X4_size.eq_1 _ _ _ ).symm.trans h
  refine lv_iload_n hx hb dX4_size_0 rfl (lv_at hl 1 rfl) ?_
  refine lv_iconst (v := 1) hx hb dX4_size_1 (by decide) ?_
  refine lv_iconst (v := 4) hx hb dX4_size_2 (by decide) ?_
  refine k_callSi C hP hap hAA (c_X4_within l ev ad a1 1 4   _ rfl) Emb.none (apart_0 _) gz_X4_within qML_RX4_63 qSM_yX4_within ⟨(Nat.le_of_ble_eq_true rfl), (Nat.le_of_ble_eq_true rfl)⟩ rfl hl.1 rfl (Nat.le_of_ble_eq_true rfl) dX4_size_3 ⟨Nat.le_refl _, Nat.le_refl _⟩ (fun H locs hP => ?_)
  refine r_ifz_eq (tgt := 27) hx hb dX4_size_6 (by decide) (fun c6 => ?_) (fun c6 => ?_)
  · have h := k_nf c6 h
    refine lv_aload_n hx hb dX4_size_27 rfl (lv_at hl 0 rfl) ?_
    refine lv_bipush (v := (-2)) hx hb dX4_size_28 (by decide) ?_
    obtain ⟨x2, σ1, h1, h⟩ := k_ob2 h
    refine k_callVi C hP hap hAA (c_X4_no l ev ad σ (-2)   _ _ h1) Emb.same hap gz_X4_no qML_RX4_56 qIM_yX4_no qSE_yX4_no ⟨(Nat.le_of_ble_eq_true rfl), (Nat.le_of_ble_eq_true rfl)⟩ (q0 := 0) rfl (by decide) rfl rfl rfl rfl hl.1 rfl (Nat.le_of_ble_eq_true rfl) dX4_size_30 ⟨Nat.le_refl _, Nat.le_refl _⟩ (fun H locs hP => ?_)
    exact e_iret C hend hP (k_some2 h).1 (congrArg (mw ev ad) (k_some2 h).2) dX4_size_33
  · have h := k_if c6 h
    refine lv_iload_n hx hb dX4_size_9 rfl (lv_at hl 2 rfl) ?_
    refine lv_iconst (v := 1) hx hb dX4_size_10 (by decide) ?_
    refine lv_iconst (v := 4) hx hb dX4_size_11 (by decide) ?_
    refine k_callSi C hP hap hAA (c_X4_within l ev ad a2 1 4   _ rfl) Emb.none (apart_0 _) gz_X4_within qML_RX4_63 qSM_yX4_within ⟨(Nat.le_of_ble_eq_true rfl), (Nat.le_of_ble_eq_true rfl)⟩ rfl hl.1 rfl (Nat.le_of_ble_eq_true rfl) dX4_size_12 ⟨Nat.le_refl _, Nat.le_refl _⟩ (fun H locs hP => ?_)
    refine r_ifz_eq (tgt := 27) hx hb dX4_size_15 (by decide) (fun c15 => ?_) (fun c15 => ?_)
    · have h := k_nf c15 h
      refine lv_aload_n hx hb dX4_size_27 rfl (lv_at hl 0 rfl) ?_
      refine lv_bipush (v := (-2)) hx hb dX4_size_28 (by decide) ?_
      obtain ⟨x4, σ3, h1, h⟩ := k_ob2 h
      refine k_callVi C hP hap hAA (c_X4_no l ev ad σ (-2)   _ _ h1) Emb.same hap gz_X4_no qML_RX4_56 qIM_yX4_no qSE_yX4_no ⟨(Nat.le_of_ble_eq_true rfl), (Nat.le_of_ble_eq_true rfl)⟩ (q0 := 0) rfl (by decide) rfl rfl rfl rfl hl.1 rfl (Nat.le_of_ble_eq_true rfl) dX4_size_30 ⟨Nat.le_refl _, Nat.le_refl _⟩ (fun H locs hP => ?_)
      exact e_iret C hend hP (k_some2 h).1 (congrArg (mw ev ad) (k_some2 h).2) dX4_size_33
    · have h := k_if c15 h
      refine lv_aload_n hx hb dX4_size_18 rfl (lv_at hl 0 rfl) ?_
      refine lv_iload_n hx hb dX4_size_19 rfl (lv_at hl 1 rfl) ?_
      refine lv_iload_n hx hb dX4_size_20 rfl (lv_at hl 2 rfl) ?_
      obtain ⟨x6, σ5, h1, h⟩ := k_ob2 h
      refine k_callVi C hP hap hAA (c_X4_sized l ev ad σ a1 a2   _ _ h1) Emb.same hap gz_X4_sized qML_RX4_52 qIM_yX4_sized qSE_yX4_sized ⟨(Nat.le_of_ble_eq_true rfl), (Nat.le_of_ble_eq_true rfl)⟩ (q0 := 0) rfl (by decide) rfl rfl rfl rfl hl.1 rfl (Nat.le_of_ble_eq_true rfl) dX4_size_21 ⟨Nat.le_refl _, Nat.le_refl _⟩ (fun H locs hP => ?_)
      refine lv_goto (tgt := 33) hx hb dX4_size_24 (by decide) ?_
      exact e_iret C hend hP (k_some2 h).1 (congrArg (mw ev ad) (k_some2 h).2) dX4_size_33
def f_X4_newPlayer (σ : MM) (a1 : Int32) (a2 : Int32) : Option (Int32 × MM) :=
  gd (inb (m_players σ) 6) (lt (m_kind' σ (upd (m_kind σ) (Int32.toNatClampNeg (m_players σ)) a1)) (fun σ1 => gd (inb (m_players σ1) 6) (lt (m_own' σ1 (upd (m_own σ1) (Int32.toNatClampNeg (m_players σ1)) a2)) (fun σ2 => lt (m_players σ2) (fun x3 => lt (m_players' σ2 (x3 + 1)) (fun σ4 => some (x3, σ4)))))))
set_option maxHeartbeats 4000000 in
set_option maxRecDepth 100000 in
theorem c_X4_newPlayer (l : Launch) (ev : EV) (ad : Nat → Nat) (σ : MM) (a1 : Int32) (a2 : Int32)   (r : Int32) (σ' : MM) (h : f_X4_newPlayer σ a1 a2 = some (r, σ')) : Ct l yX4_newPlayer prog_6_method_23_code 3 (Option.some Jvm.ClassFile.FieldType.int) (rmk 0 0) ev 13 ad (mw ev ad σ) (mw ev ad σ') [.ref (ad 0), .int a1, .int a2] (some (.int r)) := by
  refine Ct.of (by decide +kernel) (Nat.le_of_ble_eq_true rfl) ?_
  intro p e s m args below meth c Qc C hap hP hend ls hl
  have hAA : ∀ j, j < 13 → inA ad 13 (ad j) := fun j hj => ⟨j, hj, rfl⟩
  have hx := C.1
  have hb := C.2.1
  have hl : lv_has ls 3 [(0, .ref (ad 0)), (1, .int a1), (2, .int a2)] := hl
  have h := (f_X4_newPlayer.eq_1 _ _ _ ).symm.trans h
  refine lv_aload_n hx hb dX4_newPlayer_0 rfl (lv_at hl 0 rfl) ?_
  refine r_get C hP (ci := 4) rfl uin_X4 8 (by decide) 0 (by decide) rfl qFL_RX4_20 rfl rfl dX4_newPlayer_1 ?_
  refine lv_aload_n hx hb dX4_newPlayer_4 rfl (lv_at hl 0 rfl) ?_
  refine r_get C hP (ci := 4) rfl uin_X4 7 (by decide) 0 (by decide) rfl qFL_RX4_60 rfl rfl dX4_newPlayer_5 ?_
  refine lv_iload_n hx hb dX4_newPlayer_8 rfl (lv_at hl 1 rfl) ?_
  obtain ⟨hg, h⟩ := k_gd h
  obtain ⟨σ1, eσ1, h⟩ := k_ltx h
  refine st_M_kind C hP hap hAA eσ1 hg dX4_newPlayer_9 (fun H locs hP => ?_)
  refine lv_aload_n hx hb dX4_newPlayer_10 rfl (lv_at hl 0 rfl) ?_
  refine r_get C hP (ci := 4) rfl uin_X4 9 (by decide) 0 (by decide) rfl qFL_RX4_23 rfl rfl dX4_newPlayer_11 ?_
  refine lv_aload_n hx hb dX4_newPlayer_14 rfl (lv_at hl 0 rfl) ?_
  refine r_get C hP (ci := 4) rfl uin_X4 7 (by decide) 0 (by decide) rfl qFL_RX4_60 rfl rfl dX4_newPlayer_15 ?_
  refine lv_iload_n hx hb dX4_newPlayer_18 rfl (lv_at hl 2 rfl) ?_
  obtain ⟨hg, h⟩ := k_gd h
  obtain ⟨σ2, eσ2, h⟩ := k_ltx h
  refine st_M_own C hP hap hAA eσ2 hg dX4_newPlayer_19 (fun H locs hP => ?_)
  refine lv_aload_n hx hb dX4_newPlayer_20 rfl (lv_at hl 0 rfl) ?_
  refine lv_dup hx hb dX4_newPlayer_21 rfl ?_
  refine r_get C hP (ci := 4) rfl uin_X4 7 (by decide) 0 (by decide) rfl qFL_RX4_60 rfl rfl dX4_newPlayer_22 ?_
  refine lv_topi (fun x3 ex3 => ?_)
  have h := k_lt ex3 h
  refine lv_dup_x1 hx hb dX4_newPlayer_25 rfl rfl ?_
  refine lv_iconst (v := 1) hx hb dX4_newPlayer_26 (by decide) ?_
  refine lv_iadd hx hb dX4_newPlayer_27 ?_
  obtain ⟨σ4, eσ4, h⟩ := k_ltx h
  refine pt_M_X4_players C hP hap hAA eσ4 qFL_RX4_60 dX4_newPlayer_28 (fun H locs hP => ?_)
  exact e_iret C hend hP (k_some2 h).1 (congrArg (mw ev ad) (k_some2 h).2) dX4_newPlayer_31
def f_X4_player (σ : MM) (a1 : Int32) (a2 : Int32) : Option (Int32 × MM) :=
  if (f_X4_within a1 0 5) = true then if (f_X4_within a2 0 9) = true then if (m_players σ) = 6 then ob2 (f_X4_no σ (-6)) (fun x6 σ5 => some (x6, σ5)) else ob2 (f_X4_newPlayer σ a1 a2) (fun x4 σ3 => some (x4, σ3)) else ob2 (f_X4_no σ (-2)) (fun x8 σ7 => some (x8, σ7)) else ob2 (f_X4_no σ (-2)) (fun x2 σ1 => some (x2, σ1))
set_option maxHeartbeats 4000000 in
set_option maxRecDepth 100000 in
theorem c_X4_player (l : Launch) (ev : EV) (ad : Nat → Nat) (σ : MM) (a1 : Int32) (a2 : Int32)   (r : Int32) (σ' : MM) (h : f_X4_player σ a1 a2 = some (r, σ')) : Ct l yX4_player prog_6_method_24_code 3 (Option.some Jvm.ClassFile.FieldType.int) (rmk 1 22) ev 13 ad (mw ev ad σ) (mw ev ad σ') [.ref (ad 0), .int a1, .int a2] (some (.int r)) := by
  refine Ct.of (by decide +kernel) (Nat.le_of_ble_eq_true rfl) ?_
  intro p e s m args below meth c Qc C hap hP hend ls hl
  have hAA : ∀ j, j < 13 → inA ad 13 (ad j) := fun j hj => ⟨j, hj, rfl⟩
  have hx := C.1
  have hb := C.2.1
  have hl : lv_has ls 3 [(0, .ref (ad 0)), (1, .int a1), (2, .int a2)] := hl
  have h := (f_X4_player.eq_1 _ _ _ ).symm.trans h
  refine lv_iload_n hx hb dX4_player_0 rfl (lv_at hl 1 rfl) ?_
  refine lv_iconst (v := 0) hx hb dX4_player_1 (by decide) ?_
  refine lv_iconst (v := 5) hx hb dX4_player_2 (by decide) ?_
  refine k_callSi C hP hap hAA (c_X4_within l ev ad a1 0 5   _ rfl) Emb.none (apart_0 _) gz_X4_within qML_RX4_63 qSM_yX4_within ⟨(Nat.le_of_ble_eq_true rfl), (Nat.le_of_ble_eq_true rfl)⟩ rfl hl.1 rfl (Nat.le_of_ble_eq_true rfl) dX4_player_3 ⟨Nat.le_refl _, Nat.le_refl _⟩ (fun H locs hP => ?_)
  refine r_ifz_eq (tgt := 19) hx hb dX4_player_6 (by decide) (fun c6 => ?_) (fun c6 => ?_)
  · have h := k_nf c6 h
    refine lv_aload_n hx hb dX4_player_19 rfl (lv_at hl 0 rfl) ?_
    refine lv_bipush (v := (-2)) hx hb dX4_player_20 (by decide) ?_
    obtain ⟨x2, σ1, h1, h⟩ := k_ob2 h
    refine k_callVi C hP hap hAA (c_X4_no l ev ad σ (-2)   _ _ h1) Emb.same hap gz_X4_no qML_RX4_56 qIM_yX4_no qSE_yX4_no ⟨(Nat.le_of_ble_eq_true rfl), (Nat.le_of_ble_eq_true rfl)⟩ (q0 := 0) rfl (by decide) rfl rfl rfl rfl hl.1 rfl (Nat.le_of_ble_eq_true rfl) dX4_player_22 ⟨Nat.le_refl _, Nat.le_refl _⟩ (fun H locs hP => ?_)
    exact e_iret C hend hP (k_some2 h).1 (congrArg (mw ev ad) (k_some2 h).2) dX4_player_25
  · have h := k_if c6 h
    refine lv_iload_n hx hb dX4_player_9 rfl (lv_at hl 2 rfl) ?_
    refine lv_iconst (v := 0) hx hb dX4_player_10 (by decide) ?_
    refine lv_bipush (v := 9) hx hb dX4_player_11 (by decide) ?_
    refine k_callSi C hP hap hAA (c_X4_within l ev ad a2 0 9   _ rfl) Emb.none (apart_0 _) gz_X4_within qML_RX4_63 qSM_yX4_within ⟨(Nat.le_of_ble_eq_true rfl), (Nat.le_of_ble_eq_true rfl)⟩ rfl hl.1 rfl (Nat.le_of_ble_eq_true rfl) dX4_player_13 ⟨Nat.le_refl _, Nat.le_refl _⟩ (fun H locs hP => ?_)
    refine r_ifz_ne (tgt := 26) hx hb dX4_player_16 (by decide) (fun c16 => ?_) (fun c16 => ?_)
    · have h := k_if c16 h
      refine lv_aload_n hx hb dX4_player_26 rfl (lv_at hl 0 rfl) ?_
      refine r_get C hP (ci := 4) rfl uin_X4 7 (by decide) 0 (by decide) rfl qFL_RX4_60 rfl rfl dX4_player_27 ?_
      refine lv_bipush (v := 6) hx hb dX4_player_30 (by decide) ?_
      refine lv_icmp_ne (tgt := 44) hx hb dX4_player_32 (by decide) (fun c32 => ?_) (fun c32 => ?_)
      · have h := k_nf c32 h
        refine lv_aload_n hx hb dX4_player_44 rfl (lv_at hl 0 rfl) ?_
        refine lv_iload_n hx hb dX4_player_45 rfl (lv_at hl 1 rfl) ?_
        refine lv_iload_n hx hb dX4_player_46 rfl (lv_at hl 2 rfl) ?_
        obtain ⟨x4, σ3, h1, h⟩ := k_ob2 h
        refine k_callVi C hP hap hAA (c_X4_newPlayer l ev ad σ a1 a2   _ _ h1) Emb.same hap gz_X4_newPlayer qML_RX4_113 qIM_yX4_newPlayer qSE_yX4_newPlayer ⟨(Nat.le_of_ble_eq_true rfl), (Nat.le_of_ble_eq_true rfl)⟩ (q0 := 0) rfl (by decide) rfl rfl rfl rfl hl.1 rfl (Nat.le_of_ble_eq_true rfl) dX4_player_47 ⟨Nat.le_refl _, Nat.le_refl _⟩ (fun H locs hP => ?_)
        exact e_iret C hend hP (k_some2 h).1 (congrArg (mw ev ad) (k_some2 h).2) dX4_player_50
      · have h := k_if c32 h
        refine lv_aload_n hx hb dX4_player_35 rfl (lv_at hl 0 rfl) ?_
        refine lv_bipush (v := (-6)) hx hb dX4_player_36 (by decide) ?_
        obtain ⟨x6, σ5, h1, h⟩ := k_ob2 h
        refine k_callVi C hP hap hAA (c_X4_no l ev ad σ (-6)   _ _ h1) Emb.same hap gz_X4_no qML_RX4_56 qIM_yX4_no qSE_yX4_no ⟨(Nat.le_of_ble_eq_true rfl), (Nat.le_of_ble_eq_true rfl)⟩ (q0 := 0) rfl (by decide) rfl rfl rfl rfl hl.1 rfl (Nat.le_of_ble_eq_true rfl) dX4_player_38 ⟨Nat.le_refl _, Nat.le_refl _⟩ (fun H locs hP => ?_)
        refine lv_goto (tgt := 50) hx hb dX4_player_41 (by decide) ?_
        exact e_iret C hend hP (k_some2 h).1 (congrArg (mw ev ad) (k_some2 h).2) dX4_player_50
    · have h := k_nf c16 h
      refine lv_aload_n hx hb dX4_player_19 rfl (lv_at hl 0 rfl) ?_
      refine lv_bipush (v := (-2)) hx hb dX4_player_20 (by decide) ?_
      obtain ⟨x8, σ7, h1, h⟩ := k_ob2 h
      refine k_callVi C hP hap hAA (c_X4_no l ev ad σ (-2)   _ _ h1) Emb.same hap gz_X4_no qML_RX4_56 qIM_yX4_no qSE_yX4_no ⟨(Nat.le_of_ble_eq_true rfl), (Nat.le_of_ble_eq_true rfl)⟩ (q0 := 0) rfl (by decide) rfl rfl rfl rfl hl.1 rfl (Nat.le_of_ble_eq_true rfl) dX4_player_22 ⟨Nat.le_refl _, Nat.le_refl _⟩ (fun H locs hP => ?_)
      exact e_iret C hend hP (k_some2 h).1 (congrArg (mw ev ad) (k_some2 h).2) dX4_player_25
