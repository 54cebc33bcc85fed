/-! functions read off, and their contracts: by program (wip/whole/gen2.py) -/
def f_X4_isRim (σ : MM) (a1 : Int32) : Option (Bool) :=
  ob (f_X4_field σ a1 0) (fun x1 => if x1 = (-1) then some true else ob (f_X4_field σ a1 1) (fun x2 => if x2 = (-1) then some true else some false))
set_option maxHeartbeats 4000000 in
set_option maxRecDepth 100000 in
theorem c_X4_isRim (l : Launch) (ev : EV) (ad : Nat → Nat) (σ : MM) (a1 : Int32)   (r : Bool)  (h : f_X4_isRim σ a1 = some r) : Ct l yX4_isRim prog_6_method_28_code 2 (Option.some Jvm.ClassFile.FieldType.boolean) (rmk 3 67) ev 13 ad (mw ev ad σ) (mw ev ad σ) [.ref (ad 0), .int a1] (some (.int (bi r))) := by
  refine Ct.of (by decide +kernel) (Nat.le_of_ble_eq_true rfl) ?_
  intro p e s m args below meth c Qc C hap hP hend ls hl
  have hAA : ∀ j, j < 13 → inA ad 13 (ad j) := fun j hj => ⟨j, hj, rfl⟩
  have hx := C.1
  have hb := C.2.1
  have hl : lv_has ls 2 [(0, .ref (ad 0)), (1, .int a1)] := hl
  have h := (f_X4_isRim.eq_1 _ _ ).symm.trans h
  refine lv_aload_n hx hb dX4_isRim_0 rfl (lv_at hl 0 rfl) ?_
  refine lv_iload_n hx hb dX4_isRim_1 rfl (lv_at hl 1 rfl) ?_
  refine lv_iconst (v := 0) hx hb dX4_isRim_2 (by decide) ?_
  obtain ⟨x1, h1, h⟩ := k_ob h
  refine k_callVi C hP hap hAA (c_X4_field l ev ad σ a1 0   _ h1) Emb.same hap gz_X4_field qML_RX4_119 qIM_yX4_field qSE_yX4_field ⟨(Nat.le_of_ble_eq_true rfl), (Nat.le_of_ble_eq_true rfl)⟩ (q0 := 0) rfl (by decide) rfl rfl rfl rfl hl.1 rfl (Nat.le_of_ble_eq_true rfl) dX4_isRim_3 ⟨Nat.le_refl _, Nat.le_refl _⟩ (fun H locs hP => ?_)
  refine lv_iconst (v := (-1)) hx hb dX4_isRim_6 (by decide) ?_
  refine lv_icmp_eq (tgt := 20) hx hb dX4_isRim_7 (by decide) (fun c7 => ?_) (fun c7 => ?_)
  · have h := k_if c7 h
    refine lv_iconst (v := 1) hx hb dX4_isRim_20 (by decide) ?_
    refine lv_goto (tgt := 25) hx hb dX4_isRim_21 (by decide) ?_
    exact e_zret C hend hP (k_some h) rfl dX4_isRim_25 rfl
  · have h := k_nf c7 h
    refine lv_aload_n hx hb dX4_isRim_10 rfl (lv_at hl 0 rfl) ?_
    refine lv_iload_n hx hb dX4_isRim_11 rfl (lv_at hl 1 rfl) ?_
    refine lv_iconst (v := 1) hx hb dX4_isRim_12 (by decide) ?_
    obtain ⟨x2, h1, h⟩ := k_ob h
    refine k_callVi C hP hap hAA (c_X4_field l ev ad σ a1 1   _ h1) Emb.same hap gz_X4_field qML_RX4_119 qIM_yX4_field qSE_yX4_field ⟨(Nat.le_of_ble_eq_true rfl), (Nat.le_of_ble_eq_true rfl)⟩ (q0 := 0) rfl (by decide) rfl rfl rfl rfl hl.1 rfl (Nat.le_of_ble_eq_true rfl) dX4_isRim_13 ⟨Nat.le_refl _, Nat.le_refl _⟩ (fun H locs hP => ?_)
    refine lv_iconst (v := (-1)) hx hb dX4_isRim_16 (by decide) ?_
    refine lv_icmp_ne (tgt := 24) hx hb dX4_isRim_17 (by decide) (fun c17 => ?_) (fun c17 => ?_)
    · have h := k_nf c17 h
      refine lv_iconst (v := 0) hx hb dX4_isRim_24 (by decide) ?_
      exact e_zret C hend hP (k_some h) rfl dX4_isRim_25 rfl
    · have h := k_if c17 h
      refine lv_iconst (v := 1) hx hb dX4_isRim_20 (by decide) ?_
      refine lv_goto (tgt := 25) hx hb dX4_isRim_21 (by decide) ?_
      exact e_zret C hend hP (k_some h) rfl dX4_isRim_25 rfl
def f_X4_hasRim_L2_b (σ : MM) (a1 : Int32)  (rec2 : Int32 → Option (Bool)) (x1 : Int32) : Option (Bool) :=
  if 4 ≤ x1 then some false else ob (f_X4_edge σ a1 x1) (fun x2 => ob (f_X4_isRim σ x2) (fun b3 => if b3 = true then some true else lt (x1 + 1) (fun x4 => rec2 x4)))
def f_X4_hasRim_L2 (σ : MM) (a1 : Int32)  (x1 : Int32) : Option (Bool) :=
  lp (fun _ => none) (f_X4_hasRim_L2_b σ a1 ) FU x1
def f_X4_hasRim (σ : MM) (a1 : Int32) : Option (Bool) :=
  f_X4_hasRim_L2 σ a1 0
set_option maxHeartbeats 4000000 in
set_option maxRecDepth 100000 in
theorem c_X4_hasRim (l : Launch) (ev : EV) (ad : Nat → Nat) (σ : MM) (a1 : Int32)   (r : Bool)  (h : f_X4_hasRim σ a1 = some r) : Ct l yX4_hasRim prog_6_method_29_code 3 (Option.some Jvm.ClassFile.FieldType.boolean) (rmk 4 88) ev 13 ad (mw ev ad σ) (mw ev ad σ) [.ref (ad 0), .int a1] (some (.int (bi r))) := by
  refine Ct.of (by decide +kernel) (Nat.le_of_ble_eq_true rfl) ?_
  intro p e s m args below meth c Qc C hap hP hend ls hl
  have hAA : ∀ j, j < 13 → inA ad 13 (ad j) := fun j hj => ⟨j, hj, rfl⟩
  have hx := C.1
  have hb := C.2.1
  have hl : lv_has ls 3 [(0, .ref (ad 0)), (1, .int a1)] := hl
  have h := (f_X4_hasRim.eq_1 _ _ ).symm.trans h
  refine lv_iconst (v := 0) hx hb dX4_hasRim_0 (by decide) ?_
  refine lv_istore_n (lv' := [(2, .int 0), (0, .ref (ad 0)), (1, .int a1)]) hx hb dX4_hasRim_1 rfl hl (by decide) rfl (fun ls hl => ?_)
  have hL2 : ∀ (n : Nat) (x1 : Int32) (H : Heap) (locs : List Loc) (ls : Array Slot), lp (fun _ => none) (f_X4_hasRim_L2_b σ a1 ) n x1 = some r → PS ev 13 ad (mw ev ad σ) (inA ad 13) s H locs → lv_has ls 3 [(0, .ref (ad 0)), (1, .int a1), (2, .int x1)] → WW ev p l e (rmk 4 88) s m args below meth c Qc ad 13 H locs 2 ls [] := by
    intro n
    induction n with
    | zero =>
      intro x1 H locs ls h; exact k_none h
    | succ n ih =>
      intro x1 H locs ls h hP hl
      have h : f_X4_hasRim_L2_b σ a1  (lp (fun _ => none) (f_X4_hasRim_L2_b σ a1 ) n) x1 = some r := h
      have h := (f_X4_hasRim_L2_b.eq_1 _ _ _ _ ).symm.trans h
      refine lv_iload_n hx hb dX4_hasRim_2 rfl (lv_at hl 2 rfl) ?_
      refine lv_iconst (v := 4) hx hb dX4_hasRim_3 (by decide) ?_
      refine lv_icmp_ge (tgt := 28) hx hb dX4_hasRim_4 (by decide) (fun c4 => ?_) (fun c4 => ?_)
      · have h := k_if c4 h
        refine lv_iconst (v := 0) hx hb dX4_hasRim_28 (by decide) ?_
        exact e_zret C hend hP (k_some h) rfl dX4_hasRim_29 rfl
      · have h := k_nf c4 h
        refine lv_aload_n hx hb dX4_hasRim_7 rfl (lv_at hl 0 rfl) ?_
        refine lv_aload_n hx hb dX4_hasRim_8 rfl (lv_at hl 0 rfl) ?_
        refine lv_iload_n hx hb dX4_hasRim_9 rfl (lv_at hl 1 rfl) ?_
        refine lv_iload_n hx hb dX4_hasRim_10 rfl (lv_at hl 2 rfl) ?_
        obtain ⟨x2, h1, h⟩ := k_ob h
        refine k_callVi C hP hap hAA (c_X4_edge l ev ad σ a1 x1   _ h1) Emb.same hap gz_X4_edge qML_RX4_122 qIM_yX4_edge qSE_yX4_edge ⟨(Nat.le_of_ble_eq_true rfl), (Nat.le_of_ble_eq_true rfl)⟩ (q0 := 0) rfl (by decide) rfl rfl rfl rfl hl.1 rfl (Nat.le_of_ble_eq_true rfl) dX4_hasRim_11 ⟨Nat.le_refl _, Nat.le_refl _⟩ (fun H locs hP => ?_)
        obtain ⟨b3, h1, h⟩ := k_ob h
        refine k_callVi C hP hap hAA (c_X4_isRim l ev ad σ x2   _ h1) Emb.same hap gz_X4_isRim qML_RX4_125 qIM_yX4_isRim qSE_yX4_isRim ⟨(Nat.le_of_ble_eq_true rfl), (Nat.le_of_ble_eq_true rfl)⟩ (q0 := 0) rfl (by decide) rfl rfl rfl rfl hl.1 rfl (Nat.le_of_ble_eq_true rfl) dX4_hasRim_14 ⟨Nat.le_refl _, Nat.le_refl _⟩ (fun H locs hP => ?_)
        refine r_ifz_eq (tgt := 22) hx hb dX4_hasRim_17 (by decide) (fun c17 => ?_) (fun c17 => ?_)
        · have h := k_nf c17 h
          obtain ⟨x4, ex4, h⟩ := k_ltx h
          refine lv_iinc (v := x4) (lv' := [(2, .int x4), (0, .ref (ad 0)), (1, .int a1)]) hx hb dX4_hasRim_22 hl (k := 2) rfl (by rw [ex4]; rfl) (by decide) rfl (fun ls hl => ?_)
          refine lv_goto (tgt := 2) hx hb dX4_hasRim_25 (by decide) ?_
          exact ih _ _ _ _ h hP (lv_sub hl [1, 2, 0] rfl)
        · have h := k_if c17 h
          refine lv_iconst (v := 1) hx hb dX4_hasRim_20 (by decide) ?_
          exact e_zret C hend hP (k_some h) rfl dX4_hasRim_21 rfl
  exact hL2 FU _ _ _ _ h hP (lv_sub hl [1, 2, 0] rfl)
def f_X4_digs_L5_b (σ : MM) (k38 : Int32 → Option (Int32)) (rec5 : Int32 → Int32 → Option (Int32)) (x1 : Int32) (x2 : Int32) : Option (Int32) :=
  if ((m_w σ) * (m_h σ)) ≤ x2 then k38 x1 else gd (inb x2 16) (if ((m_dug σ) (Int32.toNatClampNeg x2)) = 0 then lt (x2 + 1) (fun x3 => rec5 x1 x3) else lt (x1 + 1) (fun x4 => lt (x2 + 1) (fun x5 => rec5 x4 x5)))
def f_X4_digs_L5 (σ : MM) (k38 : Int32 → Option (Int32)) (x1 : Int32) (x2 : Int32) : Option (Int32) :=
  lp (fun _ _ => none) (f_X4_digs_L5_b σ k38) FU x1 x2
def f_X4_digs_L41_b (σ : MM) (a1 : Int32) (a2 : Int32) (x7 : Int32)  (rec41 : Int32 → Option (Int32)) (x8 : Int32) : Option (Int32) :=
  if ((m_w σ) * (m_h σ)) ≤ x8 then some (-1) else if a1 ≤ x7 then some (-1) else ob (f_X4_mayBe σ (100 + x8)) (fun b9 => if b9 = true then if a2 = 0 then some (100 + x8) else ob (f_X4_hasRim σ x8) (fun b11 => if b11 = true then some (100 + x8) else lt (x8 + 1) (fun x12 => rec41 x12)) else lt (x8 + 1) (fun x10 => rec41 x10))
def f_X4_digs_L41 (σ : MM) (a1 : Int32) (a2 : Int32) (x7 : Int32)  (x8 : Int32) : Option (Int32) :=
  lp (fun _ => none) (f_X4_digs_L41_b σ a1 a2 x7 ) FU x8
def f_X4_digs (σ : MM) (a1 : Int32) (a2 : Int32) : Option (Int32) :=
  f_X4_digs_L5 σ (fun x7 => f_X4_digs_L41 σ a1 a2 x7 0) 0 0
set_option maxHeartbeats 4000000 in
set_option maxRecDepth 100000 in
theorem c_X4_digs (l : Launch) (ev : EV) (ad : Nat → Nat) (σ : MM) (a1 : Int32) (a2 : Int32)   (r : Int32)  (h : f_X4_digs σ a1 a2 = some r) : Ct l yX4_digs prog_6_method_74_code 5 (Option.some Jvm.ClassFile.FieldType.int) (rmk 5 110) ev 13 ad (mw ev ad σ) (mw ev ad σ) [.ref (ad 0), .int a1, .int a2] (some (.int r)) := by
  refine Ct.of (by decide +kernel) (Nat.le_of_ble_eq_true rfl) ?_
  intro p e s m args below meth c Qc C hap hP hend ls hl
  have hAA : ∀ j, j < 13 → inA ad 13 (ad j) := fun j hj => ⟨j, hj, rfl⟩
  have hx := C.1
  have hb := C.2.1
  have hl : lv_has ls 5 [(0, .ref (ad 0)), (1, .int a1), (2, .int a2)] := hl
  have h := (f_X4_digs.eq_1 _ _ _ ).symm.trans h
  refine lv_iconst (v := 0) hx hb dX4_digs_0 (by decide) ?_
  refine lv_istore_n (lv' := [(3, .int 0), (0, .ref (ad 0)), (1, .int a1), (2, .int a2)]) hx hb dX4_digs_1 rfl hl (by decide) rfl (fun ls hl => ?_)
  refine lv_iconst (v := 0) hx hb dX4_digs_2 (by decide) ?_
  refine lv_istore (lv' := [(4, .int 0), (3, .int 0), (0, .ref (ad 0)), (1, .int a1), (2, .int a2)]) hx hb dX4_digs_3 hl (by decide) rfl (fun ls hl => ?_)
  have hL5 : ∀ (k38 : Int32 → Option (Int32)) (hk38 : ∀ (z6 : Int32) (H : Heap) (locs : List Loc) (ls : Array Slot), k38 z6 = some r → PS ev 13 ad (mw ev ad σ) (inA ad 13) s H locs → lv_has ls 5 [(0, .ref (ad 0)), (1, .int a1), (2, .int a2), (3, .int z6)] → WW ev p l e (rmk 5 110) s m args below meth c Qc ad 13 H locs 38 ls []) (n : Nat) (x1 : Int32) (x2 : Int32) (H : Heap) (locs : List Loc) (ls : Array Slot), lp (fun _ _ => none) (f_X4_digs_L5_b σ k38) n x1 x2 = some r → PS ev 13 ad (mw ev ad σ) (inA ad 13) s H locs → lv_has ls 5 [(0, .ref (ad 0)), (1, .int a1), (2, .int a2), (3, .int x1), (4, .int x2)] → WW ev p l e (rmk 5 110) s m args below meth c Qc ad 13 H locs 5 ls [] := by
    intro k38 hk38 n
    induction n with
    | zero =>
      intro x1 x2 H locs ls h; exact k_none h
    | succ n ih =>
      intro x1 x2 H locs ls h hP hl
      have h : f_X4_digs_L5_b σ k38 (lp (fun _ _ => none) (f_X4_digs_L5_b σ k38) n) x1 x2 = some r := h
      have h := (f_X4_digs_L5_b.eq_1 _ _ _ _ _ ).symm.trans h
      refine lv_iload hx hb dX4_digs_5 (lv_at hl 4 rfl) ?_
      refine lv_aload_n hx hb dX4_digs_7 rfl (lv_at hl 0 rfl) ?_
      refine r_get C hP (ci := 4) rfl uin_X4 0 (by decide) 0 (by decide) rfl qFL_RX4_67 rfl rfl dX4_digs_8 ?_
      refine lv_aload_n hx hb dX4_digs_11 rfl (lv_at hl 0 rfl) ?_
      refine r_get C hP (ci := 4) rfl uin_X4 1 (by decide) 0 (by decide) rfl qFL_RX4_70 rfl rfl dX4_digs_12 ?_
      refine lv_imul hx hb dX4_digs_15 ?_
      refine lv_icmp_ge (tgt := 38) hx hb dX4_digs_16 (by decide) (fun c16 => ?_) (fun c16 => ?_)
      · have h := k_if c16 h
        exact hk38 _ _ _ _ h hP (lv_sub hl [0, 1, 2, 3] rfl)
      · have h := k_nf c16 h
        refine lv_aload_n hx hb dX4_digs_19 rfl (lv_at hl 0 rfl) ?_
        refine r_get C hP (ci := 4) rfl uin_X4 3 (by decide) 0 (by decide) rfl qFL_RX4_13 rfl rfl dX4_digs_20 ?_
        refine lv_iload hx hb dX4_digs_23 (lv_at hl 4 rfl) ?_
        obtain ⟨hg, h⟩ := k_gd h
        refine r_zald C hP 2 (by decide) rfl hg dX4_digs_25 ?_
        refine lv_if_eq (tgt := 32) hx hb dX4_digs_26 (by decide) (fun c26 => ?_) (fun c26 => ?_)
        · have h := k_if c26 h
          obtain ⟨x3, ex3, h⟩ := k_ltx h
          refine lv_iinc (v := x3) (lv' := [(4, .int x3), (0, .ref (ad 0)), (1, .int a1), (2, .int a2), (3, .int x1)]) hx hb dX4_digs_32 hl (k := 4) rfl (by rw [ex3]; rfl) (by decide) rfl (fun ls hl => ?_)
          refine lv_goto (tgt := 5) hx hb dX4_digs_35 (by decide) ?_
          exact ih _ _ _ _ _ h hP (lv_sub hl [1, 2, 3, 4, 0] rfl)
        · have h := k_nf c26 h
          obtain ⟨x4, ex4, h⟩ := k_ltx h
          refine lv_iinc (v := x4) (lv' := [(3, .int x4), (0, .ref (ad 0)), (1, .int a1), (2, .int a2), (4, .int x2)]) hx hb dX4_digs_29 hl (k := 3) rfl (by rw [ex4]; rfl) (by decide) rfl (fun ls hl => ?_)
          obtain ⟨x5, ex5, h⟩ := k_ltx h
          refine lv_iinc (v := x5) (lv' := [(4, .int x5), (3, .int x4), (0, .ref (ad 0)), (1, .int a1), (2, .int a2)]) hx hb dX4_digs_32 hl (k := 4) rfl (by rw [ex5]; rfl) (by decide) rfl (fun ls hl => ?_)
          refine lv_goto (tgt := 5) hx hb dX4_digs_35 (by decide) ?_
          exact ih _ _ _ _ _ h hP (lv_sub hl [2, 3, 4, 1, 0] rfl)
  refine hL5 _ (fun x7 H locs ls h hP hl => ?_) FU _ _ _ _ _ h hP (lv_sub hl [2, 3, 4, 1, 0] rfl)
  refine lv_iconst (v := 0) hx hb dX4_digs_38 (by decide) ?_
  refine lv_istore (lv' := [(4, .int 0), (0, .ref (ad 0)), (1, .int a1), (2, .int a2), (3, .int x7)]) hx hb dX4_digs_39 hl (by decide) rfl (fun ls hl => ?_)
  have hL41 : ∀ (n : Nat) (x8 : Int32) (H : Heap) (locs : List Loc) (ls : Array Slot), lp (fun _ => none) (f_X4_digs_L41_b σ a1 a2 x7 ) n x8 = some r → PS ev 13 ad (mw ev ad σ) (inA ad 13) s H locs → lv_has ls 5 [(0, .ref (ad 0)), (1, .int a1), (2, .int a2), (3, .int x7), (4, .int x8)] → WW ev p l e (rmk 5 110) s m args below meth c Qc ad 13 H locs 41 ls [] := by
    intro n
    induction n with
    | zero =>
      intro x8 H locs ls h; exact k_none h
    | succ n ih =>
      intro x8 H locs ls h hP hl
      have h : f_X4_digs_L41_b σ a1 a2 x7  (lp (fun _ => none) (f_X4_digs_L41_b σ a1 a2 x7 ) n) x8 = some r := h
      have h := (f_X4_digs_L41_b.eq_1 _ _ _ _ _ _ ).symm.trans h
      refine lv_iload hx hb dX4_digs_41 (lv_at hl 4 rfl) ?_
      refine lv_aload_n hx hb dX4_digs_43 rfl (lv_at hl 0 rfl) ?_
      refine r_get C hP (ci := 4) rfl uin_X4 0 (by decide) 0 (by decide) rfl qFL_RX4_67 rfl rfl dX4_digs_44 ?_
      refine lv_aload_n hx hb dX4_digs_47 rfl (lv_at hl 0 rfl) ?_
      refine r_get C hP (ci := 4) rfl uin_X4 1 (by decide) 0 (by decide) rfl qFL_RX4_70 rfl rfl dX4_digs_48 ?_
      refine lv_imul hx hb dX4_digs_51 ?_
      refine lv_icmp_ge (tgt := 97) hx hb dX4_digs_52 (by decide) (fun c52 => ?_) (fun c52 => ?_)
      · have h := k_if c52 h
        refine lv_iconst (v := (-1)) hx hb dX4_digs_97 (by decide) ?_
        exact e_iret C hend hP (k_some h) rfl dX4_digs_98
      · have h := k_nf c52 h
        refine lv_iload_n hx hb dX4_digs_55 rfl (lv_at hl 3 rfl) ?_
        refine lv_iload_n hx hb dX4_digs_56 rfl (lv_at hl 1 rfl) ?_
        refine lv_icmp_ge (tgt := 97) hx hb dX4_digs_57 (by decide) (fun c57 => ?_) (fun c57 => ?_)
        · have h := k_if c57 h
          refine lv_iconst (v := (-1)) hx hb dX4_digs_97 (by decide) ?_
          exact e_iret C hend hP (k_some h) rfl dX4_digs_98
        · have h := k_nf c57 h
          refine lv_aload_n hx hb dX4_digs_60 rfl (lv_at hl 0 rfl) ?_
          refine lv_bipush (v := 100) hx hb dX4_digs_61 (by decide) ?_
          refine lv_iload hx hb dX4_digs_63 (lv_at hl 4 rfl) ?_
          refine lv_iadd hx hb dX4_digs_65 ?_
          obtain ⟨b9, h1, h⟩ := k_ob h
          refine k_callVi C hP hap hAA (c_X4_mayBe l ev ad σ (100 + x8)   _ h1) Emb.same hap gz_X4_mayBe qML_RX4_176 qIM_yX4_mayBe qSE_yX4_mayBe ⟨(Nat.le_of_ble_eq_true rfl), (Nat.le_of_ble_eq_true rfl)⟩ (q0 := 0) rfl (by decide) rfl rfl rfl rfl hl.1 rfl (Nat.le_of_ble_eq_true rfl) dX4_digs_66 ⟨Nat.le_refl _, Nat.le_refl _⟩ (fun H locs hP => ?_)
          refine r_ifz_eq (tgt := 91) hx hb dX4_digs_69 (by decide) (fun c69 => ?_) (fun c69 => ?_)
          · have h := k_nf c69 h
            obtain ⟨x10, ex10, h⟩ := k_ltx h
            refine lv_iinc (v := x10) (lv' := [(4, .int x10), (0, .ref (ad 0)), (1, .int a1), (2, .int a2), (3, .int x7)]) hx hb dX4_digs_91 hl (k := 4) rfl (by rw [ex10]; rfl) (by decide) rfl (fun ls hl => ?_)
            refine lv_goto (tgt := 41) hx hb dX4_digs_94 (by decide) ?_
            exact ih _ _ _ _ h hP (lv_sub hl [1, 2, 3, 4, 0] rfl)
          · have h := k_if c69 h
            refine lv_iload_n hx hb dX4_digs_72 rfl (lv_at hl 2 rfl) ?_
            refine lv_if_eq (tgt := 85) hx hb dX4_digs_73 (by decide) (fun c73 => ?_) (fun c73 => ?_)
            · have h := k_if c73 h
              refine lv_bipush (v := 100) hx hb dX4_digs_85 (by decide) ?_
              refine lv_iload hx hb dX4_digs_87 (lv_at hl 4 rfl) ?_
              refine lv_iadd hx hb dX4_digs_89 ?_
              exact e_iret C hend hP (k_some h) rfl dX4_digs_90
            · have h := k_nf c73 h
              refine lv_aload_n hx hb dX4_digs_76 rfl (lv_at hl 0 rfl) ?_
              refine lv_iload hx hb dX4_digs_77 (lv_at hl 4 rfl) ?_
              obtain ⟨b11, h1, h⟩ := k_ob h
              refine k_callVi C hP hap hAA (c_X4_hasRim l ev ad σ x8   _ h1) Emb.same hap gz_X4_hasRim qML_RX4_205 qIM_yX4_hasRim qSE_yX4_hasRim ⟨(Nat.le_of_ble_eq_true rfl), (Nat.le_of_ble_eq_true rfl)⟩ (q0 := 0) rfl (by decide) rfl rfl rfl rfl hl.1 rfl (Nat.le_of_ble_eq_true rfl) dX4_digs_79 ⟨Nat.le_refl _, Nat.le_refl _⟩ (fun H locs hP => ?_)
              refine r_ifz_eq (tgt := 91) hx hb dX4_digs_82 (by decide) (fun c82 => ?_) (fun c82 => ?_)
              · have h := k_nf c82 h
                obtain ⟨x12, ex12, h⟩ := k_ltx h
                refine lv_iinc (v := x12) (lv' := [(4, .int x12), (0, .ref (ad 0)), (1, .int a1), (2, .int a2), (3, .int x7)]) hx hb dX4_digs_91 hl (k := 4) rfl (by rw [ex12]; rfl) (by decide) rfl (fun ls hl => ?_)
                refine lv_goto (tgt := 41) hx hb dX4_digs_94 (by decide) ?_
                exact ih _ _ _ _ h hP (lv_sub hl [1, 2, 3, 4, 0] rfl)
              · have h := k_if c82 h
                refine lv_bipush (v := 100) hx hb dX4_digs_85 (by decide) ?_
                refine lv_iload hx hb dX4_digs_87 (lv_at hl 4 rfl) ?_
                refine lv_iadd hx hb dX4_digs_89 ?_
                exact e_iret C hend hP (k_some h) rfl dX4_digs_90
  exact hL41 FU _ _ _ _ h hP (lv_sub hl [1, 2, 3, 4, 0] rfl)
def f_X4_thirds_L4_b (σ : MM)  (rec4 : Int32 → Int32 → Option (Int32)) (x1 : Int32) (x2 : Int32) : Option (Int32) :=
  if ((m_w σ) * (m_h σ)) ≤ x2 then some x1 else ob (f_X4_hedges σ x2) (fun x3 => if x3 = 3 then lt (x1 ||| (ishl 1 x2)) (fun x5 => lt (x2 + 1) (fun x6 => rec4 x5 x6)) else lt (x2 + 1) (fun x4 => rec4 x1 x4))
def f_X4_thirds_L4 (σ : MM)  (x1 : Int32) (x2 : Int32) : Option (Int32) :=
  lp (fun _ _ => none) (f_X4_thirds_L4_b σ ) FU x1 x2
def f_X4_thirds (σ : MM) : Option (Int32) :=
  f_X4_thirds_L4 σ 0 0
set_option maxHeartbeats 4000000 in
set_option maxRecDepth 100000 in
theorem c_X4_thirds (l : Launch) (ev : EV) (ad : Nat → Nat) (σ : MM)   (r : Int32)  (h : f_X4_thirds σ = some r) : Ct l yX4_thirds prog_6_method_63_code 3 (Option.some Jvm.ClassFile.FieldType.int) (rmk 3 67) ev 13 ad (mw ev ad σ) (mw ev ad σ) [.ref (ad 0)] (some (.int r)) := by
  refine Ct.of (by decide +kernel) (Nat.le_of_ble_eq_true rfl) ?_
  intro p e s m args below meth c Qc C hap hP hend ls hl
  have hAA : ∀ j, j < 13 → inA ad 13 (ad j) := fun j hj => ⟨j, hj, rfl⟩
  have hx := C.1
  have hb := C.2.1
  have hl : lv_has ls 3 [(0, .ref (ad 0))] := hl
  have h := (f_X4_thirds.eq_1 _ ).symm.trans h
  refine lv_iconst (v := 0) hx hb dX4_thirds_0 (by decide) ?_
  refine lv_istore_n (lv' := [(1, .int 0), (0, .ref (ad 0))]) hx hb dX4_thirds_1 rfl hl (by decide) rfl (fun ls hl => ?_)
  refine lv_iconst (v := 0) hx hb dX4_thirds_2 (by decide) ?_
  refine lv_istore_n (lv' := [(2, .int 0), (1, .int 0), (0, .ref (ad 0))]) hx hb dX4_thirds_3 rfl hl (by decide) rfl (fun ls hl => ?_)
  have hL4 : ∀ (n : Nat) (x1 : Int32) (x2 : Int32) (H : Heap) (locs : List Loc) (ls : Array Slot), lp (fun _ _ => none) (f_X4_thirds_L4_b σ ) n x1 x2 = some r → PS ev 13 ad (mw ev ad σ) (inA ad 13) s H locs → lv_has ls 3 [(0, .ref (ad 0)), (1, .int x1), (2, .int x2)] → WW ev p l e (rmk 3 67) s m args below meth c Qc ad 13 H locs 4 ls [] := by
    intro n
    induction n with
    | zero =>
      intro x1 x2 H locs ls h; exact k_none h
    | succ n ih =>
      intro x1 x2 H locs ls h hP hl
      have h : f_X4_thirds_L4_b σ  (lp (fun _ _ => none) (f_X4_thirds_L4_b σ ) n) x1 x2 = some r := h
      have h := (f_X4_thirds_L4_b.eq_1 _ _ _ _ ).symm.trans h
      refine lv_iload_n hx hb dX4_thirds_4 rfl (lv_at hl 2 rfl) ?_
      refine lv_aload_n hx hb dX4_thirds_5 rfl (lv_at hl 0 rfl) ?_
      refine r_get C hP (ci := 4) rfl uin_X4 0 (by decide) 0 (by decide) rfl qFL_RX4_67 rfl rfl dX4_thirds_6 ?_
      refine lv_aload_n hx hb dX4_thirds_9 rfl (lv_at hl 0 rfl) ?_
      refine r_get C hP (ci := 4) rfl uin_X4 1 (by decide) 0 (by decide) rfl qFL_RX4_70 rfl rfl dX4_thirds_10 ?_
      refine lv_imul hx hb dX4_thirds_13 ?_
      refine lv_icmp_ge (tgt := 38) hx hb dX4_thirds_14 (by decide) (fun c14 => ?_) (fun c14 => ?_)
      · have h := k_if c14 h
        refine lv_iload_n hx hb dX4_thirds_38 rfl (lv_at hl 1 rfl) ?_
        exact e_iret C hend hP (k_some h) rfl dX4_thirds_39
      · have h := k_nf c14 h
        refine lv_aload_n hx hb dX4_thirds_17 rfl (lv_at hl 0 rfl) ?_
        refine lv_iload_n hx hb dX4_thirds_18 rfl (lv_at hl 2 rfl) ?_
        obtain ⟨x3, h1, h⟩ := k_ob h
        refine k_callVi C hP hap hAA (c_X4_hedges l ev ad σ x2   _ h1) Emb.same hap gz_X4_hedges qML_RX4_196 qIM_yX4_hedges qSE_yX4_hedges ⟨(Nat.le_of_ble_eq_true rfl), (Nat.le_of_ble_eq_true rfl)⟩ (q0 := 0) rfl (by decide) rfl rfl rfl rfl hl.1 rfl (Nat.le_of_ble_eq_true rfl) dX4_thirds_19 ⟨Nat.le_refl _, Nat.le_refl _⟩ (fun H locs hP => ?_)
        refine lv_iconst (v := 3) hx hb dX4_thirds_22 (by decide) ?_
        refine lv_icmp_ne (tgt := 32) hx hb dX4_thirds_23 (by decide) (fun c23 => ?_) (fun c23 => ?_)
        · have h := k_nf c23 h
          obtain ⟨x4, ex4, h⟩ := k_ltx h
          refine lv_iinc (v := x4) (lv' := [(2, .int x4), (0, .ref (ad 0)), (1, .int x1)]) hx hb dX4_thirds_32 hl (k := 2) rfl (by rw [ex4]; rfl) (by decide) rfl (fun ls hl => ?_)
          refine lv_goto (tgt := 4) hx hb dX4_thirds_35 (by decide) ?_
          exact ih _ _ _ _ _ h hP (lv_sub hl [1, 2, 0] rfl)
        · have h := k_if c23 h
          refine lv_iload_n hx hb dX4_thirds_26 rfl (lv_at hl 1 rfl) ?_
          refine lv_iconst (v := 1) hx hb dX4_thirds_27 (by decide) ?_
          refine lv_iload_n hx hb dX4_thirds_28 rfl (lv_at hl 2 rfl) ?_
          refine r_ishl hx hb dX4_thirds_29 ?_
          refine lv_ior hx hb dX4_thirds_30 ?_
          refine lv_topi (fun x5 ex5 => ?_)
          have h := k_lt ex5 h
          refine lv_istore_n (lv' := [(1, .int x5), (0, .ref (ad 0)), (2, .int x2)]) hx hb dX4_thirds_31 rfl hl (by decide) rfl (fun ls hl => ?_)
          obtain ⟨x6, ex6, h⟩ := k_ltx h
          refine lv_iinc (v := x6) (lv' := [(2, .int x6), (1, .int x5), (0, .ref (ad 0))]) hx hb dX4_thirds_32 hl (k := 2) rfl (by rw [ex6]; rfl) (by decide) rfl (fun ls hl => ?_)
          refine lv_goto (tgt := 4) hx hb dX4_thirds_35 (by decide) ?_
          exact ih _ _ _ _ _ h hP (lv_sub hl [2, 1, 0] rfl)
  exact hL4 FU _ _ _ _ _ h hP (lv_sub hl [2, 1, 0] rfl)
