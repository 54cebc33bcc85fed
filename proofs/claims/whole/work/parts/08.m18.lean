/-! functions read off, and their contracts: by program (wip/whole/gen2.py) -/
def f_X4_ditches_L4_b (σ : MM)  (rec4 : Int32 → Int32 → Option (Int32)) (x1 : Int32) (x2 : Int32) : Option (Int32) :=
  if ((m_w σ) * (m_h σ)) ≤ x2 then some x1 else gd (inb x2 16) (if ((m_dug σ) (Int32.toNatClampNeg x2)) = 0 then lt (x2 + 1) (fun x3 => rec4 x1 x3) else ob (f_X4_ditchOf σ x2) (fun x4 => if (f_J6_numberOfTrailingZeros_0f7a4 x4) = x2 then lt (x1 + 1) (fun x6 => lt (x2 + 1) (fun x7 => rec4 x6 x7)) else lt (x2 + 1) (fun x5 => rec4 x1 x5)))
def f_X4_ditches_L4 (σ : MM)  (x1 : Int32) (x2 : Int32) : Option (Int32) :=
  lp (fun _ _ => none) (f_X4_ditches_L4_b σ ) FU x1 x2
def f_X4_ditches (σ : MM) : Option (Int32) :=
  f_X4_ditches_L4 σ 0 0
set_option maxHeartbeats 4000000 in
set_option maxRecDepth 100000 in
theorem c_X4_ditches (l : Launch) (ev : EV) (ad : Nat → Nat) (σ : MM)   (r : Int32)  (h : f_X4_ditches σ = some r) : Ct l yX4_ditches prog_6_method_94_code 3 (Option.some Jvm.ClassFile.FieldType.int) (rmk 5 115) ev 13 ad (mw ev ad σ) (mw ev ad σ) [.ref (ad 0)] (some (.int r)) := by
  refine Ct.of (by decide +kernel) (Nat.le_of_ble_eq_true rfl) ?_
  intro p e s m args below meth c Qc C hap hP hend ls hl
  have hAA : ∀ j, j < 13 → inA ad 13 (ad j) := fun j hj => ⟨j, hj, rfl⟩
  have hx := C.1
  have hb := C.2.1
  have hl : lv_has ls 3 [(0, .ref (ad 0))] := hl
  have h := (f_X4_ditches.eq_1 _ ).symm.trans h
  refine lv_iconst (v := 0) hx hb dX4_ditches_0 (by decide) ?_
  refine lv_istore_n (lv' := [(1, .int 0), (0, .ref (ad 0))]) hx hb dX4_ditches_1 rfl hl (by decide) rfl (fun ls hl => ?_)
  refine lv_iconst (v := 0) hx hb dX4_ditches_2 (by decide) ?_
  refine lv_istore_n (lv' := [(2, .int 0), (1, .int 0), (0, .ref (ad 0))]) hx hb dX4_ditches_3 rfl hl (by decide) rfl (fun ls hl => ?_)
  have hL4 : ∀ (n : Nat) (x1 : Int32) (x2 : Int32) (H : Heap) (locs : List Loc) (ls : Array Slot), lp (fun _ _ => none) (f_X4_ditches_L4_b σ ) n x1 x2 = some r → PS ev 13 ad (mw ev ad σ) (inA ad 13) s H locs → lv_has ls 3 [(0, .ref (ad 0)), (1, .int x1), (2, .int x2)] → WW ev p l e (rmk 5 115) s m args below meth c Qc ad 13 H locs 4 ls [] := by
    intro n
    induction n with
    | zero =>
      intro x1 x2 H locs ls h; exact k_none h
    | succ n ih =>
      intro x1 x2 H locs ls h hP hl
      have h : f_X4_ditches_L4_b σ  (lp (fun _ _ => none) (f_X4_ditches_L4_b σ ) n) x1 x2 = some r := h
      have h := (f_X4_ditches_L4_b.eq_1 _ _ _ _ ).symm.trans h
      refine lv_iload_n hx hb dX4_ditches_4 rfl (lv_at hl 2 rfl) ?_
      refine lv_aload_n hx hb dX4_ditches_5 rfl (lv_at hl 0 rfl) ?_
      refine r_get C hP (ci := 4) rfl uin_X4 0 (by decide) 0 (by decide) rfl qFL_RX4_67 rfl rfl dX4_ditches_6 ?_
      refine lv_aload_n hx hb dX4_ditches_9 rfl (lv_at hl 0 rfl) ?_
      refine r_get C hP (ci := 4) rfl uin_X4 1 (by decide) 0 (by decide) rfl qFL_RX4_70 rfl rfl dX4_ditches_10 ?_
      refine lv_imul hx hb dX4_ditches_13 ?_
      refine lv_icmp_ge (tgt := 47) hx hb dX4_ditches_14 (by decide) (fun c14 => ?_) (fun c14 => ?_)
      · have h := k_if c14 h
        refine lv_iload_n hx hb dX4_ditches_47 rfl (lv_at hl 1 rfl) ?_
        exact e_iret C hend hP (k_some h) rfl dX4_ditches_48
      · have h := k_nf c14 h
        refine lv_aload_n hx hb dX4_ditches_17 rfl (lv_at hl 0 rfl) ?_
        refine r_get C hP (ci := 4) rfl uin_X4 3 (by decide) 0 (by decide) rfl qFL_RX4_13 rfl rfl dX4_ditches_18 ?_
        refine lv_iload_n hx hb dX4_ditches_21 rfl (lv_at hl 2 rfl) ?_
        obtain ⟨hg, h⟩ := k_gd h
        refine r_zald C hP 2 (by decide) rfl hg dX4_ditches_22 ?_
        refine lv_if_eq (tgt := 41) hx hb dX4_ditches_23 (by decide) (fun c23 => ?_) (fun c23 => ?_)
        · have h := k_if c23 h
          obtain ⟨x3, ex3, h⟩ := k_ltx h
          refine lv_iinc (v := x3) (lv' := [(2, .int x3), (0, .ref (ad 0)), (1, .int x1)]) hx hb dX4_ditches_41 hl (k := 2) rfl (by rw [ex3]; rfl) (by decide) rfl (fun ls hl => ?_)
          refine lv_goto (tgt := 4) hx hb dX4_ditches_44 (by decide) ?_
          exact ih _ _ _ _ _ h hP (lv_sub hl [1, 2, 0] rfl)
        · have h := k_nf c23 h
          refine lv_aload_n hx hb dX4_ditches_26 rfl (lv_at hl 0 rfl) ?_
          refine lv_iload_n hx hb dX4_ditches_27 rfl (lv_at hl 2 rfl) ?_
          obtain ⟨x4, h1, h⟩ := k_ob h
          refine k_callVi C hP hap hAA (c_X4_ditchOf l ev ad σ x2   _ h1) Emb.same hap gz_X4_ditchOf qML_RX4_214 qIM_yX4_ditchOf qSE_yX4_ditchOf ⟨(Nat.le_of_ble_eq_true rfl), (Nat.le_of_ble_eq_true rfl)⟩ (q0 := 0) rfl (by decide) rfl rfl rfl rfl hl.1 rfl (Nat.le_of_ble_eq_true rfl) dX4_ditches_28 ⟨Nat.le_refl _, Nat.le_refl _⟩ (fun H locs hP => ?_)
          refine k_callSi C hP hap hAA (c_J6_numberOfTrailingZeros_0f7a4 l ev ad x4   _ rfl) Emb.none (apart_0 _) gz_J6_numberOfTrailingZeros_0f7a4 qML_RX4_286 qSM_yJ6_numberOfTrailingZeros_0f7a4 ⟨(Nat.le_of_ble_eq_true rfl), (Nat.le_of_ble_eq_true rfl)⟩ rfl hl.1 rfl (Nat.le_of_ble_eq_true rfl) dX4_ditches_31 ⟨Nat.le_refl _, Nat.le_refl _⟩ (fun H locs hP => ?_)
          refine lv_iload_n hx hb dX4_ditches_34 rfl (lv_at hl 2 rfl) ?_
          refine lv_icmp_ne (tgt := 41) hx hb dX4_ditches_35 (by decide) (fun c35 => ?_) (fun c35 => ?_)
          · have h := k_nf c35 h
            obtain ⟨x5, ex5, h⟩ := k_ltx h
            refine lv_iinc (v := x5) (lv' := [(2, .int x5), (0, .ref (ad 0)), (1, .int x1)]) hx hb dX4_ditches_41 hl (k := 2) rfl (by rw [ex5]; rfl) (by decide) rfl (fun ls hl => ?_)
            refine lv_goto (tgt := 4) hx hb dX4_ditches_44 (by decide) ?_
            exact ih _ _ _ _ _ h hP (lv_sub hl [1, 2, 0] rfl)
          · have h := k_if c35 h
            obtain ⟨x6, ex6, h⟩ := k_ltx h
            refine lv_iinc (v := x6) (lv' := [(1, .int x6), (0, .ref (ad 0)), (2, .int x2)]) hx hb dX4_ditches_38 hl (k := 1) rfl (by rw [ex6]; rfl) (by decide) rfl (fun ls hl => ?_)
            obtain ⟨x7, ex7, h⟩ := k_ltx h
            refine lv_iinc (v := x7) (lv' := [(2, .int x7), (1, .int x6), (0, .ref (ad 0))]) hx hb dX4_ditches_41 hl (k := 2) rfl (by rw [ex7]; rfl) (by decide) rfl (fun ls hl => ?_)
            refine lv_goto (tgt := 4) hx hb dX4_ditches_44 (by decide) ?_
            exact ih _ _ _ _ _ h hP (lv_sub hl [2, 1, 0] rfl)
  exact hL4 FU _ _ _ _ _ h hP (lv_sub hl [2, 1, 0] rfl)
def f_X4_owned_L20_b (σ : MM) (a1 : Int32)  (rec20 : Int32 → Int32 → Option (Int32 × MM)) (x1 : Int32) (x2 : Int32) : Option (Int32 × MM) :=
  if ((m_w σ) * (m_h σ)) ≤ x2 then some (x1, σ) else gd (inb x2 16) (if ((m_owner σ) (Int32.toNatClampNeg x2)) = a1 then lt (x1 ||| (ishl 1 x2)) (fun x4 => lt (x2 + 1) (fun x5 => rec20 x4 x5)) else lt (x2 + 1) (fun x3 => rec20 x1 x3))
def f_X4_owned_L20 (σ : MM) (a1 : Int32)  (x1 : Int32) (x2 : Int32) : Option (Int32 × MM) :=
  lp (fun _ _ => none) (f_X4_owned_L20_b σ a1 ) FU x1 x2
def f_X4_owned (σ : MM) (a1 : Int32) : Option (Int32 × MM) :=
  if (f_X4_within a1 0 1) = true then f_X4_owned_L20 σ a1 0 0 else ob2 (f_X4_no σ (-2)) (fun x7 σ6 => some (x7, σ6))
set_option maxHeartbeats 4000000 in
set_option maxRecDepth 100000 in
theorem c_X4_owned (l : Launch) (ev : EV) (ad : Nat → Nat) (σ : MM) (a1 : Int32)   (r : Int32) (σ' : MM) (h : f_X4_owned σ a1 = some (r, σ')) : Ct l yX4_owned prog_6_method_95_code 4 (Option.some Jvm.ClassFile.FieldType.int) (rmk 1 22) ev 13 ad (mw ev ad σ) (mw ev ad σ') [.ref (ad 0), .int a1] (some (.int r)) := by
  refine Ct.of (by decide +kernel) (Nat.le_of_ble_eq_true rfl) ?_
  intro p e s m args below meth c Qc C hap hP hend ls hl
  have hAA : ∀ j, j < 13 → inA ad 13 (ad j) := fun j hj => ⟨j, hj, rfl⟩
  have hx := C.1
  have hb := C.2.1
  have hl : lv_has ls 4 [(0, .ref (ad 0)), (1, .int a1)] := hl
  have h := (f_X4_owned.eq_1 _ _ ).symm.trans h
  refine lv_iload_n hx hb dX4_owned_0 rfl (lv_at hl 1 rfl) ?_
  refine lv_iconst (v := 0) hx hb dX4_owned_1 (by decide) ?_
  refine lv_iconst (v := 1) hx hb dX4_owned_2 (by decide) ?_
  refine k_callSi C hP hap hAA (c_X4_within l ev ad a1 0 1   _ rfl) Emb.none (apart_0 _) gz_X4_within qML_RX4_63 qSM_yX4_within ⟨(Nat.le_of_ble_eq_true rfl), (Nat.le_of_ble_eq_true rfl)⟩ rfl hl.1 rfl (Nat.le_of_ble_eq_true rfl) dX4_owned_3 ⟨Nat.le_refl _, Nat.le_refl _⟩ (fun H locs hP => ?_)
  refine r_ifz_ne (tgt := 16) hx hb dX4_owned_6 (by decide) (fun c6 => ?_) (fun c6 => ?_)
  · have h := k_if c6 h
    refine lv_iconst (v := 0) hx hb dX4_owned_16 (by decide) ?_
    refine lv_istore_n (lv' := [(2, .int 0), (0, .ref (ad 0)), (1, .int a1)]) hx hb dX4_owned_17 rfl hl (by decide) rfl (fun ls hl => ?_)
    refine lv_iconst (v := 0) hx hb dX4_owned_18 (by decide) ?_
    refine lv_istore_n (lv' := [(3, .int 0), (2, .int 0), (0, .ref (ad 0)), (1, .int a1)]) hx hb dX4_owned_19 rfl hl (by decide) rfl (fun ls hl => ?_)
    have hL20 : ∀ (n : Nat) (x1 : Int32) (x2 : Int32) (H : Heap) (locs : List Loc) (ls : Array Slot), lp (fun _ _ => none) (f_X4_owned_L20_b σ a1 ) n x1 x2 = some (r, σ') → PS ev 13 ad (mw ev ad σ) (inA ad 13) s H locs → lv_has ls 4 [(0, .ref (ad 0)), (1, .int a1), (2, .int x1), (3, .int x2)] → WW ev p l e (rmk 1 22) s m args below meth c Qc ad 13 H locs 20 ls [] := by
      intro n
      induction n with
      | zero =>
        intro x1 x2 H locs ls h; exact k_none h
      | succ n ih =>
        intro x1 x2 H locs ls h hP hl
        have h : f_X4_owned_L20_b σ a1  (lp (fun _ _ => none) (f_X4_owned_L20_b σ a1 ) n) x1 x2 = some (r, σ') := h
        have h := (f_X4_owned_L20_b.eq_1 _ _ _ _ _ ).symm.trans h
        refine lv_iload_n hx hb dX4_owned_20 rfl (lv_at hl 3 rfl) ?_
        refine lv_aload_n hx hb dX4_owned_21 rfl (lv_at hl 0 rfl) ?_
        refine r_get C hP (ci := 4) rfl uin_X4 0 (by decide) 0 (by decide) rfl qFL_RX4_67 rfl rfl dX4_owned_22 ?_
        refine lv_aload_n hx hb dX4_owned_25 rfl (lv_at hl 0 rfl) ?_
        refine r_get C hP (ci := 4) rfl uin_X4 1 (by decide) 0 (by decide) rfl qFL_RX4_70 rfl rfl dX4_owned_26 ?_
        refine lv_imul hx hb dX4_owned_29 ?_
        refine lv_icmp_ge (tgt := 55) hx hb dX4_owned_30 (by decide) (fun c30 => ?_) (fun c30 => ?_)
        · have h := k_if c30 h
          refine lv_iload_n hx hb dX4_owned_55 rfl (lv_at hl 2 rfl) ?_
          exact e_iret C hend hP (k_some2 h).1 (congrArg (mw ev ad) (k_some2 h).2) dX4_owned_56
        · have h := k_nf c30 h
          refine lv_aload_n hx hb dX4_owned_33 rfl (lv_at hl 0 rfl) ?_
          refine r_get C hP (ci := 4) rfl uin_X4 4 (by decide) 0 (by decide) rfl qFL_RX4_16 rfl rfl dX4_owned_34 ?_
          refine lv_iload_n hx hb dX4_owned_37 rfl (lv_at hl 3 rfl) ?_
          obtain ⟨hg, h⟩ := k_gd h
          refine r_iald C hP 3 (by decide) rfl hg dX4_owned_38 ?_
          refine lv_iload_n hx hb dX4_owned_39 rfl (lv_at hl 1 rfl) ?_
          refine lv_icmp_ne (tgt := 49) hx hb dX4_owned_40 (by decide) (fun c40 => ?_) (fun c40 => ?_)
          · have h := k_nf c40 h
            obtain ⟨x3, ex3, h⟩ := k_ltx h
            refine lv_iinc (v := x3) (lv' := [(3, .int x3), (0, .ref (ad 0)), (1, .int a1), (2, .int x1)]) hx hb dX4_owned_49 hl (k := 3) rfl (by rw [ex3]; rfl) (by decide) rfl (fun ls hl => ?_)
            refine lv_goto (tgt := 20) hx hb dX4_owned_52 (by decide) ?_
            exact ih _ _ _ _ _ h hP (lv_sub hl [1, 2, 3, 0] rfl)
          · have h := k_if c40 h
            refine lv_iload_n hx hb dX4_owned_43 rfl (lv_at hl 2 rfl) ?_
            refine lv_iconst (v := 1) hx hb dX4_owned_44 (by decide) ?_
            refine lv_iload_n hx hb dX4_owned_45 rfl (lv_at hl 3 rfl) ?_
            refine r_ishl hx hb dX4_owned_46 ?_
            refine lv_ior hx hb dX4_owned_47 ?_
            refine lv_topi (fun x4 ex4 => ?_)
            have h := k_lt ex4 h
            refine lv_istore_n (lv' := [(2, .int x4), (0, .ref (ad 0)), (1, .int a1), (3, .int x2)]) hx hb dX4_owned_48 rfl hl (by decide) rfl (fun ls hl => ?_)
            obtain ⟨x5, ex5, h⟩ := k_ltx h
            refine lv_iinc (v := x5) (lv' := [(3, .int x5), (2, .int x4), (0, .ref (ad 0)), (1, .int a1)]) hx hb dX4_owned_49 hl (k := 3) rfl (by rw [ex5]; rfl) (by decide) rfl (fun ls hl => ?_)
            refine lv_goto (tgt := 20) hx hb dX4_owned_52 (by decide) ?_
            exact ih _ _ _ _ _ h hP (lv_sub hl [2, 3, 1, 0] rfl)
    exact hL20 FU _ _ _ _ _ h hP (lv_sub hl [2, 3, 1, 0] rfl)
  · have h := k_nf c6 h
    refine lv_aload_n hx hb dX4_owned_9 rfl (lv_at hl 0 rfl) ?_
    refine lv_bipush (v := (-2)) hx hb dX4_owned_10 (by decide) ?_
    obtain ⟨x7, σ6, h1, h⟩ := k_ob2 h
    refine k_callVi C hP hap hAA (c_X4_no l ev ad σ (-2)   _ _ h1) Emb.same hap gz_X4_no qML_RX4_56 qIM_yX4_no qSE_yX4_no ⟨(Nat.le_of_ble_eq_true rfl), (Nat.le_of_ble_eq_true rfl)⟩ (q0 := 0) rfl (by decide) rfl rfl rfl rfl hl.1 rfl (Nat.le_of_ble_eq_true rfl) dX4_owned_12 ⟨Nat.le_refl _, Nat.le_refl _⟩ (fun H locs hP => ?_)
    exact e_iret C hend hP (k_some2 h).1 (congrArg (mw ev ad) (k_some2 h).2) dX4_owned_15
def f_X4_coloured_L26_b (σ : MM) (a1 : Int32) (x1 : Int32)  (rec26 : Int32 → Int32 → Option (Int32 × MM)) (x2 : Int32) (x3 : Int32) : Option (Int32 × MM) :=
  if ((m_w σ) * (m_h σ)) ≤ x3 then some (x2, σ) else ob (f_X4_colour σ x3 x1) (fun x4 => if x4 = a1 then lt (x2 ||| (ishl 1 x3)) (fun x6 => lt (x3 + 1) (fun x7 => rec26 x6 x7)) else lt (x3 + 1) (fun x5 => rec26 x2 x5))
def f_X4_coloured_L26 (σ : MM) (a1 : Int32) (x1 : Int32)  (x2 : Int32) (x3 : Int32) : Option (Int32 × MM) :=
  lp (fun _ _ => none) (f_X4_coloured_L26_b σ a1 x1 ) FU x2 x3
def f_X4_coloured (σ : MM) (a1 : Int32) : Option (Int32 × MM) :=
  if (f_X4_within a1 0 1) = true then ob (f_X4_drains σ) (fun x1 => f_X4_coloured_L26 σ a1 x1 0 0) else ob2 (f_X4_no σ (-2)) (fun x9 σ8 => some (x9, σ8))
set_option maxHeartbeats 4000000 in
set_option maxRecDepth 100000 in
theorem c_X4_coloured (l : Launch) (ev : EV) (ad : Nat → Nat) (σ : MM) (a1 : Int32)   (r : Int32) (σ' : MM) (h : f_X4_coloured σ a1 = some (r, σ')) : Ct l yX4_coloured prog_6_method_96_code 5 (Option.some Jvm.ClassFile.FieldType.int) (rmk 6 137) ev 13 ad (mw ev ad σ) (mw ev ad σ') [.ref (ad 0), .int a1] (some (.int r)) := by
  refine Ct.of (by decide +kernel) (Nat.le_of_ble_eq_true rfl) ?_
  intro p e s m args below meth c Qc C hap hP hend ls hl
  have hAA : ∀ j, j < 13 → inA ad 13 (ad j) := fun j hj => ⟨j, hj, rfl⟩
  have hx := C.1
  have hb := C.2.1
  have hl : lv_has ls 5 [(0, .ref (ad 0)), (1, .int a1)] := hl
  have h := (f_X4_coloured.eq_1 _ _ ).symm.trans h
  refine lv_iload_n hx hb dX4_coloured_0 rfl (lv_at hl 1 rfl) ?_
  refine lv_iconst (v := 0) hx hb dX4_coloured_1 (by decide) ?_
  refine lv_iconst (v := 1) hx hb dX4_coloured_2 (by decide) ?_
  refine k_callSi C hP hap hAA (c_X4_within l ev ad a1 0 1   _ rfl) Emb.none (apart_0 _) gz_X4_within qML_RX4_63 qSM_yX4_within ⟨(Nat.le_of_ble_eq_true rfl), (Nat.le_of_ble_eq_true rfl)⟩ rfl hl.1 rfl (Nat.le_of_ble_eq_true rfl) dX4_coloured_3 ⟨Nat.le_refl _, Nat.le_refl _⟩ (fun H locs hP => ?_)
  refine r_ifz_ne (tgt := 16) hx hb dX4_coloured_6 (by decide) (fun c6 => ?_) (fun c6 => ?_)
  · have h := k_if c6 h
    refine lv_aload_n hx hb dX4_coloured_16 rfl (lv_at hl 0 rfl) ?_
    obtain ⟨x1, h1, h⟩ := k_ob h
    refine k_callVi C hP hap hAA (c_X4_drains l ev ad σ   _ h1) Emb.same hap gz_X4_drains qML_RX4_199 qIM_yX4_drains qSE_yX4_drains ⟨(Nat.le_of_ble_eq_true rfl), (Nat.le_of_ble_eq_true rfl)⟩ (q0 := 0) rfl (by decide) rfl rfl rfl rfl hl.1 rfl (Nat.le_of_ble_eq_true rfl) dX4_coloured_17 ⟨Nat.le_refl _, Nat.le_refl _⟩ (fun H locs hP => ?_)
    refine lv_istore_n (lv' := [(2, .int x1), (0, .ref (ad 0)), (1, .int a1)]) hx hb dX4_coloured_20 rfl hl (by decide) rfl (fun ls hl => ?_)
    refine lv_iconst (v := 0) hx hb dX4_coloured_21 (by decide) ?_
    refine lv_istore_n (lv' := [(3, .int 0), (2, .int x1), (0, .ref (ad 0)), (1, .int a1)]) hx hb dX4_coloured_22 rfl hl (by decide) rfl (fun ls hl => ?_)
    refine lv_iconst (v := 0) hx hb dX4_coloured_23 (by decide) ?_
    refine lv_istore (lv' := [(4, .int 0), (3, .int 0), (2, .int x1), (0, .ref (ad 0)), (1, .int a1)]) hx hb dX4_coloured_24 hl (by decide) rfl (fun ls hl => ?_)
    have hL26 : ∀ (n : Nat) (x2 : Int32) (x3 : Int32) (H : Heap) (locs : List Loc) (ls : Array Slot), lp (fun _ _ => none) (f_X4_coloured_L26_b σ a1 x1 ) n x2 x3 = some (r, σ') → PS ev 13 ad (mw ev ad σ) (inA ad 13) s H locs → lv_has ls 5 [(0, .ref (ad 0)), (1, .int a1), (2, .int x1), (3, .int x2), (4, .int x3)] → WW ev p l e (rmk 6 137) s m args below meth c Qc ad 13 H locs 26 ls [] := by
      intro n
      induction n with
      | zero =>
        intro x2 x3 H locs ls h; exact k_none h
      | succ n ih =>
        intro x2 x3 H locs ls h hP hl
        have h : f_X4_coloured_L26_b σ a1 x1  (lp (fun _ _ => none) (f_X4_coloured_L26_b σ a1 x1 ) n) x2 x3 = some (r, σ') := h
        have h := (f_X4_coloured_L26_b.eq_1 _ _ _ _ _ _ ).symm.trans h
        refine lv_iload hx hb dX4_coloured_26 (lv_at hl 4 rfl) ?_
        refine lv_aload_n hx hb dX4_coloured_28 rfl (lv_at hl 0 rfl) ?_
        refine r_get C hP (ci := 4) rfl uin_X4 0 (by decide) 0 (by decide) rfl qFL_RX4_67 rfl rfl dX4_coloured_29 ?_
        refine lv_aload_n hx hb dX4_coloured_32 rfl (lv_at hl 0 rfl) ?_
        refine r_get C hP (ci := 4) rfl uin_X4 1 (by decide) 0 (by decide) rfl qFL_RX4_70 rfl rfl dX4_coloured_33 ?_
        refine lv_imul hx hb dX4_coloured_36 ?_
        refine lv_icmp_ge (tgt := 64) hx hb dX4_coloured_37 (by decide) (fun c37 => ?_) (fun c37 => ?_)
        · have h := k_if c37 h
          refine lv_iload_n hx hb dX4_coloured_64 rfl (lv_at hl 3 rfl) ?_
          exact e_iret C hend hP (k_some2 h).1 (congrArg (mw ev ad) (k_some2 h).2) dX4_coloured_65
        · have h := k_nf c37 h
          refine lv_aload_n hx hb dX4_coloured_40 rfl (lv_at hl 0 rfl) ?_
          refine lv_iload hx hb dX4_coloured_41 (lv_at hl 4 rfl) ?_
          refine lv_iload_n hx hb dX4_coloured_43 rfl (lv_at hl 2 rfl) ?_
          obtain ⟨x4, h1, h⟩ := k_ob h
          refine k_callVi C hP hap hAA (c_X4_colour l ev ad σ x3 x1   _ h1) Emb.same hap gz_X4_colour qML_RX4_202 qIM_yX4_colour qSE_yX4_colour ⟨(Nat.le_of_ble_eq_true rfl), (Nat.le_of_ble_eq_true rfl)⟩ (q0 := 0) rfl (by decide) rfl rfl rfl rfl hl.1 rfl (Nat.le_of_ble_eq_true rfl) dX4_coloured_44 ⟨Nat.le_refl _, Nat.le_refl _⟩ (fun H locs hP => ?_)
          refine lv_iload_n hx hb dX4_coloured_47 rfl (lv_at hl 1 rfl) ?_
          refine lv_icmp_ne (tgt := 58) hx hb dX4_coloured_48 (by decide) (fun c48 => ?_) (fun c48 => ?_)
          · have h := k_nf c48 h
            obtain ⟨x5, ex5, h⟩ := k_ltx h
            refine lv_iinc (v := x5) (lv' := [(4, .int x5), (0, .ref (ad 0)), (1, .int a1), (2, .int x1), (3, .int x2)]) hx hb dX4_coloured_58 hl (k := 4) rfl (by rw [ex5]; rfl) (by decide) rfl (fun ls hl => ?_)
            refine lv_goto (tgt := 26) hx hb dX4_coloured_61 (by decide) ?_
            exact ih _ _ _ _ _ h hP (lv_sub hl [1, 2, 3, 4, 0] rfl)
          · have h := k_if c48 h
            refine lv_iload_n hx hb dX4_coloured_51 rfl (lv_at hl 3 rfl) ?_
            refine lv_iconst (v := 1) hx hb dX4_coloured_52 (by decide) ?_
            refine lv_iload hx hb dX4_coloured_53 (lv_at hl 4 rfl) ?_
            refine r_ishl hx hb dX4_coloured_55 ?_
            refine lv_ior hx hb dX4_coloured_56 ?_
            refine lv_topi (fun x6 ex6 => ?_)
            have h := k_lt ex6 h
            refine lv_istore_n (lv' := [(3, .int x6), (0, .ref (ad 0)), (1, .int a1), (2, .int x1), (4, .int x3)]) hx hb dX4_coloured_57 rfl hl (by decide) rfl (fun ls hl => ?_)
            obtain ⟨x7, ex7, h⟩ := k_ltx h
            refine lv_iinc (v := x7) (lv' := [(4, .int x7), (3, .int x6), (0, .ref (ad 0)), (1, .int a1), (2, .int x1)]) hx hb dX4_coloured_58 hl (k := 4) rfl (by rw [ex7]; rfl) (by decide) rfl (fun ls hl => ?_)
            refine lv_goto (tgt := 26) hx hb dX4_coloured_61 (by decide) ?_
            exact ih _ _ _ _ _ h hP (lv_sub hl [2, 3, 4, 1, 0] rfl)
    exact hL26 FU _ _ _ _ _ h hP (lv_sub hl [3, 4, 2, 1, 0] rfl)
  · have h := k_nf c6 h
    refine lv_aload_n hx hb dX4_coloured_9 rfl (lv_at hl 0 rfl) ?_
    refine lv_bipush (v := (-2)) hx hb dX4_coloured_10 (by decide) ?_
    obtain ⟨x9, σ8, h1, h⟩ := k_ob2 h
    refine k_callVi C hP hap hAA (c_X4_no l ev ad σ (-2)   _ _ h1) Emb.same hap gz_X4_no qML_RX4_56 qIM_yX4_no qSE_yX4_no ⟨(Nat.le_of_ble_eq_true rfl), (Nat.le_of_ble_eq_true rfl)⟩ (q0 := 0) rfl (by decide) rfl rfl rfl rfl hl.1 rfl (Nat.le_of_ble_eq_true rfl) dX4_coloured_12 ⟨Nat.le_refl _, Nat.le_refl _⟩ (fun H locs hP => ?_)
    exact e_iret C hend hP (k_some2 h).1 (congrArg (mw ev ad) (k_some2 h).2) dX4_coloured_15
def f_X4_gaps_L4_b (σ : MM)  (rec4 : Int32 → Int32 → Option (Int32)) (x1 : Int32) (x2 : Int32) : Option (Int32) :=
  if (f_X4_edges σ) ≤ x2 then some x1 else ob (f_X4_isRim σ x2) (fun b3 => if b3 = true then gd (inb x2 40) (if ((m_hedge σ) (Int32.toNatClampNeg x2)) = 0 then lt (x1 + 1) (fun x6 => lt (x2 + 1) (fun x7 => rec4 x6 x7)) else lt (x2 + 1) (fun x5 => rec4 x1 x5)) else lt (x2 + 1) (fun x4 => rec4 x1 x4))
def f_X4_gaps_L4 (σ : MM)  (x1 : Int32) (x2 : Int32) : Option (Int32) :=
  lp (fun _ _ => none) (f_X4_gaps_L4_b σ ) FU x1 x2
def f_X4_gaps (σ : MM) : Option (Int32) :=
  f_X4_gaps_L4 σ 0 0
set_option maxHeartbeats 4000000 in
set_option maxRecDepth 100000 in
theorem c_X4_gaps (l : Launch) (ev : EV) (ad : Nat → Nat) (σ : MM)   (r : Int32)  (h : f_X4_gaps σ = some r) : Ct l yX4_gaps prog_6_method_97_code 3 (Option.some Jvm.ClassFile.FieldType.int) (rmk 4 88) ev 13 ad (mw ev ad σ) (mw ev ad σ) [.ref (ad 0)] (some (.int r)) := by
  refine Ct.of (by decide +kernel) (Nat.le_of_ble_eq_true rfl) ?_
  intro p e s m args below meth c Qc C hap hP hend ls hl
  have hAA : ∀ j, j < 13 → inA ad 13 (ad j) := fun j hj => ⟨j, hj, rfl⟩
  have hx := C.1
  have hb := C.2.1
  have hl : lv_has ls 3 [(0, .ref (ad 0))] := hl
  have h := (f_X4_gaps.eq_1 _ ).symm.trans h
  refine lv_iconst (v := 0) hx hb dX4_gaps_0 (by decide) ?_
  refine lv_istore_n (lv' := [(1, .int 0), (0, .ref (ad 0))]) hx hb dX4_gaps_1 rfl hl (by decide) rfl (fun ls hl => ?_)
  refine lv_iconst (v := 0) hx hb dX4_gaps_2 (by decide) ?_
  refine lv_istore_n (lv' := [(2, .int 0), (1, .int 0), (0, .ref (ad 0))]) hx hb dX4_gaps_3 rfl hl (by decide) rfl (fun ls hl => ?_)
  have hL4 : ∀ (n : Nat) (x1 : Int32) (x2 : Int32) (H : Heap) (locs : List Loc) (ls : Array Slot), lp (fun _ _ => none) (f_X4_gaps_L4_b σ ) n x1 x2 = some r → PS ev 13 ad (mw ev ad σ) (inA ad 13) s H locs → lv_has ls 3 [(0, .ref (ad 0)), (1, .int x1), (2, .int x2)] → WW ev p l e (rmk 4 88) s m args below meth c Qc ad 13 H locs 4 ls [] := by
    intro n
    induction n with
    | zero =>
      intro x1 x2 H locs ls h; exact k_none h
    | succ n ih =>
      intro x1 x2 H locs ls h hP hl
      have h : f_X4_gaps_L4_b σ  (lp (fun _ _ => none) (f_X4_gaps_L4_b σ ) n) x1 x2 = some r := h
      have h := (f_X4_gaps_L4_b.eq_1 _ _ _ _ ).symm.trans h
      refine lv_iload_n hx hb dX4_gaps_4 rfl (lv_at hl 2 rfl) ?_
      refine lv_aload_n hx hb dX4_gaps_5 rfl (lv_at hl 0 rfl) ?_
      refine k_callVi C hP hap hAA (c_X4_edges l ev ad σ   _ rfl) Emb.same hap gz_X4_edges qML_RX4_107 qIM_yX4_edges qSE_yX4_edges ⟨(Nat.le_of_ble_eq_true rfl), (Nat.le_of_ble_eq_true rfl)⟩ (q0 := 0) rfl (by decide) rfl rfl rfl rfl hl.1 rfl (Nat.le_of_ble_eq_true rfl) dX4_gaps_6 ⟨Nat.le_refl _, Nat.le_refl _⟩ (fun H locs hP => ?_)
      refine lv_icmp_ge (tgt := 38) hx hb dX4_gaps_9 (by decide) (fun c9 => ?_) (fun c9 => ?_)
      · have h := k_if c9 h
        refine lv_iload_n hx hb dX4_gaps_38 rfl (lv_at hl 1 rfl) ?_
        exact e_iret C hend hP (k_some h) rfl dX4_gaps_39
      · have h := k_nf c9 h
        refine lv_aload_n hx hb dX4_gaps_12 rfl (lv_at hl 0 rfl) ?_
        refine lv_iload_n hx hb dX4_gaps_13 rfl (lv_at hl 2 rfl) ?_
        obtain ⟨b3, h1, h⟩ := k_ob h
        refine k_callVi C hP hap hAA (c_X4_isRim l ev ad σ x2   _ h1) Emb.same hap gz_X4_isRim qML_RX4_125 qIM_yX4_isRim qSE_yX4_isRim ⟨(Nat.le_of_ble_eq_true rfl), (Nat.le_of_ble_eq_true rfl)⟩ (q0 := 0) rfl (by decide) rfl rfl rfl rfl hl.1 rfl (Nat.le_of_ble_eq_true rfl) dX4_gaps_14 ⟨Nat.le_refl _, Nat.le_refl _⟩ (fun H locs hP => ?_)
        refine r_ifz_eq (tgt := 32) hx hb dX4_gaps_17 (by decide) (fun c17 => ?_) (fun c17 => ?_)
        · have h := k_nf c17 h
          obtain ⟨x4, ex4, h⟩ := k_ltx h
          refine lv_iinc (v := x4) (lv' := [(2, .int x4), (0, .ref (ad 0)), (1, .int x1)]) hx hb dX4_gaps_32 hl (k := 2) rfl (by rw [ex4]; rfl) (by decide) rfl (fun ls hl => ?_)
          refine lv_goto (tgt := 4) hx hb dX4_gaps_35 (by decide) ?_
          exact ih _ _ _ _ _ h hP (lv_sub hl [1, 2, 0] rfl)
        · have h := k_if c17 h
          refine lv_aload_n hx hb dX4_gaps_20 rfl (lv_at hl 0 rfl) ?_
          refine r_get C hP (ci := 4) rfl uin_X4 2 (by decide) 0 (by decide) rfl qFL_RX4_7 rfl rfl dX4_gaps_21 ?_
          refine lv_iload_n hx hb dX4_gaps_24 rfl (lv_at hl 2 rfl) ?_
          obtain ⟨hg, h⟩ := k_gd h
          refine r_zald C hP 1 (by decide) rfl hg dX4_gaps_25 ?_
          refine lv_if_ne (tgt := 32) hx hb dX4_gaps_26 (by decide) (fun c26 => ?_) (fun c26 => ?_)
          · have h := k_nf c26 h
            obtain ⟨x5, ex5, h⟩ := k_ltx h
            refine lv_iinc (v := x5) (lv' := [(2, .int x5), (0, .ref (ad 0)), (1, .int x1)]) hx hb dX4_gaps_32 hl (k := 2) rfl (by rw [ex5]; rfl) (by decide) rfl (fun ls hl => ?_)
            refine lv_goto (tgt := 4) hx hb dX4_gaps_35 (by decide) ?_
            exact ih _ _ _ _ _ h hP (lv_sub hl [1, 2, 0] rfl)
          · have h := k_if c26 h
            obtain ⟨x6, ex6, h⟩ := k_ltx h
            refine lv_iinc (v := x6) (lv' := [(1, .int x6), (0, .ref (ad 0)), (2, .int x2)]) hx hb dX4_gaps_29 hl (k := 1) rfl (by rw [ex6]; rfl) (by decide) rfl (fun ls hl => ?_)
            obtain ⟨x7, ex7, h⟩ := k_ltx h
            refine lv_iinc (v := x7) (lv' := [(2, .int x7), (1, .int x6), (0, .ref (ad 0))]) hx hb dX4_gaps_32 hl (k := 2) rfl (by rw [ex7]; rfl) (by decide) rfl (fun ls hl => ?_)
            refine lv_goto (tgt := 4) hx hb dX4_gaps_35 (by decide) ?_
            exact ih _ _ _ _ _ h hP (lv_sub hl [2, 1, 0] rfl)
  exact hL4 FU _ _ _ _ _ h hP (lv_sub hl [2, 1, 0] rfl)
def f_X4_rim_L4_b (σ : MM)  (rec4 : Int32 → Int32 → Option (Int32)) (x1 : Int32) (x2 : Int32) : Option (Int32) :=
  if ((m_w σ) * (m_h σ)) ≤ x2 then some x1 else ob (f_X4_hasRim σ x2) (fun b3 => if b3 = true then lt (x1 ||| (ishl 1 x2)) (fun x5 => lt (x2 + 1) (fun x6 => rec4 x5 x6)) else lt (x2 + 1) (fun x4 => rec4 x1 x4))
def f_X4_rim_L4 (σ : MM)  (x1 : Int32) (x2 : Int32) : Option (Int32) :=
  lp (fun _ _ => none) (f_X4_rim_L4_b σ ) FU x1 x2
def f_X4_rim (σ : MM) : Option (Int32) :=
  f_X4_rim_L4 σ 0 0
set_option maxHeartbeats 4000000 in
set_option maxRecDepth 100000 in
theorem c_X4_rim (l : Launch) (ev : EV) (ad : Nat → Nat) (σ : MM)   (r : Int32)  (h : f_X4_rim σ = some r) : Ct l yX4_rim prog_6_method_98_code 3 (Option.some Jvm.ClassFile.FieldType.int) (rmk 5 110) ev 13 ad (mw ev ad σ) (mw ev ad σ) [.ref (ad 0)] (some (.int r)) := by
  refine Ct.of (by decide +kernel) (Nat.le_of_ble_eq_true rfl) ?_
  intro p e s m args below meth c Qc C hap hP hend ls hl
  have hAA : ∀ j, j < 13 → inA ad 13 (ad j) := fun j hj => ⟨j, hj, rfl⟩
  have hx := C.1
  have hb := C.2.1
  have hl : lv_has ls 3 [(0, .ref (ad 0))] := hl
  have h := (f_X4_rim.eq_1 _ ).symm.trans h
  refine lv_iconst (v := 0) hx hb dX4_rim_0 (by decide) ?_
  refine lv_istore_n (lv' := [(1, .int 0), (0, .ref (ad 0))]) hx hb dX4_rim_1 rfl hl (by decide) rfl (fun ls hl => ?_)
  refine lv_iconst (v := 0) hx hb dX4_rim_2 (by decide) ?_
  refine lv_istore_n (lv' := [(2, .int 0), (1, .int 0), (0, .ref (ad 0))]) hx hb dX4_rim_3 rfl hl (by decide) rfl (fun ls hl => ?_)
  have hL4 : ∀ (n : Nat) (x1 : Int32) (x2 : Int32) (H : Heap) (locs : List Loc) (ls : Array Slot), lp (fun _ _ => none) (f_X4_rim_L4_b σ ) n x1 x2 = some r → PS ev 13 ad (mw ev ad σ) (inA ad 13) s H locs → lv_has ls 3 [(0, .ref (ad 0)), (1, .int x1), (2, .int x2)] → WW ev p l e (rmk 5 110) s m args below meth c Qc ad 13 H locs 4 ls [] := by
    intro n
    induction n with
    | zero =>
      intro x1 x2 H locs ls h; exact k_none h
    | succ n ih =>
      intro x1 x2 H locs ls h hP hl
      have h : f_X4_rim_L4_b σ  (lp (fun _ _ => none) (f_X4_rim_L4_b σ ) n) x1 x2 = some r := h
      have h := (f_X4_rim_L4_b.eq_1 _ _ _ _ ).symm.trans h
      refine lv_iload_n hx hb dX4_rim_4 rfl (lv_at hl 2 rfl) ?_
      refine lv_aload_n hx hb dX4_rim_5 rfl (lv_at hl 0 rfl) ?_
      refine r_get C hP (ci := 4) rfl uin_X4 0 (by decide) 0 (by decide) rfl qFL_RX4_67 rfl rfl dX4_rim_6 ?_
      refine lv_aload_n hx hb dX4_rim_9 rfl (lv_at hl 0 rfl) ?_
      refine r_get C hP (ci := 4) rfl uin_X4 1 (by decide) 0 (by decide) rfl qFL_RX4_70 rfl rfl dX4_rim_10 ?_
      refine lv_imul hx hb dX4_rim_13 ?_
      refine lv_icmp_ge (tgt := 37) hx hb dX4_rim_14 (by decide) (fun c14 => ?_) (fun c14 => ?_)
      · have h := k_if c14 h
        refine lv_iload_n hx hb dX4_rim_37 rfl (lv_at hl 1 rfl) ?_
        exact e_iret C hend hP (k_some h) rfl dX4_rim_38
      · have h := k_nf c14 h
        refine lv_aload_n hx hb dX4_rim_17 rfl (lv_at hl 0 rfl) ?_
        refine lv_iload_n hx hb dX4_rim_18 rfl (lv_at hl 2 rfl) ?_
        obtain ⟨b3, h1, h⟩ := k_ob h
        refine k_callVi C hP hap hAA (c_X4_hasRim l ev ad σ x2   _ h1) Emb.same hap gz_X4_hasRim qML_RX4_205 qIM_yX4_hasRim qSE_yX4_hasRim ⟨(Nat.le_of_ble_eq_true rfl), (Nat.le_of_ble_eq_true rfl)⟩ (q0 := 0) rfl (by decide) rfl rfl rfl rfl hl.1 rfl (Nat.le_of_ble_eq_true rfl) dX4_rim_19 ⟨Nat.le_refl _, Nat.le_refl _⟩ (fun H locs hP => ?_)
        refine r_ifz_eq (tgt := 31) hx hb dX4_rim_22 (by decide) (fun c22 => ?_) (fun c22 => ?_)
        · have h := k_nf c22 h
          obtain ⟨x4, ex4, h⟩ := k_ltx h
          refine lv_iinc (v := x4) (lv' := [(2, .int x4), (0, .ref (ad 0)), (1, .int x1)]) hx hb dX4_rim_31 hl (k := 2) rfl (by rw [ex4]; rfl) (by decide) rfl (fun ls hl => ?_)
          refine lv_goto (tgt := 4) hx hb dX4_rim_34 (by decide) ?_
          exact ih _ _ _ _ _ h hP (lv_sub hl [1, 2, 0] rfl)
        · have h := k_if c22 h
          refine lv_iload_n hx hb dX4_rim_25 rfl (lv_at hl 1 rfl) ?_
          refine lv_iconst (v := 1) hx hb dX4_rim_26 (by decide) ?_
          refine lv_iload_n hx hb dX4_rim_27 rfl (lv_at hl 2 rfl) ?_
          refine r_ishl hx hb dX4_rim_28 ?_
          refine lv_ior hx hb dX4_rim_29 ?_
          refine lv_topi (fun x5 ex5 => ?_)
          have h := k_lt ex5 h
          refine lv_istore_n (lv' := [(1, .int x5), (0, .ref (ad 0)), (2, .int x2)]) hx hb dX4_rim_30 rfl hl (by decide) rfl (fun ls hl => ?_)
          obtain ⟨x6, ex6, h⟩ := k_ltx h
          refine lv_iinc (v := x6) (lv' := [(2, .int x6), (1, .int x5), (0, .ref (ad 0))]) hx hb dX4_rim_31 hl (k := 2) rfl (by rw [ex6]; rfl) (by decide) rfl (fun ls hl => ?_)
          refine lv_goto (tgt := 4) hx hb dX4_rim_34 (by decide) ?_
          exact ih _ _ _ _ _ h hP (lv_sub hl [2, 1, 0] rfl)
  exact hL4 FU _ _ _ _ _ h hP (lv_sub hl [2, 1, 0] rfl)
def f_X4_bare_L4_b (σ : MM)  (rec4 : Int32 → Int32 → Option (Int32)) (x1 : Int32) (x2 : Int32) : Option (Int32) :=
  if ((m_w σ) * (m_h σ)) ≤ x2 then some x1 else ob (f_X4_hedges σ x2) (fun x3 => if x3 = 0 then lt (x1 ||| (ishl 1 x2)) (fun x5 => lt (x2 + 1) (fun x6 => rec4 x5 x6)) else lt (x2 + 1) (fun x4 => rec4 x1 x4))
def f_X4_bare_L4 (σ : MM)  (x1 : Int32) (x2 : Int32) : Option (Int32) :=
  lp (fun _ _ => none) (f_X4_bare_L4_b σ ) FU x1 x2
def f_X4_bare (σ : MM) : Option (Int32) :=
  f_X4_bare_L4 σ 0 0
set_option maxHeartbeats 4000000 in
set_option maxRecDepth 100000 in
theorem c_X4_bare (l : Launch) (ev : EV) (ad : Nat → Nat) (σ : MM)   (r : Int32)  (h : f_X4_bare σ = some r) : Ct l yX4_bare prog_6_method_99_code 3 (Option.some Jvm.ClassFile.FieldType.int) (rmk 3 67) ev 13 ad (mw ev ad σ) (mw ev ad σ) [.ref (ad 0)] (some (.int r)) := by
  refine Ct.of (by decide +kernel) (Nat.le_of_ble_eq_true rfl) ?_
  intro p e s m args below meth c Qc C hap hP hend ls hl
  have hAA : ∀ j, j < 13 → inA ad 13 (ad j) := fun j hj => ⟨j, hj, rfl⟩
  have hx := C.1
  have hb := C.2.1
  have hl : lv_has ls 3 [(0, .ref (ad 0))] := hl
  have h := (f_X4_bare.eq_1 _ ).symm.trans h
  refine lv_iconst (v := 0) hx hb dX4_bare_0 (by decide) ?_
  refine lv_istore_n (lv' := [(1, .int 0), (0, .ref (ad 0))]) hx hb dX4_bare_1 rfl hl (by decide) rfl (fun ls hl => ?_)
  refine lv_iconst (v := 0) hx hb dX4_bare_2 (by decide) ?_
  refine lv_istore_n (lv' := [(2, .int 0), (1, .int 0), (0, .ref (ad 0))]) hx hb dX4_bare_3 rfl hl (by decide) rfl (fun ls hl => ?_)
  have hL4 : ∀ (n : Nat) (x1 : Int32) (x2 : Int32) (H : Heap) (locs : List Loc) (ls : Array Slot), lp (fun _ _ => none) (f_X4_bare_L4_b σ ) n x1 x2 = some r → PS ev 13 ad (mw ev ad σ) (inA ad 13) s H locs → lv_has ls 3 [(0, .ref (ad 0)), (1, .int x1), (2, .int x2)] → WW ev p l e (rmk 3 67) s m args below meth c Qc ad 13 H locs 4 ls [] := by
    intro n
    induction n with
    | zero =>
      intro x1 x2 H locs ls h; exact k_none h
    | succ n ih =>
      intro x1 x2 H locs ls h hP hl
      have h : f_X4_bare_L4_b σ  (lp (fun _ _ => none) (f_X4_bare_L4_b σ ) n) x1 x2 = some r := h
      have h := (f_X4_bare_L4_b.eq_1 _ _ _ _ ).symm.trans h
      refine lv_iload_n hx hb dX4_bare_4 rfl (lv_at hl 2 rfl) ?_
      refine lv_aload_n hx hb dX4_bare_5 rfl (lv_at hl 0 rfl) ?_
      refine r_get C hP (ci := 4) rfl uin_X4 0 (by decide) 0 (by decide) rfl qFL_RX4_67 rfl rfl dX4_bare_6 ?_
      refine lv_aload_n hx hb dX4_bare_9 rfl (lv_at hl 0 rfl) ?_
      refine r_get C hP (ci := 4) rfl uin_X4 1 (by decide) 0 (by decide) rfl qFL_RX4_70 rfl rfl dX4_bare_10 ?_
      refine lv_imul hx hb dX4_bare_13 ?_
      refine lv_icmp_ge (tgt := 37) hx hb dX4_bare_14 (by decide) (fun c14 => ?_) (fun c14 => ?_)
      · have h := k_if c14 h
        refine lv_iload_n hx hb dX4_bare_37 rfl (lv_at hl 1 rfl) ?_
        exact e_iret C hend hP (k_some h) rfl dX4_bare_38
      · have h := k_nf c14 h
        refine lv_aload_n hx hb dX4_bare_17 rfl (lv_at hl 0 rfl) ?_
        refine lv_iload_n hx hb dX4_bare_18 rfl (lv_at hl 2 rfl) ?_
        obtain ⟨x3, h1, h⟩ := k_ob h
        refine k_callVi C hP hap hAA (c_X4_hedges l ev ad σ x2   _ h1) Emb.same hap gz_X4_hedges qML_RX4_196 qIM_yX4_hedges qSE_yX4_hedges ⟨(Nat.le_of_ble_eq_true rfl), (Nat.le_of_ble_eq_true rfl)⟩ (q0 := 0) rfl (by decide) rfl rfl rfl rfl hl.1 rfl (Nat.le_of_ble_eq_true rfl) dX4_bare_19 ⟨Nat.le_refl _, Nat.le_refl _⟩ (fun H locs hP => ?_)
        refine lv_if_ne (tgt := 31) hx hb dX4_bare_22 (by decide) (fun c22 => ?_) (fun c22 => ?_)
        · have h := k_nf c22 h
          obtain ⟨x4, ex4, h⟩ := k_ltx h
          refine lv_iinc (v := x4) (lv' := [(2, .int x4), (0, .ref (ad 0)), (1, .int x1)]) hx hb dX4_bare_31 hl (k := 2) rfl (by rw [ex4]; rfl) (by decide) rfl (fun ls hl => ?_)
          refine lv_goto (tgt := 4) hx hb dX4_bare_34 (by decide) ?_
          exact ih _ _ _ _ _ h hP (lv_sub hl [1, 2, 0] rfl)
        · have h := k_if c22 h
          refine lv_iload_n hx hb dX4_bare_25 rfl (lv_at hl 1 rfl) ?_
          refine lv_iconst (v := 1) hx hb dX4_bare_26 (by decide) ?_
          refine lv_iload_n hx hb dX4_bare_27 rfl (lv_at hl 2 rfl) ?_
          refine r_ishl hx hb dX4_bare_28 ?_
          refine lv_ior hx hb dX4_bare_29 ?_
          refine lv_topi (fun x5 ex5 => ?_)
          have h := k_lt ex5 h
          refine lv_istore_n (lv' := [(1, .int x5), (0, .ref (ad 0)), (2, .int x2)]) hx hb dX4_bare_30 rfl hl (by decide) rfl (fun ls hl => ?_)
          obtain ⟨x6, ex6, h⟩ := k_ltx h
          refine lv_iinc (v := x6) (lv' := [(2, .int x6), (1, .int x5), (0, .ref (ad 0))]) hx hb dX4_bare_31 hl (k := 2) rfl (by rw [ex6]; rfl) (by decide) rfl (fun ls hl => ?_)
          refine lv_goto (tgt := 4) hx hb dX4_bare_34 (by decide) ?_
          exact ih _ _ _ _ _ h hP (lv_sub hl [2, 1, 0] rfl)
  exact hL4 FU _ _ _ _ _ h hP (lv_sub hl [2, 1, 0] rfl)
def f_X4_soft_L4_b (σ : MM)  (rec4 : Int32 → Int32 → Option (Int32)) (x1 : Int32) (x2 : Int32) : Option (Int32) :=
  if ((m_w σ) * (m_h σ)) ≤ x2 then some x1 else ob (f_X4_mayBe σ (100 + x2)) (fun b3 => if b3 = true then lt (x1 ||| (ishl 1 x2)) (fun x5 => lt (x2 + 1) (fun x6 => rec4 x5 x6)) else lt (x2 + 1) (fun x4 => rec4 x1 x4))
def f_X4_soft_L4 (σ : MM)  (x1 : Int32) (x2 : Int32) : Option (Int32) :=
  lp (fun _ _ => none) (f_X4_soft_L4_b σ ) FU x1 x2
def f_X4_soft (σ : MM) : Option (Int32) :=
  f_X4_soft_L4 σ 0 0
set_option maxHeartbeats 4000000 in
set_option maxRecDepth 100000 in
theorem c_X4_soft (l : Launch) (ev : EV) (ad : Nat → Nat) (σ : MM)   (r : Int32)  (h : f_X4_soft σ = some r) : Ct l yX4_soft prog_6_method_100_code 3 (Option.some Jvm.ClassFile.FieldType.int) (rmk 4 88) ev 13 ad (mw ev ad σ) (mw ev ad σ) [.ref (ad 0)] (some (.int r)) := by
  refine Ct.of (by decide +kernel) (Nat.le_of_ble_eq_true rfl) ?_
  intro p e s m args below meth c Qc C hap hP hend ls hl
  have hAA : ∀ j, j < 13 → inA ad 13 (ad j) := fun j hj => ⟨j, hj, rfl⟩
  have hx := C.1
  have hb := C.2.1
  have hl : lv_has ls 3 [(0, .ref (ad 0))] := hl
  have h := (f_X4_soft.eq_1 _ ).symm.trans h
  refine lv_iconst (v := 0) hx hb dX4_soft_0 (by decide) ?_
  refine lv_istore_n (lv' := [(1, .int 0), (0, .ref (ad 0))]) hx hb dX4_soft_1 rfl hl (by decide) rfl (fun ls hl => ?_)
  refine lv_iconst (v := 0) hx hb dX4_soft_2 (by decide) ?_
  refine lv_istore_n (lv' := [(2, .int 0), (1, .int 0), (0, .ref (ad 0))]) hx hb dX4_soft_3 rfl hl (by decide) rfl (fun ls hl => ?_)
  have hL4 : ∀ (n : Nat) (x1 : Int32) (x2 : Int32) (H : Heap) (locs : List Loc) (ls : Array Slot), lp (fun _ _ => none) (f_X4_soft_L4_b σ ) n x1 x2 = some r → PS ev 13 ad (mw ev ad σ) (inA ad 13) s H locs → lv_has ls 3 [(0, .ref (ad 0)), (1, .int x1), (2, .int x2)] → WW ev p l e (rmk 4 88) s m args below meth c Qc ad 13 H locs 4 ls [] := by
    intro n
    induction n with
    | zero =>
      intro x1 x2 H locs ls h; exact k_none h
    | succ n ih =>
      intro x1 x2 H locs ls h hP hl
      have h : f_X4_soft_L4_b σ  (lp (fun _ _ => none) (f_X4_soft_L4_b σ ) n) x1 x2 = some r := h
      have h := (f_X4_soft_L4_b.eq_1 _ _ _ _ ).symm.trans h
      refine lv_iload_n hx hb dX4_soft_4 rfl (lv_at hl 2 rfl) ?_
      refine lv_aload_n hx hb dX4_soft_5 rfl (lv_at hl 0 rfl) ?_
      refine r_get C hP (ci := 4) rfl uin_X4 0 (by decide) 0 (by decide) rfl qFL_RX4_67 rfl rfl dX4_soft_6 ?_
      refine lv_aload_n hx hb dX4_soft_9 rfl (lv_at hl 0 rfl) ?_
      refine r_get C hP (ci := 4) rfl uin_X4 1 (by decide) 0 (by decide) rfl qFL_RX4_70 rfl rfl dX4_soft_10 ?_
      refine lv_imul hx hb dX4_soft_13 ?_
      refine lv_icmp_ge (tgt := 40) hx hb dX4_soft_14 (by decide) (fun c14 => ?_) (fun c14 => ?_)
      · have h := k_if c14 h
        refine lv_iload_n hx hb dX4_soft_40 rfl (lv_at hl 1 rfl) ?_
        exact e_iret C hend hP (k_some h) rfl dX4_soft_41
      · have h := k_nf c14 h
        refine lv_aload_n hx hb dX4_soft_17 rfl (lv_at hl 0 rfl) ?_
        refine lv_bipush (v := 100) hx hb dX4_soft_18 (by decide) ?_
        refine lv_iload_n hx hb dX4_soft_20 rfl (lv_at hl 2 rfl) ?_
        refine lv_iadd hx hb dX4_soft_21 ?_
        obtain ⟨b3, h1, h⟩ := k_ob h
        refine k_callVi C hP hap hAA (c_X4_mayBe l ev ad σ (100 + x2)   _ h1) Emb.same hap gz_X4_mayBe qML_RX4_176 qIM_yX4_mayBe qSE_yX4_mayBe ⟨(Nat.le_of_ble_eq_true rfl), (Nat.le_of_ble_eq_true rfl)⟩ (q0 := 0) rfl (by decide) rfl rfl rfl rfl hl.1 rfl (Nat.le_of_ble_eq_true rfl) dX4_soft_22 ⟨Nat.le_refl _, Nat.le_refl _⟩ (fun H locs hP => ?_)
        refine r_ifz_eq (tgt := 34) hx hb dX4_soft_25 (by decide) (fun c25 => ?_) (fun c25 => ?_)
        · have h := k_nf c25 h
          obtain ⟨x4, ex4, h⟩ := k_ltx h
          refine lv_iinc (v := x4) (lv' := [(2, .int x4), (0, .ref (ad 0)), (1, .int x1)]) hx hb dX4_soft_34 hl (k := 2) rfl (by rw [ex4]; rfl) (by decide) rfl (fun ls hl => ?_)
          refine lv_goto (tgt := 4) hx hb dX4_soft_37 (by decide) ?_
          exact ih _ _ _ _ _ h hP (lv_sub hl [1, 2, 0] rfl)
        · have h := k_if c25 h
          refine lv_iload_n hx hb dX4_soft_28 rfl (lv_at hl 1 rfl) ?_
          refine lv_iconst (v := 1) hx hb dX4_soft_29 (by decide) ?_
          refine lv_iload_n hx hb dX4_soft_30 rfl (lv_at hl 2 rfl) ?_
          refine r_ishl hx hb dX4_soft_31 ?_
          refine lv_ior hx hb dX4_soft_32 ?_
          refine lv_topi (fun x5 ex5 => ?_)
          have h := k_lt ex5 h
          refine lv_istore_n (lv' := [(1, .int x5), (0, .ref (ad 0)), (2, .int x2)]) hx hb dX4_soft_33 rfl hl (by decide) rfl (fun ls hl => ?_)
          obtain ⟨x6, ex6, h⟩ := k_ltx h
          refine lv_iinc (v := x6) (lv' := [(2, .int x6), (1, .int x5), (0, .ref (ad 0))]) hx hb dX4_soft_34 hl (k := 2) rfl (by rw [ex6]; rfl) (by decide) rfl (fun ls hl => ?_)
          refine lv_goto (tgt := 4) hx hb dX4_soft_37 (by decide) ?_
          exact ih _ _ _ _ _ h hP (lv_sub hl [2, 1, 0] rfl)
  exact hL4 FU _ _ _ _ _ h hP (lv_sub hl [2, 1, 0] rfl)
def f_X4_after (σ : MM) (a1 : Int32) : Option (Int32 × MM) :=
  if (f_X4_isMove σ a1) = true then ob (f_X4_mayBe σ a1) (fun b1 => if b1 = true then ob (f_X4_howMany σ) (fun x4 => if x4 ≤ 7 then ob2 (f_X4_makes σ a1) (fun x6 σ5 => ob2 (f_X4_search 10 σ5) (fun x8 σ7 => lt (-x8) (fun x9 => ob (f_X4_takes σ7 a1) (fun σ10 => some (x9, σ10))))) else ob2 (f_X4_noLead σ (-5)) (fun x12 σ11 => some (x12, σ11))) else ob2 (f_X4_noLead σ (-5)) (fun x3 σ2 => some (x3, σ2))) else ob2 (f_X4_noLead σ (-2)) (fun x14 σ13 => some (x14, σ13))
set_option maxHeartbeats 4000000 in
set_option maxRecDepth 100000 in
theorem c_X4_after (l : Launch) (ev : EV) (ad : Nat → Nat) (σ : MM) (a1 : Int32)   (r : Int32) (σ' : MM) (h : f_X4_after σ a1 = some (r, σ')) : Ct l yX4_after prog_6_method_101_code 3 (Option.some Jvm.ClassFile.FieldType.int) (rmk 32 1110) ev 13 ad (mw ev ad σ) (mw ev ad σ') [.ref (ad 0), .int a1] (some (.int r)) := by
  refine Ct.of (by decide +kernel) (Nat.le_of_ble_eq_true rfl) ?_
  intro p e s m args below meth c Qc C hap hP hend ls hl
  have hAA : ∀ j, j < 13 → inA ad 13 (ad j) := fun j hj => ⟨j, hj, rfl⟩
  have hx := C.1
  have hb := C.2.1
  have hl : lv_has ls 3 [(0, .ref (ad 0)), (1, .int a1)] := hl
  have h := (f_X4_after.eq_1 _ _ ).symm.trans h
  refine lv_aload_n hx hb dX4_after_0 rfl (lv_at hl 0 rfl) ?_
  refine lv_iload_n hx hb dX4_after_1 rfl (lv_at hl 1 rfl) ?_
  refine k_callVi C hP hap hAA (c_X4_isMove l ev ad σ a1   _ rfl) Emb.same hap gz_X4_isMove qML_RX4_173 qIM_yX4_isMove qSE_yX4_isMove ⟨(Nat.le_of_ble_eq_true rfl), (Nat.le_of_ble_eq_true rfl)⟩ (q0 := 0) rfl (by decide) rfl rfl rfl rfl hl.1 rfl (Nat.le_of_ble_eq_true rfl) dX4_after_2 ⟨Nat.le_refl _, Nat.le_refl _⟩ (fun H locs hP => ?_)
  refine r_ifz_ne (tgt := 15) hx hb dX4_after_5 (by decide) (fun c5 => ?_) (fun c5 => ?_)
  · have h := k_if c5 h
    refine lv_aload_n hx hb dX4_after_15 rfl (lv_at hl 0 rfl) ?_
    refine lv_iload_n hx hb dX4_after_16 rfl (lv_at hl 1 rfl) ?_
    obtain ⟨b1, h1, h⟩ := k_ob h
    refine k_callVi C hP hap hAA (c_X4_mayBe l ev ad σ a1   _ h1) Emb.same hap gz_X4_mayBe qML_RX4_176 qIM_yX4_mayBe qSE_yX4_mayBe ⟨(Nat.le_of_ble_eq_true rfl), (Nat.le_of_ble_eq_true rfl)⟩ (q0 := 0) rfl (by decide) rfl rfl rfl rfl hl.1 rfl (Nat.le_of_ble_eq_true rfl) dX4_after_17 ⟨Nat.le_refl _, Nat.le_refl _⟩ (fun H locs hP => ?_)
    refine r_ifz_eq (tgt := 32) hx hb dX4_after_20 (by decide) (fun c20 => ?_) (fun c20 => ?_)
    · have h := k_nf c20 h
      refine lv_aload_n hx hb dX4_after_32 rfl (lv_at hl 0 rfl) ?_
      refine lv_bipush (v := (-5)) hx hb dX4_after_33 (by decide) ?_
      obtain ⟨x3, σ2, h1, h⟩ := k_ob2 h
      refine k_callVi C hP hap hAA (c_X4_noLead l ev ad σ (-5)   _ _ h1) Emb.same hap gz_X4_noLead qML_RX4_229 qIM_yX4_noLead qSE_yX4_noLead ⟨(Nat.le_of_ble_eq_true rfl), (Nat.le_of_ble_eq_true rfl)⟩ (q0 := 0) rfl (by decide) rfl rfl rfl rfl hl.1 rfl (Nat.le_of_ble_eq_true rfl) dX4_after_35 ⟨Nat.le_refl _, Nat.le_refl _⟩ (fun H locs hP => ?_)
      exact e_iret C hend hP (k_some2 h).1 (congrArg (mw ev ad) (k_some2 h).2) dX4_after_38
    · have h := k_if c20 h
      refine lv_aload_n hx hb dX4_after_23 rfl (lv_at hl 0 rfl) ?_
      obtain ⟨x4, h1, h⟩ := k_ob h
      refine k_callVi C hP hap hAA (c_X4_howMany l ev ad σ   _ h1) Emb.same hap gz_X4_howMany qML_RX4_94 qIM_yX4_howMany qSE_yX4_howMany ⟨(Nat.le_of_ble_eq_true rfl), (Nat.le_of_ble_eq_true rfl)⟩ (q0 := 0) rfl (by decide) rfl rfl rfl rfl hl.1 rfl (Nat.le_of_ble_eq_true rfl) dX4_after_24 ⟨Nat.le_refl _, Nat.le_refl _⟩ (fun H locs hP => ?_)
      refine lv_bipush (v := 7) hx hb dX4_after_27 (by decide) ?_
      refine lv_icmp_le (tgt := 39) hx hb dX4_after_29 (by decide) (fun c29 => ?_) (fun c29 => ?_)
      · have h := k_if c29 h
        refine lv_aload_n hx hb dX4_after_39 rfl (lv_at hl 0 rfl) ?_
        refine lv_iload_n hx hb dX4_after_40 rfl (lv_at hl 1 rfl) ?_
        obtain ⟨x6, σ5, h1, h⟩ := k_ob2 h
        refine k_callVi C hP hap hAA (c_X4_makes l ev ad σ a1   _ _ h1) Emb.same hap gz_X4_makes qML_RX4_179 qIM_yX4_makes qSE_yX4_makes ⟨(Nat.le_of_ble_eq_true rfl), (Nat.le_of_ble_eq_true rfl)⟩ (q0 := 0) rfl (by decide) rfl rfl rfl rfl hl.1 rfl (Nat.le_of_ble_eq_true rfl) dX4_after_41 ⟨Nat.le_refl _, Nat.le_refl _⟩ (fun H locs hP => ?_)
        refine lv_pop hx hb dX4_after_44 rfl ?_
        refine lv_aload_n hx hb dX4_after_45 rfl (lv_at hl 0 rfl) ?_
        obtain ⟨x8, σ7, h1, h⟩ := k_ob2 h
        refine k_callVi C hP hap hAA (c_X4_search l ev 10 ad σ5   _ _ h1) Emb.same hap gz_X4_search qML_RX4_235 qIM_yX4_search qSE_yX4_search ⟨(Nat.le_of_ble_eq_true rfl), (Nat.le_of_ble_eq_true rfl)⟩ (q0 := 0) rfl (by decide) rfl rfl rfl rfl hl.1 rfl (Nat.le_of_ble_eq_true rfl) dX4_after_46 ⟨Nat.le_refl _, Nat.le_refl _⟩ (fun H locs hP => ?_)
        refine lv_ineg hx hb dX4_after_49 ?_
        refine lv_topi (fun x9 ex9 => ?_)
        have h := k_lt ex9 h
        refine lv_istore_n (lv' := [(2, .int x9), (0, .ref (ad 0)), (1, .int a1)]) hx hb dX4_after_50 rfl hl (by decide) rfl (fun ls hl => ?_)
        refine lv_aload_n hx hb dX4_after_51 rfl (lv_at hl 1 rfl) ?_
        refine lv_iload_n hx hb dX4_after_52 rfl (lv_at hl 2 rfl) ?_
        obtain ⟨σ10, h1, h⟩ := k_ob h
        refine k_callVv C hP hap hAA (c_X4_takes l ev ad σ7 a1   _ h1) Emb.same hap gz_X4_takes qML_RX4_238 qIM_yX4_takes qSE_yX4_takes ⟨(Nat.le_of_ble_eq_true rfl), (Nat.le_of_ble_eq_true rfl)⟩ (q0 := 0) rfl (by decide) rfl rfl rfl rfl hl.1 rfl (Nat.le_of_ble_eq_true rfl) dX4_after_53 ⟨Nat.le_refl _, Nat.le_refl _⟩ (fun H locs hP => ?_)
        refine lv_iload_n hx hb dX4_after_56 rfl (lv_at hl 0 rfl) ?_
        exact e_iret C hend hP (k_some2 h).1 (congrArg (mw ev ad) (k_some2 h).2) dX4_after_57
      · have h := k_nf c29 h
        refine lv_aload_n hx hb dX4_after_32 rfl (lv_at hl 0 rfl) ?_
        refine lv_bipush (v := (-5)) hx hb dX4_after_33 (by decide) ?_
        obtain ⟨x12, σ11, h1, h⟩ := k_ob2 h
        refine k_callVi C hP hap hAA (c_X4_noLead l ev ad σ (-5)   _ _ h1) Emb.same hap gz_X4_noLead qML_RX4_229 qIM_yX4_noLead qSE_yX4_noLead ⟨(Nat.le_of_ble_eq_true rfl), (Nat.le_of_ble_eq_true rfl)⟩ (q0 := 0) rfl (by decide) rfl rfl rfl rfl hl.1 rfl (Nat.le_of_ble_eq_true rfl) dX4_after_35 ⟨Nat.le_refl _, Nat.le_refl _⟩ (fun H locs hP => ?_)
        exact e_iret C hend hP (k_some2 h).1 (congrArg (mw ev ad) (k_some2 h).2) dX4_after_38
  · have h := k_nf c5 h
    refine lv_aload_n hx hb dX4_after_8 rfl (lv_at hl 0 rfl) ?_
    refine lv_bipush (v := (-2)) hx hb dX4_after_9 (by decide) ?_
    obtain ⟨x14, σ13, h1, h⟩ := k_ob2 h
    refine k_callVi C hP hap hAA (c_X4_noLead l ev ad σ (-2)   _ _ h1) Emb.same hap gz_X4_noLead qML_RX4_229 qIM_yX4_noLead qSE_yX4_noLead ⟨(Nat.le_of_ble_eq_true rfl), (Nat.le_of_ble_eq_true rfl)⟩ (q0 := 0) rfl (by decide) rfl rfl rfl rfl hl.1 rfl (Nat.le_of_ble_eq_true rfl) dX4_after_11 ⟨Nat.le_refl _, Nat.le_refl _⟩ (fun H locs hP => ?_)
    exact e_iret C hend hP (k_some2 h).1 (congrArg (mw ev ad) (k_some2 h).2) dX4_after_14
def f_X4_winsOf_L18_b (a1 : Int32) (x2 : Int32)  (rec18 : Int32 → Int32 → MM → Option (Int32 × MM)) (x4 : Int32) (x5 : Int32) (σ6 : MM) : Option (Int32 × MM) :=
  if (m_players σ6) ≤ x5 then some (x4, σ6) else if x5 = a1 then lt (x5 + 1) (fun x7 => rec18 x4 x7 σ6) else ob2 (f_X4_leadPlayed σ6 a1 x5) (fun x9 σ8 => ob2 (f_X4_leadPlayed σ8 x5 a1) (fun x11 σ10 => lt (x4 + (x2 * (x9 - x11))) (fun x12 => lt (x5 + 1) (fun x13 => rec18 x12 x13 σ10))))
def f_X4_winsOf_L18 (a1 : Int32) (x2 : Int32)  (x4 : Int32) (x5 : Int32) (σ6 : MM) : Option (Int32 × MM) :=
  lp (fun _ _ _ => none) (f_X4_winsOf_L18_b a1 x2 ) FU x4 x5 σ6
def f_X4_winsOf_b14 (a1 : Int32) (x1 : Int32) (x2 : Int32) (σ3 : MM) : Option (Int32 × MM) :=
  f_X4_winsOf_L18 a1 x2 x1 0 σ3
def f_X4_winsOf (σ : MM) (a1 : Int32) : Option (Int32 × MM) :=
  if (m_turn σ) = 0 then f_X4_winsOf_b14 a1 0 1 σ else f_X4_winsOf_b14 a1 0 (-1) σ
set_option maxHeartbeats 4000000 in
set_option maxRecDepth 100000 in
theorem c_X4_winsOf (l : Launch) (ev : EV) (ad : Nat → Nat) (σ : MM) (a1 : Int32)   (r : Int32) (σ' : MM) (h : f_X4_winsOf σ a1 = some (r, σ')) : Ct l yX4_winsOf prog_6_method_102_code 5 (Option.some Jvm.ClassFile.FieldType.int) (rmk 10 229) ev 13 ad (mw ev ad σ) (mw ev ad σ') [.ref (ad 0), .int a1] (some (.int r)) := by
  refine Ct.of (by decide +kernel) (Nat.le_of_ble_eq_true rfl) ?_
  intro p e s m args below meth c Qc C hap hP hend ls hl
  have hAA : ∀ j, j < 13 → inA ad 13 (ad j) := fun j hj => ⟨j, hj, rfl⟩
  have hx := C.1
  have hb := C.2.1
  have hl : lv_has ls 5 [(0, .ref (ad 0)), (1, .int a1)] := hl
  have h := (f_X4_winsOf.eq_1 _ _ ).symm.trans h
  have hB14 : ∀ (x1 : Int32) (x2 : Int32) (σ3 : MM) (H : Heap) (locs : List Loc) (ls : Array Slot), f_X4_winsOf_b14 a1 x1 x2 σ3 = some (r, σ') → PS ev 13 ad (mw ev ad σ3) (inA ad 13) s H locs → lv_has ls 5 [(0, .ref (ad 0)), (1, .int a1), (2, .int x1)] → WW ev p l e (rmk 10 229) s m args below meth c Qc ad 13 H locs 14 ls [.int x2] := by
    intro x1 x2 σ3 H locs ls h hP hl
    have h := (f_X4_winsOf_b14.eq_1 _ _ _ _ ).symm.trans h
    refine lv_istore_n (lv' := [(3, .int x2), (0, .ref (ad 0)), (1, .int a1), (2, .int x1)]) hx hb dX4_winsOf_14 rfl hl (by decide) rfl (fun ls hl => ?_)
    refine lv_iconst (v := 0) hx hb dX4_winsOf_15 (by decide) ?_
    refine lv_istore (lv' := [(4, .int 0), (3, .int x2), (0, .ref (ad 0)), (1, .int a1), (2, .int x1)]) hx hb dX4_winsOf_16 hl (by decide) rfl (fun ls hl => ?_)
    have hL18 : ∀ (n : Nat) (x4 : Int32) (x5 : Int32) (σ6 : MM) (H : Heap) (locs : List Loc) (ls : Array Slot), lp (fun _ _ _ => none) (f_X4_winsOf_L18_b a1 x2 ) n x4 x5 σ6 = some (r, σ') → PS ev 13 ad (mw ev ad σ6) (inA ad 13) s H locs → lv_has ls 5 [(0, .ref (ad 0)), (1, .int a1), (2, .int x4), (3, .int x2), (4, .int x5)] → WW ev p l e (rmk 10 229) s m args below meth c Qc ad 13 H locs 18 ls [] := by
      intro n
      induction n with
      | zero =>
        intro x4 x5 σ6 H locs ls h; exact k_none h
      | succ n ih =>
        intro x4 x5 σ6 H locs ls h hP hl
        have h : f_X4_winsOf_L18_b a1 x2  (lp (fun _ _ _ => none) (f_X4_winsOf_L18_b a1 x2 ) n) x4 x5 σ6 = some (r, σ') := h
        have h := (f_X4_winsOf_L18_b.eq_1 _ _ _ _ _ _ ).symm.trans h
        refine lv_iload hx hb dX4_winsOf_18 (lv_at hl 4 rfl) ?_
        refine lv_aload_n hx hb dX4_winsOf_20 rfl (lv_at hl 0 rfl) ?_
        refine r_get C hP (ci := 4) rfl uin_X4 7 (by decide) 0 (by decide) rfl qFL_RX4_60 rfl rfl dX4_winsOf_21 ?_
        refine lv_icmp_ge (tgt := 59) hx hb dX4_winsOf_24 (by decide) (fun c24 => ?_) (fun c24 => ?_)
        · have h := k_if c24 h
          refine lv_iload_n hx hb dX4_winsOf_59 rfl (lv_at hl 2 rfl) ?_
          exact e_iret C hend hP (k_some2 h).1 (congrArg (mw ev ad) (k_some2 h).2) dX4_winsOf_60
        · have h := k_nf c24 h
          refine lv_iload hx hb dX4_winsOf_27 (lv_at hl 4 rfl) ?_
          refine lv_iload_n hx hb dX4_winsOf_29 rfl (lv_at hl 1 rfl) ?_
          refine lv_icmp_eq (tgt := 53) hx hb dX4_winsOf_30 (by decide) (fun c30 => ?_) (fun c30 => ?_)
          · have h := k_if c30 h
            obtain ⟨x7, ex7, h⟩ := k_ltx h
            refine lv_iinc (v := x7) (lv' := [(4, .int x7), (0, .ref (ad 0)), (1, .int a1), (2, .int x4), (3, .int x2)]) hx hb dX4_winsOf_53 hl (k := 4) rfl (by rw [ex7]; rfl) (by decide) rfl (fun ls hl => ?_)
            refine lv_goto (tgt := 18) hx hb dX4_winsOf_56 (by decide) ?_
            exact ih _ _ _ _ _ _ h hP (lv_sub hl [1, 2, 3, 4, 0] rfl)
          · have h := k_nf c30 h
            refine lv_iload_n hx hb dX4_winsOf_33 rfl (lv_at hl 2 rfl) ?_
            refine lv_iload_n hx hb dX4_winsOf_34 rfl (lv_at hl 3 rfl) ?_
            refine lv_aload_n hx hb dX4_winsOf_35 rfl (lv_at hl 0 rfl) ?_
            refine lv_iload_n hx hb dX4_winsOf_36 rfl (lv_at hl 1 rfl) ?_
            refine lv_iload hx hb dX4_winsOf_37 (lv_at hl 4 rfl) ?_
            obtain ⟨x9, σ8, h1, h⟩ := k_ob2 h
            refine k_callVi C hP hap hAA (c_X4_leadPlayed l ev ad σ6 a1 x5   _ _ h1) Emb.same hap gz_X4_leadPlayed qML_RX4_291 qIM_yX4_leadPlayed qSE_yX4_leadPlayed ⟨(Nat.le_of_ble_eq_true rfl), (Nat.le_of_ble_eq_true rfl)⟩ (q0 := 0) rfl (by decide) rfl rfl rfl rfl hl.1 rfl (Nat.le_of_ble_eq_true rfl) dX4_winsOf_39 ⟨Nat.le_refl _, Nat.le_refl _⟩ (fun H locs hP => ?_)
            refine lv_aload_n hx hb dX4_winsOf_42 rfl (lv_at hl 0 rfl) ?_
            refine lv_iload hx hb dX4_winsOf_43 (lv_at hl 4 rfl) ?_
            refine lv_iload_n hx hb dX4_winsOf_45 rfl (lv_at hl 1 rfl) ?_
            obtain ⟨x11, σ10, h1, h⟩ := k_ob2 h
            refine k_callVi C hP hap hAA (c_X4_leadPlayed l ev ad σ8 x5 a1   _ _ h1) Emb.same hap gz_X4_leadPlayed qML_RX4_291 qIM_yX4_leadPlayed qSE_yX4_leadPlayed ⟨(Nat.le_of_ble_eq_true rfl), (Nat.le_of_ble_eq_true rfl)⟩ (q0 := 0) rfl (by decide) rfl rfl rfl rfl hl.1 rfl (Nat.le_of_ble_eq_true rfl) dX4_winsOf_46 ⟨Nat.le_refl _, Nat.le_refl _⟩ (fun H locs hP => ?_)
            refine lv_isub hx hb dX4_winsOf_49 ?_
            refine lv_imul hx hb dX4_winsOf_50 ?_
            refine lv_iadd hx hb dX4_winsOf_51 ?_
            refine lv_topi (fun x12 ex12 => ?_)
            have h := k_lt ex12 h
            refine lv_istore_n (lv' := [(2, .int x12), (0, .ref (ad 0)), (1, .int a1), (3, .int x2), (4, .int x5)]) hx hb dX4_winsOf_52 rfl hl (by decide) rfl (fun ls hl => ?_)
            obtain ⟨x13, ex13, h⟩ := k_ltx h
            refine lv_iinc (v := x13) (lv' := [(4, .int x13), (2, .int x12), (0, .ref (ad 0)), (1, .int a1), (3, .int x2)]) hx hb dX4_winsOf_53 hl (k := 4) rfl (by rw [ex13]; rfl) (by decide) rfl (fun ls hl => ?_)
            refine lv_goto (tgt := 18) hx hb dX4_winsOf_56 (by decide) ?_
            exact ih _ _ _ _ _ _ h hP (lv_sub hl [2, 3, 1, 4, 0] rfl)
    exact hL18 FU _ _ _ _ _ _ h hP (lv_sub hl [2, 3, 4, 1, 0] rfl)
  refine lv_iconst (v := 0) hx hb dX4_winsOf_0 (by decide) ?_
  refine lv_istore_n (lv' := [(2, .int 0), (0, .ref (ad 0)), (1, .int a1)]) hx hb dX4_winsOf_1 rfl hl (by decide) rfl (fun ls hl => ?_)
  refine lv_aload_n hx hb dX4_winsOf_2 rfl (lv_at hl 1 rfl) ?_
  refine r_get C hP (ci := 4) rfl uin_X4 5 (by decide) 0 (by decide) rfl qFL_RX4_101 rfl rfl dX4_winsOf_3 ?_
  refine lv_if_ne (tgt := 13) hx hb dX4_winsOf_6 (by decide) (fun c6 => ?_) (fun c6 => ?_)
  · have h := k_nf c6 h
    refine lv_iconst (v := (-1)) hx hb dX4_winsOf_13 (by decide) ?_
    exact hB14 _ _ _ _ _ _ h hP (lv_sub hl [1, 2, 0] rfl)
  · have h := k_if c6 h
    refine lv_iconst (v := 1) hx hb dX4_winsOf_9 (by decide) ?_
    refine lv_goto (tgt := 14) hx hb dX4_winsOf_10 (by decide) ?_
    exact hB14 _ _ _ _ _ _ h hP (lv_sub hl [1, 2, 0] rfl)
def f_X4_wins (σ : MM) (a1 : Int32) : Option (Int32 × MM) :=
  if (f_X4_isPlayer σ a1) = true then ob2 (f_X4_winsOf σ a1) (fun x4 σ3 => some (x4, σ3)) else ob2 (f_X4_noLead σ (-2)) (fun x2 σ1 => some (x2, σ1))
set_option maxHeartbeats 4000000 in
set_option maxRecDepth 100000 in
theorem c_X4_wins (l : Launch) (ev : EV) (ad : Nat → Nat) (σ : MM) (a1 : Int32)   (r : Int32) (σ' : MM) (h : f_X4_wins σ a1 = some (r, σ')) : Ct l yX4_wins prog_6_method_103_code 2 (Option.some Jvm.ClassFile.FieldType.int) (rmk 11 253) ev 13 ad (mw ev ad σ) (mw ev ad σ') [.ref (ad 0), .int a1] (some (.int r)) := by
  refine Ct.of (by decide +kernel) (Nat.le_of_ble_eq_true rfl) ?_
  intro p e s m args below meth c Qc C hap hP hend ls hl
  have hAA : ∀ j, j < 13 → inA ad 13 (ad j) := fun j hj => ⟨j, hj, rfl⟩
  have hx := C.1
  have hb := C.2.1
  have hl : lv_has ls 2 [(0, .ref (ad 0)), (1, .int a1)] := hl
  have h := (f_X4_wins.eq_1 _ _ ).symm.trans h
  refine lv_aload_n hx hb dX4_wins_0 rfl (lv_at hl 0 rfl) ?_
  refine lv_iload_n hx hb dX4_wins_1 rfl (lv_at hl 1 rfl) ?_
  refine k_callVi C hP hap hAA (c_X4_isPlayer l ev ad σ a1   _ rfl) Emb.same hap gz_X4_isPlayer qML_RX4_87 qIM_yX4_isPlayer qSE_yX4_isPlayer ⟨(Nat.le_of_ble_eq_true rfl), (Nat.le_of_ble_eq_true rfl)⟩ (q0 := 0) rfl (by decide) rfl rfl rfl rfl hl.1 rfl (Nat.le_of_ble_eq_true rfl) dX4_wins_2 ⟨Nat.le_refl _, Nat.le_refl _⟩ (fun H locs hP => ?_)
  refine r_ifz_eq (tgt := 16) hx hb dX4_wins_5 (by decide) (fun c5 => ?_) (fun c5 => ?_)
  · have h := k_nf c5 h
    refine lv_aload_n hx hb dX4_wins_16 rfl (lv_at hl 0 rfl) ?_
    refine lv_bipush (v := (-2)) hx hb dX4_wins_17 (by decide) ?_
    obtain ⟨x2, σ1, h1, h⟩ := k_ob2 h
    refine k_callVi C hP hap hAA (c_X4_noLead l ev ad σ (-2)   _ _ h1) Emb.same hap gz_X4_noLead qML_RX4_229 qIM_yX4_noLead qSE_yX4_noLead ⟨(Nat.le_of_ble_eq_true rfl), (Nat.le_of_ble_eq_true rfl)⟩ (q0 := 0) rfl (by decide) rfl rfl rfl rfl hl.1 rfl (Nat.le_of_ble_eq_true rfl) dX4_wins_19 ⟨Nat.le_refl _, Nat.le_refl _⟩ (fun H locs hP => ?_)
    exact e_iret C hend hP (k_some2 h).1 (congrArg (mw ev ad) (k_some2 h).2) dX4_wins_22
  · have h := k_if c5 h
    refine lv_aload_n hx hb dX4_wins_8 rfl (lv_at hl 0 rfl) ?_
    refine lv_iload_n hx hb dX4_wins_9 rfl (lv_at hl 1 rfl) ?_
    obtain ⟨x4, σ3, h1, h⟩ := k_ob2 h
    refine k_callVi C hP hap hAA (c_X4_winsOf l ev ad σ a1   _ _ h1) Emb.same hap gz_X4_winsOf qML_RX4_294 qIM_yX4_winsOf qSE_yX4_winsOf ⟨(Nat.le_of_ble_eq_true rfl), (Nat.le_of_ble_eq_true rfl)⟩ (q0 := 0) rfl (by decide) rfl rfl rfl rfl hl.1 rfl (Nat.le_of_ble_eq_true rfl) dX4_wins_10 ⟨Nat.le_refl _, Nat.le_refl _⟩ (fun H locs hP => ?_)
    refine lv_goto (tgt := 22) hx hb dX4_wins_13 (by decide) ?_
    exact e_iret C hend hP (k_some2 h).1 (congrArg (mw ev ad) (k_some2 h).2) dX4_wins_22
def f_X4_champion_L18_b   (rec18 : Int32 → Int32 → MM → Option (Int32 × MM)) (x1 : Int32) (x2 : Int32) (σ3 : MM) : Option (Int32 × MM) :=
  if (m_players σ3) ≤ x2 then some (x1, σ3) else ob2 (f_X4_winsOf σ3 x2) (fun x5 σ4 => ob2 (f_X4_winsOf σ4 x1) (fun x7 σ6 => if x5 ≤ x7 then lt (x2 + 1) (fun x8 => rec18 x1 x8 σ6) else lt (x2 + 1) (fun x9 => rec18 x2 x9 σ6)))
def f_X4_champion_L18   (x1 : Int32) (x2 : Int32) (σ3 : MM) : Option (Int32 × MM) :=
  lp (fun _ _ _ => none) (f_X4_champion_L18_b  ) FU x1 x2 σ3
def f_X4_champion (σ : MM) : Option (Int32 × MM) :=
  if (m_players σ) = 0 then ob2 (f_X4_no σ (-5)) (fun x11 σ10 => some (x11, σ10)) else f_X4_champion_L18 0 1 σ
set_option maxHeartbeats 4000000 in
set_option maxRecDepth 100000 in
theorem c_X4_champion (l : Launch) (ev : EV) (ad : Nat → Nat) (σ : MM)   (r : Int32) (σ' : MM) (h : f_X4_champion σ = some (r, σ')) : Ct l yX4_champion prog_6_method_104_code 3 (Option.some Jvm.ClassFile.FieldType.int) (rmk 11 253) ev 13 ad (mw ev ad σ) (mw ev ad σ') [.ref (ad 0)] (some (.int r)) := by
  refine Ct.of (by decide +kernel) (Nat.le_of_ble_eq_true rfl) ?_
  intro p e s m args below meth c Qc C hap hP hend ls hl
  have hAA : ∀ j, j < 13 → inA ad 13 (ad j) := fun j hj => ⟨j, hj, rfl⟩
  have hx := C.1
  have hb := C.2.1
  have hl : lv_has ls 3 [(0, .ref (ad 0))] := hl
  have h := (f_X4_champion.eq_1 _ ).symm.trans h
  refine lv_aload_n hx hb dX4_champion_0 rfl (lv_at hl 0 rfl) ?_
  refine r_get C hP (ci := 4) rfl uin_X4 7 (by decide) 0 (by decide) rfl qFL_RX4_60 rfl rfl dX4_champion_1 ?_
  refine lv_if_ne (tgt := 14) hx hb dX4_champion_4 (by decide) (fun c4 => ?_) (fun c4 => ?_)
  · have h := k_nf c4 h
    refine lv_iconst (v := 0) hx hb dX4_champion_14 (by decide) ?_
    refine lv_istore_n (lv' := [(1, .int 0), (0, .ref (ad 0))]) hx hb dX4_champion_15 rfl hl (by decide) rfl (fun ls hl => ?_)
    refine lv_iconst (v := 1) hx hb dX4_champion_16 (by decide) ?_
    refine lv_istore_n (lv' := [(2, .int 1), (1, .int 0), (0, .ref (ad 0))]) hx hb dX4_champion_17 rfl hl (by decide) rfl (fun ls hl => ?_)
    have hL18 : ∀ (n : Nat) (x1 : Int32) (x2 : Int32) (σ3 : MM) (H : Heap) (locs : List Loc) (ls : Array Slot), lp (fun _ _ _ => none) (f_X4_champion_L18_b  ) n x1 x2 σ3 = some (r, σ') → PS ev 13 ad (mw ev ad σ3) (inA ad 13) s H locs → lv_has ls 3 [(0, .ref (ad 0)), (1, .int x1), (2, .int x2)] → WW ev p l e (rmk 11 253) s m args below meth c Qc ad 13 H locs 18 ls [] := by
      intro n
      induction n with
      | zero =>
        intro x1 x2 σ3 H locs ls h; exact k_none h
      | succ n ih =>
        intro x1 x2 σ3 H locs ls h hP hl
        have h : f_X4_champion_L18_b   (lp (fun _ _ _ => none) (f_X4_champion_L18_b  ) n) x1 x2 σ3 = some (r, σ') := h
        have h := (f_X4_champion_L18_b.eq_1 _ _ _ _ ).symm.trans h
        refine lv_iload_n hx hb dX4_champion_18 rfl (lv_at hl 2 rfl) ?_
        refine lv_aload_n hx hb dX4_champion_19 rfl (lv_at hl 0 rfl) ?_
        refine r_get C hP (ci := 4) rfl uin_X4 7 (by decide) 0 (by decide) rfl qFL_RX4_60 rfl rfl dX4_champion_20 ?_
        refine lv_icmp_ge (tgt := 47) hx hb dX4_champion_23 (by decide) (fun c23 => ?_) (fun c23 => ?_)
        · have h := k_if c23 h
          refine lv_iload_n hx hb dX4_champion_47 rfl (lv_at hl 1 rfl) ?_
          exact e_iret C hend hP (k_some2 h).1 (congrArg (mw ev ad) (k_some2 h).2) dX4_champion_48
        · have h := k_nf c23 h
          refine lv_aload_n hx hb dX4_champion_26 rfl (lv_at hl 0 rfl) ?_
          refine lv_iload_n hx hb dX4_champion_27 rfl (lv_at hl 2 rfl) ?_
          obtain ⟨x5, σ4, h1, h⟩ := k_ob2 h
          refine k_callVi C hP hap hAA (c_X4_winsOf l ev ad σ3 x2   _ _ h1) Emb.same hap gz_X4_winsOf qML_RX4_294 qIM_yX4_winsOf qSE_yX4_winsOf ⟨(Nat.le_of_ble_eq_true rfl), (Nat.le_of_ble_eq_true rfl)⟩ (q0 := 0) rfl (by decide) rfl rfl rfl rfl hl.1 rfl (Nat.le_of_ble_eq_true rfl) dX4_champion_28 ⟨Nat.le_refl _, Nat.le_refl _⟩ (fun H locs hP => ?_)
          refine lv_aload_n hx hb dX4_champion_31 rfl (lv_at hl 0 rfl) ?_
          refine lv_iload_n hx hb dX4_champion_32 rfl (lv_at hl 1 rfl) ?_
          obtain ⟨x7, σ6, h1, h⟩ := k_ob2 h
          refine k_callVi C hP hap hAA (c_X4_winsOf l ev ad σ4 x1   _ _ h1) Emb.same hap gz_X4_winsOf qML_RX4_294 qIM_yX4_winsOf qSE_yX4_winsOf ⟨(Nat.le_of_ble_eq_true rfl), (Nat.le_of_ble_eq_true rfl)⟩ (q0 := 0) rfl (by decide) rfl rfl rfl rfl hl.1 rfl (Nat.le_of_ble_eq_true rfl) dX4_champion_33 ⟨Nat.le_refl _, Nat.le_refl _⟩ (fun H locs hP => ?_)
          refine lv_icmp_le (tgt := 41) hx hb dX4_champion_36 (by decide) (fun c36 => ?_) (fun c36 => ?_)
          · have h := k_if c36 h
            obtain ⟨x8, ex8, h⟩ := k_ltx h
            refine lv_iinc (v := x8) (lv' := [(2, .int x8), (0, .ref (ad 0)), (1, .int x1)]) hx hb dX4_champion_41 hl (k := 2) rfl (by rw [ex8]; rfl) (by decide) rfl (fun ls hl => ?_)
            refine lv_goto (tgt := 18) hx hb dX4_champion_44 (by decide) ?_
            exact ih _ _ _ _ _ _ h hP (lv_sub hl [1, 2, 0] rfl)
          · have h := k_nf c36 h
            refine lv_iload_n hx hb dX4_champion_39 rfl (lv_at hl 2 rfl) ?_
            refine lv_istore_n (lv' := [(1, .int x2), (0, .ref (ad 0)), (2, .int x2)]) hx hb dX4_champion_40 rfl hl (by decide) rfl (fun ls hl => ?_)
            obtain ⟨x9, ex9, h⟩ := k_ltx h
            refine lv_iinc (v := x9) (lv' := [(2, .int x9), (1, .int x2), (0, .ref (ad 0))]) hx hb dX4_champion_41 hl (k := 2) rfl (by rw [ex9]; rfl) (by decide) rfl (fun ls hl => ?_)
            refine lv_goto (tgt := 18) hx hb dX4_champion_44 (by decide) ?_
            exact ih _ _ _ _ _ _ h hP (lv_sub hl [2, 1, 0] rfl)
    exact hL18 FU _ _ _ _ _ _ h hP (lv_sub hl [2, 1, 0] rfl)
  · have h := k_if c4 h
    refine lv_aload_n hx hb dX4_champion_7 rfl (lv_at hl 0 rfl) ?_
    refine lv_bipush (v := (-5)) hx hb dX4_champion_8 (by decide) ?_
    obtain ⟨x11, σ10, h1, h⟩ := k_ob2 h
    refine k_callVi C hP hap hAA (c_X4_no l ev ad σ (-5)   _ _ h1) Emb.same hap gz_X4_no qML_RX4_56 qIM_yX4_no qSE_yX4_no ⟨(Nat.le_of_ble_eq_true rfl), (Nat.le_of_ble_eq_true rfl)⟩ (q0 := 0) rfl (by decide) rfl rfl rfl rfl hl.1 rfl (Nat.le_of_ble_eq_true rfl) dX4_champion_10 ⟨Nat.le_refl _, Nat.le_refl _⟩ (fun H locs hP => ?_)
    exact e_iret C hend hP (k_some2 h).1 (congrArg (mw ev ad) (k_some2 h).2) dX4_champion_13
def f_X4_likenesses_b22 (σ : MM) (rec4 : Int32 → Int32 → Option (Int32)) (x3 : Int32) (x4 : Int32) (x5 : Int32) (x6 : Int32) : Option (Int32) :=
  if x5 ≤ x6 then some x3 else ob (f_X4_isAlike σ x4) (fun b7 => if b7 = true then lt (x3 + 1) (fun x9 => lt (x4 + 1) (fun x10 => rec4 x9 x10)) else lt (x4 + 1) (fun x8 => rec4 x3 x8))
def f_X4_likenesses_L4_b (σ : MM)  (rec4 : Int32 → Int32 → Option (Int32)) (x1 : Int32) (x2 : Int32) : Option (Int32) :=
  if (m_w σ) = (m_h σ) then f_X4_likenesses_b22 σ rec4 x1 x2 8 x2 else f_X4_likenesses_b22 σ rec4 x1 x2 4 x2
def f_X4_likenesses_L4 (σ : MM)  (x1 : Int32) (x2 : Int32) : Option (Int32) :=
  lp (fun _ _ => none) (f_X4_likenesses_L4_b σ ) FU x1 x2
def f_X4_likenesses (σ : MM) : Option (Int32) :=
  f_X4_likenesses_L4 σ 0 0
set_option maxHeartbeats 4000000 in
set_option maxRecDepth 100000 in
theorem c_X4_likenesses (l : Launch) (ev : EV) (ad : Nat → Nat) (σ : MM)   (r : Int32)  (h : f_X4_likenesses σ = some r) : Ct l yX4_likenesses prog_6_method_105_code 3 (Option.some Jvm.ClassFile.FieldType.int) (rmk 3 68) ev 13 ad (mw ev ad σ) (mw ev ad σ) [.ref (ad 0)] (some (.int r)) := by
  refine Ct.of (by decide +kernel) (Nat.le_of_ble_eq_true rfl) ?_
  intro p e s m args below meth c Qc C hap hP hend ls hl
  have hAA : ∀ j, j < 13 → inA ad 13 (ad j) := fun j hj => ⟨j, hj, rfl⟩
  have hx := C.1
  have hb := C.2.1
  have hl : lv_has ls 3 [(0, .ref (ad 0))] := hl
  have h := (f_X4_likenesses.eq_1 _ ).symm.trans h
  refine lv_iconst (v := 0) hx hb dX4_likenesses_0 (by decide) ?_
  refine lv_istore_n (lv' := [(1, .int 0), (0, .ref (ad 0))]) hx hb dX4_likenesses_1 rfl hl (by decide) rfl (fun ls hl => ?_)
  refine lv_iconst (v := 0) hx hb dX4_likenesses_2 (by decide) ?_
  refine lv_istore_n (lv' := [(2, .int 0), (1, .int 0), (0, .ref (ad 0))]) hx hb dX4_likenesses_3 rfl hl (by decide) rfl (fun ls hl => ?_)
  have hL4 : ∀ (n : Nat) (x1 : Int32) (x2 : Int32) (H : Heap) (locs : List Loc) (ls : Array Slot), lp (fun _ _ => none) (f_X4_likenesses_L4_b σ ) n x1 x2 = some r → PS ev 13 ad (mw ev ad σ) (inA ad 13) s H locs → lv_has ls 3 [(0, .ref (ad 0)), (1, .int x1), (2, .int x2)] → WW ev p l e (rmk 3 68) s m args below meth c Qc ad 13 H locs 4 ls [] := by
    intro n
    induction n with
    | zero =>
      intro x1 x2 H locs ls h; exact k_none h
    | succ n ih =>
      intro x1 x2 H locs ls h hP hl
      have h : f_X4_likenesses_L4_b σ  (lp (fun _ _ => none) (f_X4_likenesses_L4_b σ ) n) x1 x2 = some r := h
      have h := (f_X4_likenesses_L4_b.eq_1 _ _ _ _ ).symm.trans h
      have hB22 : ∀ (x3 : Int32) (x4 : Int32) (x5 : Int32) (x6 : Int32) (H : Heap) (locs : List Loc) (ls : Array Slot), f_X4_likenesses_b22 σ (lp (fun _ _ => none) (f_X4_likenesses_L4_b σ ) n) x3 x4 x5 x6 = some r → PS ev 13 ad (mw ev ad σ) (inA ad 13) s H locs → lv_has ls 3 [(0, .ref (ad 0)), (1, .int x3), (2, .int x4)] → WW ev p l e (rmk 3 68) s m args below meth c Qc ad 13 H locs 22 ls [.int x5, .int x6] := by
        intro x3 x4 x5 x6 H locs ls h hP hl
        have h := (f_X4_likenesses_b22.eq_1 _ _ _ _ _ _ ).symm.trans h
        refine lv_icmp_ge (tgt := 42) hx hb dX4_likenesses_22 (by decide) (fun c22 => ?_) (fun c22 => ?_)
        · have h := k_if c22 h
          refine lv_iload_n hx hb dX4_likenesses_42 rfl (lv_at hl 1 rfl) ?_
          exact e_iret C hend hP (k_some h) rfl dX4_likenesses_43
        · have h := k_nf c22 h
          refine lv_aload_n hx hb dX4_likenesses_25 rfl (lv_at hl 0 rfl) ?_
          refine lv_iload_n hx hb dX4_likenesses_26 rfl (lv_at hl 2 rfl) ?_
          obtain ⟨b7, h1, h⟩ := k_ob h
          refine k_callVi C hP hap hAA (c_X4_isAlike l ev ad σ x4   _ h1) Emb.same hap gz_X4_isAlike qML_RX4_277 qIM_yX4_isAlike qSE_yX4_isAlike ⟨(Nat.le_of_ble_eq_true rfl), (Nat.le_of_ble_eq_true rfl)⟩ (q0 := 0) rfl (by decide) rfl rfl rfl rfl hl.1 rfl (Nat.le_of_ble_eq_true rfl) dX4_likenesses_27 ⟨Nat.le_refl _, Nat.le_refl _⟩ (fun H locs hP => ?_)
          refine r_ifz_eq (tgt := 36) hx hb dX4_likenesses_30 (by decide) (fun c30 => ?_) (fun c30 => ?_)
          · have h := k_nf c30 h
            obtain ⟨x8, ex8, h⟩ := k_ltx h
            refine lv_iinc (v := x8) (lv' := [(2, .int x8), (0, .ref (ad 0)), (1, .int x3)]) hx hb dX4_likenesses_36 hl (k := 2) rfl (by rw [ex8]; rfl) (by decide) rfl (fun ls hl => ?_)
            refine lv_goto (tgt := 4) hx hb dX4_likenesses_39 (by decide) ?_
            exact ih _ _ _ _ _ h hP (lv_sub hl [1, 2, 0] rfl)
          · have h := k_if c30 h
            obtain ⟨x9, ex9, h⟩ := k_ltx h
            refine lv_iinc (v := x9) (lv' := [(1, .int x9), (0, .ref (ad 0)), (2, .int x4)]) hx hb dX4_likenesses_33 hl (k := 1) rfl (by rw [ex9]; rfl) (by decide) rfl (fun ls hl => ?_)
            obtain ⟨x10, ex10, h⟩ := k_ltx h
            refine lv_iinc (v := x10) (lv' := [(2, .int x10), (1, .int x9), (0, .ref (ad 0))]) hx hb dX4_likenesses_36 hl (k := 2) rfl (by rw [ex10]; rfl) (by decide) rfl (fun ls hl => ?_)
            refine lv_goto (tgt := 4) hx hb dX4_likenesses_39 (by decide) ?_
            exact ih _ _ _ _ _ h hP (lv_sub hl [2, 1, 0] rfl)
      refine lv_iload_n hx hb dX4_likenesses_4 rfl (lv_at hl 2 rfl) ?_
      refine lv_aload_n hx hb dX4_likenesses_5 rfl (lv_at hl 0 rfl) ?_
      refine r_get C hP (ci := 4) rfl uin_X4 0 (by decide) 0 (by decide) rfl qFL_RX4_67 rfl rfl dX4_likenesses_6 ?_
      refine lv_aload_n hx hb dX4_likenesses_9 rfl (lv_at hl 0 rfl) ?_
      refine r_get C hP (ci := 4) rfl uin_X4 1 (by decide) 0 (by decide) rfl qFL_RX4_70 rfl rfl dX4_likenesses_10 ?_
      refine lv_icmp_ne (tgt := 21) hx hb dX4_likenesses_13 (by decide) (fun c13 => ?_) (fun c13 => ?_)
      · have h := k_nf c13 h
        refine lv_iconst (v := 4) hx hb dX4_likenesses_21 (by decide) ?_
        exact hB22 _ _ _ _ _ _ _ h hP (lv_sub hl [0, 1, 2] rfl)
      · have h := k_if c13 h
        refine lv_bipush (v := 8) hx hb dX4_likenesses_16 (by decide) ?_
        refine lv_goto (tgt := 22) hx hb dX4_likenesses_18 (by decide) ?_
        exact hB22 _ _ _ _ _ _ _ h hP (lv_sub hl [0, 1, 2] rfl)
  exact hL4 FU _ _ _ _ _ h hP (lv_sub hl [2, 1, 0] rfl)
def f_X4_toldAt (σ : MM) (a1 : Int32) (a2 : Int32) : Option (Int32) :=
  gd (inb ((40 * a1) + a2) 320) (lt ((m_rowOf σ) (Int32.toNatClampNeg ((40 * a1) + a2))) (fun y1 => if (lg_cmp y1 (Int32.toInt64 (Int64.toInt32 y1))) = 0 then some (Int64.toInt32 y1) else some (-1)))
set_option maxHeartbeats 4000000 in
set_option maxRecDepth 100000 in
theorem c_X4_toldAt (l : Launch) (ev : EV) (ad : Nat → Nat) (σ : MM) (a1 : Int32) (a2 : Int32)   (r : Int32)  (h : f_X4_toldAt σ a1 a2 = some r) : Ct l yX4_toldAt prog_6_method_106_code 5 (Option.some Jvm.ClassFile.FieldType.int) (rmk 0 0) ev 13 ad (mw ev ad σ) (mw ev ad σ) [.ref (ad 0), .int a1, .int a2] (some (.int r)) := by
  refine Ct.of (by decide +kernel) (Nat.le_of_ble_eq_true rfl) ?_
  intro p e s m args below meth c Qc C hap hP hend ls hl
  have hAA : ∀ j, j < 13 → inA ad 13 (ad j) := fun j hj => ⟨j, hj, rfl⟩
  have hx := C.1
  have hb := C.2.1
  have hl : lv_has ls 5 [(0, .ref (ad 0)), (1, .int a1), (2, .int a2)] := hl
  have h := (f_X4_toldAt.eq_1 _ _ _ ).symm.trans h
  refine lv_aload_n hx hb dX4_toldAt_0 rfl (lv_at hl 0 rfl) ?_
  refine r_get C hP (ci := 4) rfl uin_X4 19 (by decide) 0 (by decide) rfl qFL_RX4_35 rfl rfl dX4_toldAt_1 ?_
  refine lv_bipush (v := 40) hx hb dX4_toldAt_4 (by decide) ?_
  refine lv_iload_n hx hb dX4_toldAt_6 rfl (lv_at hl 1 rfl) ?_
  refine lv_imul hx hb dX4_toldAt_7 ?_
  refine lv_iload_n hx hb dX4_toldAt_8 rfl (lv_at hl 2 rfl) ?_
  refine lv_iadd hx hb dX4_toldAt_9 ?_
  obtain ⟨hg, h⟩ := k_gd h
  refine r_lald C hP 9 (by decide) rfl hg dX4_toldAt_10 ?_
  refine lv_topl (fun y1 ey1 => ?_)
  have h := k_lt ey1 h
  refine lv_lstore_n (lv' := [(3, .long y1), (0, .ref (ad 0)), (1, .int a1), (2, .int a2)]) hx hb dX4_toldAt_11 rfl hl (by decide) rfl (fun ls hl => ?_)
  refine lv_lload_n hx hb dX4_toldAt_12 rfl (lv_at hl 0 rfl) ?_
  refine lv_lload_n hx hb dX4_toldAt_13 rfl (lv_at hl 0 rfl) ?_
  refine lv_l2i hx hb dX4_toldAt_14 rfl ?_
  refine lv_i2l hx hb dX4_toldAt_15 rfl ?_
  refine W.lcmp hx hb dX4_toldAt_16 ?_
  refine lv_if_ne (tgt := 25) hx hb dX4_toldAt_17 (by decide) (fun c17 => ?_) (fun c17 => ?_)
  · have h := k_nf c17 h
    refine lv_iconst (v := (-1)) hx hb dX4_toldAt_25 (by decide) ?_
    exact e_iret C hend hP (k_some h) rfl dX4_toldAt_26
  · have h := k_if c17 h
    refine lv_lload_n hx hb dX4_toldAt_20 rfl (lv_at hl 0 rfl) ?_
    refine lv_l2i hx hb dX4_toldAt_21 rfl ?_
    refine lv_goto (tgt := 26) hx hb dX4_toldAt_22 (by decide) ?_
    exact e_iret C hend hP (k_some h) rfl dX4_toldAt_26
def f_X4_noGame (σ : MM) (a1 : Int32) (a2 : Int32) : Option (Int32) :=
  if (f_X4_isShelf a1) = true then if (f_X4_within a2 0 40) = true then ob (f_X4_isRow σ a1) (fun b1 => if b1 = true then gd (inb a1 8) (if a2 ≤ ((m_rowLength σ) (Int32.toNatClampNeg a1)) then some 0 else some (-2)) else ob (f_X4_noRow σ a1) (fun x2 => some x2)) else some (-2) else some (-2)
set_option maxHeartbeats 4000000 in
set_option maxRecDepth 100000 in
theorem c_X4_noGame (l : Launch) (ev : EV) (ad : Nat → Nat) (σ : MM) (a1 : Int32) (a2 : Int32)   (r : Int32)  (h : f_X4_noGame σ a1 a2 = some r) : Ct l yX4_noGame prog_6_method_107_code 3 (Option.some Jvm.ClassFile.FieldType.int) (rmk 2 43) ev 13 ad (mw ev ad σ) (mw ev ad σ) [.ref (ad 0), .int a1, .int a2] (some (.int r)) := by
  refine Ct.of (by decide +kernel) (Nat.le_of_ble_eq_true rfl) ?_
  intro p e s m args below meth c Qc C hap hP hend ls hl
  have hAA : ∀ j, j < 13 → inA ad 13 (ad j) := fun j hj => ⟨j, hj, rfl⟩
  have hx := C.1
  have hb := C.2.1
  have hl : lv_has ls 3 [(0, .ref (ad 0)), (1, .int a1), (2, .int a2)] := hl
  have h := (f_X4_noGame.eq_1 _ _ _ ).symm.trans h
  refine lv_iload_n hx hb dX4_noGame_0 rfl (lv_at hl 1 rfl) ?_
  refine k_callSi C hP hap hAA (c_X4_isShelf l ev ad a1   _ rfl) Emb.none (apart_0 _) gz_X4_isShelf qML_RX4_73 qSM_yX4_isShelf ⟨(Nat.le_of_ble_eq_true rfl), (Nat.le_of_ble_eq_true rfl)⟩ rfl hl.1 rfl (Nat.le_of_ble_eq_true rfl) dX4_noGame_1 ⟨Nat.le_refl _, Nat.le_refl _⟩ (fun H locs hP => ?_)
  refine r_ifz_eq (tgt := 17) hx hb dX4_noGame_4 (by decide) (fun c4 => ?_) (fun c4 => ?_)
  · have h := k_nf c4 h
    refine lv_bipush (v := (-2)) hx hb dX4_noGame_17 (by decide) ?_
    exact e_iret C hend hP (k_some h) rfl dX4_noGame_19
  · have h := k_if c4 h
    refine lv_iload_n hx hb dX4_noGame_7 rfl (lv_at hl 2 rfl) ?_
    refine lv_iconst (v := 0) hx hb dX4_noGame_8 (by decide) ?_
    refine lv_bipush (v := 40) hx hb dX4_noGame_9 (by decide) ?_
    refine k_callSi C hP hap hAA (c_X4_within l ev ad a2 0 40   _ rfl) Emb.none (apart_0 _) gz_X4_within qML_RX4_63 qSM_yX4_within ⟨(Nat.le_of_ble_eq_true rfl), (Nat.le_of_ble_eq_true rfl)⟩ rfl hl.1 rfl (Nat.le_of_ble_eq_true rfl) dX4_noGame_11 ⟨Nat.le_refl _, Nat.le_refl _⟩ (fun H locs hP => ?_)
    refine r_ifz_ne (tgt := 20) hx hb dX4_noGame_14 (by decide) (fun c14 => ?_) (fun c14 => ?_)
    · have h := k_if c14 h
      refine lv_aload_n hx hb dX4_noGame_20 rfl (lv_at hl 0 rfl) ?_
      refine lv_iload_n hx hb dX4_noGame_21 rfl (lv_at hl 1 rfl) ?_
      obtain ⟨b1, h1, h⟩ := k_ob h
      refine k_callVi C hP hap hAA (c_X4_isRow l ev ad σ a1   _ h1) Emb.same hap gz_X4_isRow qML_RX4_77 qIM_yX4_isRow qSE_yX4_isRow ⟨(Nat.le_of_ble_eq_true rfl), (Nat.le_of_ble_eq_true rfl)⟩ (q0 := 0) rfl (by decide) rfl rfl rfl rfl hl.1 rfl (Nat.le_of_ble_eq_true rfl) dX4_noGame_22 ⟨Nat.le_refl _, Nat.le_refl _⟩ (fun H locs hP => ?_)
      refine r_ifz_ne (tgt := 36) hx hb dX4_noGame_25 (by decide) (fun c25 => ?_) (fun c25 => ?_)
      · have h := k_if c25 h
        refine lv_iload_n hx hb dX4_noGame_36 rfl (lv_at hl 2 rfl) ?_
        refine lv_aload_n hx hb dX4_noGame_37 rfl (lv_at hl 0 rfl) ?_
        refine r_get C hP (ci := 4) rfl uin_X4 18 (by decide) 0 (by decide) rfl qFL_RX4_32 rfl rfl dX4_noGame_38 ?_
        refine lv_iload_n hx hb dX4_noGame_41 rfl (lv_at hl 1 rfl) ?_
        obtain ⟨hg, h⟩ := k_gd h
        refine r_iald C hP 8 (by decide) rfl hg dX4_noGame_42 ?_
        refine lv_icmp_le (tgt := 51) hx hb dX4_noGame_43 (by decide) (fun c43 => ?_) (fun c43 => ?_)
        · have h := k_if c43 h
          refine lv_iconst (v := 0) hx hb dX4_noGame_51 (by decide) ?_
          exact e_iret C hend hP (k_some h) rfl dX4_noGame_52
        · have h := k_nf c43 h
          refine lv_bipush (v := (-2)) hx hb dX4_noGame_46 (by decide) ?_
          refine lv_goto (tgt := 52) hx hb dX4_noGame_48 (by decide) ?_
          exact e_iret C hend hP (k_some h) rfl dX4_noGame_52
      · have h := k_nf c25 h
        refine lv_aload_n hx hb dX4_noGame_28 rfl (lv_at hl 0 rfl) ?_
        refine lv_iload_n hx hb dX4_noGame_29 rfl (lv_at hl 1 rfl) ?_
        obtain ⟨x2, h1, h⟩ := k_ob h
        refine k_callVi C hP hap hAA (c_X4_noRow l ev ad σ a1   _ h1) Emb.same hap gz_X4_noRow qML_RX4_80 qIM_yX4_noRow qSE_yX4_noRow ⟨(Nat.le_of_ble_eq_true rfl), (Nat.le_of_ble_eq_true rfl)⟩ (q0 := 0) rfl (by decide) rfl rfl rfl rfl hl.1 rfl (Nat.le_of_ble_eq_true rfl) dX4_noGame_30 ⟨Nat.le_refl _, Nat.le_refl _⟩ (fun H locs hP => ?_)
        refine lv_goto (tgt := 52) hx hb dX4_noGame_33 (by decide) ?_
        exact e_iret C hend hP (k_some h) rfl dX4_noGame_52
    · have h := k_nf c14 h
      refine lv_bipush (v := (-2)) hx hb dX4_noGame_17 (by decide) ?_
      exact e_iret C hend hP (k_some h) rfl dX4_noGame_19
