/-! functions read off, and their contracts: by program (wip/whole/gen2.py) -/
def f_X4_owned_L20_b (σ : MM) (a1 : Int32)  (rec20 : Int32 → Int32 → Option (Int32 × MM)) (x1 : Int32) (x2 : Int32) : Option (Int32 × MM) :=
  if ((m_w σ) * (m_h σ)) ≤ x2 then some (x1, σ) else gd (inb x2 16) (if ((m_owner σ) (Int32.toNatClampNeg x2)) = a1 then lt (x1 ||| (ishl 1 x2)) (fun x4 => lt (x2 + 1) (fun x5 => rec20 x4 x5)) else lt (x2 + 1) (fun x3 => rec20 x1 x3))
def f_X4_owned_L20 (σ : MM) (a1 : Int32)  (x1 : Int32) (x2 : Int32) : Option (Int32 × MM) :=
  lp (fun _ _ => none) (f_X4_owned_L20_b σ a1 ) FU x1 x2
def f_X4_owned (σ : MM) (a1 : Int32) : Option (Int32 × MM) :=
  if (f_X4_within a1 0 1) = true then f_X4_owned_L20 σ a1 0 0 else ob2 (f_X4_no σ (-2)) (fun x7 σ6 => some (x7, σ6))
set_option maxHeartbeats 4000000 in
set_option maxRecDepth 100000 in
theorem c_X4_owned (l : Launch) (ev : EV) (ad : Nat → Nat) (σ : MM) (a1 : Int32)   (r : Int32) (σ' : MM) (h : f_X4_owned σ a1 = some (r, σ')) : Ct l yX4_owned prog_6_method_95_code 4 (Option.some Jvm.ClassFile.FieldType.int) (rmk 1 22) ev 13 ad (mw ev ad σ) (mw ev ad σ') [.ref (ad 0), .int a1] (some (.int r)) := by
  refine Ct.of (by decide +kernel) (Nat.le_of_ble_eq_true rfl) ?_
  intro p e s m args below meth c Qc C hap hP hend ls hl
  have hAA : ∀ j, j < 13 → inA ad 13 (ad j) := fun j hj => ⟨j, hj, rfl⟩
  have hx := C.1
  have hb := C.2.1
  have hl : lv_has ls 4 [(0, .ref (ad 0)), (1, .int a1)] := hl
  have h := (f_X4_owned.eq_1 _ _ ).symm.trans h
  refine lv_iload_n hx hb dX4_owned_0 rfl (lv_at hl 1 rfl) ?_
  refine lv_iconst (v := 0) hx hb dX4_owned_1 (by decide) ?_
  refine lv_iconst (v := 1) hx hb dX4_owned_2 (by decide) ?_
  refine k_callSi C hP hap hAA (c_X4_within l ev ad a1 0 1   _ rfl) Emb.none (apart_0 _) gz_X4_within qML_RX4_63 qSM_yX4_within ⟨(Nat.le_of_ble_eq_true rfl), (Nat.le_of_ble_eq_true rfl)⟩ rfl hl.1 rfl (Nat.le_of_ble_eq_true rfl) dX4_owned_3 ⟨Nat.le_refl _, Nat.le_refl _⟩ (fun H locs hP => ?_)
  refine r_ifz_ne (tgt := 16) hx hb dX4_owned_6 (by decide) (fun c6 => ?_) (fun c6 => ?_)
  · have h := k_if c6 h
    refine lv_iconst (v := 0) hx hb dX4_owned_16 (by decide) ?_
    refine lv_istore_n (lv' := [(2, .int 0), (0, .ref (ad 0)), (1, .int a1)]) hx hb dX4_owned_17 rfl hl (by decide) rfl (fun ls hl => ?_)
    refine lv_iconst (v := 0) hx hb dX4_owned_18 (by decide) ?_
    refine lv_istore_n (lv' := [(3, .int 0), (2, .int 0), (0, .ref (ad 0)), (1, .int a1)]) hx hb dX4_owned_19 rfl hl (by decide) rfl (fun ls hl => ?_)
    have hL20 : ∀ (n : Nat) (x1 : Int32) (x2 : Int32) (H : Heap) (locs : List Loc) (ls : Array Slot), lp (fun _ _ => none) (f_X4_owned_L20_b σ a1 ) n x1 x2 = some (r, σ') → PS ev 13 ad (mw ev ad σ) (inA ad 13) s H locs → lv_has ls 4 [(0, .ref (ad 0)), (1, .int a1), (2, .int x1), (3, .int x2)] → WW ev p l e (rmk 1 22) s m args below meth c Qc ad 13 H locs 20 ls [] := by
      intro n
      induction n with
      | zero =>
        intro x1 x2 H locs ls h; exact k_none h
      | succ n ih =>
        intro x1 x2 H locs ls h hP hl
        have h : f_X4_owned_L20_b σ a1  (lp (fun _ _ => none) (f_X4_owned_L20_b σ a1 ) n) x1 x2 = some (r, σ') := h
        have h := (f_X4_owned_L20_b.eq_1 _ _ _ _ _ ).symm.trans h
        refine lv_iload_n hx hb dX4_owned_20 rfl (lv_at hl 3 rfl) ?_
        refine lv_aload_n hx hb dX4_owned_21 rfl (lv_at hl 0 rfl) ?_
        refine r_get C hP (ci := 4) rfl uin_X4 0 (by decide) 0 (by decide) rfl qFL_RX4_67 rfl rfl dX4_owned_22 ?_
        refine lv_aload_n hx hb dX4_owned_25 rfl (lv_at hl 0 rfl) ?_
        refine r_get C hP (ci := 4) rfl uin_X4 1 (by decide) 0 (by decide) rfl qFL_RX4_70 rfl rfl dX4_owned_26 ?_
        refine lv_imul hx hb dX4_owned_29 ?_
        refine lv_icmp_ge (tgt := 55) hx hb dX4_owned_30 (by decide) (fun c30 => ?_) (fun c30 => ?_)
        · have h := k_if c30 h
          refine lv_iload_n hx hb dX4_owned_55 rfl (lv_at hl 2 rfl) ?_
          exact e_iret C hend hP (k_some2 h).1 (congrArg (mw ev ad) (k_some2 h).2) dX4_owned_56
        · have h := k_nf c30 h
          refine lv_aload_n hx hb dX4_owned_33 rfl (lv_at hl 0 rfl) ?_
          refine r_get C hP (ci := 4) rfl uin_X4 4 (by decide) 0 (by decide) rfl qFL_RX4_16 rfl rfl dX4_owned_34 ?_
          refine lv_iload_n hx hb dX4_owned_37 rfl (lv_at hl 3 rfl) ?_
          obtain ⟨hg, h⟩ := k_gd h
          refine r_iald C hP 3 (by decide) rfl hg dX4_owned_38 ?_
          refine lv_iload_n hx hb dX4_owned_39 rfl (lv_at hl 1 rfl) ?_
          refine lv_icmp_ne (tgt := 49) hx hb dX4_owned_40 (by decide) (fun c40 => ?_) (fun c40 => ?_)
          · have h := k_nf c40 h
            obtain ⟨x3, ex3, h⟩ := k_ltx h
            refine lv_iinc (v := x3) (lv' := [(3, .int x3), (0, .ref (ad 0)), (1, .int a1), (2, .int x1)]) hx hb dX4_owned_49 hl (k := 3) rfl (by rw [ex3]; rfl) (by decide) rfl (fun ls hl => ?_)
            refine lv_goto (tgt := 20) hx hb dX4_owned_52 (by decide) ?_
            exact ih _ _ _ _ _ h hP (lv_sub hl [1, 2, 3, 0] rfl)
          · have h := k_if c40 h
            refine lv_iload_n hx hb dX4_owned_43 rfl (lv_at hl 2 rfl) ?_
            refine lv_iconst (v := 1) hx hb dX4_owned_44 (by decide) ?_
            refine lv_iload_n hx hb dX4_owned_45 rfl (lv_at hl 3 rfl) ?_
            refine r_ishl hx hb dX4_owned_46 ?_
            refine lv_ior hx hb dX4_owned_47 ?_
            refine lv_topi (fun x4 ex4 => ?_)
            have h := k_lt ex4 h
            refine lv_istore_n (lv' := [(2, .int x4), (0, .ref (ad 0)), (1, .int a1), (3, .int x2)]) hx hb dX4_owned_48 rfl hl (by decide) rfl (fun ls hl => ?_)
            obtain ⟨x5, ex5, h⟩ := k_ltx h
            refine lv_iinc (v := x5) (lv' := [(3, .int x5), (2, .int x4), (0, .ref (ad 0)), (1, .int a1)]) hx hb dX4_owned_49 hl (k := 3) rfl (by rw [ex5]; rfl) (by decide) rfl (fun ls hl => ?_)
            refine lv_goto (tgt := 20) hx hb dX4_owned_52 (by decide) ?_
            exact ih _ _ _ _ _ h hP (lv_sub hl [2, 3, 1, 0] rfl)
    exact hL20 FU _ _ _ _ _ h hP (lv_sub hl [2, 3, 1, 0] rfl)
  · have h := k_nf c6 h
    refine lv_aload_n hx hb dX4_owned_9 rfl (lv_at hl 0 rfl) ?_
    refine lv_bipush (v := (-2)) hx hb dX4_owned_10 (by decide) ?_
    obtain ⟨x7, σ6, h1, h⟩ := k_ob2 h
    refine k_callVi C hP hap hAA (c_X4_no l ev ad σ (-2)   _ _ h1) Emb.same hap gz_X4_no qML_RX4_56 qIM_yX4_no qSE_yX4_no ⟨(Nat.le_of_ble_eq_true rfl), (Nat.le_of_ble_eq_true rfl)⟩ (q0 := 0) rfl (by decide) rfl rfl rfl rfl hl.1 rfl (Nat.le_of_ble_eq_true rfl) dX4_owned_12 ⟨Nat.le_refl _, Nat.le_refl _⟩ (fun H locs hP => ?_)
    exact e_iret C hend hP (k_some2 h).1 (congrArg (mw ev ad) (k_some2 h).2) dX4_owned_15
def f_X4_coloured_L26_b (σ : MM) (a1 : Int32) (x1 : Int32)  (rec26 : Int32 → Int32 → Option (Int32 × MM)) (x2 : Int32) (x3 : Int32) : Option (Int32 × MM) :=
  if ((m_w σ) * (m_h σ)) ≤ x3 then some (x2, σ) else ob (f_X4_colour σ x3 x1) (fun x4 => if x4 = a1 then lt (x2 ||| (ishl 1 x3)) (fun x6 => lt (x3 + 1) (fun x7 => rec26 x6 x7)) else lt (x3 + 1) (fun x5 => rec26 x2 x5))
def f_X4_coloured_L26 (σ : MM) (a1 : Int32) (x1 : Int32)  (x2 : Int32) (x3 : Int32) : Option (Int32 × MM) :=
  lp (fun _ _ => none) (f_X4_coloured_L26_b σ a1 x1 ) FU x2 x3
def f_X4_coloured (σ : MM) (a1 : Int32) : Option (Int32 × MM) :=
  if (f_X4_within a1 0 1) = true then ob (f_X4_drains σ) (fun x1 => f_X4_coloured_L26 σ a1 x1 0 0) else ob2 (f_X4_no σ (-2)) (fun x9 σ8 => some (x9, σ8))
set_option maxHeartbeats 4000000 in
set_option maxRecDepth 100000 in
theorem c_X4_coloured (l : Launch) (ev : EV) (ad : Nat → Nat) (σ : MM) (a1 : Int32)   (r : Int32) (σ' : MM) (h : f_X4_coloured σ a1 = some (r, σ')) : Ct l yX4_coloured prog_6_method_96_code 5 (Option.some Jvm.ClassFile.FieldType.int) (rmk 6 137) ev 13 ad (mw ev ad σ) (mw ev ad σ') [.ref (ad 0), .int a1] (some (.int r)) := by
  refine Ct.of (by decide +kernel) (Nat.le_of_ble_eq_true rfl) ?_
  intro p e s m args below meth c Qc C hap hP hend ls hl
  have hAA : ∀ j, j < 13 → inA ad 13 (ad j) := fun j hj => ⟨j, hj, rfl⟩
  have hx := C.1
  have hb := C.2.1
  have hl : lv_has ls 5 [(0, .ref (ad 0)), (1, .int a1)] := hl
  have h := (f_X4_coloured.eq_1 _ _ ).symm.trans h
  refine lv_iload_n hx hb dX4_coloured_0 rfl (lv_at hl 1 rfl) ?_
  refine lv_iconst (v := 0) hx hb dX4_coloured_1 (by decide) ?_
  refine lv_iconst (v := 1) hx hb dX4_coloured_2 (by decide) ?_
  refine k_callSi C hP hap hAA (c_X4_within l ev ad a1 0 1   _ rfl) Emb.none (apart_0 _) gz_X4_within qML_RX4_63 qSM_yX4_within ⟨(Nat.le_of_ble_eq_true rfl), (Nat.le_of_ble_eq_true rfl)⟩ rfl hl.1 rfl (Nat.le_of_ble_eq_true rfl) dX4_coloured_3 ⟨Nat.le_refl _, Nat.le_refl _⟩ (fun H locs hP => ?_)
  refine r_ifz_ne (tgt := 16) hx hb dX4_coloured_6 (by decide) (fun c6 => ?_) (fun c6 => ?_)
  · have h := k_if c6 h
    refine lv_aload_n hx hb dX4_coloured_16 rfl (lv_at hl 0 rfl) ?_
    obtain ⟨x1, h1, h⟩ := k_ob h
    refine k_callVi C hP hap hAA (c_X4_drains l ev ad σ   _ h1) Emb.same hap gz_X4_drains qML_RX4_199 qIM_yX4_drains qSE_yX4_drains ⟨(Nat.le_of_ble_eq_true rfl), (Nat.le_of_ble_eq_true rfl)⟩ (q0 := 0) rfl (by decide) rfl rfl rfl rfl hl.1 rfl (Nat.le_of_ble_eq_true rfl) dX4_coloured_17 ⟨Nat.le_refl _, Nat.le_refl _⟩ (fun H locs hP => ?_)
    refine lv_istore_n (lv' := [(2, .int x1), (0, .ref (ad 0)), (1, .int a1)]) hx hb dX4_coloured_20 rfl hl (by decide) rfl (fun ls hl => ?_)
    refine lv_iconst (v := 0) hx hb dX4_coloured_21 (by decide) ?_
    refine lv_istore_n (lv' := [(3, .int 0), (2, .int x1), (0, .ref (ad 0)), (1, .int a1)]) hx hb dX4_coloured_22 rfl hl (by decide) rfl (fun ls hl => ?_)
    refine lv_iconst (v := 0) hx hb dX4_coloured_23 (by decide) ?_
    refine lv_istore (lv' := [(4, .int 0), (3, .int 0), (2, .int x1), (0, .ref (ad 0)), (1, .int a1)]) hx hb dX4_coloured_24 hl (by decide) rfl (fun ls hl => ?_)
    have hL26 : ∀ (n : Nat) (x2 : Int32) (x3 : Int32) (H : Heap) (locs : List Loc) (ls : Array Slot), lp (fun _ _ => none) (f_X4_coloured_L26_b σ a1 x1 ) n x2 x3 = some (r, σ') → PS ev 13 ad (mw ev ad σ) (inA ad 13) s H locs → lv_has ls 5 [(0, .ref (ad 0)), (1, .int a1), (2, .int x1), (3, .int x2), (4, .int x3)] → WW ev p l e (rmk 6 137) s m args below meth c Qc ad 13 H locs 26 ls [] := by
      intro n
      induction n with
      | zero =>
        intro x2 x3 H locs ls h; exact k_none h
      | succ n ih =>
        intro x2 x3 H locs ls h hP hl
        have h : f_X4_coloured_L26_b σ a1 x1  (lp (fun _ _ => none) (f_X4_coloured_L26_b σ a1 x1 ) n) x2 x3 = some (r, σ') := h
        have h := (f_X4_coloured_L26_b.eq_1 _ _ _ _ _ _ ).symm.trans h
        refine lv_iload hx hb dX4_coloured_26 (lv_at hl 4 rfl) ?_
        refine lv_aload_n hx hb dX4_coloured_28 rfl (lv_at hl 0 rfl) ?_
        refine r_get C hP (ci := 4) rfl uin_X4 0 (by decide) 0 (by decide) rfl qFL_RX4_67 rfl rfl dX4_coloured_29 ?_
        refine lv_aload_n hx hb dX4_coloured_32 rfl (lv_at hl 0 rfl) ?_
        refine r_get C hP (ci := 4) rfl uin_X4 1 (by decide) 0 (by decide) rfl qFL_RX4_70 rfl rfl dX4_coloured_33 ?_
        refine lv_imul hx hb dX4_coloured_36 ?_
        refine lv_icmp_ge (tgt := 64) hx hb dX4_coloured_37 (by decide) (fun c37 => ?_) (fun c37 => ?_)
        · have h := k_if c37 h
          refine lv_iload_n hx hb dX4_coloured_64 rfl (lv_at hl 3 rfl) ?_
          exact e_iret C hend hP (k_some2 h).1 (congrArg (mw ev ad) (k_some2 h).2) dX4_coloured_65
        · have h := k_nf c37 h
          refine lv_aload_n hx hb dX4_coloured_40 rfl (lv_at hl 0 rfl) ?_
          refine lv_iload hx hb dX4_coloured_41 (lv_at hl 4 rfl) ?_
          refine lv_iload_n hx hb dX4_coloured_43 rfl (lv_at hl 2 rfl) ?_
          obtain ⟨x4, h1, h⟩ := k_ob h
          refine k_callVi C hP hap hAA (c_X4_colour l ev ad σ x3 x1   _ h1) Emb.same hap gz_X4_colour qML_RX4_202 qIM_yX4_colour qSE_yX4_colour ⟨(Nat.le_of_ble_eq_true rfl), (Nat.le_of_ble_eq_true rfl)⟩ (q0 := 0) rfl (by decide) rfl rfl rfl rfl hl.1 rfl (Nat.le_of_ble_eq_true rfl) dX4_coloured_44 ⟨Nat.le_refl _, Nat.le_refl _⟩ (fun H locs hP => ?_)
          refine lv_iload_n hx hb dX4_coloured_47 rfl (lv_at hl 1 rfl) ?_
          refine lv_icmp_ne (tgt := 58) hx hb dX4_coloured_48 (by decide) (fun c48 => ?_) (fun c48 => ?_)
          · have h := k_nf c48 h
            obtain ⟨x5, ex5, h⟩ := k_ltx h
            refine lv_iinc (v := x5) (lv' := [(4, .int x5), (0, .ref (ad 0)), (1, .int a1), (2, .int x1), (3, .int x2)]) hx hb dX4_coloured_58 hl (k := 4) rfl (by rw [ex5]; rfl) (by decide) rfl (fun ls hl => ?_)
            refine lv_goto (tgt := 26) hx hb dX4_coloured_61 (by decide) ?_
            exact ih _ _ _ _ _ h hP (lv_sub hl [1, 2, 3, 4, 0] rfl)
          · have h := k_if c48 h
            refine lv_iload_n hx hb dX4_coloured_51 rfl (lv_at hl 3 rfl) ?_
            refine lv_iconst (v := 1) hx hb dX4_coloured_52 (by decide) ?_
            refine lv_iload hx hb dX4_coloured_53 (lv_at hl 4 rfl) ?_
            refine r_ishl hx hb dX4_coloured_55 ?_
            refine lv_ior hx hb dX4_coloured_56 ?_
            refine lv_topi (fun x6 ex6 => ?_)
            have h := k_lt ex6 h
            refine lv_istore_n (lv' := [(3, .int x6), (0, .ref (ad 0)), (1, .int a1), (2, .int x1), (4, .int x3)]) hx hb dX4_coloured_57 rfl hl (by decide) rfl (fun ls hl => ?_)
            obtain ⟨x7, ex7, h⟩ := k_ltx h
            refine lv_iinc (v := x7) (lv' := [(4, .int x7), (3, .int x6), (0, .ref (ad 0)), (1, .int a1), (2, .int x1)]) hx hb dX4_coloured_58 hl (k := 4) rfl (by rw [ex7]; rfl) (by decide) rfl (fun ls hl => ?_)
            refine lv_goto (tgt := 26) hx hb dX4_coloured_61 (by decide) ?_
            exact ih _ _ _ _ _ h hP (lv_sub hl [2, 3, 4, 1, 0] rfl)
    exact hL26 FU _ _ _ _ _ h hP (lv_sub hl [3, 4, 2, 1, 0] rfl)
  · have h := k_nf c6 h
    refine lv_aload_n hx hb dX4_coloured_9 rfl (lv_at hl 0 rfl) ?_
    refine lv_bipush (v := (-2)) hx hb dX4_coloured_10 (by decide) ?_
    obtain ⟨x9, σ8, h1, h⟩ := k_ob2 h
    refine k_callVi C hP hap hAA (c_X4_no l ev ad σ (-2)   _ _ h1) Emb.same hap gz_X4_no qML_RX4_56 qIM_yX4_no qSE_yX4_no ⟨(Nat.le_of_ble_eq_true rfl), (Nat.le_of_ble_eq_true rfl)⟩ (q0 := 0) rfl (by decide) rfl rfl rfl rfl hl.1 rfl (Nat.le_of_ble_eq_true rfl) dX4_coloured_12 ⟨Nat.le_refl _, Nat.le_refl _⟩ (fun H locs hP => ?_)
    exact e_iret C hend hP (k_some2 h).1 (congrArg (mw ev ad) (k_some2 h).2) dX4_coloured_15
def f_X4_gaps_L4_b (σ : MM)  (rec4 : Int32 → Int32 → Option (Int32)) (x1 : Int32) (x2 : Int32) : Option (Int32) :=
  if (f_X4_edges σ) ≤ x2 then some x1 else ob (f_X4_isRim σ x2) (fun b3 => if b3 = true then gd (inb x2 40) (if ((m_hedge σ) (Int32.toNatClampNeg x2)) = 0 then lt (x1 + 1) (fun x6 => lt (x2 + 1) (fun x7 => rec4 x6 x7)) else lt (x2 + 1) (fun x5 => rec4 x1 x5)) else lt (x2 + 1) (fun x4 => rec4 x1 x4))
def f_X4_gaps_L4 (σ : MM)  (x1 : Int32) (x2 : Int32) : Option (Int32) :=
  lp (fun _ _ => none) (f_X4_gaps_L4_b σ ) FU x1 x2
def f_X4_gaps (σ : MM) : Option (Int32) :=
  f_X4_gaps_L4 σ 0 0
set_option maxHeartbeats 4000000 in
set_option maxRecDepth 100000 in
theorem c_X4_gaps (l : Launch) (ev : EV) (ad : Nat → Nat) (σ : MM)   (r : Int32)  (h : f_X4_gaps σ = some r) : Ct l yX4_gaps prog_6_method_97_code 3 (Option.some Jvm.ClassFile.FieldType.int) (rmk 4 88) ev 13 ad (mw ev ad σ) (mw ev ad σ) [.ref (ad 0)] (some (.int r)) := by
  refine Ct.of (by decide +kernel) (Nat.le_of_ble_eq_true rfl) ?_
  intro p e s m args below meth c Qc C hap hP hend ls hl
  have hAA : ∀ j, j < 13 → inA ad 13 (ad j) := fun j hj => ⟨j, hj, rfl⟩
  have hx := C.1
  have hb := C.2.1
  have hl : lv_has ls 3 [(0, .ref (ad 0))] := hl
  have h := (f_X4_gaps.eq_1 _ ).symm.trans h
  refine lv_iconst (v := 0) hx hb dX4_gaps_0 (by decide) ?_
  refine lv_istore_n (lv' := [(1, .int 0), (0, .ref (ad 0))]) hx hb dX4_gaps_1 rfl hl (by decide) rfl (fun ls hl => ?_)
  refine lv_iconst (v := 0) hx hb dX4_gaps_2 (by decide) ?_
  refine lv_istore_n (lv' := [(2, .int 0), (1, .int 0), (0, .ref (ad 0))]) hx hb dX4_gaps_3 rfl hl (by decide) rfl (fun ls hl => ?_)
  have hL4 : ∀ (n : Nat) (x1 : Int32) (x2 : Int32) (H : Heap) (locs : List Loc) (ls : Array Slot), lp (fun _ _ => none) (f_X4_gaps_L4_b σ ) n x1 x2 = some r → PS ev 13 ad (mw ev ad σ) (inA ad 13) s H locs → lv_has ls 3 [(0, .ref (ad 0)), (1, .int x1), (2, .int x2)] → WW ev p l e (rmk 4 88) s m args below meth c Qc ad 13 H locs 4 ls [] := by
    intro n
    induction n with
    | zero =>
      intro x1 x2 H locs ls h; exact k_none h
    | succ n ih =>
      intro x1 x2 H locs ls h hP hl
      have h : f_X4_gaps_L4_b σ  (lp (fun _ _ => none) (f_X4_gaps_L4_b σ ) n) x1 x2 = some r := h
      have h := (f_X4_gaps_L4_b.eq_1 _ _ _ _ ).symm.trans h
      refine lv_iload_n hx hb dX4_gaps_4 rfl (lv_at hl 2 rfl) ?_
      refine lv_aload_n hx hb dX4_gaps_5 rfl (lv_at hl 0 rfl) ?_
      refine k_callVi C hP hap hAA (c_X4_edges l ev ad σ   _ rfl) Emb.same hap gz_X4_edges qML_RX4_107 qIM_yX4_edges qSE_yX4_edges ⟨(Nat.le_of_ble_eq_true rfl), (Nat.le_of_ble_eq_true rfl)⟩ (q0 := 0) rfl (by decide) rfl rfl rfl rfl hl.1 rfl (Nat.le_of_ble_eq_true rfl) dX4_gaps_6 ⟨Nat.le_refl _, Nat.le_refl _⟩ (fun H locs hP => ?_)
      refine lv_icmp_ge (tgt := 38) hx hb dX4_gaps_9 (by decide) (fun c9 => ?_) (fun c9 => ?_)
      · have h := k_if c9 h
        refine lv_iload_n hx hb dX4_gaps_38 rfl (lv_at hl 1 rfl) ?_
        exact e_iret C hend hP (k_some h) rfl dX4_gaps_39
      · have h := k_nf c9 h
        refine lv_aload_n hx hb dX4_gaps_12 rfl (lv_at hl 0 rfl) ?_
        refine lv_iload_n hx hb dX4_gaps_13 rfl (lv_at hl 2 rfl) ?_
        obtain ⟨b3, h1, h⟩ := k_ob h
        refine k_callVi C hP hap hAA (c_X4_isRim l ev ad σ x2   _ h1) Emb.same hap gz_X4_isRim qML_RX4_125 qIM_yX4_isRim qSE_yX4_isRim ⟨(Nat.le_of_ble_eq_true rfl), (Nat.le_of_ble_eq_true rfl)⟩ (q0 := 0) rfl (by decide) rfl rfl rfl rfl hl.1 rfl (Nat.le_of_ble_eq_true rfl) dX4_gaps_14 ⟨Nat.le_refl _, Nat.le_refl _⟩ (fun H locs hP => ?_)
        refine r_ifz_eq (tgt := 32) hx hb dX4_gaps_17 (by decide) (fun c17 => ?_) (fun c17 => ?_)
        · have h := k_nf c17 h
          obtain ⟨x4, ex4, h⟩ := k_ltx h
          refine lv_iinc (v := x4) (lv' := [(2, .int x4), (0, .ref (ad 0)), (1, .int x1)]) hx hb dX4_gaps_32 hl (k := 2) rfl (by rw [ex4]; rfl) (by decide) rfl (fun ls hl => ?_)
          refine lv_goto (tgt := 4) hx hb dX4_gaps_35 (by decide) ?_
          exact ih _ _ _ _ _ h hP (lv_sub hl [1, 2, 0] rfl)
        · have h := k_if c17 h
          refine lv_aload_n hx hb dX4_gaps_20 rfl (lv_at hl 0 rfl) ?_
          refine r_get C hP (ci := 4) rfl uin_X4 2 (by decide) 0 (by decide) rfl qFL_RX4_7 rfl rfl dX4_gaps_21 ?_
          refine lv_iload_n hx hb dX4_gaps_24 rfl (lv_at hl 2 rfl) ?_
          obtain ⟨hg, h⟩ := k_gd h
          refine r_zald C hP 1 (by decide) rfl hg dX4_gaps_25 ?_
          refine lv_if_ne (tgt := 32) hx hb dX4_gaps_26 (by decide) (fun c26 => ?_) (fun c26 => ?_)
          · have h := k_nf c26 h
            obtain ⟨x5, ex5, h⟩ := k_ltx h
            refine lv_iinc (v := x5) (lv' := [(2, .int x5), (0, .ref (ad 0)), (1, .int x1)]) hx hb dX4_gaps_32 hl (k := 2) rfl (by rw [ex5]; rfl) (by decide) rfl (fun ls hl => ?_)
            refine lv_goto (tgt := 4) hx hb dX4_gaps_35 (by decide) ?_
            exact ih _ _ _ _ _ h hP (lv_sub hl [1, 2, 0] rfl)
          · have h := k_if c26 h
            obtain ⟨x6, ex6, h⟩ := k_ltx h
            refine lv_iinc (v := x6) (lv' := [(1, .int x6), (0, .ref (ad 0)), (2, .int x2)]) hx hb dX4_gaps_29 hl (k := 1) rfl (by rw [ex6]; rfl) (by decide) rfl (fun ls hl => ?_)
            obtain ⟨x7, ex7, h⟩ := k_ltx h
            refine lv_iinc (v := x7) (lv' := [(2, .int x7), (1, .int x6), (0, .ref (ad 0))]) hx hb dX4_gaps_32 hl (k := 2) rfl (by rw [ex7]; rfl) (by decide) rfl (fun ls hl => ?_)
            refine lv_goto (tgt := 4) hx hb dX4_gaps_35 (by decide) ?_
            exact ih _ _ _ _ _ h hP (lv_sub hl [2, 1, 0] rfl)
  exact hL4 FU _ _ _ _ _ h hP (lv_sub hl [2, 1, 0] rfl)
def f_X4_rim_L4_b (σ : MM)  (rec4 : Int32 → Int32 → Option (Int32)) (x1 : Int32) (x2 : Int32) : Option (Int32) :=
  if ((m_w σ) * (m_h σ)) ≤ x2 then some x1 else ob (f_X4_hasRim σ x2) (fun b3 => if b3 = true then lt (x1 ||| (ishl 1 x2)) (fun x5 => lt (x2 + 1) (fun x6 => rec4 x5 x6)) else lt (x2 + 1) (fun x4 => rec4 x1 x4))
def f_X4_rim_L4 (σ : MM)  (x1 : Int32) (x2 : Int32) : Option (Int32) :=
  lp (fun _ _ => none) (f_X4_rim_L4_b σ ) FU x1 x2
def f_X4_rim (σ : MM) : Option (Int32) :=
  f_X4_rim_L4 σ 0 0
set_option maxHeartbeats 4000000 in
set_option maxRecDepth 100000 in
theorem c_X4_rim (l : Launch) (ev : EV) (ad : Nat → Nat) (σ : MM)   (r : Int32)  (h : f_X4_rim σ = some r) : Ct l yX4_rim prog_6_method_98_code 3 (Option.some Jvm.ClassFile.FieldType.int) (rmk 5 110) ev 13 ad (mw ev ad σ) (mw ev ad σ) [.ref (ad 0)] (some (.int r)) := by
  refine Ct.of (by decide +kernel) (Nat.le_of_ble_eq_true rfl) ?_
  intro p e s m args below meth c Qc C hap hP hend ls hl
  have hAA : ∀ j, j < 13 → inA ad 13 (ad j) := fun j hj => ⟨j, hj, rfl⟩
  have hx := C.1
  have hb := C.2.1
  have hl : lv_has ls 3 [(0, .ref (ad 0))] := hl
  have h := (f_X4_rim.eq_1 _ ).symm.trans h
  refine lv_iconst (v := 0) hx hb dX4_rim_0 (by decide) ?_
  refine lv_istore_n (lv' := [(1, .int 0), (0, .ref (ad 0))]) hx hb dX4_rim_1 rfl hl (by decide) rfl (fun ls hl => ?_)
  refine lv_iconst (v := 0) hx hb dX4_rim_2 (by decide) ?_
  refine lv_istore_n (lv' := [(2, .int 0), (1, .int 0), (0, .ref (ad 0))]) hx hb dX4_rim_3 rfl hl (by decide) rfl (fun ls hl => ?_)
  have hL4 : ∀ (n : Nat) (x1 : Int32) (x2 : Int32) (H : Heap) (locs : List Loc) (ls : Array Slot), lp (fun _ _ => none) (f_X4_rim_L4_b σ ) n x1 x2 = some r → PS ev 13 ad (mw ev ad σ) (inA ad 13) s H locs → lv_has ls 3 [(0, .ref (ad 0)), (1, .int x1), (2, .int x2)] → WW ev p l e (rmk 5 110) s m args below meth c Qc ad 13 H locs 4 ls [] := by
    intro n
    induction n with
    | zero =>
      intro x1 x2 H locs ls h; exact k_none h
    | succ n ih =>
      intro x1 x2 H locs ls h hP hl
      have h : f_X4_rim_L4_b σ  (lp (fun _ _ => none) (f_X4_rim_L4_b σ ) n) x1 x2 = some r := h
      have h := (f_X4_rim_L4_b.eq_1 _ _ _ _ ).symm.trans h
      refine lv_iload_n hx hb dX4_rim_4 rfl (lv_at hl 2 rfl) ?_
      refine lv_aload_n hx hb dX4_rim_5 rfl (lv_at hl 0 rfl) ?_
      refine r_get C hP (ci := 4) rfl uin_X4 0 (by decide) 0 (by decide) rfl qFL_RX4_67 rfl rfl dX4_rim_6 ?_
      refine lv_aload_n hx hb dX4_rim_9 rfl (lv_at hl 0 rfl) ?_
      refine r_get C hP (ci := 4) rfl uin_X4 1 (by decide) 0 (by decide) rfl qFL_RX4_70 rfl rfl dX4_rim_10 ?_
      refine lv_imul hx hb dX4_rim_13 ?_
      refine lv_icmp_ge (tgt := 37) hx hb dX4_rim_14 (by decide) (fun c14 => ?_) (fun c14 => ?_)
      · have h := k_if c14 h
        refine lv_iload_n hx hb dX4_rim_37 rfl (lv_at hl 1 rfl) ?_
        exact e_iret C hend hP (k_some h) rfl dX4_rim_38
      · have h := k_nf c14 h
        refine lv_aload_n hx hb dX4_rim_17 rfl (lv_at hl 0 rfl) ?_
        refine lv_iload_n hx hb dX4_rim_18 rfl (lv_at hl 2 rfl) ?_
        obtain ⟨b3, h1, h⟩ := k_ob h
        refine k_callVi C hP hap hAA (c_X4_hasRim l ev ad σ x2   _ h1) Emb.same hap gz_X4_hasRim qML_RX4_205 qIM_yX4_hasRim qSE_yX4_hasRim ⟨(Nat.le_of_ble_eq_true rfl), (Nat.le_of_ble_eq_true rfl)⟩ (q0 := 0) rfl (by decide) rfl rfl rfl rfl hl.1 rfl (Nat.le_of_ble_eq_true rfl) dX4_rim_19 ⟨Nat.le_refl _, Nat.le_refl _⟩ (fun H locs hP => ?_)
        refine r_ifz_eq (tgt := 31) hx hb dX4_rim_22 (by decide) (fun c22 => ?_) (fun c22 => ?_)
        · have h := k_nf c22 h
          obtain ⟨x4, ex4, h⟩ := k_ltx h
          refine lv_iinc (v := x4) (lv' := [(2, .int x4), (0, .ref (ad 0)), (1, .int x1)]) hx hb dX4_rim_31 hl (k := 2) rfl (by rw [ex4]; rfl) (by decide) rfl (fun ls hl => ?_)
          refine lv_goto (tgt := 4) hx hb dX4_rim_34 (by decide) ?_
          exact ih _ _ _ _ _ h hP (lv_sub hl [1, 2, 0] rfl)
        · have h := k_if c22 h
          refine lv_iload_n hx hb dX4_rim_25 rfl (lv_at hl 1 rfl) ?_
          refine lv_iconst (v := 1) hx hb dX4_rim_26 (by decide) ?_
          refine lv_iload_n hx hb dX4_rim_27 rfl (lv_at hl 2 rfl) ?_
          refine r_ishl hx hb dX4_rim_28 ?_
          refine lv_ior hx hb dX4_rim_29 ?_
          refine lv_topi (fun x5 ex5 => ?_)
          have h := k_lt ex5 h
          refine lv_istore_n (lv' := [(1, .int x5), (0, .ref (ad 0)), (2, .int x2)]) hx hb dX4_rim_30 rfl hl (by decide) rfl (fun ls hl => ?_)
          obtain ⟨x6, ex6, h⟩ := k_ltx h
          refine lv_iinc (v := x6) (lv' := [(2, .int x6), (1, .int x5), (0, .ref (ad 0))]) hx hb dX4_rim_31 hl (k := 2) rfl (by rw [ex6]; rfl) (by decide) rfl (fun ls hl => ?_)
          refine lv_goto (tgt := 4) hx hb dX4_rim_34 (by decide) ?_
          exact ih _ _ _ _ _ h hP (lv_sub hl [2, 1, 0] rfl)
  exact hL4 FU _ _ _ _ _ h hP (lv_sub hl [2, 1, 0] rfl)
