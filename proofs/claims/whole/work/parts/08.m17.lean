/-! functions read off, and their contracts: by program (wip/whole/gen2.py) -/
def f_X4_turnedSide_b31 (a2 : Int32) (x2 : Int32) : Option (Int32) :=
  if 2 ≤ x2 then some x2 else gd (nz 2) (gd (nz 2) (if (irem (idiv a2 2) 2) = 1 then some (1 - x2) else some x2))
def f_X4_turnedSide_b14 (a2 : Int32) (x1 : Int32) : Option (Int32) :=
  if x1 ≤ 1 then f_X4_turnedSide_b31 a2 x1 else gd (nz 2) (if (irem a2 2) = 1 then some (5 - x1) else f_X4_turnedSide_b31 a2 x1)
def f_X4_turnedSide (a1 : Int32) (a2 : Int32) : Option (Int32) :=
  if 4 ≤ a2 then gd (nz 4) (f_X4_turnedSide_b14 a2 ((irem (a1 + 2) 4))) else f_X4_turnedSide_b14 a2 a1
set_option maxHeartbeats 4000000 in
set_option maxRecDepth 100000 in
theorem c_X4_turnedSide (l : Launch) (ev : EV) (ad : Nat → Nat) (a1 : Int32) (a2 : Int32)   (r : Int32)  (h : f_X4_turnedSide a1 a2 = some r) : Ct l yX4_turnedSide prog_6_method_82_code 3 (Option.some Jvm.ClassFile.FieldType.int) (rmk 0 0) ev 0 ad w00 w00 [.int a1, .int a2] (some (.int r)) := by
  refine Ct.of (by decide +kernel) (Nat.le_of_ble_eq_true rfl) ?_
  intro p e s m args below meth c Qc C hap hP hend ls hl
  have hAA : ∀ j, j < 0 → inA ad 0 (ad j) := fun j hj => ⟨j, hj, rfl⟩
  have hx := C.1
  have hb := C.2.1
  have hl : lv_has ls 3 [(0, .int a1), (1, .int a2)] := hl
  have h := (f_X4_turnedSide.eq_1 _ _ ).symm.trans h
  have hB31 : ∀ (x2 : Int32) (H : Heap) (locs : List Loc) (ls : Array Slot), f_X4_turnedSide_b31 a2 x2 = some r → PS ev 0 ad w00 (inA ad 0) s H locs → lv_has ls 3 [(1, .int a2), (2, .int x2)] → WW ev p l e (rmk 0 0) s m args below meth c Qc ad 0 H locs 31 ls [] := by
    intro x2 H locs ls h hP hl
    have h := (f_X4_turnedSide_b31.eq_1 _ _ ).symm.trans h
    refine lv_iload_n hx hb dX4_turnedSide_31 rfl (lv_at hl 1 rfl) ?_
    refine lv_iconst (v := 2) hx hb dX4_turnedSide_32 (by decide) ?_
    refine lv_icmp_ge (tgt := 49) hx hb dX4_turnedSide_33 (by decide) (fun c33 => ?_) (fun c33 => ?_)
    · have h := k_if c33 h
      refine lv_iload_n hx hb dX4_turnedSide_49 rfl (lv_at hl 1 rfl) ?_
      exact e_iret C hend hP (k_some h) rfl dX4_turnedSide_50
    · have h := k_nf c33 h
      refine lv_iload_n hx hb dX4_turnedSide_36 rfl (lv_at hl 0 rfl) ?_
      refine lv_iconst (v := 2) hx hb dX4_turnedSide_37 (by decide) ?_
      obtain ⟨hg, h⟩ := k_gd h
      refine r_idiv hx hb dX4_turnedSide_38 (nz_ne hg) ?_
      refine lv_iconst (v := 2) hx hb dX4_turnedSide_39 (by decide) ?_
      obtain ⟨hg, h⟩ := k_gd h
      refine r_irem hx hb dX4_turnedSide_40 (nz_ne hg) ?_
      refine lv_iconst (v := 1) hx hb dX4_turnedSide_41 (by decide) ?_
      refine lv_icmp_ne (tgt := 49) hx hb dX4_turnedSide_42 (by decide) (fun c42 => ?_) (fun c42 => ?_)
      · have h := k_nf c42 h
        refine lv_iload_n hx hb dX4_turnedSide_49 rfl (lv_at hl 1 rfl) ?_
        exact e_iret C hend hP (k_some h) rfl dX4_turnedSide_50
      · have h := k_if c42 h
        refine lv_iconst (v := 1) hx hb dX4_turnedSide_45 (by decide) ?_
        refine lv_iload_n hx hb dX4_turnedSide_46 rfl (lv_at hl 1 rfl) ?_
        refine lv_isub hx hb dX4_turnedSide_47 ?_
        exact e_iret C hend hP (k_some h) rfl dX4_turnedSide_48
  have hB14 : ∀ (x1 : Int32) (H : Heap) (locs : List Loc) (ls : Array Slot), f_X4_turnedSide_b14 a2 x1 = some r → PS ev 0 ad w00 (inA ad 0) s H locs → lv_has ls 3 [(1, .int a2)] → WW ev p l e (rmk 0 0) s m args below meth c Qc ad 0 H locs 14 ls [.int x1] := by
    intro x1 H locs ls h hP hl
    have h := (f_X4_turnedSide_b14.eq_1 _ _ ).symm.trans h
    refine lv_istore_n (lv' := [(2, .int x1), (1, .int a2)]) hx hb dX4_turnedSide_14 rfl hl (by decide) rfl (fun ls hl => ?_)
    refine lv_iload_n hx hb dX4_turnedSide_15 rfl (lv_at hl 0 rfl) ?_
    refine lv_iconst (v := 1) hx hb dX4_turnedSide_16 (by decide) ?_
    refine lv_icmp_le (tgt := 31) hx hb dX4_turnedSide_17 (by decide) (fun c17 => ?_) (fun c17 => ?_)
    · have h := k_if c17 h
      exact hB31 _ _ _ _ h hP (lv_sub hl [1, 0] rfl)
    · have h := k_nf c17 h
      refine lv_iload_n hx hb dX4_turnedSide_20 rfl (lv_at hl 1 rfl) ?_
      refine lv_iconst (v := 2) hx hb dX4_turnedSide_21 (by decide) ?_
      obtain ⟨hg, h⟩ := k_gd h
      refine r_irem hx hb dX4_turnedSide_22 (nz_ne hg) ?_
      refine lv_iconst (v := 1) hx hb dX4_turnedSide_23 (by decide) ?_
      refine lv_icmp_ne (tgt := 31) hx hb dX4_turnedSide_24 (by decide) (fun c24 => ?_) (fun c24 => ?_)
      · have h := k_nf c24 h
        exact hB31 _ _ _ _ h hP (lv_sub hl [1, 0] rfl)
      · have h := k_if c24 h
        refine lv_iconst (v := 5) hx hb dX4_turnedSide_27 (by decide) ?_
        refine lv_iload_n hx hb dX4_turnedSide_28 rfl (lv_at hl 0 rfl) ?_
        refine lv_isub hx hb dX4_turnedSide_29 ?_
        exact e_iret C hend hP (k_some h) rfl dX4_turnedSide_30
  refine lv_iload_n hx hb dX4_turnedSide_0 rfl (lv_at hl 1 rfl) ?_
  refine lv_iconst (v := 4) hx hb dX4_turnedSide_1 (by decide) ?_
  refine lv_icmp_ge (tgt := 9) hx hb dX4_turnedSide_2 (by decide) (fun c2 => ?_) (fun c2 => ?_)
  · have h := k_if c2 h
    refine lv_iload_n hx hb dX4_turnedSide_9 rfl (lv_at hl 0 rfl) ?_
    refine lv_iconst (v := 2) hx hb dX4_turnedSide_10 (by decide) ?_
    refine lv_iadd hx hb dX4_turnedSide_11 ?_
    refine lv_iconst (v := 4) hx hb dX4_turnedSide_12 (by decide) ?_
    obtain ⟨hg, h⟩ := k_gd h
    refine r_irem hx hb dX4_turnedSide_13 (nz_ne hg) ?_
    exact hB14 _ _ _ _ h hP (lv_sub hl [1] rfl)
  · have h := k_nf c2 h
    refine lv_iload_n hx hb dX4_turnedSide_5 rfl (lv_at hl 0 rfl) ?_
    refine lv_goto (tgt := 14) hx hb dX4_turnedSide_6 (by decide) ?_
    exact hB14 _ _ _ _ h hP (lv_sub hl [1] rfl)
def f_X4_isAlike_L57_b (σ : MM) (a1 : Int32) (x1 : Int32) (x2 : Int32) (k102 : Option (Bool)) (rec57 : Int32 → Option (Bool)) (x3 : Int32) : Option (Bool) :=
  if 4 ≤ x3 then k102 else ob (f_X4_edge σ x1 x3) (fun x4 => gd (inb x4 40) (ob (f_X4_turnedSide x3 a1) (fun x5 => ob (f_X4_edge σ x2 x5) (fun x6 => gd (inb x6 40) (if ((m_hedge σ) (Int32.toNatClampNeg x4)) = ((m_hedge σ) (Int32.toNatClampNeg x6)) then lt (x3 + 1) (fun x7 => rec57 x7) else some false)))))
def f_X4_isAlike_L57 (σ : MM) (a1 : Int32) (x1 : Int32) (x2 : Int32) (k102 : Option (Bool)) (x3 : Int32) : Option (Bool) :=
  lp (fun _ => none) (f_X4_isAlike_L57_b σ a1 x1 x2 k102) FU x3
def f_X4_isAlike_L2_b (σ : MM) (a1 : Int32)  (rec2 : Int32 → Option (Bool)) (x1 : Int32) : Option (Bool) :=
  if ((m_w σ) * (m_h σ)) ≤ x1 then some true else ob (f_X4_turned σ x1 a1) (fun x2 => gd (inb x1 16) (gd (inb x2 16) (if ((m_dug σ) (Int32.toNatClampNeg x1)) = ((m_dug σ) (Int32.toNatClampNeg x2)) then gd (inb x1 16) (gd (inb x2 16) (if ((m_owner σ) (Int32.toNatClampNeg x1)) = ((m_owner σ) (Int32.toNatClampNeg x2)) then f_X4_isAlike_L57 σ a1 x1 x2 (lt (x1 + 1) (fun x8 => rec2 x8)) 0 else some false)) else some false)))
def f_X4_isAlike_L2 (σ : MM) (a1 : Int32)  (x1 : Int32) : Option (Bool) :=
  lp (fun _ => none) (f_X4_isAlike_L2_b σ a1 ) FU x1
def f_X4_isAlike (σ : MM) (a1 : Int32) : Option (Bool) :=
  f_X4_isAlike_L2 σ a1 0
set_option maxHeartbeats 4000000 in
set_option maxRecDepth 100000 in
theorem c_X4_isAlike (l : Launch) (ev : EV) (ad : Nat → Nat) (σ : MM) (a1 : Int32)   (r : Bool)  (h : f_X4_isAlike σ a1 = some r) : Ct l yX4_isAlike prog_6_method_83_code 5 (Option.some Jvm.ClassFile.FieldType.boolean) (rmk 2 44) ev 13 ad (mw ev ad σ) (mw ev ad σ) [.ref (ad 0), .int a1] (some (.int (bi r))) := by
  refine Ct.of (by decide +kernel) (Nat.le_of_ble_eq_true rfl) ?_
  intro p e s m args below meth c Qc C hap hP hend ls hl
  have hAA : ∀ j, j < 13 → inA ad 13 (ad j) := fun j hj => ⟨j, hj, rfl⟩
  have hx := C.1
  have hb := C.2.1
  have hl : lv_has ls 5 [(0, .ref (ad 0)), (1, .int a1)] := hl
  have h := (f_X4_isAlike.eq_1 _ _ ).symm.trans h
  refine lv_iconst (v := 0) hx hb dX4_isAlike_0 (by decide) ?_
  refine lv_istore_n (lv' := [(2, .int 0), (0, .ref (ad 0)), (1, .int a1)]) hx hb dX4_isAlike_1 rfl hl (by decide) rfl (fun ls hl => ?_)
  have hL2 : ∀ (n : Nat) (x1 : Int32) (H : Heap) (locs : List Loc) (ls : Array Slot), lp (fun _ => none) (f_X4_isAlike_L2_b σ a1 ) n x1 = some r → PS ev 13 ad (mw ev ad σ) (inA ad 13) s H locs → lv_has ls 5 [(0, .ref (ad 0)), (1, .int a1), (2, .int x1)] → WW ev p l e (rmk 2 44) s m args below meth c Qc ad 13 H locs 2 ls [] := by
    intro n
    induction n with
    | zero =>
      intro x1 H locs ls h; exact k_none h
    | succ n ih =>
      intro x1 H locs ls h hP hl
      have h : f_X4_isAlike_L2_b σ a1  (lp (fun _ => none) (f_X4_isAlike_L2_b σ a1 ) n) x1 = some r := h
      have h := (f_X4_isAlike_L2_b.eq_1 _ _ _ _ ).symm.trans h
      refine lv_iload_n hx hb dX4_isAlike_2 rfl (lv_at hl 2 rfl) ?_
      refine lv_aload_n hx hb dX4_isAlike_3 rfl (lv_at hl 0 rfl) ?_
      refine r_get C hP (ci := 4) rfl uin_X4 0 (by decide) 0 (by decide) rfl qFL_RX4_67 rfl rfl dX4_isAlike_4 ?_
      refine lv_aload_n hx hb dX4_isAlike_7 rfl (lv_at hl 0 rfl) ?_
      refine r_get C hP (ci := 4) rfl uin_X4 1 (by decide) 0 (by decide) rfl qFL_RX4_70 rfl rfl dX4_isAlike_8 ?_
      refine lv_imul hx hb dX4_isAlike_11 ?_
      refine lv_icmp_ge (tgt := 108) hx hb dX4_isAlike_12 (by decide) (fun c12 => ?_) (fun c12 => ?_)
      · have h := k_if c12 h
        refine lv_iconst (v := 1) hx hb dX4_isAlike_108 (by decide) ?_
        exact e_zret C hend hP (k_some h) rfl dX4_isAlike_109 rfl
      · have h := k_nf c12 h
        refine lv_aload_n hx hb dX4_isAlike_15 rfl (lv_at hl 0 rfl) ?_
        refine lv_iload_n hx hb dX4_isAlike_16 rfl (lv_at hl 2 rfl) ?_
        refine lv_iload_n hx hb dX4_isAlike_17 rfl (lv_at hl 1 rfl) ?_
        obtain ⟨x2, h1, h⟩ := k_ob h
        refine k_callVi C hP hap hAA (c_X4_turned l ev ad σ x1 a1   _ h1) Emb.same hap gz_X4_turned qML_RX4_271 qIM_yX4_turned qSE_yX4_turned ⟨(Nat.le_of_ble_eq_true rfl), (Nat.le_of_ble_eq_true rfl)⟩ (q0 := 0) rfl (by decide) rfl rfl rfl rfl hl.1 rfl (Nat.le_of_ble_eq_true rfl) dX4_isAlike_18 ⟨Nat.le_refl _, Nat.le_refl _⟩ (fun H locs hP => ?_)
        refine lv_istore_n (lv' := [(3, .int x2), (0, .ref (ad 0)), (1, .int a1), (2, .int x1)]) hx hb dX4_isAlike_21 rfl hl (by decide) rfl (fun ls hl => ?_)
        refine lv_aload_n hx hb dX4_isAlike_22 rfl (lv_at hl 1 rfl) ?_
        refine r_get C hP (ci := 4) rfl uin_X4 3 (by decide) 0 (by decide) rfl qFL_RX4_13 rfl rfl dX4_isAlike_23 ?_
        refine lv_iload_n hx hb dX4_isAlike_26 rfl (lv_at hl 3 rfl) ?_
        obtain ⟨hg, h⟩ := k_gd h
        refine r_zald C hP 2 (by decide) rfl hg dX4_isAlike_27 ?_
        refine lv_aload_n hx hb dX4_isAlike_28 rfl (lv_at hl 1 rfl) ?_
        refine r_get C hP (ci := 4) rfl uin_X4 3 (by decide) 0 (by decide) rfl qFL_RX4_13 rfl rfl dX4_isAlike_29 ?_
        refine lv_iload_n hx hb dX4_isAlike_32 rfl (lv_at hl 0 rfl) ?_
        obtain ⟨hg, h⟩ := k_gd h
        refine r_zald C hP 2 (by decide) rfl hg dX4_isAlike_33 ?_
        refine lv_icmp_ne (tgt := 52) hx hb dX4_isAlike_34 (by decide) (fun c34 => ?_) (fun c34 => ?_)
        · have h := k_nf c34 h
          refine lv_iconst (v := 0) hx hb dX4_isAlike_52 (by decide) ?_
          exact e_zret C hend hP (k_some h) rfl dX4_isAlike_53 rfl
        · have h := k_if c34 h
          refine lv_aload_n hx hb dX4_isAlike_37 rfl (lv_at hl 1 rfl) ?_
          refine r_get C hP (ci := 4) rfl uin_X4 4 (by decide) 0 (by decide) rfl qFL_RX4_16 rfl rfl dX4_isAlike_38 ?_
          refine lv_iload_n hx hb dX4_isAlike_41 rfl (lv_at hl 3 rfl) ?_
          obtain ⟨hg, h⟩ := k_gd h
          refine r_iald C hP 3 (by decide) rfl hg dX4_isAlike_42 ?_
          refine lv_aload_n hx hb dX4_isAlike_43 rfl (lv_at hl 1 rfl) ?_
          refine r_get C hP (ci := 4) rfl uin_X4 4 (by decide) 0 (by decide) rfl qFL_RX4_16 rfl rfl dX4_isAlike_44 ?_
          refine lv_iload_n hx hb dX4_isAlike_47 rfl (lv_at hl 0 rfl) ?_
          obtain ⟨hg, h⟩ := k_gd h
          refine r_iald C hP 3 (by decide) rfl hg dX4_isAlike_48 ?_
          refine lv_icmp_eq (tgt := 54) hx hb dX4_isAlike_49 (by decide) (fun c49 => ?_) (fun c49 => ?_)
          · have h := k_if c49 h
            refine lv_iconst (v := 0) hx hb dX4_isAlike_54 (by decide) ?_
            refine lv_istore (lv' := [(4, .int 0), (3, .int x2), (0, .ref (ad 0)), (1, .int a1), (2, .int x1)]) hx hb dX4_isAlike_55 hl (by decide) rfl (fun ls hl => ?_)
            have hL57 : ∀ (k102 : Option (Bool)) (hk102 : ∀  (H : Heap) (locs : List Loc) (ls : Array Slot), k102  = some r → PS ev 13 ad (mw ev ad σ) (inA ad 13) s H locs → lv_has ls 5 [(0, .ref (ad 0)), (1, .int a1), (2, .int x1)] → WW ev p l e (rmk 2 44) s m args below meth c Qc ad 13 H locs 102 ls []) (n : Nat) (x3 : Int32) (H : Heap) (locs : List Loc) (ls : Array Slot), lp (fun _ => none) (f_X4_isAlike_L57_b σ a1 x1 x2 k102) n x3 = some r → PS ev 13 ad (mw ev ad σ) (inA ad 13) s H locs → lv_has ls 5 [(0, .ref (ad 0)), (1, .int a1), (2, .int x1), (3, .int x2), (4, .int x3)] → WW ev p l e (rmk 2 44) s m args below meth c Qc ad 13 H locs 57 ls [] := by
              intro k102 hk102 n
              induction n with
              | zero =>
                intro x3 H locs ls h; exact k_none h
              | succ n ih =>
                intro x3 H locs ls h hP hl
                have h : f_X4_isAlike_L57_b σ a1 x1 x2 k102 (lp (fun _ => none) (f_X4_isAlike_L57_b σ a1 x1 x2 k102) n) x3 = some r := h
                have h := (f_X4_isAlike_L57_b.eq_1 _ _ _ _ _ _ _ ).symm.trans h
                refine lv_iload hx hb dX4_isAlike_57 (lv_at hl 4 rfl) ?_
                refine lv_iconst (v := 4) hx hb dX4_isAlike_59 (by decide) ?_
                refine lv_icmp_ge (tgt := 102) hx hb dX4_isAlike_60 (by decide) (fun c60 => ?_) (fun c60 => ?_)
                · have h := k_if c60 h
                  exact hk102 _ _ _ h hP (lv_sub hl [0, 1, 2] rfl)
                · have h := k_nf c60 h
                  refine lv_aload_n hx hb dX4_isAlike_63 rfl (lv_at hl 0 rfl) ?_
                  refine r_get C hP (ci := 4) rfl uin_X4 2 (by decide) 0 (by decide) rfl qFL_RX4_7 rfl rfl dX4_isAlike_64 ?_
                  refine lv_aload_n hx hb dX4_isAlike_67 rfl (lv_at hl 0 rfl) ?_
                  refine lv_iload_n hx hb dX4_isAlike_68 rfl (lv_at hl 2 rfl) ?_
                  refine lv_iload hx hb dX4_isAlike_69 (lv_at hl 4 rfl) ?_
                  obtain ⟨x4, h1, h⟩ := k_ob h
                  refine k_callVi C hP hap hAA (c_X4_edge l ev ad σ x1 x3   _ h1) Emb.same hap gz_X4_edge qML_RX4_122 qIM_yX4_edge qSE_yX4_edge ⟨(Nat.le_of_ble_eq_true rfl), (Nat.le_of_ble_eq_true rfl)⟩ (q0 := 0) rfl (by decide) rfl rfl rfl rfl hl.1 rfl (Nat.le_of_ble_eq_true rfl) dX4_isAlike_71 ⟨Nat.le_refl _, Nat.le_refl _⟩ (fun H locs hP => ?_)
                  obtain ⟨hg, h⟩ := k_gd h
                  refine r_zald C hP 1 (by decide) rfl hg dX4_isAlike_74 ?_
                  refine lv_aload_n hx hb dX4_isAlike_75 rfl (lv_at hl 0 rfl) ?_
                  refine r_get C hP (ci := 4) rfl uin_X4 2 (by decide) 0 (by decide) rfl qFL_RX4_7 rfl rfl dX4_isAlike_76 ?_
                  refine lv_aload_n hx hb dX4_isAlike_79 rfl (lv_at hl 0 rfl) ?_
                  refine lv_iload_n hx hb dX4_isAlike_80 rfl (lv_at hl 3 rfl) ?_
                  refine lv_iload hx hb dX4_isAlike_81 (lv_at hl 4 rfl) ?_
                  refine lv_iload_n hx hb dX4_isAlike_83 rfl (lv_at hl 1 rfl) ?_
                  obtain ⟨x5, h1, h⟩ := k_ob h
                  refine k_callSi C hP hap hAA (c_X4_turnedSide l ev ad x3 a1   _ h1) Emb.none (apart_0 _) gz_X4_turnedSide qML_RX4_274 qSM_yX4_turnedSide ⟨(Nat.le_of_ble_eq_true rfl), (Nat.le_of_ble_eq_true rfl)⟩ rfl hl.1 rfl (Nat.le_of_ble_eq_true rfl) dX4_isAlike_84 ⟨Nat.le_refl _, Nat.le_refl _⟩ (fun H locs hP => ?_)
                  obtain ⟨x6, h1, h⟩ := k_ob h
                  refine k_callVi C hP hap hAA (c_X4_edge l ev ad σ x2 x5   _ h1) Emb.same hap gz_X4_edge qML_RX4_122 qIM_yX4_edge qSE_yX4_edge ⟨(Nat.le_of_ble_eq_true rfl), (Nat.le_of_ble_eq_true rfl)⟩ (q0 := 0) rfl (by decide) rfl rfl rfl rfl hl.1 rfl (Nat.le_of_ble_eq_true rfl) dX4_isAlike_87 ⟨Nat.le_refl _, Nat.le_refl _⟩ (fun H locs hP => ?_)
                  obtain ⟨hg, h⟩ := k_gd h
                  refine r_zald C hP 1 (by decide) rfl hg dX4_isAlike_90 ?_
                  refine lv_icmp_eq (tgt := 96) hx hb dX4_isAlike_91 (by decide) (fun c91 => ?_) (fun c91 => ?_)
                  · have h := k_if c91 h
                    obtain ⟨x7, ex7, h⟩ := k_ltx h
                    refine lv_iinc (v := x7) (lv' := [(4, .int x7), (0, .ref (ad 0)), (1, .int a1), (2, .int x1), (3, .int x2)]) hx hb dX4_isAlike_96 hl (k := 4) rfl (by rw [ex7]; rfl) (by decide) rfl (fun ls hl => ?_)
                    refine lv_goto (tgt := 57) hx hb dX4_isAlike_99 (by decide) ?_
                    exact ih _ _ _ _ h hP (lv_sub hl [1, 2, 3, 4, 0] rfl)
                  · have h := k_nf c91 h
                    refine lv_iconst (v := 0) hx hb dX4_isAlike_94 (by decide) ?_
                    exact e_zret C hend hP (k_some h) rfl dX4_isAlike_95 rfl
            refine hL57 _ (fun  H locs ls h hP hl => ?_) FU _ _ _ _ h hP (lv_sub hl [2, 3, 4, 1, 0] rfl)
            obtain ⟨x8, ex8, h⟩ := k_ltx h
            refine lv_iinc (v := x8) (lv' := [(2, .int x8), (0, .ref (ad 0)), (1, .int a1)]) hx hb dX4_isAlike_102 hl (k := 2) rfl (by rw [ex8]; rfl) (by decide) rfl (fun ls hl => ?_)
            refine lv_goto (tgt := 2) hx hb dX4_isAlike_105 (by decide) ?_
            exact ih _ _ _ _ h hP (lv_sub hl [1, 2, 0] rfl)
          · have h := k_nf c49 h
            refine lv_iconst (v := 0) hx hb dX4_isAlike_52 (by decide) ?_
            exact e_zret C hend hP (k_some h) rfl dX4_isAlike_53 rfl
  exact hL2 FU _ _ _ _ h hP (lv_sub hl [1, 2, 0] rfl)
def f_X4_alike (σ : MM) (a1 : Int32) : Option (Int32 × MM) :=
  if (f_X4_within a1 0 7) = true then if a1 ≤ 3 then ob (f_X4_isAlike σ a1) (fun b3 => if b3 = true then some (1, σ) else some (0, σ)) else if (m_w σ) = (m_h σ) then ob (f_X4_isAlike σ a1) (fun b4 => if b4 = true then some (1, σ) else some (0, σ)) else ob2 (f_X4_no σ (-2)) (fun x6 σ5 => some (x6, σ5)) else ob2 (f_X4_no σ (-2)) (fun x2 σ1 => some (x2, σ1))
set_option maxHeartbeats 4000000 in
set_option maxRecDepth 100000 in
theorem c_X4_alike (l : Launch) (ev : EV) (ad : Nat → Nat) (σ : MM) (a1 : Int32)   (r : Int32) (σ' : MM) (h : f_X4_alike σ a1 = some (r, σ')) : Ct l yX4_alike prog_6_method_84_code 2 (Option.some Jvm.ClassFile.FieldType.int) (rmk 3 68) ev 13 ad (mw ev ad σ) (mw ev ad σ') [.ref (ad 0), .int a1] (some (.int r)) := by
  refine Ct.of (by decide +kernel) (Nat.le_of_ble_eq_true rfl) ?_
  intro p e s m args below meth c Qc C hap hP hend ls hl
  have hAA : ∀ j, j < 13 → inA ad 13 (ad j) := fun j hj => ⟨j, hj, rfl⟩
  have hx := C.1
  have hb := C.2.1
  have hl : lv_has ls 2 [(0, .ref (ad 0)), (1, .int a1)] := hl
  have h := (f_X4_alike.eq_1 _ _ ).symm.trans h
  refine lv_iload_n hx hb dX4_alike_0 rfl (lv_at hl 1 rfl) ?_
  refine lv_iconst (v := 0) hx hb dX4_alike_1 (by decide) ?_
  refine lv_bipush (v := 7) hx hb dX4_alike_2 (by decide) ?_
  refine k_callSi C hP hap hAA (c_X4_within l ev ad a1 0 7   _ rfl) Emb.none (apart_0 _) gz_X4_within qML_RX4_63 qSM_yX4_within ⟨(Nat.le_of_ble_eq_true rfl), (Nat.le_of_ble_eq_true rfl)⟩ rfl hl.1 rfl (Nat.le_of_ble_eq_true rfl) dX4_alike_4 ⟨Nat.le_refl _, Nat.le_refl _⟩ (fun H locs hP => ?_)
  refine r_ifz_eq (tgt := 26) hx hb dX4_alike_7 (by decide) (fun c7 => ?_) (fun c7 => ?_)
  · have h := k_nf c7 h
    refine lv_aload_n hx hb dX4_alike_26 rfl (lv_at hl 0 rfl) ?_
    refine lv_bipush (v := (-2)) hx hb dX4_alike_27 (by decide) ?_
    obtain ⟨x2, σ1, h1, h⟩ := k_ob2 h
    refine k_callVi C hP hap hAA (c_X4_no l ev ad σ (-2)   _ _ h1) Emb.same hap gz_X4_no qML_RX4_56 qIM_yX4_no qSE_yX4_no ⟨(Nat.le_of_ble_eq_true rfl), (Nat.le_of_ble_eq_true rfl)⟩ (q0 := 0) rfl (by decide) rfl rfl rfl rfl hl.1 rfl (Nat.le_of_ble_eq_true rfl) dX4_alike_29 ⟨Nat.le_refl _, Nat.le_refl _⟩ (fun H locs hP => ?_)
    exact e_iret C hend hP (k_some2 h).1 (congrArg (mw ev ad) (k_some2 h).2) dX4_alike_32
  · have h := k_if c7 h
    refine lv_iload_n hx hb dX4_alike_10 rfl (lv_at hl 1 rfl) ?_
    refine lv_iconst (v := 3) hx hb dX4_alike_11 (by decide) ?_
    refine lv_icmp_le (tgt := 33) hx hb dX4_alike_12 (by decide) (fun c12 => ?_) (fun c12 => ?_)
    · have h := k_if c12 h
      refine lv_aload_n hx hb dX4_alike_33 rfl (lv_at hl 0 rfl) ?_
      refine lv_iload_n hx hb dX4_alike_34 rfl (lv_at hl 1 rfl) ?_
      obtain ⟨b3, h1, h⟩ := k_ob h
      refine k_callVi C hP hap hAA (c_X4_isAlike l ev ad σ a1   _ h1) Emb.same hap gz_X4_isAlike qML_RX4_277 qIM_yX4_isAlike qSE_yX4_isAlike ⟨(Nat.le_of_ble_eq_true rfl), (Nat.le_of_ble_eq_true rfl)⟩ (q0 := 0) rfl (by decide) rfl rfl rfl rfl hl.1 rfl (Nat.le_of_ble_eq_true rfl) dX4_alike_35 ⟨Nat.le_refl _, Nat.le_refl _⟩ (fun H locs hP => ?_)
      refine r_ifz_eq (tgt := 45) hx hb dX4_alike_38 (by decide) (fun c38 => ?_) (fun c38 => ?_)
      · have h := k_nf c38 h
        refine lv_iconst (v := 0) hx hb dX4_alike_45 (by decide) ?_
        exact e_iret C hend hP (k_some2 h).1 (congrArg (mw ev ad) (k_some2 h).2) dX4_alike_46
      · have h := k_if c38 h
        refine lv_iconst (v := 1) hx hb dX4_alike_41 (by decide) ?_
        refine lv_goto (tgt := 46) hx hb dX4_alike_42 (by decide) ?_
        exact e_iret C hend hP (k_some2 h).1 (congrArg (mw ev ad) (k_some2 h).2) dX4_alike_46
    · have h := k_nf c12 h
      refine lv_aload_n hx hb dX4_alike_15 rfl (lv_at hl 0 rfl) ?_
      refine r_get C hP (ci := 4) rfl uin_X4 0 (by decide) 0 (by decide) rfl qFL_RX4_67 rfl rfl dX4_alike_16 ?_
      refine lv_aload_n hx hb dX4_alike_19 rfl (lv_at hl 0 rfl) ?_
      refine r_get C hP (ci := 4) rfl uin_X4 1 (by decide) 0 (by decide) rfl qFL_RX4_70 rfl rfl dX4_alike_20 ?_
      refine lv_icmp_eq (tgt := 33) hx hb dX4_alike_23 (by decide) (fun c23 => ?_) (fun c23 => ?_)
      · have h := k_if c23 h
        refine lv_aload_n hx hb dX4_alike_33 rfl (lv_at hl 0 rfl) ?_
        refine lv_iload_n hx hb dX4_alike_34 rfl (lv_at hl 1 rfl) ?_
        obtain ⟨b4, h1, h⟩ := k_ob h
        refine k_callVi C hP hap hAA (c_X4_isAlike l ev ad σ a1   _ h1) Emb.same hap gz_X4_isAlike qML_RX4_277 qIM_yX4_isAlike qSE_yX4_isAlike ⟨(Nat.le_of_ble_eq_true rfl), (Nat.le_of_ble_eq_true rfl)⟩ (q0 := 0) rfl (by decide) rfl rfl rfl rfl hl.1 rfl (Nat.le_of_ble_eq_true rfl) dX4_alike_35 ⟨Nat.le_refl _, Nat.le_refl _⟩ (fun H locs hP => ?_)
        refine r_ifz_eq (tgt := 45) hx hb dX4_alike_38 (by decide) (fun c38 => ?_) (fun c38 => ?_)
        · have h := k_nf c38 h
          refine lv_iconst (v := 0) hx hb dX4_alike_45 (by decide) ?_
          exact e_iret C hend hP (k_some2 h).1 (congrArg (mw ev ad) (k_some2 h).2) dX4_alike_46
        · have h := k_if c38 h
          refine lv_iconst (v := 1) hx hb dX4_alike_41 (by decide) ?_
          refine lv_goto (tgt := 46) hx hb dX4_alike_42 (by decide) ?_
          exact e_iret C hend hP (k_some2 h).1 (congrArg (mw ev ad) (k_some2 h).2) dX4_alike_46
      · have h := k_nf c23 h
        refine lv_aload_n hx hb dX4_alike_26 rfl (lv_at hl 0 rfl) ?_
        refine lv_bipush (v := (-2)) hx hb dX4_alike_27 (by decide) ?_
        obtain ⟨x6, σ5, h1, h⟩ := k_ob2 h
        refine k_callVi C hP hap hAA (c_X4_no l ev ad σ (-2)   _ _ h1) Emb.same hap gz_X4_no qML_RX4_56 qIM_yX4_no qSE_yX4_no ⟨(Nat.le_of_ble_eq_true rfl), (Nat.le_of_ble_eq_true rfl)⟩ (q0 := 0) rfl (by decide) rfl rfl rfl rfl hl.1 rfl (Nat.le_of_ble_eq_true rfl) dX4_alike_29 ⟨Nat.le_refl _, Nat.le_refl _⟩ (fun H locs hP => ?_)
        exact e_iret C hend hP (k_some2 h).1 (congrArg (mw ev ad) (k_some2 h).2) dX4_alike_32
def f_X4_leader (σ : MM) : Option (Int32) :=
  ob (f_X4_leadOf σ 0) (fun x1 => if x1 ≤ 0 then if 0 ≤ x1 then some (-1) else some 1 else some 0)
set_option maxHeartbeats 4000000 in
set_option maxRecDepth 100000 in
theorem c_X4_leader (l : Launch) (ev : EV) (ad : Nat → Nat) (σ : MM)   (r : Int32)  (h : f_X4_leader σ = some r) : Ct l yX4_leader prog_6_method_85_code 2 (Option.some Jvm.ClassFile.FieldType.int) (rmk 9 206) ev 13 ad (mw ev ad σ) (mw ev ad σ) [.ref (ad 0)] (some (.int r)) := by
  refine Ct.of (by decide +kernel) (Nat.le_of_ble_eq_true rfl) ?_
  intro p e s m args below meth c Qc C hap hP hend ls hl
  have hAA : ∀ j, j < 13 → inA ad 13 (ad j) := fun j hj => ⟨j, hj, rfl⟩
  have hx := C.1
  have hb := C.2.1
  have hl : lv_has ls 2 [(0, .ref (ad 0))] := hl
  have h := (f_X4_leader.eq_1 _ ).symm.trans h
  refine lv_aload_n hx hb dX4_leader_0 rfl (lv_at hl 0 rfl) ?_
  refine lv_iconst (v := 0) hx hb dX4_leader_1 (by decide) ?_
  obtain ⟨x1, h1, h⟩ := k_ob h
  refine k_callVi C hP hap hAA (c_X4_leadOf l ev ad σ 0   _ h1) Emb.same hap gz_X4_leadOf qML_RX4_226 qIM_yX4_leadOf qSE_yX4_leadOf ⟨(Nat.le_of_ble_eq_true rfl), (Nat.le_of_ble_eq_true rfl)⟩ (q0 := 0) rfl (by decide) rfl rfl rfl rfl hl.1 rfl (Nat.le_of_ble_eq_true rfl) dX4_leader_2 ⟨Nat.le_refl _, Nat.le_refl _⟩ (fun H locs hP => ?_)
  refine lv_istore_n (lv' := [(1, .int x1), (0, .ref (ad 0))]) hx hb dX4_leader_5 rfl hl (by decide) rfl (fun ls hl => ?_)
  refine lv_iload_n hx hb dX4_leader_6 rfl (lv_at hl 0 rfl) ?_
  refine lv_if_le (tgt := 14) hx hb dX4_leader_7 (by decide) (fun c7 => ?_) (fun c7 => ?_)
  · have h := k_if c7 h
    refine lv_iload_n hx hb dX4_leader_14 rfl (lv_at hl 0 rfl) ?_
    refine lv_if_ge (tgt := 22) hx hb dX4_leader_15 (by decide) (fun c15 => ?_) (fun c15 => ?_)
    · have h := k_if c15 h
      refine lv_iconst (v := (-1)) hx hb dX4_leader_22 (by decide) ?_
      exact e_iret C hend hP (k_some h) rfl dX4_leader_23
    · have h := k_nf c15 h
      refine lv_iconst (v := 1) hx hb dX4_leader_18 (by decide) ?_
      refine lv_goto (tgt := 23) hx hb dX4_leader_19 (by decide) ?_
      exact e_iret C hend hP (k_some h) rfl dX4_leader_23
  · have h := k_nf c7 h
    refine lv_iconst (v := 0) hx hb dX4_leader_10 (by decide) ?_
    refine lv_goto (tgt := 23) hx hb dX4_leader_11 (by decide) ?_
    exact e_iret C hend hP (k_some h) rfl dX4_leader_23
def f_X4_longest_L4_b   (rec4 : Int32 → Int32 → MM → Option (Int32 × MM)) (x1 : Int32) (x2 : Int32) (σ3 : MM) : Option (Int32 × MM) :=
  if ((m_w σ3) * (m_h σ3)) ≤ x2 then some (x1, σ3) else ob2 (f_X4_chainOf σ3 x2) (fun x5 σ4 => ob2 (f_X4_chainOf σ4 x1) (fun x7 σ6 => if x5 ≤ x7 then lt (x2 + 1) (fun x8 => rec4 x1 x8 σ6) else lt (x2 + 1) (fun x9 => rec4 x2 x9 σ6)))
def f_X4_longest_L4   (x1 : Int32) (x2 : Int32) (σ3 : MM) : Option (Int32 × MM) :=
  lp (fun _ _ _ => none) (f_X4_longest_L4_b  ) FU x1 x2 σ3
def f_X4_longest (σ : MM) : Option (Int32 × MM) :=
  f_X4_longest_L4 0 1 σ
set_option maxHeartbeats 4000000 in
set_option maxRecDepth 100000 in
theorem c_X4_longest (l : Launch) (ev : EV) (ad : Nat → Nat) (σ : MM)   (r : Int32) (σ' : MM) (h : f_X4_longest σ = some (r, σ')) : Ct l yX4_longest prog_6_method_86_code 3 (Option.some Jvm.ClassFile.FieldType.int) (rmk 5 114) ev 13 ad (mw ev ad σ) (mw ev ad σ') [.ref (ad 0)] (some (.int r)) := by
  refine Ct.of (by decide +kernel) (Nat.le_of_ble_eq_true rfl) ?_
  intro p e s m args below meth c Qc C hap hP hend ls hl
  have hAA : ∀ j, j < 13 → inA ad 13 (ad j) := fun j hj => ⟨j, hj, rfl⟩
  have hx := C.1
  have hb := C.2.1
  have hl : lv_has ls 3 [(0, .ref (ad 0))] := hl
  have h := (f_X4_longest.eq_1 _ ).symm.trans h
  refine lv_iconst (v := 0) hx hb dX4_longest_0 (by decide) ?_
  refine lv_istore_n (lv' := [(1, .int 0), (0, .ref (ad 0))]) hx hb dX4_longest_1 rfl hl (by decide) rfl (fun ls hl => ?_)
  refine lv_iconst (v := 1) hx hb dX4_longest_2 (by decide) ?_
  refine lv_istore_n (lv' := [(2, .int 1), (1, .int 0), (0, .ref (ad 0))]) hx hb dX4_longest_3 rfl hl (by decide) rfl (fun ls hl => ?_)
  have hL4 : ∀ (n : Nat) (x1 : Int32) (x2 : Int32) (σ3 : MM) (H : Heap) (locs : List Loc) (ls : Array Slot), lp (fun _ _ _ => none) (f_X4_longest_L4_b  ) n x1 x2 σ3 = some (r, σ') → PS ev 13 ad (mw ev ad σ3) (inA ad 13) s H locs → lv_has ls 3 [(0, .ref (ad 0)), (1, .int x1), (2, .int x2)] → WW ev p l e (rmk 5 114) s m args below meth c Qc ad 13 H locs 4 ls [] := by
    intro n
    induction n with
    | zero =>
      intro x1 x2 σ3 H locs ls h; exact k_none h
    | succ n ih =>
      intro x1 x2 σ3 H locs ls h hP hl
      have h : f_X4_longest_L4_b   (lp (fun _ _ _ => none) (f_X4_longest_L4_b  ) n) x1 x2 σ3 = some (r, σ') := h
      have h := (f_X4_longest_L4_b.eq_1 _ _ _ _ ).symm.trans h
      refine lv_iload_n hx hb dX4_longest_4 rfl (lv_at hl 2 rfl) ?_
      refine lv_aload_n hx hb dX4_longest_5 rfl (lv_at hl 0 rfl) ?_
      refine r_get C hP (ci := 4) rfl uin_X4 0 (by decide) 0 (by decide) rfl qFL_RX4_67 rfl rfl dX4_longest_6 ?_
      refine lv_aload_n hx hb dX4_longest_9 rfl (lv_at hl 0 rfl) ?_
      refine r_get C hP (ci := 4) rfl uin_X4 1 (by decide) 0 (by decide) rfl qFL_RX4_70 rfl rfl dX4_longest_10 ?_
      refine lv_imul hx hb dX4_longest_13 ?_
      refine lv_icmp_ge (tgt := 38) hx hb dX4_longest_14 (by decide) (fun c14 => ?_) (fun c14 => ?_)
      · have h := k_if c14 h
        refine lv_iload_n hx hb dX4_longest_38 rfl (lv_at hl 1 rfl) ?_
        exact e_iret C hend hP (k_some2 h).1 (congrArg (mw ev ad) (k_some2 h).2) dX4_longest_39
      · have h := k_nf c14 h
        refine lv_aload_n hx hb dX4_longest_17 rfl (lv_at hl 0 rfl) ?_
        refine lv_iload_n hx hb dX4_longest_18 rfl (lv_at hl 2 rfl) ?_
        obtain ⟨x5, σ4, h1, h⟩ := k_ob2 h
        refine k_callVi C hP hap hAA (c_X4_chainOf l ev ad σ3 x2   _ _ h1) Emb.same hap gz_X4_chainOf qML_RX4_232 qIM_yX4_chainOf qSE_yX4_chainOf ⟨(Nat.le_of_ble_eq_true rfl), (Nat.le_of_ble_eq_true rfl)⟩ (q0 := 0) rfl (by decide) rfl rfl rfl rfl hl.1 rfl (Nat.le_of_ble_eq_true rfl) dX4_longest_19 ⟨Nat.le_refl _, Nat.le_refl _⟩ (fun H locs hP => ?_)
        refine lv_aload_n hx hb dX4_longest_22 rfl (lv_at hl 0 rfl) ?_
        refine lv_iload_n hx hb dX4_longest_23 rfl (lv_at hl 1 rfl) ?_
        obtain ⟨x7, σ6, h1, h⟩ := k_ob2 h
        refine k_callVi C hP hap hAA (c_X4_chainOf l ev ad σ4 x1   _ _ h1) Emb.same hap gz_X4_chainOf qML_RX4_232 qIM_yX4_chainOf qSE_yX4_chainOf ⟨(Nat.le_of_ble_eq_true rfl), (Nat.le_of_ble_eq_true rfl)⟩ (q0 := 0) rfl (by decide) rfl rfl rfl rfl hl.1 rfl (Nat.le_of_ble_eq_true rfl) dX4_longest_24 ⟨Nat.le_refl _, Nat.le_refl _⟩ (fun H locs hP => ?_)
        refine lv_icmp_le (tgt := 32) hx hb dX4_longest_27 (by decide) (fun c27 => ?_) (fun c27 => ?_)
        · have h := k_if c27 h
          obtain ⟨x8, ex8, h⟩ := k_ltx h
          refine lv_iinc (v := x8) (lv' := [(2, .int x8), (0, .ref (ad 0)), (1, .int x1)]) hx hb dX4_longest_32 hl (k := 2) rfl (by rw [ex8]; rfl) (by decide) rfl (fun ls hl => ?_)
          refine lv_goto (tgt := 4) hx hb dX4_longest_35 (by decide) ?_
          exact ih _ _ _ _ _ _ h hP (lv_sub hl [1, 2, 0] rfl)
        · have h := k_nf c27 h
          refine lv_iload_n hx hb dX4_longest_30 rfl (lv_at hl 2 rfl) ?_
          refine lv_istore_n (lv' := [(1, .int x2), (0, .ref (ad 0)), (2, .int x2)]) hx hb dX4_longest_31 rfl hl (by decide) rfl (fun ls hl => ?_)
          obtain ⟨x9, ex9, h⟩ := k_ltx h
          refine lv_iinc (v := x9) (lv' := [(2, .int x9), (1, .int x2), (0, .ref (ad 0))]) hx hb dX4_longest_32 hl (k := 2) rfl (by rw [ex9]; rfl) (by decide) rfl (fun ls hl => ?_)
          refine lv_goto (tgt := 4) hx hb dX4_longest_35 (by decide) ?_
          exact ih _ _ _ _ _ _ h hP (lv_sub hl [2, 1, 0] rfl)
  exact hL4 FU _ _ _ _ _ _ h hP (lv_sub hl [2, 1, 0] rfl)
def f_X4_withHedges_L5_b (σ : MM) (a1 : Int32) (a2 : Int32)  (rec5 : Int32 → Int32 → Option (Int32)) (x1 : Int32) (x2 : Int32) : Option (Int32) :=
  if 2 ≤ x2 then some x1 else ob (f_X4_field σ a1 x2) (fun x3 => if x3 = (-1) then lt (x2 + 1) (fun x4 => rec5 x1 x4) else ob (f_X4_field σ a1 x2) (fun x5 => ob (f_X4_hedges σ x5) (fun x6 => if x6 = a2 then lt (x1 + 1) (fun x8 => lt (x2 + 1) (fun x9 => rec5 x8 x9)) else lt (x2 + 1) (fun x7 => rec5 x1 x7))))
def f_X4_withHedges_L5 (σ : MM) (a1 : Int32) (a2 : Int32)  (x1 : Int32) (x2 : Int32) : Option (Int32) :=
  lp (fun _ _ => none) (f_X4_withHedges_L5_b σ a1 a2 ) FU x1 x2
def f_X4_withHedges (σ : MM) (a1 : Int32) (a2 : Int32) : Option (Int32) :=
  f_X4_withHedges_L5 σ a1 a2 0 0
set_option maxHeartbeats 4000000 in
set_option maxRecDepth 100000 in
theorem c_X4_withHedges (l : Launch) (ev : EV) (ad : Nat → Nat) (σ : MM) (a1 : Int32) (a2 : Int32)   (r : Int32)  (h : f_X4_withHedges σ a1 a2 = some r) : Ct l yX4_withHedges prog_6_method_88_code 5 (Option.some Jvm.ClassFile.FieldType.int) (rmk 3 67) ev 13 ad (mw ev ad σ) (mw ev ad σ) [.ref (ad 0), .int a1, .int a2] (some (.int r)) := by
  refine Ct.of (by decide +kernel) (Nat.le_of_ble_eq_true rfl) ?_
  intro p e s m args below meth c Qc C hap hP hend ls hl
  have hAA : ∀ j, j < 13 → inA ad 13 (ad j) := fun j hj => ⟨j, hj, rfl⟩
  have hx := C.1
  have hb := C.2.1
  have hl : lv_has ls 5 [(0, .ref (ad 0)), (1, .int a1), (2, .int a2)] := hl
  have h := (f_X4_withHedges.eq_1 _ _ _ ).symm.trans h
  refine lv_iconst (v := 0) hx hb dX4_withHedges_0 (by decide) ?_
  refine lv_istore_n (lv' := [(3, .int 0), (0, .ref (ad 0)), (1, .int a1), (2, .int a2)]) hx hb dX4_withHedges_1 rfl hl (by decide) rfl (fun ls hl => ?_)
  refine lv_iconst (v := 0) hx hb dX4_withHedges_2 (by decide) ?_
  refine lv_istore (lv' := [(4, .int 0), (3, .int 0), (0, .ref (ad 0)), (1, .int a1), (2, .int a2)]) hx hb dX4_withHedges_3 hl (by decide) rfl (fun ls hl => ?_)
  have hL5 : ∀ (n : Nat) (x1 : Int32) (x2 : Int32) (H : Heap) (locs : List Loc) (ls : Array Slot), lp (fun _ _ => none) (f_X4_withHedges_L5_b σ a1 a2 ) n x1 x2 = some r → PS ev 13 ad (mw ev ad σ) (inA ad 13) s H locs → lv_has ls 5 [(0, .ref (ad 0)), (1, .int a1), (2, .int a2), (3, .int x1), (4, .int x2)] → WW ev p l e (rmk 3 67) s m args below meth c Qc ad 13 H locs 5 ls [] := by
    intro n
    induction n with
    | zero =>
      intro x1 x2 H locs ls h; exact k_none h
    | succ n ih =>
      intro x1 x2 H locs ls h hP hl
      have h : f_X4_withHedges_L5_b σ a1 a2  (lp (fun _ _ => none) (f_X4_withHedges_L5_b σ a1 a2 ) n) x1 x2 = some r := h
      have h := (f_X4_withHedges_L5_b.eq_1 _ _ _ _ _ _ ).symm.trans h
      refine lv_iload hx hb dX4_withHedges_5 (lv_at hl 4 rfl) ?_
      refine lv_iconst (v := 2) hx hb dX4_withHedges_7 (by decide) ?_
      refine lv_icmp_ge (tgt := 46) hx hb dX4_withHedges_8 (by decide) (fun c8 => ?_) (fun c8 => ?_)
      · have h := k_if c8 h
        refine lv_iload_n hx hb dX4_withHedges_46 rfl (lv_at hl 3 rfl) ?_
        exact e_iret C hend hP (k_some h) rfl dX4_withHedges_47
      · have h := k_nf c8 h
        refine lv_aload_n hx hb dX4_withHedges_11 rfl (lv_at hl 0 rfl) ?_
        refine lv_iload_n hx hb dX4_withHedges_12 rfl (lv_at hl 1 rfl) ?_
        refine lv_iload hx hb dX4_withHedges_13 (lv_at hl 4 rfl) ?_
        obtain ⟨x3, h1, h⟩ := k_ob h
        refine k_callVi C hP hap hAA (c_X4_field l ev ad σ a1 x2   _ h1) Emb.same hap gz_X4_field qML_RX4_119 qIM_yX4_field qSE_yX4_field ⟨(Nat.le_of_ble_eq_true rfl), (Nat.le_of_ble_eq_true rfl)⟩ (q0 := 0) rfl (by decide) rfl rfl rfl rfl hl.1 rfl (Nat.le_of_ble_eq_true rfl) dX4_withHedges_15 ⟨Nat.le_refl _, Nat.le_refl _⟩ (fun H locs hP => ?_)
        refine lv_iconst (v := (-1)) hx hb dX4_withHedges_18 (by decide) ?_
        refine lv_icmp_eq (tgt := 40) hx hb dX4_withHedges_19 (by decide) (fun c19 => ?_) (fun c19 => ?_)
        · have h := k_if c19 h
          obtain ⟨x4, ex4, h⟩ := k_ltx h
          refine lv_iinc (v := x4) (lv' := [(4, .int x4), (0, .ref (ad 0)), (1, .int a1), (2, .int a2), (3, .int x1)]) hx hb dX4_withHedges_40 hl (k := 4) rfl (by rw [ex4]; rfl) (by decide) rfl (fun ls hl => ?_)
          refine lv_goto (tgt := 5) hx hb dX4_withHedges_43 (by decide) ?_
          exact ih _ _ _ _ _ h hP (lv_sub hl [1, 2, 3, 4, 0] rfl)
        · have h := k_nf c19 h
          refine lv_aload_n hx hb dX4_withHedges_22 rfl (lv_at hl 0 rfl) ?_
          refine lv_aload_n hx hb dX4_withHedges_23 rfl (lv_at hl 0 rfl) ?_
          refine lv_iload_n hx hb dX4_withHedges_24 rfl (lv_at hl 1 rfl) ?_
          refine lv_iload hx hb dX4_withHedges_25 (lv_at hl 4 rfl) ?_
          obtain ⟨x5, h1, h⟩ := k_ob h
          refine k_callVi C hP hap hAA (c_X4_field l ev ad σ a1 x2   _ h1) Emb.same hap gz_X4_field qML_RX4_119 qIM_yX4_field qSE_yX4_field ⟨(Nat.le_of_ble_eq_true rfl), (Nat.le_of_ble_eq_true rfl)⟩ (q0 := 0) rfl (by decide) rfl rfl rfl rfl hl.1 rfl (Nat.le_of_ble_eq_true rfl) dX4_withHedges_27 ⟨Nat.le_refl _, Nat.le_refl _⟩ (fun H locs hP => ?_)
          obtain ⟨x6, h1, h⟩ := k_ob h
          refine k_callVi C hP hap hAA (c_X4_hedges l ev ad σ x5   _ h1) Emb.same hap gz_X4_hedges qML_RX4_196 qIM_yX4_hedges qSE_yX4_hedges ⟨(Nat.le_of_ble_eq_true rfl), (Nat.le_of_ble_eq_true rfl)⟩ (q0 := 0) rfl (by decide) rfl rfl rfl rfl hl.1 rfl (Nat.le_of_ble_eq_true rfl) dX4_withHedges_30 ⟨Nat.le_refl _, Nat.le_refl _⟩ (fun H locs hP => ?_)
          refine lv_iload_n hx hb dX4_withHedges_33 rfl (lv_at hl 2 rfl) ?_
          refine lv_icmp_ne (tgt := 40) hx hb dX4_withHedges_34 (by decide) (fun c34 => ?_) (fun c34 => ?_)
          · have h := k_nf c34 h
            obtain ⟨x7, ex7, h⟩ := k_ltx h
            refine lv_iinc (v := x7) (lv' := [(4, .int x7), (0, .ref (ad 0)), (1, .int a1), (2, .int a2), (3, .int x1)]) hx hb dX4_withHedges_40 hl (k := 4) rfl (by rw [ex7]; rfl) (by decide) rfl (fun ls hl => ?_)
            refine lv_goto (tgt := 5) hx hb dX4_withHedges_43 (by decide) ?_
            exact ih _ _ _ _ _ h hP (lv_sub hl [1, 2, 3, 4, 0] rfl)
          · have h := k_if c34 h
            obtain ⟨x8, ex8, h⟩ := k_ltx h
            refine lv_iinc (v := x8) (lv' := [(3, .int x8), (0, .ref (ad 0)), (1, .int a1), (2, .int a2), (4, .int x2)]) hx hb dX4_withHedges_37 hl (k := 3) rfl (by rw [ex8]; rfl) (by decide) rfl (fun ls hl => ?_)
            obtain ⟨x9, ex9, h⟩ := k_ltx h
            refine lv_iinc (v := x9) (lv' := [(4, .int x9), (3, .int x8), (0, .ref (ad 0)), (1, .int a1), (2, .int a2)]) hx hb dX4_withHedges_40 hl (k := 4) rfl (by rw [ex9]; rfl) (by decide) rfl (fun ls hl => ?_)
            refine lv_goto (tgt := 5) hx hb dX4_withHedges_43 (by decide) ?_
            exact ih _ _ _ _ _ h hP (lv_sub hl [2, 3, 4, 1, 0] rfl)
  exact hL5 FU _ _ _ _ _ h hP (lv_sub hl [2, 3, 4, 1, 0] rfl)
def f_X4_shuts_ (σ : MM) (a1 : Int32) : Option (Int32 × MM) :=
  if (f_X4_within a1 0 ((f_X4_edges σ) - 1)) = true then gd (inb a1 40) (if ((m_hedge σ) (Int32.toNatClampNeg a1)) = 0 then ob (f_X4_withHedges σ a1 3) (fun x1 => some (x1, σ)) else ob2 (f_X4_no σ (-5)) (fun x3 σ2 => some (x3, σ2))) else ob2 (f_X4_no σ (-2)) (fun x5 σ4 => some (x5, σ4))
set_option maxHeartbeats 4000000 in
set_option maxRecDepth 100000 in
theorem c_X4_shuts_ (l : Launch) (ev : EV) (ad : Nat → Nat) (σ : MM) (a1 : Int32)   (r : Int32) (σ' : MM) (h : f_X4_shuts_ σ a1 = some (r, σ')) : Ct l yX4_shuts_ prog_6_method_87_code 2 (Option.some Jvm.ClassFile.FieldType.int) (rmk 4 91) ev 13 ad (mw ev ad σ) (mw ev ad σ') [.ref (ad 0), .int a1] (some (.int r)) := by
  refine Ct.of (by decide +kernel) (Nat.le_of_ble_eq_true rfl) ?_
  intro p e s m args below meth c Qc C hap hP hend ls hl
  have hAA : ∀ j, j < 13 → inA ad 13 (ad j) := fun j hj => ⟨j, hj, rfl⟩
  have hx := C.1
  have hb := C.2.1
  have hl : lv_has ls 2 [(0, .ref (ad 0)), (1, .int a1)] := hl
  have h := (f_X4_shuts_.eq_1 _ _ ).symm.trans h
  refine lv_iload_n hx hb dX4_shuts__0 rfl (lv_at hl 1 rfl) ?_
  refine lv_iconst (v := 0) hx hb dX4_shuts__1 (by decide) ?_
  refine lv_aload_n hx hb dX4_shuts__2 rfl (lv_at hl 0 rfl) ?_
  refine k_callVi C hP hap hAA (c_X4_edges l ev ad σ   _ rfl) Emb.same hap gz_X4_edges qML_RX4_107 qIM_yX4_edges qSE_yX4_edges ⟨(Nat.le_of_ble_eq_true rfl), (Nat.le_of_ble_eq_true rfl)⟩ (q0 := 0) rfl (by decide) rfl rfl rfl rfl hl.1 rfl (Nat.le_of_ble_eq_true rfl) dX4_shuts__3 ⟨Nat.le_refl _, Nat.le_refl _⟩ (fun H locs hP => ?_)
  refine lv_iconst (v := 1) hx hb dX4_shuts__6 (by decide) ?_
  refine lv_isub hx hb dX4_shuts__7 ?_
  refine k_callSi C hP hap hAA (c_X4_within l ev ad a1 0 ((f_X4_edges σ) - 1)   _ rfl) Emb.none (apart_0 _) gz_X4_within qML_RX4_63 qSM_yX4_within ⟨(Nat.le_of_ble_eq_true rfl), (Nat.le_of_ble_eq_true rfl)⟩ rfl hl.1 rfl (Nat.le_of_ble_eq_true rfl) dX4_shuts__8 ⟨Nat.le_refl _, Nat.le_refl _⟩ (fun H locs hP => ?_)
  refine r_ifz_ne (tgt := 21) hx hb dX4_shuts__11 (by decide) (fun c11 => ?_) (fun c11 => ?_)
  · have h := k_if c11 h
    refine lv_aload_n hx hb dX4_shuts__21 rfl (lv_at hl 0 rfl) ?_
    refine r_get C hP (ci := 4) rfl uin_X4 2 (by decide) 0 (by decide) rfl qFL_RX4_7 rfl rfl dX4_shuts__22 ?_
    refine lv_iload_n hx hb dX4_shuts__25 rfl (lv_at hl 1 rfl) ?_
    obtain ⟨hg, h⟩ := k_gd h
    refine r_zald C hP 1 (by decide) rfl hg dX4_shuts__26 ?_
    refine lv_if_eq (tgt := 37) hx hb dX4_shuts__27 (by decide) (fun c27 => ?_) (fun c27 => ?_)
    · have h := k_if c27 h
      refine lv_aload_n hx hb dX4_shuts__37 rfl (lv_at hl 0 rfl) ?_
      refine lv_iload_n hx hb dX4_shuts__38 rfl (lv_at hl 1 rfl) ?_
      refine lv_iconst (v := 3) hx hb dX4_shuts__39 (by decide) ?_
      obtain ⟨x1, h1, h⟩ := k_ob h
      refine k_callVi C hP hap hAA (c_X4_withHedges l ev ad σ a1 3   _ h1) Emb.same hap gz_X4_withHedges qML_RX4_280 qIM_yX4_withHedges qSE_yX4_withHedges ⟨(Nat.le_of_ble_eq_true rfl), (Nat.le_of_ble_eq_true rfl)⟩ (q0 := 0) rfl (by decide) rfl rfl rfl rfl hl.1 rfl (Nat.le_of_ble_eq_true rfl) dX4_shuts__40 ⟨Nat.le_refl _, Nat.le_refl _⟩ (fun H locs hP => ?_)
      exact e_iret C hend hP (k_some2 h).1 (congrArg (mw ev ad) (k_some2 h).2) dX4_shuts__43
    · have h := k_nf c27 h
      refine lv_aload_n hx hb dX4_shuts__30 rfl (lv_at hl 0 rfl) ?_
      refine lv_bipush (v := (-5)) hx hb dX4_shuts__31 (by decide) ?_
      obtain ⟨x3, σ2, h1, h⟩ := k_ob2 h
      refine k_callVi C hP hap hAA (c_X4_no l ev ad σ (-5)   _ _ h1) Emb.same hap gz_X4_no qML_RX4_56 qIM_yX4_no qSE_yX4_no ⟨(Nat.le_of_ble_eq_true rfl), (Nat.le_of_ble_eq_true rfl)⟩ (q0 := 0) rfl (by decide) rfl rfl rfl rfl hl.1 rfl (Nat.le_of_ble_eq_true rfl) dX4_shuts__33 ⟨Nat.le_refl _, Nat.le_refl _⟩ (fun H locs hP => ?_)
      exact e_iret C hend hP (k_some2 h).1 (congrArg (mw ev ad) (k_some2 h).2) dX4_shuts__36
  · have h := k_nf c11 h
    refine lv_aload_n hx hb dX4_shuts__14 rfl (lv_at hl 0 rfl) ?_
    refine lv_bipush (v := (-2)) hx hb dX4_shuts__15 (by decide) ?_
    obtain ⟨x5, σ4, h1, h⟩ := k_ob2 h
    refine k_callVi C hP hap hAA (c_X4_no l ev ad σ (-2)   _ _ h1) Emb.same hap gz_X4_no qML_RX4_56 qIM_yX4_no qSE_yX4_no ⟨(Nat.le_of_ble_eq_true rfl), (Nat.le_of_ble_eq_true rfl)⟩ (q0 := 0) rfl (by decide) rfl rfl rfl rfl hl.1 rfl (Nat.le_of_ble_eq_true rfl) dX4_shuts__17 ⟨Nat.le_refl _, Nat.le_refl _⟩ (fun H locs hP => ?_)
    exact e_iret C hend hP (k_some2 h).1 (congrArg (mw ev ad) (k_some2 h).2) dX4_shuts__20
def f_X4_gives (σ : MM) (a1 : Int32) : Option (Int32 × MM) :=
  if (f_X4_within a1 0 ((f_X4_edges σ) - 1)) = true then gd (inb a1 40) (if ((m_hedge σ) (Int32.toNatClampNeg a1)) = 0 then ob (f_X4_withHedges σ a1 2) (fun x1 => some (x1, σ)) else ob2 (f_X4_no σ (-5)) (fun x3 σ2 => some (x3, σ2))) else ob2 (f_X4_no σ (-2)) (fun x5 σ4 => some (x5, σ4))
set_option maxHeartbeats 4000000 in
set_option maxRecDepth 100000 in
theorem c_X4_gives (l : Launch) (ev : EV) (ad : Nat → Nat) (σ : MM) (a1 : Int32)   (r : Int32) (σ' : MM) (h : f_X4_gives σ a1 = some (r, σ')) : Ct l yX4_gives prog_6_method_89_code 2 (Option.some Jvm.ClassFile.FieldType.int) (rmk 4 91) ev 13 ad (mw ev ad σ) (mw ev ad σ') [.ref (ad 0), .int a1] (some (.int r)) := by
  refine Ct.of (by decide +kernel) (Nat.le_of_ble_eq_true rfl) ?_
  intro p e s m args below meth c Qc C hap hP hend ls hl
  have hAA : ∀ j, j < 13 → inA ad 13 (ad j) := fun j hj => ⟨j, hj, rfl⟩
  have hx := C.1
  have hb := C.2.1
  have hl : lv_has ls 2 [(0, .ref (ad 0)), (1, .int a1)] := hl
  have h := (f_X4_gives.eq_1 _ _ ).symm.trans h
  refine lv_iload_n hx hb dX4_gives_0 rfl (lv_at hl 1 rfl) ?_
  refine lv_iconst (v := 0) hx hb dX4_gives_1 (by decide) ?_
  refine lv_aload_n hx hb dX4_gives_2 rfl (lv_at hl 0 rfl) ?_
  refine k_callVi C hP hap hAA (c_X4_edges l ev ad σ   _ rfl) Emb.same hap gz_X4_edges qML_RX4_107 qIM_yX4_edges qSE_yX4_edges ⟨(Nat.le_of_ble_eq_true rfl), (Nat.le_of_ble_eq_true rfl)⟩ (q0 := 0) rfl (by decide) rfl rfl rfl rfl hl.1 rfl (Nat.le_of_ble_eq_true rfl) dX4_gives_3 ⟨Nat.le_refl _, Nat.le_refl _⟩ (fun H locs hP => ?_)
  refine lv_iconst (v := 1) hx hb dX4_gives_6 (by decide) ?_
  refine lv_isub hx hb dX4_gives_7 ?_
  refine k_callSi C hP hap hAA (c_X4_within l ev ad a1 0 ((f_X4_edges σ) - 1)   _ rfl) Emb.none (apart_0 _) gz_X4_within qML_RX4_63 qSM_yX4_within ⟨(Nat.le_of_ble_eq_true rfl), (Nat.le_of_ble_eq_true rfl)⟩ rfl hl.1 rfl (Nat.le_of_ble_eq_true rfl) dX4_gives_8 ⟨Nat.le_refl _, Nat.le_refl _⟩ (fun H locs hP => ?_)
  refine r_ifz_ne (tgt := 21) hx hb dX4_gives_11 (by decide) (fun c11 => ?_) (fun c11 => ?_)
  · have h := k_if c11 h
    refine lv_aload_n hx hb dX4_gives_21 rfl (lv_at hl 0 rfl) ?_
    refine r_get C hP (ci := 4) rfl uin_X4 2 (by decide) 0 (by decide) rfl qFL_RX4_7 rfl rfl dX4_gives_22 ?_
    refine lv_iload_n hx hb dX4_gives_25 rfl (lv_at hl 1 rfl) ?_
    obtain ⟨hg, h⟩ := k_gd h
    refine r_zald C hP 1 (by decide) rfl hg dX4_gives_26 ?_
    refine lv_if_eq (tgt := 37) hx hb dX4_gives_27 (by decide) (fun c27 => ?_) (fun c27 => ?_)
    · have h := k_if c27 h
      refine lv_aload_n hx hb dX4_gives_37 rfl (lv_at hl 0 rfl) ?_
      refine lv_iload_n hx hb dX4_gives_38 rfl (lv_at hl 1 rfl) ?_
      refine lv_iconst (v := 2) hx hb dX4_gives_39 (by decide) ?_
      obtain ⟨x1, h1, h⟩ := k_ob h
      refine k_callVi C hP hap hAA (c_X4_withHedges l ev ad σ a1 2   _ h1) Emb.same hap gz_X4_withHedges qML_RX4_280 qIM_yX4_withHedges qSE_yX4_withHedges ⟨(Nat.le_of_ble_eq_true rfl), (Nat.le_of_ble_eq_true rfl)⟩ (q0 := 0) rfl (by decide) rfl rfl rfl rfl hl.1 rfl (Nat.le_of_ble_eq_true rfl) dX4_gives_40 ⟨Nat.le_refl _, Nat.le_refl _⟩ (fun H locs hP => ?_)
      exact e_iret C hend hP (k_some2 h).1 (congrArg (mw ev ad) (k_some2 h).2) dX4_gives_43
    · have h := k_nf c27 h
      refine lv_aload_n hx hb dX4_gives_30 rfl (lv_at hl 0 rfl) ?_
      refine lv_bipush (v := (-5)) hx hb dX4_gives_31 (by decide) ?_
      obtain ⟨x3, σ2, h1, h⟩ := k_ob2 h
      refine k_callVi C hP hap hAA (c_X4_no l ev ad σ (-5)   _ _ h1) Emb.same hap gz_X4_no qML_RX4_56 qIM_yX4_no qSE_yX4_no ⟨(Nat.le_of_ble_eq_true rfl), (Nat.le_of_ble_eq_true rfl)⟩ (q0 := 0) rfl (by decide) rfl rfl rfl rfl hl.1 rfl (Nat.le_of_ble_eq_true rfl) dX4_gives_33 ⟨Nat.le_refl _, Nat.le_refl _⟩ (fun H locs hP => ?_)
      exact e_iret C hend hP (k_some2 h).1 (congrArg (mw ev ad) (k_some2 h).2) dX4_gives_36
  · have h := k_nf c11 h
    refine lv_aload_n hx hb dX4_gives_14 rfl (lv_at hl 0 rfl) ?_
    refine lv_bipush (v := (-2)) hx hb dX4_gives_15 (by decide) ?_
    obtain ⟨x5, σ4, h1, h⟩ := k_ob2 h
    refine k_callVi C hP hap hAA (c_X4_no l ev ad σ (-2)   _ _ h1) Emb.same hap gz_X4_no qML_RX4_56 qIM_yX4_no qSE_yX4_no ⟨(Nat.le_of_ble_eq_true rfl), (Nat.le_of_ble_eq_true rfl)⟩ (q0 := 0) rfl (by decide) rfl rfl rfl rfl hl.1 rfl (Nat.le_of_ble_eq_true rfl) dX4_gives_17 ⟨Nat.le_refl _, Nat.le_refl _⟩ (fun H locs hP => ?_)
    exact e_iret C hend hP (k_some2 h).1 (congrArg (mw ev ad) (k_some2 h).2) dX4_gives_20
def f_X4_calm_L4_b   (rec4 : Int32 → Int32 → MM → Option (Int32 × MM)) (x1 : Int32) (x2 : Int32) (σ3 : MM) : Option (Int32 × MM) :=
  if (f_X4_edges σ3) ≤ x2 then some (x1, σ3) else ob2 (f_X4_isCalm σ3 x2) (fun b5 σ4 => if b5 = true then lt (x1 + 1) (fun x7 => lt (x2 + 1) (fun x8 => rec4 x7 x8 σ4)) else lt (x2 + 1) (fun x6 => rec4 x1 x6 σ4))
def f_X4_calm_L4   (x1 : Int32) (x2 : Int32) (σ3 : MM) : Option (Int32 × MM) :=
  lp (fun _ _ _ => none) (f_X4_calm_L4_b  ) FU x1 x2 σ3
def f_X4_calm (σ : MM) : Option (Int32 × MM) :=
  f_X4_calm_L4 0 0 σ
set_option maxHeartbeats 4000000 in
set_option maxRecDepth 100000 in
theorem c_X4_calm (l : Launch) (ev : EV) (ad : Nat → Nat) (σ : MM)   (r : Int32) (σ' : MM) (h : f_X4_calm σ = some (r, σ')) : Ct l yX4_calm prog_6_method_90_code 3 (Option.some Jvm.ClassFile.FieldType.int) (rmk 5 111) ev 13 ad (mw ev ad σ) (mw ev ad σ') [.ref (ad 0)] (some (.int r)) := by
  refine Ct.of (by decide +kernel) (Nat.le_of_ble_eq_true rfl) ?_
  intro p e s m args below meth c Qc C hap hP hend ls hl
  have hAA : ∀ j, j < 13 → inA ad 13 (ad j) := fun j hj => ⟨j, hj, rfl⟩
  have hx := C.1
  have hb := C.2.1
  have hl : lv_has ls 3 [(0, .ref (ad 0))] := hl
  have h := (f_X4_calm.eq_1 _ ).symm.trans h
  refine lv_iconst (v := 0) hx hb dX4_calm_0 (by decide) ?_
  refine lv_istore_n (lv' := [(1, .int 0), (0, .ref (ad 0))]) hx hb dX4_calm_1 rfl hl (by decide) rfl (fun ls hl => ?_)
  refine lv_iconst (v := 0) hx hb dX4_calm_2 (by decide) ?_
  refine lv_istore_n (lv' := [(2, .int 0), (1, .int 0), (0, .ref (ad 0))]) hx hb dX4_calm_3 rfl hl (by decide) rfl (fun ls hl => ?_)
  have hL4 : ∀ (n : Nat) (x1 : Int32) (x2 : Int32) (σ3 : MM) (H : Heap) (locs : List Loc) (ls : Array Slot), lp (fun _ _ _ => none) (f_X4_calm_L4_b  ) n x1 x2 σ3 = some (r, σ') → PS ev 13 ad (mw ev ad σ3) (inA ad 13) s H locs → lv_has ls 3 [(0, .ref (ad 0)), (1, .int x1), (2, .int x2)] → WW ev p l e (rmk 5 111) s m args below meth c Qc ad 13 H locs 4 ls [] := by
    intro n
    induction n with
    | zero =>
      intro x1 x2 σ3 H locs ls h; exact k_none h
    | succ n ih =>
      intro x1 x2 σ3 H locs ls h hP hl
      have h : f_X4_calm_L4_b   (lp (fun _ _ _ => none) (f_X4_calm_L4_b  ) n) x1 x2 σ3 = some (r, σ') := h
      have h := (f_X4_calm_L4_b.eq_1 _ _ _ _ ).symm.trans h
      refine lv_iload_n hx hb dX4_calm_4 rfl (lv_at hl 2 rfl) ?_
      refine lv_aload_n hx hb dX4_calm_5 rfl (lv_at hl 0 rfl) ?_
      refine k_callVi C hP hap hAA (c_X4_edges l ev ad σ3   _ rfl) Emb.same hap gz_X4_edges qML_RX4_107 qIM_yX4_edges qSE_yX4_edges ⟨(Nat.le_of_ble_eq_true rfl), (Nat.le_of_ble_eq_true rfl)⟩ (q0 := 0) rfl (by decide) rfl rfl rfl rfl hl.1 rfl (Nat.le_of_ble_eq_true rfl) dX4_calm_6 ⟨Nat.le_refl _, Nat.le_refl _⟩ (fun H locs hP => ?_)
      refine lv_icmp_ge (tgt := 29) hx hb dX4_calm_9 (by decide) (fun c9 => ?_) (fun c9 => ?_)
      · have h := k_if c9 h
        refine lv_iload_n hx hb dX4_calm_29 rfl (lv_at hl 1 rfl) ?_
        exact e_iret C hend hP (k_some2 h).1 (congrArg (mw ev ad) (k_some2 h).2) dX4_calm_30
      · have h := k_nf c9 h
        refine lv_aload_n hx hb dX4_calm_12 rfl (lv_at hl 0 rfl) ?_
        refine lv_iload_n hx hb dX4_calm_13 rfl (lv_at hl 2 rfl) ?_
        obtain ⟨b5, σ4, h1, h⟩ := k_ob2 h
        refine k_callVi C hP hap hAA (c_X4_isCalm l ev ad σ3 x2   _ _ h1) Emb.same hap gz_X4_isCalm qML_RX4_249 qIM_yX4_isCalm qSE_yX4_isCalm ⟨(Nat.le_of_ble_eq_true rfl), (Nat.le_of_ble_eq_true rfl)⟩ (q0 := 0) rfl (by decide) rfl rfl rfl rfl hl.1 rfl (Nat.le_of_ble_eq_true rfl) dX4_calm_14 ⟨Nat.le_refl _, Nat.le_refl _⟩ (fun H locs hP => ?_)
        refine r_ifz_eq (tgt := 23) hx hb dX4_calm_17 (by decide) (fun c17 => ?_) (fun c17 => ?_)
        · have h := k_nf c17 h
          obtain ⟨x6, ex6, h⟩ := k_ltx h
          refine lv_iinc (v := x6) (lv' := [(2, .int x6), (0, .ref (ad 0)), (1, .int x1)]) hx hb dX4_calm_23 hl (k := 2) rfl (by rw [ex6]; rfl) (by decide) rfl (fun ls hl => ?_)
          refine lv_goto (tgt := 4) hx hb dX4_calm_26 (by decide) ?_
          exact ih _ _ _ _ _ _ h hP (lv_sub hl [1, 2, 0] rfl)
        · have h := k_if c17 h
          obtain ⟨x7, ex7, h⟩ := k_ltx h
          refine lv_iinc (v := x7) (lv' := [(1, .int x7), (0, .ref (ad 0)), (2, .int x2)]) hx hb dX4_calm_20 hl (k := 1) rfl (by rw [ex7]; rfl) (by decide) rfl (fun ls hl => ?_)
          obtain ⟨x8, ex8, h⟩ := k_ltx h
          refine lv_iinc (v := x8) (lv' := [(2, .int x8), (1, .int x7), (0, .ref (ad 0))]) hx hb dX4_calm_23 hl (k := 2) rfl (by rw [ex8]; rfl) (by decide) rfl (fun ls hl => ?_)
          refine lv_goto (tgt := 4) hx hb dX4_calm_26 (by decide) ?_
          exact ih _ _ _ _ _ _ h hP (lv_sub hl [2, 1, 0] rfl)
  exact hL4 FU _ _ _ _ _ _ h hP (lv_sub hl [2, 1, 0] rfl)
def f_X4_partOf_L33_b (σ : MM) (x2 : Int32) (x5 : Int32) (k96 : Int32 → Option (Int32)) (rec33 : Int32 → Int32 → Option (Int32)) (x6 : Int32) (x7 : Int32) : Option (Int32) :=
  if 4 ≤ x7 then k96 x6 else if ((ishr x2 x5) &&& 1) = 1 then ob (f_X4_beside σ x5 x7) (fun x9 => if x9 = (-1) then lt (x7 + 1) (fun x10 => rec33 x6 x10) else ob (f_X4_edge σ x5 x7) (fun x11 => gd (inb x11 40) (if ((m_hedge σ) (Int32.toNatClampNeg x11)) = 0 then ob (f_X4_beside σ x5 x7) (fun x13 => lt (x6 ||| (ishl 1 x13)) (fun x14 => lt (x7 + 1) (fun x15 => rec33 x14 x15))) else lt (x7 + 1) (fun x12 => rec33 x6 x12)))) else lt (x7 + 1) (fun x8 => rec33 x6 x8)
def f_X4_partOf_L33 (σ : MM) (x2 : Int32) (x5 : Int32) (k96 : Int32 → Option (Int32)) (x6 : Int32) (x7 : Int32) : Option (Int32) :=
  lp (fun _ _ => none) (f_X4_partOf_L33_b σ x2 x5 k96) FU x6 x7
def f_X4_partOf_L16_b (σ : MM) (x2 : Int32) (k102 : Int32 → Option (Int32)) (rec16 : Int32 → Int32 → Option (Int32)) (x4 : Int32) (x5 : Int32) : Option (Int32) :=
  if ((m_w σ) * (m_h σ)) ≤ x5 then k102 x4 else f_X4_partOf_L33 σ x2 x5 (fun x17 => lt (x5 + 1) (fun x18 => rec16 x17 x18)) x4 0
def f_X4_partOf_L16 (σ : MM) (x2 : Int32) (k102 : Int32 → Option (Int32)) (x4 : Int32) (x5 : Int32) : Option (Int32) :=
  lp (fun _ _ => none) (f_X4_partOf_L16_b σ x2 k102) FU x4 x5
def f_X4_partOf_L6_b (σ : MM)  (rec6 : Int32 → Int32 → Option (Int32)) (x2 : Int32) (x3 : Int32) : Option (Int32) :=
  if x2 = x3 then some x2 else f_X4_partOf_L16 σ x2 (fun x20 => rec6 x20 x2) x2 0
def f_X4_partOf_L6 (σ : MM)  (x2 : Int32) (x3 : Int32) : Option (Int32) :=
  lp (fun _ _ => none) (f_X4_partOf_L6_b σ ) FU x2 x3
def f_X4_partOf (σ : MM) (a1 : Int32) : Option (Int32) :=
  lt (ishl 1 a1) (fun x1 => f_X4_partOf_L6 σ x1 0)
set_option maxHeartbeats 4000000 in
set_option maxRecDepth 100000 in
theorem c_X4_partOf (l : Launch) (ev : EV) (ad : Nat → Nat) (σ : MM) (a1 : Int32)   (r : Int32)  (h : f_X4_partOf σ a1 = some r) : Ct l yX4_partOf prog_6_method_91_code 6 (Option.some Jvm.ClassFile.FieldType.int) (rmk 4 89) ev 13 ad (mw ev ad σ) (mw ev ad σ) [.ref (ad 0), .int a1] (some (.int r)) := by
  refine Ct.of (by decide +kernel) (Nat.le_of_ble_eq_true rfl) ?_
  intro p e s m args below meth c Qc C hap hP hend ls hl
  have hAA : ∀ j, j < 13 → inA ad 13 (ad j) := fun j hj => ⟨j, hj, rfl⟩
  have hx := C.1
  have hb := C.2.1
  have hl : lv_has ls 6 [(0, .ref (ad 0)), (1, .int a1)] := hl
  have h := (f_X4_partOf.eq_1 _ _ ).symm.trans h
  refine lv_iconst (v := 1) hx hb dX4_partOf_0 (by decide) ?_
  refine lv_iload_n hx hb dX4_partOf_1 rfl (lv_at hl 1 rfl) ?_
  refine r_ishl hx hb dX4_partOf_2 ?_
  refine lv_topi (fun x1 ex1 => ?_)
  have h := k_lt ex1 h
  refine lv_istore_n (lv' := [(2, .int x1), (0, .ref (ad 0)), (1, .int a1)]) hx hb dX4_partOf_3 rfl hl (by decide) rfl (fun ls hl => ?_)
  refine lv_iconst (v := 0) hx hb dX4_partOf_4 (by decide) ?_
  refine lv_istore_n (lv' := [(3, .int 0), (2, .int x1), (0, .ref (ad 0)), (1, .int a1)]) hx hb dX4_partOf_5 rfl hl (by decide) rfl (fun ls hl => ?_)
  have hL6 : ∀ (n : Nat) (x2 : Int32) (x3 : Int32) (H : Heap) (locs : List Loc) (ls : Array Slot), lp (fun _ _ => none) (f_X4_partOf_L6_b σ ) n x2 x3 = some r → PS ev 13 ad (mw ev ad σ) (inA ad 13) s H locs → lv_has ls 6 [(0, .ref (ad 0)), (2, .int x2), (3, .int x3)] → WW ev p l e (rmk 4 89) s m args below meth c Qc ad 13 H locs 6 ls [] := by
    intro n
    induction n with
    | zero =>
      intro x2 x3 H locs ls h; exact k_none h
    | succ n ih =>
      intro x2 x3 H locs ls h hP hl
      have h : f_X4_partOf_L6_b σ  (lp (fun _ _ => none) (f_X4_partOf_L6_b σ ) n) x2 x3 = some r := h
      have h := (f_X4_partOf_L6_b.eq_1 _ _ _ _ ).symm.trans h
      refine lv_iload_n hx hb dX4_partOf_6 rfl (lv_at hl 1 rfl) ?_
      refine lv_iload_n hx hb dX4_partOf_7 rfl (lv_at hl 2 rfl) ?_
      refine lv_icmp_eq (tgt := 105) hx hb dX4_partOf_8 (by decide) (fun c8 => ?_) (fun c8 => ?_)
      · have h := k_if c8 h
        refine lv_iload_n hx hb dX4_partOf_105 rfl (lv_at hl 1 rfl) ?_
        exact e_iret C hend hP (k_some h) rfl dX4_partOf_106
      · have h := k_nf c8 h
        refine lv_iload_n hx hb dX4_partOf_11 rfl (lv_at hl 1 rfl) ?_
        refine lv_istore_n (lv' := [(3, .int x2), (0, .ref (ad 0)), (2, .int x2)]) hx hb dX4_partOf_12 rfl hl (by decide) rfl (fun ls hl => ?_)
        refine lv_iconst (v := 0) hx hb dX4_partOf_13 (by decide) ?_
        refine lv_istore (lv' := [(4, .int 0), (3, .int x2), (0, .ref (ad 0)), (2, .int x2)]) hx hb dX4_partOf_14 hl (by decide) rfl (fun ls hl => ?_)
        have hL16 : ∀ (k102 : Int32 → Option (Int32)) (hk102 : ∀ (z19 : Int32) (H : Heap) (locs : List Loc) (ls : Array Slot), k102 z19 = some r → PS ev 13 ad (mw ev ad σ) (inA ad 13) s H locs → lv_has ls 6 [(0, .ref (ad 0)), (2, .int z19), (3, .int x2)] → WW ev p l e (rmk 4 89) s m args below meth c Qc ad 13 H locs 102 ls []) (n : Nat) (x4 : Int32) (x5 : Int32) (H : Heap) (locs : List Loc) (ls : Array Slot), lp (fun _ _ => none) (f_X4_partOf_L16_b σ x2 k102) n x4 x5 = some r → PS ev 13 ad (mw ev ad σ) (inA ad 13) s H locs → lv_has ls 6 [(0, .ref (ad 0)), (2, .int x4), (3, .int x2), (4, .int x5)] → WW ev p l e (rmk 4 89) s m args below meth c Qc ad 13 H locs 16 ls [] := by
          intro k102 hk102 n
          induction n with
          | zero =>
            intro x4 x5 H locs ls h; exact k_none h
          | succ n ih =>
            intro x4 x5 H locs ls h hP hl
            have h : f_X4_partOf_L16_b σ x2 k102 (lp (fun _ _ => none) (f_X4_partOf_L16_b σ x2 k102) n) x4 x5 = some r := h
            have h := (f_X4_partOf_L16_b.eq_1 _ _ _ _ _ _ ).symm.trans h
            refine lv_iload hx hb dX4_partOf_16 (lv_at hl 3 rfl) ?_
            refine lv_aload_n hx hb dX4_partOf_18 rfl (lv_at hl 0 rfl) ?_
            refine r_get C hP (ci := 4) rfl uin_X4 0 (by decide) 0 (by decide) rfl qFL_RX4_67 rfl rfl dX4_partOf_19 ?_
            refine lv_aload_n hx hb dX4_partOf_22 rfl (lv_at hl 0 rfl) ?_
            refine r_get C hP (ci := 4) rfl uin_X4 1 (by decide) 0 (by decide) rfl qFL_RX4_70 rfl rfl dX4_partOf_23 ?_
            refine lv_imul hx hb dX4_partOf_26 ?_
            refine lv_icmp_ge (tgt := 102) hx hb dX4_partOf_27 (by decide) (fun c27 => ?_) (fun c27 => ?_)
            · have h := k_if c27 h
              exact hk102 _ _ _ _ h hP (lv_sub hl [0, 1, 2] rfl)
            · have h := k_nf c27 h
              refine lv_iconst (v := 0) hx hb dX4_partOf_30 (by decide) ?_
              refine lv_istore (lv' := [(5, .int 0), (0, .ref (ad 0)), (2, .int x4), (3, .int x2), (4, .int x5)]) hx hb dX4_partOf_31 hl (by decide) rfl (fun ls hl => ?_)
              have hL33 : ∀ (k96 : Int32 → Option (Int32)) (hk96 : ∀ (z16 : Int32) (H : Heap) (locs : List Loc) (ls : Array Slot), k96 z16 = some r → PS ev 13 ad (mw ev ad σ) (inA ad 13) s H locs → lv_has ls 6 [(0, .ref (ad 0)), (2, .int z16), (3, .int x2), (4, .int x5)] → WW ev p l e (rmk 4 89) s m args below meth c Qc ad 13 H locs 96 ls []) (n : Nat) (x6 : Int32) (x7 : Int32) (H : Heap) (locs : List Loc) (ls : Array Slot), lp (fun _ _ => none) (f_X4_partOf_L33_b σ x2 x5 k96) n x6 x7 = some r → PS ev 13 ad (mw ev ad σ) (inA ad 13) s H locs → lv_has ls 6 [(0, .ref (ad 0)), (2, .int x6), (3, .int x2), (4, .int x5), (5, .int x7)] → WW ev p l e (rmk 4 89) s m args below meth c Qc ad 13 H locs 33 ls [] := by
                intro k96 hk96 n
                induction n with
                | zero =>
                  intro x6 x7 H locs ls h; exact k_none h
                | succ n ih =>
                  intro x6 x7 H locs ls h hP hl
                  have h : f_X4_partOf_L33_b σ x2 x5 k96 (lp (fun _ _ => none) (f_X4_partOf_L33_b σ x2 x5 k96) n) x6 x7 = some r := h
                  have h := (f_X4_partOf_L33_b.eq_1 _ _ _ _ _ _ _ ).symm.trans h
                  refine lv_iload hx hb dX4_partOf_33 (lv_at hl 4 rfl) ?_
                  refine lv_iconst (v := 4) hx hb dX4_partOf_35 (by decide) ?_
                  refine lv_icmp_ge (tgt := 96) hx hb dX4_partOf_36 (by decide) (fun c36 => ?_) (fun c36 => ?_)
                  · have h := k_if c36 h
                    exact hk96 _ _ _ _ h hP (lv_sub hl [0, 1, 2, 3] rfl)
                  · have h := k_nf c36 h
                    refine lv_iload_n hx hb dX4_partOf_39 rfl (lv_at hl 2 rfl) ?_
                    refine lv_iload hx hb dX4_partOf_40 (lv_at hl 3 rfl) ?_
                    refine r_ishr hx hb dX4_partOf_42 ?_
                    refine lv_iconst (v := 1) hx hb dX4_partOf_43 (by decide) ?_
                    refine lv_iand hx hb dX4_partOf_44 ?_
                    refine lv_iconst (v := 1) hx hb dX4_partOf_45 (by decide) ?_
                    refine lv_icmp_ne (tgt := 90) hx hb dX4_partOf_46 (by decide) (fun c46 => ?_) (fun c46 => ?_)
                    · have h := k_nf c46 h
                      obtain ⟨x8, ex8, h⟩ := k_ltx h
                      refine lv_iinc (v := x8) (lv' := [(5, .int x8), (0, .ref (ad 0)), (2, .int x6), (3, .int x2), (4, .int x5)]) hx hb dX4_partOf_90 hl (k := 4) rfl (by rw [ex8]; rfl) (by decide) rfl (fun ls hl => ?_)
                      refine lv_goto (tgt := 33) hx hb dX4_partOf_93 (by decide) ?_
                      exact ih _ _ _ _ _ h hP (lv_sub hl [1, 2, 3, 4, 0] rfl)
                    · have h := k_if c46 h
                      refine lv_aload_n hx hb dX4_partOf_49 rfl (lv_at hl 0 rfl) ?_
                      refine lv_iload hx hb dX4_partOf_50 (lv_at hl 3 rfl) ?_
                      refine lv_iload hx hb dX4_partOf_52 (lv_at hl 4 rfl) ?_
                      obtain ⟨x9, h1, h⟩ := k_ob h
                      refine k_callVi C hP hap hAA (c_X4_beside l ev ad σ x5 x7   _ h1) Emb.same hap gz_X4_beside qML_RX4_211 qIM_yX4_beside qSE_yX4_beside ⟨(Nat.le_of_ble_eq_true rfl), (Nat.le_of_ble_eq_true rfl)⟩ (q0 := 0) rfl (by decide) rfl rfl rfl rfl hl.1 rfl (Nat.le_of_ble_eq_true rfl) dX4_partOf_54 ⟨Nat.le_refl _, Nat.le_refl _⟩ (fun H locs hP => ?_)
                      refine lv_iconst (v := (-1)) hx hb dX4_partOf_57 (by decide) ?_
                      refine lv_icmp_eq (tgt := 90) hx hb dX4_partOf_58 (by decide) (fun c58 => ?_) (fun c58 => ?_)
                      · have h := k_if c58 h
                        obtain ⟨x10, ex10, h⟩ := k_ltx h
                        refine lv_iinc (v := x10) (lv' := [(5, .int x10), (0, .ref (ad 0)), (2, .int x6), (3, .int x2), (4, .int x5)]) hx hb dX4_partOf_90 hl (k := 4) rfl (by rw [ex10]; rfl) (by decide) rfl (fun ls hl => ?_)
                        refine lv_goto (tgt := 33) hx hb dX4_partOf_93 (by decide) ?_
                        exact ih _ _ _ _ _ h hP (lv_sub hl [1, 2, 3, 4, 0] rfl)
                      · have h := k_nf c58 h
                        refine lv_aload_n hx hb dX4_partOf_61 rfl (lv_at hl 0 rfl) ?_
                        refine r_get C hP (ci := 4) rfl uin_X4 2 (by decide) 0 (by decide) rfl qFL_RX4_7 rfl rfl dX4_partOf_62 ?_
                        refine lv_aload_n hx hb dX4_partOf_65 rfl (lv_at hl 0 rfl) ?_
                        refine lv_iload hx hb dX4_partOf_66 (lv_at hl 3 rfl) ?_
                        refine lv_iload hx hb dX4_partOf_68 (lv_at hl 4 rfl) ?_
                        obtain ⟨x11, h1, h⟩ := k_ob h
                        refine k_callVi C hP hap hAA (c_X4_edge l ev ad σ x5 x7   _ h1) Emb.same hap gz_X4_edge qML_RX4_122 qIM_yX4_edge qSE_yX4_edge ⟨(Nat.le_of_ble_eq_true rfl), (Nat.le_of_ble_eq_true rfl)⟩ (q0 := 0) rfl (by decide) rfl rfl rfl rfl hl.1 rfl (Nat.le_of_ble_eq_true rfl) dX4_partOf_70 ⟨Nat.le_refl _, Nat.le_refl _⟩ (fun H locs hP => ?_)
                        obtain ⟨hg, h⟩ := k_gd h
                        refine r_zald C hP 1 (by decide) rfl hg dX4_partOf_73 ?_
                        refine lv_if_ne (tgt := 90) hx hb dX4_partOf_74 (by decide) (fun c74 => ?_) (fun c74 => ?_)
                        · have h := k_nf c74 h
                          obtain ⟨x12, ex12, h⟩ := k_ltx h
                          refine lv_iinc (v := x12) (lv' := [(5, .int x12), (0, .ref (ad 0)), (2, .int x6), (3, .int x2), (4, .int x5)]) hx hb dX4_partOf_90 hl (k := 4) rfl (by rw [ex12]; rfl) (by decide) rfl (fun ls hl => ?_)
                          refine lv_goto (tgt := 33) hx hb dX4_partOf_93 (by decide) ?_
                          exact ih _ _ _ _ _ h hP (lv_sub hl [1, 2, 3, 4, 0] rfl)
                        · have h := k_if c74 h
                          refine lv_iload_n hx hb dX4_partOf_77 rfl (lv_at hl 1 rfl) ?_
                          refine lv_iconst (v := 1) hx hb dX4_partOf_78 (by decide) ?_
                          refine lv_aload_n hx hb dX4_partOf_79 rfl (lv_at hl 0 rfl) ?_
                          refine lv_iload hx hb dX4_partOf_80 (lv_at hl 3 rfl) ?_
                          refine lv_iload hx hb dX4_partOf_82 (lv_at hl 4 rfl) ?_
                          obtain ⟨x13, h1, h⟩ := k_ob h
                          refine k_callVi C hP hap hAA (c_X4_beside l ev ad σ x5 x7   _ h1) Emb.same hap gz_X4_beside qML_RX4_211 qIM_yX4_beside qSE_yX4_beside ⟨(Nat.le_of_ble_eq_true rfl), (Nat.le_of_ble_eq_true rfl)⟩ (q0 := 0) rfl (by decide) rfl rfl rfl rfl hl.1 rfl (Nat.le_of_ble_eq_true rfl) dX4_partOf_84 ⟨Nat.le_refl _, Nat.le_refl _⟩ (fun H locs hP => ?_)
                          refine r_ishl hx hb dX4_partOf_87 ?_
                          refine lv_ior hx hb dX4_partOf_88 ?_
                          refine lv_topi (fun x14 ex14 => ?_)
                          have h := k_lt ex14 h
                          refine lv_istore_n (lv' := [(2, .int x14), (0, .ref (ad 0)), (3, .int x2), (4, .int x5), (5, .int x7)]) hx hb dX4_partOf_89 rfl hl (by decide) rfl (fun ls hl => ?_)
                          obtain ⟨x15, ex15, h⟩ := k_ltx h
                          refine lv_iinc (v := x15) (lv' := [(5, .int x15), (2, .int x14), (0, .ref (ad 0)), (3, .int x2), (4, .int x5)]) hx hb dX4_partOf_90 hl (k := 4) rfl (by rw [ex15]; rfl) (by decide) rfl (fun ls hl => ?_)
                          refine lv_goto (tgt := 33) hx hb dX4_partOf_93 (by decide) ?_
                          exact ih _ _ _ _ _ h hP (lv_sub hl [2, 1, 3, 4, 0] rfl)
              refine hL33 _ (fun x17 H locs ls h hP hl => ?_) FU _ _ _ _ _ h hP (lv_sub hl [1, 2, 3, 4, 0] rfl)
              obtain ⟨x18, ex18, h⟩ := k_ltx h
              refine lv_iinc (v := x18) (lv' := [(4, .int x18), (0, .ref (ad 0)), (2, .int x17), (3, .int x2)]) hx hb dX4_partOf_96 hl (k := 3) rfl (by rw [ex18]; rfl) (by decide) rfl (fun ls hl => ?_)
              refine lv_goto (tgt := 16) hx hb dX4_partOf_99 (by decide) ?_
              exact ih _ _ _ _ _ h hP (lv_sub hl [1, 2, 3, 0] rfl)
        refine hL16 _ (fun x20 H locs ls h hP hl => ?_) FU _ _ _ _ _ h hP (lv_sub hl [2, 3, 1, 0] rfl)
        refine lv_goto (tgt := 6) hx hb dX4_partOf_102 (by decide) ?_
        exact ih _ _ _ _ _ h hP (lv_sub hl [0, 1, 2] rfl)
  exact hL6 FU _ _ _ _ _ h hP (lv_sub hl [2, 1, 0] rfl)
def f_X4_part (σ : MM) (a1 : Int32) : Option (Int32 × MM) :=
  if (f_X4_isField σ a1) = true then ob (f_X4_partOf σ a1) (fun x3 => some (x3, σ)) else ob2 (f_X4_no σ (-2)) (fun x2 σ1 => some (x2, σ1))
set_option maxHeartbeats 4000000 in
set_option maxRecDepth 100000 in
theorem c_X4_part (l : Launch) (ev : EV) (ad : Nat → Nat) (σ : MM) (a1 : Int32)   (r : Int32) (σ' : MM) (h : f_X4_part σ a1 = some (r, σ')) : Ct l yX4_part prog_6_method_92_code 2 (Option.some Jvm.ClassFile.FieldType.int) (rmk 5 114) ev 13 ad (mw ev ad σ) (mw ev ad σ') [.ref (ad 0), .int a1] (some (.int r)) := by
  refine Ct.of (by decide +kernel) (Nat.le_of_ble_eq_true rfl) ?_
  intro p e s m args below meth c Qc C hap hP hend ls hl
  have hAA : ∀ j, j < 13 → inA ad 13 (ad j) := fun j hj => ⟨j, hj, rfl⟩
  have hx := C.1
  have hb := C.2.1
  have hl : lv_has ls 2 [(0, .ref (ad 0)), (1, .int a1)] := hl
  have h := (f_X4_part.eq_1 _ _ ).symm.trans h
  refine lv_aload_n hx hb dX4_part_0 rfl (lv_at hl 0 rfl) ?_
  refine lv_iload_n hx hb dX4_part_1 rfl (lv_at hl 1 rfl) ?_
  refine k_callVi C hP hap hAA (c_X4_isField l ev ad σ a1   _ rfl) Emb.same hap gz_X4_isField qML_RX4_116 qIM_yX4_isField qSE_yX4_isField ⟨(Nat.le_of_ble_eq_true rfl), (Nat.le_of_ble_eq_true rfl)⟩ (q0 := 0) rfl (by decide) rfl rfl rfl rfl hl.1 rfl (Nat.le_of_ble_eq_true rfl) dX4_part_2 ⟨Nat.le_refl _, Nat.le_refl _⟩ (fun H locs hP => ?_)
  refine r_ifz_eq (tgt := 16) hx hb dX4_part_5 (by decide) (fun c5 => ?_) (fun c5 => ?_)
  · have h := k_nf c5 h
    refine lv_aload_n hx hb dX4_part_16 rfl (lv_at hl 0 rfl) ?_
    refine lv_bipush (v := (-2)) hx hb dX4_part_17 (by decide) ?_
    obtain ⟨x2, σ1, h1, h⟩ := k_ob2 h
    refine k_callVi C hP hap hAA (c_X4_no l ev ad σ (-2)   _ _ h1) Emb.same hap gz_X4_no qML_RX4_56 qIM_yX4_no qSE_yX4_no ⟨(Nat.le_of_ble_eq_true rfl), (Nat.le_of_ble_eq_true rfl)⟩ (q0 := 0) rfl (by decide) rfl rfl rfl rfl hl.1 rfl (Nat.le_of_ble_eq_true rfl) dX4_part_19 ⟨Nat.le_refl _, Nat.le_refl _⟩ (fun H locs hP => ?_)
    exact e_iret C hend hP (k_some2 h).1 (congrArg (mw ev ad) (k_some2 h).2) dX4_part_22
  · have h := k_if c5 h
    refine lv_aload_n hx hb dX4_part_8 rfl (lv_at hl 0 rfl) ?_
    refine lv_iload_n hx hb dX4_part_9 rfl (lv_at hl 1 rfl) ?_
    obtain ⟨x3, h1, h⟩ := k_ob h
    refine k_callVi C hP hap hAA (c_X4_partOf l ev ad σ a1   _ h1) Emb.same hap gz_X4_partOf qML_RX4_283 qIM_yX4_partOf qSE_yX4_partOf ⟨(Nat.le_of_ble_eq_true rfl), (Nat.le_of_ble_eq_true rfl)⟩ (q0 := 0) rfl (by decide) rfl rfl rfl rfl hl.1 rfl (Nat.le_of_ble_eq_true rfl) dX4_part_10 ⟨Nat.le_refl _, Nat.le_refl _⟩ (fun H locs hP => ?_)
    refine lv_goto (tgt := 22) hx hb dX4_part_13 (by decide) ?_
    exact e_iret C hend hP (k_some2 h).1 (congrArg (mw ev ad) (k_some2 h).2) dX4_part_22
def f_J6_numberOfTrailingZeros_0f7a4_b62  (x6 : Int32) (x7 : Int32) : Int32 :=
  if x6 ≤ 4 then (x7 + (iushr x6 1)) else lt (x7 + 2) (fun x8 => lt (iushr x6 2) (fun x9 => (x8 + (iushr x9 1))))
def f_J6_numberOfTrailingZeros_0f7a4_b49  (x4 : Int32) (x5 : Int32) : Int32 :=
  if x4 ≤ 16 then f_J6_numberOfTrailingZeros_0f7a4_b62 x4 x5 else lt (x5 + 4) (fun x10 => lt (iushr x4 4) (fun x11 => f_J6_numberOfTrailingZeros_0f7a4_b62 x11 x10))
def f_J6_numberOfTrailingZeros_0f7a4_b34  (x2 : Int32) (x3 : Int32) : Int32 :=
  if x2 ≤ 256 then f_J6_numberOfTrailingZeros_0f7a4_b49 x2 x3 else lt (x3 + 8) (fun x12 => lt (iushr x2 8) (fun x13 => f_J6_numberOfTrailingZeros_0f7a4_b49 x13 x12))
def f_J6_numberOfTrailingZeros_0f7a4 (a1 : Int32) : Int32 :=
  lt ((a1 ^^^ (-1)) &&& (a1 - 1)) (fun x1 => if 0 < x1 then if x1 ≤ 65536 then f_J6_numberOfTrailingZeros_0f7a4_b34 x1 1 else lt (1 + 16) (fun x14 => lt (iushr x1 16) (fun x15 => f_J6_numberOfTrailingZeros_0f7a4_b34 x15 x14)) else (x1 &&& 32))
set_option maxHeartbeats 4000000 in
set_option maxRecDepth 100000 in
theorem c_J6_numberOfTrailingZeros_0f7a4 (l : Launch) (ev : EV) (ad : Nat → Nat) (a1 : Int32)   (r : Int32)  (h : f_J6_numberOfTrailingZeros_0f7a4 a1 = r) : Ct l yJ6_numberOfTrailingZeros_0f7a4 prog_7_method_48_code 2 (Option.some Jvm.ClassFile.FieldType.int) (rmk 0 0) ev 0 ad w00 w00 [.int a1] (some (.int r)) := by
  refine Ct.of (by decide +kernel) (Nat.le_of_ble_eq_true rfl) ?_
  intro p e s m args below meth c Qc C hap hP hend ls hl
  have hAA : ∀ j, j < 0 → inA ad 0 (ad j) := fun j hj => ⟨j, hj, rfl⟩
  have hx := C.1
  have hb := C.2.1
  have hl : lv_has ls 2 [(0, .int a1)] := hl
  have h := (f_J6_numberOfTrailingZeros_0f7a4.eq_1 _ ).symm.trans h
  have hB62 : ∀ (x6 : Int32) (x7 : Int32) (H : Heap) (locs : List Loc) (ls : Array Slot), f_J6_numberOfTrailingZeros_0f7a4_b62  x6 x7 = r → PS ev 0 ad w00 (inA ad 0) s H locs → lv_has ls 2 [(0, .int x6), (1, .int x7)] → WW ev p l e (rmk 0 0) s m args below meth c Qc ad 0 H locs 62 ls [] := by
    intro x6 x7 H locs ls h hP hl
    have h := (f_J6_numberOfTrailingZeros_0f7a4_b62.eq_1 _ _ ).symm.trans h
    refine lv_iload_n hx hb dJ6_numberOfTrailingZeros_0f7a4_62 rfl (lv_at hl 0 rfl) ?_
    refine lv_iconst (v := 4) hx hb dJ6_numberOfTrailingZeros_0f7a4_63 (by decide) ?_
    refine lv_icmp_le (tgt := 74) hx hb dJ6_numberOfTrailingZeros_0f7a4_64 (by decide) (fun c64 => ?_) (fun c64 => ?_)
    · have h := k_if c64 h
      refine lv_iload_n hx hb dJ6_numberOfTrailingZeros_0f7a4_74 rfl (lv_at hl 1 rfl) ?_
      refine lv_iload_n hx hb dJ6_numberOfTrailingZeros_0f7a4_75 rfl (lv_at hl 0 rfl) ?_
      refine lv_iconst (v := 1) hx hb dJ6_numberOfTrailingZeros_0f7a4_76 (by decide) ?_
      refine r_iushr hx hb dJ6_numberOfTrailingZeros_0f7a4_77 ?_
      refine lv_iadd hx hb dJ6_numberOfTrailingZeros_0f7a4_78 ?_
      exact e_iret C hend hP h rfl dJ6_numberOfTrailingZeros_0f7a4_79
    · have h := k_nf c64 h
      obtain ⟨x8, ex8, h⟩ := k_ltx h
      refine lv_iinc (v := x8) (lv' := [(1, .int x8), (0, .int x6)]) hx hb dJ6_numberOfTrailingZeros_0f7a4_67 hl (k := 1) rfl (by rw [ex8]; rfl) (by decide) rfl (fun ls hl => ?_)
      refine lv_iload_n hx hb dJ6_numberOfTrailingZeros_0f7a4_70 rfl (lv_at hl 1 rfl) ?_
      refine lv_iconst (v := 2) hx hb dJ6_numberOfTrailingZeros_0f7a4_71 (by decide) ?_
      refine r_iushr hx hb dJ6_numberOfTrailingZeros_0f7a4_72 ?_
      refine lv_topi (fun x9 ex9 => ?_)
      have h := k_lt ex9 h
      refine lv_istore_n (lv' := [(0, .int x9), (1, .int x8)]) hx hb dJ6_numberOfTrailingZeros_0f7a4_73 rfl hl (by decide) rfl (fun ls hl => ?_)
      refine lv_iload_n hx hb dJ6_numberOfTrailingZeros_0f7a4_74 rfl (lv_at hl 1 rfl) ?_
      refine lv_iload_n hx hb dJ6_numberOfTrailingZeros_0f7a4_75 rfl (lv_at hl 0 rfl) ?_
      refine lv_iconst (v := 1) hx hb dJ6_numberOfTrailingZeros_0f7a4_76 (by decide) ?_
      refine r_iushr hx hb dJ6_numberOfTrailingZeros_0f7a4_77 ?_
      refine lv_iadd hx hb dJ6_numberOfTrailingZeros_0f7a4_78 ?_
      exact e_iret C hend hP h rfl dJ6_numberOfTrailingZeros_0f7a4_79
  have hB49 : ∀ (x4 : Int32) (x5 : Int32) (H : Heap) (locs : List Loc) (ls : Array Slot), f_J6_numberOfTrailingZeros_0f7a4_b49  x4 x5 = r → PS ev 0 ad w00 (inA ad 0) s H locs → lv_has ls 2 [(0, .int x4), (1, .int x5)] → WW ev p l e (rmk 0 0) s m args below meth c Qc ad 0 H locs 49 ls [] := by
    intro x4 x5 H locs ls h hP hl
    have h := (f_J6_numberOfTrailingZeros_0f7a4_b49.eq_1 _ _ ).symm.trans h
    refine lv_iload_n hx hb dJ6_numberOfTrailingZeros_0f7a4_49 rfl (lv_at hl 0 rfl) ?_
    refine lv_bipush (v := 16) hx hb dJ6_numberOfTrailingZeros_0f7a4_50 (by decide) ?_
    refine lv_icmp_le (tgt := 62) hx hb dJ6_numberOfTrailingZeros_0f7a4_52 (by decide) (fun c52 => ?_) (fun c52 => ?_)
    · have h := k_if c52 h
      exact hB62 _ _ _ _ _ h hP (lv_sub hl [0, 1] rfl)
    · have h := k_nf c52 h
      obtain ⟨x10, ex10, h⟩ := k_ltx h
      refine lv_iinc (v := x10) (lv' := [(1, .int x10), (0, .int x4)]) hx hb dJ6_numberOfTrailingZeros_0f7a4_55 hl (k := 1) rfl (by rw [ex10]; rfl) (by decide) rfl (fun ls hl => ?_)
      refine lv_iload_n hx hb dJ6_numberOfTrailingZeros_0f7a4_58 rfl (lv_at hl 1 rfl) ?_
      refine lv_iconst (v := 4) hx hb dJ6_numberOfTrailingZeros_0f7a4_59 (by decide) ?_
      refine r_iushr hx hb dJ6_numberOfTrailingZeros_0f7a4_60 ?_
      refine lv_topi (fun x11 ex11 => ?_)
      have h := k_lt ex11 h
      refine lv_istore_n (lv' := [(0, .int x11), (1, .int x10)]) hx hb dJ6_numberOfTrailingZeros_0f7a4_61 rfl hl (by decide) rfl (fun ls hl => ?_)
      exact hB62 _ _ _ _ _ h hP (lv_sub hl [0, 1] rfl)
  have hB34 : ∀ (x2 : Int32) (x3 : Int32) (H : Heap) (locs : List Loc) (ls : Array Slot), f_J6_numberOfTrailingZeros_0f7a4_b34  x2 x3 = r → PS ev 0 ad w00 (inA ad 0) s H locs → lv_has ls 2 [(0, .int x2), (1, .int x3)] → WW ev p l e (rmk 0 0) s m args below meth c Qc ad 0 H locs 34 ls [] := by
    intro x2 x3 H locs ls h hP hl
    have h := (f_J6_numberOfTrailingZeros_0f7a4_b34.eq_1 _ _ ).symm.trans h
    refine lv_iload_n hx hb dJ6_numberOfTrailingZeros_0f7a4_34 rfl (lv_at hl 0 rfl) ?_
    refine lv_sipush (v := 256) hx hb dJ6_numberOfTrailingZeros_0f7a4_35 (by decide) ?_
    refine lv_icmp_le (tgt := 49) hx hb dJ6_numberOfTrailingZeros_0f7a4_38 (by decide) (fun c38 => ?_) (fun c38 => ?_)
    · have h := k_if c38 h
      exact hB49 _ _ _ _ _ h hP (lv_sub hl [0, 1] rfl)
    · have h := k_nf c38 h
      obtain ⟨x12, ex12, h⟩ := k_ltx h
      refine lv_iinc (v := x12) (lv' := [(1, .int x12), (0, .int x2)]) hx hb dJ6_numberOfTrailingZeros_0f7a4_41 hl (k := 1) rfl (by rw [ex12]; rfl) (by decide) rfl (fun ls hl => ?_)
      refine lv_iload_n hx hb dJ6_numberOfTrailingZeros_0f7a4_44 rfl (lv_at hl 1 rfl) ?_
      refine lv_bipush (v := 8) hx hb dJ6_numberOfTrailingZeros_0f7a4_45 (by decide) ?_
      refine r_iushr hx hb dJ6_numberOfTrailingZeros_0f7a4_47 ?_
      refine lv_topi (fun x13 ex13 => ?_)
      have h := k_lt ex13 h
      refine lv_istore_n (lv' := [(0, .int x13), (1, .int x12)]) hx hb dJ6_numberOfTrailingZeros_0f7a4_48 rfl hl (by decide) rfl (fun ls hl => ?_)
      exact hB49 _ _ _ _ _ h hP (lv_sub hl [0, 1] rfl)
  refine lv_iload_n hx hb dJ6_numberOfTrailingZeros_0f7a4_0 rfl (lv_at hl 0 rfl) ?_
  refine lv_iconst (v := (-1)) hx hb dJ6_numberOfTrailingZeros_0f7a4_1 (by decide) ?_
  refine lv_ixor hx hb dJ6_numberOfTrailingZeros_0f7a4_2 ?_
  refine lv_iload_n hx hb dJ6_numberOfTrailingZeros_0f7a4_3 rfl (lv_at hl 0 rfl) ?_
  refine lv_iconst (v := 1) hx hb dJ6_numberOfTrailingZeros_0f7a4_4 (by decide) ?_
  refine lv_isub hx hb dJ6_numberOfTrailingZeros_0f7a4_5 ?_
  refine lv_iand hx hb dJ6_numberOfTrailingZeros_0f7a4_6 ?_
  refine lv_topi (fun x1 ex1 => ?_)
  have h := k_lt ex1 h
  refine lv_istore_n (lv' := [(0, .int x1)]) hx hb dJ6_numberOfTrailingZeros_0f7a4_7 rfl hl (by decide) rfl (fun ls hl => ?_)
  refine lv_iload_n hx hb dJ6_numberOfTrailingZeros_0f7a4_8 rfl (lv_at hl 0 rfl) ?_
  refine lv_if_gt (tgt := 17) hx hb dJ6_numberOfTrailingZeros_0f7a4_9 (by decide) (fun c9 => ?_) (fun c9 => ?_)
  · have h := k_if c9 h
    refine lv_iconst (v := 1) hx hb dJ6_numberOfTrailingZeros_0f7a4_17 (by decide) ?_
    refine lv_istore_n (lv' := [(1, .int 1), (0, .int x1)]) hx hb dJ6_numberOfTrailingZeros_0f7a4_18 rfl hl (by decide) rfl (fun ls hl => ?_)
    refine lv_iload_n hx hb dJ6_numberOfTrailingZeros_0f7a4_19 rfl (lv_at hl 1 rfl) ?_
    refine lv_ldcw (v := 65536) hx hb C.2.2.2.2.2.1 (C.2.2.2.2.1 _ qCT_RJ6_264) dJ6_numberOfTrailingZeros_0f7a4_20 ?_
    refine lv_icmp_le (tgt := 34) hx hb dJ6_numberOfTrailingZeros_0f7a4_23 (by decide) (fun c23 => ?_) (fun c23 => ?_)
    · have h := k_if c23 h
      exact hB34 _ _ _ _ _ h hP (lv_sub hl [1, 0] rfl)
    · have h := k_nf c23 h
      obtain ⟨x14, ex14, h⟩ := k_ltx h
      refine lv_iinc (v := x14) (lv' := [(1, .int x14), (0, .int x1)]) hx hb dJ6_numberOfTrailingZeros_0f7a4_26 hl (k := 0) rfl (by rw [ex14]; rfl) (by decide) rfl (fun ls hl => ?_)
      refine lv_iload_n hx hb dJ6_numberOfTrailingZeros_0f7a4_29 rfl (lv_at hl 1 rfl) ?_
      refine lv_bipush (v := 16) hx hb dJ6_numberOfTrailingZeros_0f7a4_30 (by decide) ?_
      refine r_iushr hx hb dJ6_numberOfTrailingZeros_0f7a4_32 ?_
      refine lv_topi (fun x15 ex15 => ?_)
      have h := k_lt ex15 h
      refine lv_istore_n (lv' := [(0, .int x15), (1, .int x14)]) hx hb dJ6_numberOfTrailingZeros_0f7a4_33 rfl hl (by decide) rfl (fun ls hl => ?_)
      exact hB34 _ _ _ _ _ h hP (lv_sub hl [0, 1] rfl)
  · have h := k_nf c9 h
    refine lv_iload_n hx hb dJ6_numberOfTrailingZeros_0f7a4_12 rfl (lv_at hl 0 rfl) ?_
    refine lv_bipush (v := 32) hx hb dJ6_numberOfTrailingZeros_0f7a4_13 (by decide) ?_
    refine lv_iand hx hb dJ6_numberOfTrailingZeros_0f7a4_15 ?_
    exact e_iret C hend hP h rfl dJ6_numberOfTrailingZeros_0f7a4_16
def f_X4_parts_L4_b (σ : MM)  (rec4 : Int32 → Int32 → Option (Int32)) (x1 : Int32) (x2 : Int32) : Option (Int32) :=
  if ((m_w σ) * (m_h σ)) ≤ x2 then some x1 else ob (f_X4_partOf σ x2) (fun x3 => if (f_J6_numberOfTrailingZeros_0f7a4 x3) = x2 then lt (x1 + 1) (fun x5 => lt (x2 + 1) (fun x6 => rec4 x5 x6)) else lt (x2 + 1) (fun x4 => rec4 x1 x4))
def f_X4_parts_L4 (σ : MM)  (x1 : Int32) (x2 : Int32) : Option (Int32) :=
  lp (fun _ _ => none) (f_X4_parts_L4_b σ ) FU x1 x2
def f_X4_parts (σ : MM) : Option (Int32) :=
  f_X4_parts_L4 σ 0 0
set_option maxHeartbeats 4000000 in
set_option maxRecDepth 100000 in
theorem c_X4_parts (l : Launch) (ev : EV) (ad : Nat → Nat) (σ : MM)   (r : Int32)  (h : f_X4_parts σ = some r) : Ct l yX4_parts prog_6_method_93_code 3 (Option.some Jvm.ClassFile.FieldType.int) (rmk 5 114) ev 13 ad (mw ev ad σ) (mw ev ad σ) [.ref (ad 0)] (some (.int r)) := by
  refine Ct.of (by decide +kernel) (Nat.le_of_ble_eq_true rfl) ?_
  intro p e s m args below meth c Qc C hap hP hend ls hl
  have hAA : ∀ j, j < 13 → inA ad 13 (ad j) := fun j hj => ⟨j, hj, rfl⟩
  have hx := C.1
  have hb := C.2.1
  have hl : lv_has ls 3 [(0, .ref (ad 0))] := hl
  have h := (f_X4_parts.eq_1 _ ).symm.trans h
  refine lv_iconst (v := 0) hx hb dX4_parts_0 (by decide) ?_
  refine lv_istore_n (lv' := [(1, .int 0), (0, .ref (ad 0))]) hx hb dX4_parts_1 rfl hl (by decide) rfl (fun ls hl => ?_)
  refine lv_iconst (v := 0) hx hb dX4_parts_2 (by decide) ?_
  refine lv_istore_n (lv' := [(2, .int 0), (1, .int 0), (0, .ref (ad 0))]) hx hb dX4_parts_3 rfl hl (by decide) rfl (fun ls hl => ?_)
  have hL4 : ∀ (n : Nat) (x1 : Int32) (x2 : Int32) (H : Heap) (locs : List Loc) (ls : Array Slot), lp (fun _ _ => none) (f_X4_parts_L4_b σ ) n x1 x2 = some r → PS ev 13 ad (mw ev ad σ) (inA ad 13) s H locs → lv_has ls 3 [(0, .ref (ad 0)), (1, .int x1), (2, .int x2)] → WW ev p l e (rmk 5 114) s m args below meth c Qc ad 13 H locs 4 ls [] := by
    intro n
    induction n with
    | zero =>
      intro x1 x2 H locs ls h; exact k_none h
    | succ n ih =>
      intro x1 x2 H locs ls h hP hl
      have h : f_X4_parts_L4_b σ  (lp (fun _ _ => none) (f_X4_parts_L4_b σ ) n) x1 x2 = some r := h
      have h := (f_X4_parts_L4_b.eq_1 _ _ _ _ ).symm.trans h
      refine lv_iload_n hx hb dX4_parts_4 rfl (lv_at hl 2 rfl) ?_
      refine lv_aload_n hx hb dX4_parts_5 rfl (lv_at hl 0 rfl) ?_
      refine r_get C hP (ci := 4) rfl uin_X4 0 (by decide) 0 (by decide) rfl qFL_RX4_67 rfl rfl dX4_parts_6 ?_
      refine lv_aload_n hx hb dX4_parts_9 rfl (lv_at hl 0 rfl) ?_
      refine r_get C hP (ci := 4) rfl uin_X4 1 (by decide) 0 (by decide) rfl qFL_RX4_70 rfl rfl dX4_parts_10 ?_
      refine lv_imul hx hb dX4_parts_13 ?_
      refine lv_icmp_ge (tgt := 38) hx hb dX4_parts_14 (by decide) (fun c14 => ?_) (fun c14 => ?_)
      · have h := k_if c14 h
        refine lv_iload_n hx hb dX4_parts_38 rfl (lv_at hl 1 rfl) ?_
        exact e_iret C hend hP (k_some h) rfl dX4_parts_39
      · have h := k_nf c14 h
        refine lv_aload_n hx hb dX4_parts_17 rfl (lv_at hl 0 rfl) ?_
        refine lv_iload_n hx hb dX4_parts_18 rfl (lv_at hl 2 rfl) ?_
        obtain ⟨x3, h1, h⟩ := k_ob h
        refine k_callVi C hP hap hAA (c_X4_partOf l ev ad σ x2   _ h1) Emb.same hap gz_X4_partOf qML_RX4_283 qIM_yX4_partOf qSE_yX4_partOf ⟨(Nat.le_of_ble_eq_true rfl), (Nat.le_of_ble_eq_true rfl)⟩ (q0 := 0) rfl (by decide) rfl rfl rfl rfl hl.1 rfl (Nat.le_of_ble_eq_true rfl) dX4_parts_19 ⟨Nat.le_refl _, Nat.le_refl _⟩ (fun H locs hP => ?_)
        refine k_callSi C hP hap hAA (c_J6_numberOfTrailingZeros_0f7a4 l ev ad x3   _ rfl) Emb.none (apart_0 _) gz_J6_numberOfTrailingZeros_0f7a4 qML_RX4_286 qSM_yJ6_numberOfTrailingZeros_0f7a4 ⟨(Nat.le_of_ble_eq_true rfl), (Nat.le_of_ble_eq_true rfl)⟩ rfl hl.1 rfl (Nat.le_of_ble_eq_true rfl) dX4_parts_22 ⟨Nat.le_refl _, Nat.le_refl _⟩ (fun H locs hP => ?_)
        refine lv_iload_n hx hb dX4_parts_25 rfl (lv_at hl 2 rfl) ?_
        refine lv_icmp_ne (tgt := 32) hx hb dX4_parts_26 (by decide) (fun c26 => ?_) (fun c26 => ?_)
        · have h := k_nf c26 h
          obtain ⟨x4, ex4, h⟩ := k_ltx h
          refine lv_iinc (v := x4) (lv' := [(2, .int x4), (0, .ref (ad 0)), (1, .int x1)]) hx hb dX4_parts_32 hl (k := 2) rfl (by rw [ex4]; rfl) (by decide) rfl (fun ls hl => ?_)
          refine lv_goto (tgt := 4) hx hb dX4_parts_35 (by decide) ?_
          exact ih _ _ _ _ _ h hP (lv_sub hl [1, 2, 0] rfl)
        · have h := k_if c26 h
          obtain ⟨x5, ex5, h⟩ := k_ltx h
          refine lv_iinc (v := x5) (lv' := [(1, .int x5), (0, .ref (ad 0)), (2, .int x2)]) hx hb dX4_parts_29 hl (k := 1) rfl (by rw [ex5]; rfl) (by decide) rfl (fun ls hl => ?_)
          obtain ⟨x6, ex6, h⟩ := k_ltx h
          refine lv_iinc (v := x6) (lv' := [(2, .int x6), (1, .int x5), (0, .ref (ad 0))]) hx hb dX4_parts_32 hl (k := 2) rfl (by rw [ex6]; rfl) (by decide) rfl (fun ls hl => ?_)
          refine lv_goto (tgt := 4) hx hb dX4_parts_35 (by decide) ?_
          exact ih _ _ _ _ _ h hP (lv_sub hl [2, 1, 0] rfl)
  exact hL4 FU _ _ _ _ _ h hP (lv_sub hl [2, 1, 0] rfl)
