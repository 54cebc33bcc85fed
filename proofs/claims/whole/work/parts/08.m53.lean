/-! functions read off, and their contracts: by program (wip/whole/gen2.py) -/
def f_X4_turned_b61 (σ : MM) (a2 : Int32) (x4 : Int32) (x5 : Int32) : Option (Int32) :=
  gd (nz 2) (gd (nz 2) (if (irem (idiv a2 2) 2) = 1 then lt (((m_h σ) - 1) - x4) (fun x6 => some ((x6 * (m_w σ)) + x5)) else some ((x4 * (m_w σ)) + x5)))
def f_X4_turned_b41 (σ : MM) (a2 : Int32) (x2 : Int32) (x3 : Int32) : Option (Int32) :=
  gd (nz 2) (if (irem a2 2) = 1 then lt (((m_w σ) - 1) - x3) (fun x7 => f_X4_turned_b61 σ a2 x2 x7) else f_X4_turned_b61 σ a2 x2 x3)
def f_X4_turned_b20 (σ : MM) (a1 : Int32) (a2 : Int32) (x1 : Int32) : Option (Int32) :=
  if 4 ≤ a2 then gd (nz (m_w σ)) (f_X4_turned_b41 σ a2 x1 ((idiv a1 (m_w σ)))) else gd (nz (m_w σ)) (f_X4_turned_b41 σ a2 x1 ((irem a1 (m_w σ))))
def f_X4_turned (σ : MM) (a1 : Int32) (a2 : Int32) : Option (Int32) :=
  if 4 ≤ a2 then gd (nz (m_w σ)) (f_X4_turned_b20 σ a1 a2 ((irem a1 (m_w σ)))) else gd (nz (m_w σ)) (f_X4_turned_b20 σ a1 a2 ((idiv a1 (m_w σ))))
set_option maxHeartbeats 4000000 in
set_option maxRecDepth 100000 in
theorem c_X4_turned (l : Launch) (ev : EV) (ad : Nat → Nat) (σ : MM) (a1 : Int32) (a2 : Int32)   (r : Int32)  (h : f_X4_turned σ a1 a2 = some r) : Ct l yX4_turned prog_6_method_81_code 5 (Option.some Jvm.ClassFile.FieldType.int) (rmk 0 0) ev 13 ad (mw ev ad σ) (mw ev ad σ) [.ref (ad 0), .int a1, .int a2] (some (.int r)) := by
  refine Ct.of (by decide +kernel) (Nat.le_of_ble_eq_true rfl) ?_
  intro p e s m args below meth c Qc C hap hP hend ls hl
  have hAA : ∀ j, j < 13 → inA ad 13 (ad j) := fun j hj => ⟨j, hj, rfl⟩
  have hx := C.1
  have hb := C.2.1
  have hl : lv_has ls 5 [(0, .ref (ad 0)), (1, .int a1), (2, .int a2)] := hl
  have h := (f_X4_turned.eq_1 _ _ _ ).symm.trans h
  have hB61 : ∀ (x4 : Int32) (x5 : Int32) (H : Heap) (locs : List Loc) (ls : Array Slot), f_X4_turned_b61 σ a2 x4 x5 = some r → PS ev 13 ad (mw ev ad σ) (inA ad 13) s H locs → lv_has ls 5 [(0, .ref (ad 0)), (2, .int a2), (3, .int x4), (4, .int x5)] → WW ev p l e (rmk 0 0) s m args below meth c Qc ad 13 H locs 61 ls [] := by
    intro x4 x5 H locs ls h hP hl
    have h := (f_X4_turned_b61.eq_1 _ _ _ _ ).symm.trans h
    refine lv_iload_n hx hb dX4_turned_61 rfl (lv_at hl 1 rfl) ?_
    refine lv_iconst (v := 2) hx hb dX4_turned_62 (by decide) ?_
    obtain ⟨hg, h⟩ := k_gd h
    refine r_idiv hx hb dX4_turned_63 (nz_ne hg) ?_
    refine lv_iconst (v := 2) hx hb dX4_turned_64 (by decide) ?_
    obtain ⟨hg, h⟩ := k_gd h
    refine r_irem hx hb dX4_turned_65 (nz_ne hg) ?_
    refine lv_iconst (v := 1) hx hb dX4_turned_66 (by decide) ?_
    refine lv_icmp_ne (tgt := 79) hx hb dX4_turned_67 (by decide) (fun c67 => ?_) (fun c67 => ?_)
    · have h := k_nf c67 h
      refine lv_iload_n hx hb dX4_turned_79 rfl (lv_at hl 2 rfl) ?_
      refine lv_aload_n hx hb dX4_turned_80 rfl (lv_at hl 0 rfl) ?_
      refine r_get C hP (ci := 4) rfl uin_X4 0 (by decide) 0 (by decide) rfl qFL_RX4_67 rfl rfl dX4_turned_81 ?_
      refine lv_imul hx hb dX4_turned_84 ?_
      refine lv_iload hx hb dX4_turned_85 (lv_at hl 3 rfl) ?_
      refine lv_iadd hx hb dX4_turned_87 ?_
      exact e_iret C hend hP (k_some h) rfl dX4_turned_88
    · have h := k_if c67 h
      refine lv_aload_n hx hb dX4_turned_70 rfl (lv_at hl 0 rfl) ?_
      refine r_get C hP (ci := 4) rfl uin_X4 1 (by decide) 0 (by decide) rfl qFL_RX4_70 rfl rfl dX4_turned_71 ?_
      refine lv_iconst (v := 1) hx hb dX4_turned_74 (by decide) ?_
      refine lv_isub hx hb dX4_turned_75 ?_
      refine lv_iload_n hx hb dX4_turned_76 rfl (lv_at hl 2 rfl) ?_
      refine lv_isub hx hb dX4_turned_77 ?_
      refine lv_topi (fun x6 ex6 => ?_)
      have h := k_lt ex6 h
      refine lv_istore_n (lv' := [(3, .int x6), (0, .ref (ad 0)), (2, .int a2), (4, .int x5)]) hx hb dX4_turned_78 rfl hl (by decide) rfl (fun ls hl => ?_)
      refine lv_iload_n hx hb dX4_turned_79 rfl (lv_at hl 0 rfl) ?_
      refine lv_aload_n hx hb dX4_turned_80 rfl (lv_at hl 1 rfl) ?_
      refine r_get C hP (ci := 4) rfl uin_X4 0 (by decide) 0 (by decide) rfl qFL_RX4_67 rfl rfl dX4_turned_81 ?_
      refine lv_imul hx hb dX4_turned_84 ?_
      refine lv_iload hx hb dX4_turned_85 (lv_at hl 3 rfl) ?_
      refine lv_iadd hx hb dX4_turned_87 ?_
      exact e_iret C hend hP (k_some h) rfl dX4_turned_88
  have hB41 : ∀ (x2 : Int32) (x3 : Int32) (H : Heap) (locs : List Loc) (ls : Array Slot), f_X4_turned_b41 σ a2 x2 x3 = some r → PS ev 13 ad (mw ev ad σ) (inA ad 13) s H locs → lv_has ls 5 [(0, .ref (ad 0)), (2, .int a2), (3, .int x2)] → WW ev p l e (rmk 0 0) s m args below meth c Qc ad 13 H locs 41 ls [.int x3] := by
    intro x2 x3 H locs ls h hP hl
    have h := (f_X4_turned_b41.eq_1 _ _ _ _ ).symm.trans h
    refine lv_istore (lv' := [(4, .int x3), (0, .ref (ad 0)), (2, .int a2), (3, .int x2)]) hx hb dX4_turned_41 hl (by decide) rfl (fun ls hl => ?_)
    refine lv_iload_n hx hb dX4_turned_43 rfl (lv_at hl 2 rfl) ?_
    refine lv_iconst (v := 2) hx hb dX4_turned_44 (by decide) ?_
    obtain ⟨hg, h⟩ := k_gd h
    refine r_irem hx hb dX4_turned_45 (nz_ne hg) ?_
    refine lv_iconst (v := 1) hx hb dX4_turned_46 (by decide) ?_
    refine lv_icmp_ne (tgt := 61) hx hb dX4_turned_47 (by decide) (fun c47 => ?_) (fun c47 => ?_)
    · have h := k_nf c47 h
      exact hB61 _ _ _ _ _ h hP (lv_sub hl [1, 2, 3, 0] rfl)
    · have h := k_if c47 h
      refine lv_aload_n hx hb dX4_turned_50 rfl (lv_at hl 1 rfl) ?_
      refine r_get C hP (ci := 4) rfl uin_X4 0 (by decide) 0 (by decide) rfl qFL_RX4_67 rfl rfl dX4_turned_51 ?_
      refine lv_iconst (v := 1) hx hb dX4_turned_54 (by decide) ?_
      refine lv_isub hx hb dX4_turned_55 ?_
      refine lv_iload hx hb dX4_turned_56 (lv_at hl 0 rfl) ?_
      refine lv_isub hx hb dX4_turned_58 ?_
      refine lv_topi (fun x7 ex7 => ?_)
      have h := k_lt ex7 h
      refine lv_istore (lv' := [(4, .int x7), (0, .ref (ad 0)), (2, .int a2), (3, .int x2)]) hx hb dX4_turned_59 hl (by decide) rfl (fun ls hl => ?_)
      exact hB61 _ _ _ _ _ h hP (lv_sub hl [1, 2, 3, 0] rfl)
  have hB20 : ∀ (x1 : Int32) (H : Heap) (locs : List Loc) (ls : Array Slot), f_X4_turned_b20 σ a1 a2 x1 = some r → PS ev 13 ad (mw ev ad σ) (inA ad 13) s H locs → lv_has ls 5 [(0, .ref (ad 0)), (1, .int a1), (2, .int a2)] → WW ev p l e (rmk 0 0) s m args below meth c Qc ad 13 H locs 20 ls [.int x1] := by
    intro x1 H locs ls h hP hl
    have h := (f_X4_turned_b20.eq_1 _ _ _ _ ).symm.trans h
    refine lv_istore_n (lv' := [(3, .int x1), (0, .ref (ad 0)), (1, .int a1), (2, .int a2)]) hx hb dX4_turned_20 rfl hl (by decide) rfl (fun ls hl => ?_)
    refine lv_iload_n hx hb dX4_turned_21 rfl (lv_at hl 3 rfl) ?_
    refine lv_iconst (v := 4) hx hb dX4_turned_22 (by decide) ?_
    refine lv_icmp_ge (tgt := 35) hx hb dX4_turned_23 (by decide) (fun c23 => ?_) (fun c23 => ?_)
    · have h := k_if c23 h
      refine lv_iload_n hx hb dX4_turned_35 rfl (lv_at hl 2 rfl) ?_
      refine lv_aload_n hx hb dX4_turned_36 rfl (lv_at hl 1 rfl) ?_
      refine r_get C hP (ci := 4) rfl uin_X4 0 (by decide) 0 (by decide) rfl qFL_RX4_67 rfl rfl dX4_turned_37 ?_
      obtain ⟨hg, h⟩ := k_gd h
      refine r_idiv hx hb dX4_turned_40 (nz_ne hg) ?_
      exact hB41 _ _ _ _ _ h hP (lv_sub hl [1, 3, 0] rfl)
    · have h := k_nf c23 h
      refine lv_iload_n hx hb dX4_turned_26 rfl (lv_at hl 2 rfl) ?_
      refine lv_aload_n hx hb dX4_turned_27 rfl (lv_at hl 1 rfl) ?_
      refine r_get C hP (ci := 4) rfl uin_X4 0 (by decide) 0 (by decide) rfl qFL_RX4_67 rfl rfl dX4_turned_28 ?_
      obtain ⟨hg, h⟩ := k_gd h
      refine r_irem hx hb dX4_turned_31 (nz_ne hg) ?_
      refine lv_goto (tgt := 41) hx hb dX4_turned_32 (by decide) ?_
      exact hB41 _ _ _ _ _ h hP (lv_sub hl [1, 3, 0] rfl)
  refine lv_iload_n hx hb dX4_turned_0 rfl (lv_at hl 2 rfl) ?_
  refine lv_iconst (v := 4) hx hb dX4_turned_1 (by decide) ?_
  refine lv_icmp_ge (tgt := 14) hx hb dX4_turned_2 (by decide) (fun c2 => ?_) (fun c2 => ?_)
  · have h := k_if c2 h
    refine lv_iload_n hx hb dX4_turned_14 rfl (lv_at hl 1 rfl) ?_
    refine lv_aload_n hx hb dX4_turned_15 rfl (lv_at hl 0 rfl) ?_
    refine r_get C hP (ci := 4) rfl uin_X4 0 (by decide) 0 (by decide) rfl qFL_RX4_67 rfl rfl dX4_turned_16 ?_
    obtain ⟨hg, h⟩ := k_gd h
    refine r_irem hx hb dX4_turned_19 (nz_ne hg) ?_
    exact hB20 _ _ _ _ h hP (lv_sub hl [0, 1, 2] rfl)
  · have h := k_nf c2 h
    refine lv_iload_n hx hb dX4_turned_5 rfl (lv_at hl 1 rfl) ?_
    refine lv_aload_n hx hb dX4_turned_6 rfl (lv_at hl 0 rfl) ?_
    refine r_get C hP (ci := 4) rfl uin_X4 0 (by decide) 0 (by decide) rfl qFL_RX4_67 rfl rfl dX4_turned_7 ?_
    obtain ⟨hg, h⟩ := k_gd h
    refine r_idiv hx hb dX4_turned_10 (nz_ne hg) ?_
    refine lv_goto (tgt := 20) hx hb dX4_turned_11 (by decide) ?_
    exact hB20 _ _ _ _ h hP (lv_sub hl [0, 1, 2] rfl)
def f_X4_turnedSide_b31 (a2 : Int32) (x2 : Int32) : Option (Int32) :=
  if 2 ≤ x2 then some x2 else gd (nz 2) (gd (nz 2) (if (irem (idiv a2 2) 2) = 1 then some (1 - x2) else some x2))
def f_X4_turnedSide_b14 (a2 : Int32) (x1 : Int32) : Option (Int32) :=
  if x1 ≤ 1 then f_X4_turnedSide_b31 a2 x1 else gd (nz 2) (if (irem a2 2) = 1 then some (5 - x1) else f_X4_turnedSide_b31 a2 x1)
def f_X4_turnedSide (a1 : Int32) (a2 : Int32) : Option (Int32) :=
  if 4 ≤ a2 then gd (nz 4) (f_X4_turnedSide_b14 a2 ((irem (a1 + 2) 4))) else f_X4_turnedSide_b14 a2 a1
set_option maxHeartbeats 4000000 in
set_option maxRecDepth 100000 in
theorem c_X4_turnedSide (l : Launch) (ev : EV) (ad : Nat → Nat) (a1 : Int32) (a2 : Int32)   (r : Int32)  (h : f_X4_turnedSide a1 a2 = some r) : Ct l yX4_turnedSide prog_6_method_82_code 3 (Option.some Jvm.ClassFile.FieldType.int) (rmk 0 0) ev 0 ad w00 w00 [.int a1, .int a2] (some (.int r)) := by
  refine Ct.of (by decide +kernel) (Nat.le_of_ble_eq_true rfl) ?_
  intro p e s m args below meth c Qc C hap hP hend ls hl
  have hAA : ∀ j, j < 0 → inA ad 0 (ad j) := fun j hj => ⟨j, hj, rfl⟩
  have hx := C.1
  have hb := C.2.1
  have hl : lv_has ls 3 [(0, .int a1), (1, .int a2)] := hl
  have h := (f_X4_turnedSide.eq_1 _ _ ).symm.trans h
  have hB31 : ∀ (x2 : Int32) (H : Heap) (locs : List Loc) (ls : Array Slot), f_X4_turnedSide_b31 a2 x2 = some r → PS ev 0 ad w00 (inA ad 0) s H locs → lv_has ls 3 [(1, .int a2), (2, .int x2)] → WW ev p l e (rmk 0 0) s m args below meth c Qc ad 0 H locs 31 ls [] := by
    intro x2 H locs ls h hP hl
    have h := (f_X4_turnedSide_b31.eq_1 _ _ ).symm.trans h
    refine lv_iload_n hx hb dX4_turnedSide_31 rfl (lv_at hl 1 rfl) ?_
    refine lv_iconst (v := 2) hx hb dX4_turnedSide_32 (by decide) ?_
    refine lv_icmp_ge (tgt := 49) hx hb dX4_turnedSide_33 (by decide) (fun c33 => ?_) (fun c33 => ?_)
    · have h := k_if c33 h
      refine lv_iload_n hx hb dX4_turnedSide_49 rfl (lv_at hl 1 rfl) ?_
      exact e_iret C hend hP (k_some h) rfl dX4_turnedSide_50
    · have h := k_nf c33 h
      refine lv_iload_n hx hb dX4_turnedSide_36 rfl (lv_at hl 0 rfl) ?_
      refine lv_iconst (v := 2) hx hb dX4_turnedSide_37 (by decide) ?_
      obtain ⟨hg, h⟩ := k_gd h
      refine r_idiv hx hb dX4_turnedSide_38 (nz_ne hg) ?_
      refine lv_iconst (v := 2) hx hb dX4_turnedSide_39 (by decide) ?_
      obtain ⟨hg, h⟩ := k_gd h
      refine r_irem hx hb dX4_turnedSide_40 (nz_ne hg) ?_
      refine lv_iconst (v := 1) hx hb dX4_turnedSide_41 (by decide) ?_
      refine lv_icmp_ne (tgt := 49) hx hb dX4_turnedSide_42 (by decide) (fun c42 => ?_) (fun c42 => ?_)
      · have h := k_nf c42 h
        refine lv_iload_n hx hb dX4_turnedSide_49 rfl (lv_at hl 1 rfl) ?_
        exact e_iret C hend hP (k_some h) rfl dX4_turnedSide_50
      · have h := k_if c42 h
        refine lv_iconst (v := 1) hx hb dX4_turnedSide_45 (by decide) ?_
        refine lv_iload_n hx hb dX4_turnedSide_46 rfl (lv_at hl 1 rfl) ?_
        refine lv_isub hx hb dX4_turnedSide_47 ?_
        exact e_iret C hend hP (k_some h) rfl dX4_turnedSide_48
  have hB14 : ∀ (x1 : Int32) (H : Heap) (locs : List Loc) (ls : Array Slot), f_X4_turnedSide_b14 a2 x1 = some r → PS ev 0 ad w00 (inA ad 0) s H locs → lv_has ls 3 [(1, .int a2)] → WW ev p l e (rmk 0 0) s m args below meth c Qc ad 0 H locs 14 ls [.int x1] := by
    intro x1 H locs ls h hP hl
    have h := (f_X4_turnedSide_b14.eq_1 _ _ ).symm.trans h
    refine lv_istore_n (lv' := [(2, .int x1), (1, .int a2)]) hx hb dX4_turnedSide_14 rfl hl (by decide) rfl (fun ls hl => ?_)
    refine lv_iload_n hx hb dX4_turnedSide_15 rfl (lv_at hl 0 rfl) ?_
    refine lv_iconst (v := 1) hx hb dX4_turnedSide_16 (by decide) ?_
    refine lv_icmp_le (tgt := 31) hx hb dX4_turnedSide_17 (by decide) (fun c17 => ?_) (fun c17 => ?_)
    · have h := k_if c17 h
      exact hB31 _ _ _ _ h hP (lv_sub hl [1, 0] rfl)
    · have h := k_nf c17 h
      refine lv_iload_n hx hb dX4_turnedSide_20 rfl (lv_at hl 1 rfl) ?_
      refine lv_iconst (v := 2) hx hb dX4_turnedSide_21 (by decide) ?_
      obtain ⟨hg, h⟩ := k_gd h
      refine r_irem hx hb dX4_turnedSide_22 (nz_ne hg) ?_
      refine lv_iconst (v := 1) hx hb dX4_turnedSide_23 (by decide) ?_
      refine lv_icmp_ne (tgt := 31) hx hb dX4_turnedSide_24 (by decide) (fun c24 => ?_) (fun c24 => ?_)
      · have h := k_nf c24 h
        exact hB31 _ _ _ _ h hP (lv_sub hl [1, 0] rfl)
      · have h := k_if c24 h
        refine lv_iconst (v := 5) hx hb dX4_turnedSide_27 (by decide) ?_
        refine lv_iload_n hx hb dX4_turnedSide_28 rfl (lv_at hl 0 rfl) ?_
        refine lv_isub hx hb dX4_turnedSide_29 ?_
        exact e_iret C hend hP (k_some h) rfl dX4_turnedSide_30
  refine lv_iload_n hx hb dX4_turnedSide_0 rfl (lv_at hl 1 rfl) ?_
  refine lv_iconst (v := 4) hx hb dX4_turnedSide_1 (by decide) ?_
  refine lv_icmp_ge (tgt := 9) hx hb dX4_turnedSide_2 (by decide) (fun c2 => ?_) (fun c2 => ?_)
  · have h := k_if c2 h
    refine lv_iload_n hx hb dX4_turnedSide_9 rfl (lv_at hl 0 rfl) ?_
    refine lv_iconst (v := 2) hx hb dX4_turnedSide_10 (by decide) ?_
    refine lv_iadd hx hb dX4_turnedSide_11 ?_
    refine lv_iconst (v := 4) hx hb dX4_turnedSide_12 (by decide) ?_
    obtain ⟨hg, h⟩ := k_gd h
    refine r_irem hx hb dX4_turnedSide_13 (nz_ne hg) ?_
    exact hB14 _ _ _ _ h hP (lv_sub hl [1] rfl)
  · have h := k_nf c2 h
    refine lv_iload_n hx hb dX4_turnedSide_5 rfl (lv_at hl 0 rfl) ?_
    refine lv_goto (tgt := 14) hx hb dX4_turnedSide_6 (by decide) ?_
    exact hB14 _ _ _ _ h hP (lv_sub hl [1] rfl)
def f_X4_isAlike_L57_b (σ : MM) (a1 : Int32) (x1 : Int32) (x2 : Int32) (k102 : Option (Bool)) (rec57 : Int32 → Option (Bool)) (x3 : Int32) : Option (Bool) :=
  if 4 ≤ x3 then k102 else ob (f_X4_edge σ x1 x3) (fun x4 => gd (inb x4 40) (ob (f_X4_turnedSide x3 a1) (fun x5 => ob (f_X4_edge σ x2 x5) (fun x6 => gd (inb x6 40) (if ((m_hedge σ) (Int32.toNatClampNeg x4)) = ((m_hedge σ) (Int32.toNatClampNeg x6)) then lt (x3 + 1) (fun x7 => rec57 x7) else some false)))))
def f_X4_isAlike_L57 (σ : MM) (a1 : Int32) (x1 : Int32) (x2 : Int32) (k102 : Option (Bool)) (x3 : Int32) : Option (Bool) :=
  lp (fun _ => none) (f_X4_isAlike_L57_b σ a1 x1 x2 k102) FU x3
def f_X4_isAlike_L2_b (σ : MM) (a1 : Int32)  (rec2 : Int32 → Option (Bool)) (x1 : Int32) : Option (Bool) :=
  if ((m_w σ) * (m_h σ)) ≤ x1 then some true else ob (f_X4_turned σ x1 a1) (fun x2 => gd (inb x1 16) (gd (inb x2 16) (if ((m_dug σ) (Int32.toNatClampNeg x1)) = ((m_dug σ) (Int32.toNatClampNeg x2)) then gd (inb x1 16) (gd (inb x2 16) (if ((m_owner σ) (Int32.toNatClampNeg x1)) = ((m_owner σ) (Int32.toNatClampNeg x2)) then f_X4_isAlike_L57 σ a1 x1 x2 (lt (x1 + 1) (fun x8 => rec2 x8)) 0 else some false)) else some false)))
def f_X4_isAlike_L2 (σ : MM) (a1 : Int32)  (x1 : Int32) : Option (Bool) :=
  lp (fun _ => none) (f_X4_isAlike_L2_b σ a1 ) FU x1
def f_X4_isAlike (σ : MM) (a1 : Int32) : Option (Bool) :=
  f_X4_isAlike_L2 σ a1 0
set_option maxHeartbeats 4000000 in
set_option maxRecDepth 100000 in
theorem c_X4_isAlike (l : Launch) (ev : EV) (ad : Nat → Nat) (σ : MM) (a1 : Int32)   (r : Bool)  (h : f_X4_isAlike σ a1 = some r) : Ct l yX4_isAlike prog_6_method_83_code 5 (Option.some Jvm.ClassFile.FieldType.boolean) (rmk 2 44) ev 13 ad (mw ev ad σ) (mw ev ad σ) [.ref (ad 0), .int a1] (some (.int (bi r))) := by
  refine Ct.of (by decide +kernel) (Nat.le_of_ble_eq_true rfl) ?_
  intro p e s m args below meth c Qc C hap hP hend ls hl
  have hAA : ∀ j, j < 13 → inA ad 13 (ad j) := fun j hj => ⟨j, hj, rfl⟩
  have hx := C.1
  have hb := C.2.1
  have hl : lv_has ls 5 [(0, .ref (ad 0)), (1, .int a1)] := hl
  have h := (f_X4_isAlike.eq_1 _ _ ).symm.trans h
  refine lv_iconst (v := 0) hx hb dX4_isAlike_0 (by decide) ?_
  refine lv_istore_n (lv' := [(2, .int 0), (0, .ref (ad 0)), (1, .int a1)]) hx hb dX4_isAlike_1 rfl hl (by decide) rfl (fun ls hl => ?_)
  have hL2 : ∀ (n : Nat) (x1 : Int32) (H : Heap) (locs : List Loc) (ls : Array Slot), lp (fun _ => none) (f_X4_isAlike_L2_b σ a1 ) n x1 = some r → PS ev 13 ad (mw ev ad σ) (inA ad 13) s H locs → lv_has ls 5 [(0, .ref (ad 0)), (1, .int a1), (2, .int x1)] → WW ev p l e (rmk 2 44) s m args below meth c Qc ad 13 H locs 2 ls [] := by
    intro n
    induction n with
    | zero =>
      intro x1 H locs ls h; exact k_none h
    | succ n ih =>
      intro x1 H locs ls h hP hl
      have h : f_X4_isAlike_L2_b σ a1  (lp (fun _ => none) (f_X4_isAlike_L2_b σ a1 ) n) x1 = some r := h
      have h := (f_X4_isAlike_L2_b.eq_1 _ _ _ _ ).symm.trans h
      refine lv_iload_n hx hb dX4_isAlike_2 rfl (lv_at hl 2 rfl) ?_
      refine lv_aload_n hx hb dX4_isAlike_3 rfl (lv_at hl 0 rfl) ?_
      refine r_get C hP (ci := 4) rfl uin_X4 0 (by decide) 0 (by decide) rfl qFL_RX4_67 rfl rfl dX4_isAlike_4 ?_
      refine lv_aload_n hx hb dX4_isAlike_7 rfl (lv_at hl 0 rfl) ?_
      refine r_get C hP (ci := 4) rfl uin_X4 1 (by decide) 0 (by decide) rfl qFL_RX4_70 rfl rfl dX4_isAlike_8 ?_
      refine lv_imul hx hb dX4_isAlike_11 ?_
      refine lv_icmp_ge (tgt := 108) hx hb dX4_isAlike_12 (by decide) (fun c12 => ?_) (fun c12 => ?_)
      · have h := k_if c12 h
        refine lv_iconst (v := 1) hx hb dX4_isAlike_108 (by decide) ?_
        exact e_zret C hend hP (k_some h) rfl dX4_isAlike_109 rfl
      · have h := k_nf c12 h
        refine lv_aload_n hx hb dX4_isAlike_15 rfl (lv_at hl 0 rfl) ?_
        refine lv_iload_n hx hb dX4_isAlike_16 rfl (lv_at hl 2 rfl) ?_
        refine lv_iload_n hx hb dX4_isAlike_17 rfl (lv_at hl 1 rfl) ?_
        obtain ⟨x2, h1, h⟩ := k_ob h
        refine k_callVi C hP hap hAA (c_X4_turned l ev ad σ x1 a1   _ h1) Emb.same hap gz_X4_turned qML_RX4_271 qIM_yX4_turned qSE_yX4_turned ⟨(Nat.le_of_ble_eq_true rfl), (Nat.le_of_ble_eq_true rfl)⟩ (q0 := 0) rfl (by decide) rfl rfl rfl rfl hl.1 rfl (Nat.le_of_ble_eq_true rfl) dX4_isAlike_18 ⟨Nat.le_refl _, Nat.le_refl _⟩ (fun H locs hP => ?_)
        refine lv_istore_n (lv' := [(3, .int x2), (0, .ref (ad 0)), (1, .int a1), (2, .int x1)]) hx hb dX4_isAlike_21 rfl hl (by decide) rfl (fun ls hl => ?_)
        refine lv_aload_n hx hb dX4_isAlike_22 rfl (lv_at hl 1 rfl) ?_
        refine r_get C hP (ci := 4) rfl uin_X4 3 (by decide) 0 (by decide) rfl qFL_RX4_13 rfl rfl dX4_isAlike_23 ?_
        refine lv_iload_n hx hb dX4_isAlike_26 rfl (lv_at hl 3 rfl) ?_
        obtain ⟨hg, h⟩ := k_gd h
        refine r_zald C hP 2 (by decide) rfl hg dX4_isAlike_27 ?_
        refine lv_aload_n hx hb dX4_isAlike_28 rfl (lv_at hl 1 rfl) ?_
        refine r_get C hP (ci := 4) rfl uin_X4 3 (by decide) 0 (by decide) rfl qFL_RX4_13 rfl rfl dX4_isAlike_29 ?_
        refine lv_iload_n hx hb dX4_isAlike_32 rfl (lv_at hl 0 rfl) ?_
        obtain ⟨hg, h⟩ := k_gd h
        refine r_zald C hP 2 (by decide) rfl hg dX4_isAlike_33 ?_
        refine lv_icmp_ne (tgt := 52) hx hb dX4_isAlike_34 (by decide) (fun c34 => ?_) (fun c34 => ?_)
        · have h := k_nf c34 h
          refine lv_iconst (v := 0) hx hb dX4_isAlike_52 (by decide) ?_
          exact e_zret C hend hP (k_some h) rfl dX4_isAlike_53 rfl
        · have h := k_if c34 h
          refine lv_aload_n hx hb dX4_isAlike_37 rfl (lv_at hl 1 rfl) ?_
          refine r_get C hP (ci := 4) rfl uin_X4 4 (by decide) 0 (by decide) rfl qFL_RX4_16 rfl rfl dX4_isAlike_38 ?_
          refine lv_iload_n hx hb dX4_isAlike_41 rfl (lv_at hl 3 rfl) ?_
          obtain ⟨hg, h⟩ := k_gd h
          refine r_iald C hP 3 (by decide) rfl hg dX4_isAlike_42 ?_
          refine lv_aload_n hx hb dX4_isAlike_43 rfl (lv_at hl 1 rfl) ?_
          refine r_get C hP (ci := 4) rfl uin_X4 4 (by decide) 0 (by decide) rfl qFL_RX4_16 rfl rfl dX4_isAlike_44 ?_
          refine lv_iload_n hx hb dX4_isAlike_47 rfl (lv_at hl 0 rfl) ?_
          obtain ⟨hg, h⟩ := k_gd h
          refine r_iald C hP 3 (by decide) rfl hg dX4_isAlike_48 ?_
          refine lv_icmp_eq (tgt := 54) hx hb dX4_isAlike_49 (by decide) (fun c49 => ?_) (fun c49 => ?_)
          · have h := k_if c49 h
            refine lv_iconst (v := 0) hx hb dX4_isAlike_54 (by decide) ?_
            refine lv_istore (lv' := [(4, .int 0), (3, .int x2), (0, .ref (ad 0)), (1, .int a1), (2, .int x1)]) hx hb dX4_isAlike_55 hl (by decide) rfl (fun ls hl => ?_)
            have hL57 : ∀ (k102 : Option (Bool)) (hk102 : ∀  (H : Heap) (locs : List Loc) (ls : Array Slot), k102  = some r → PS ev 13 ad (mw ev ad σ) (inA ad 13) s H locs → lv_has ls 5 [(0, .ref (ad 0)), (1, .int a1), (2, .int x1)] → WW ev p l e (rmk 2 44) s m args below meth c Qc ad 13 H locs 102 ls []) (n : Nat) (x3 : Int32) (H : Heap) (locs : List Loc) (ls : Array Slot), lp (fun _ => none) (f_X4_isAlike_L57_b σ a1 x1 x2 k102) n x3 = some r → PS ev 13 ad (mw ev ad σ) (inA ad 13) s H locs → lv_has ls 5 [(0, .ref (ad 0)), (1, .int a1), (2, .int x1), (3, .int x2), (4, .int x3)] → WW ev p l e (rmk 2 44) s m args below meth c Qc ad 13 H locs 57 ls [] := by
              intro k102 hk102 n
              induction n with
              | zero =>
                intro x3 H locs ls h; exact k_none h
              | succ n ih =>
                intro x3 H locs ls h hP hl
                have h : f_X4_isAlike_L57_b σ a1 x1 x2 k102 (lp (fun _ => none) (f_X4_isAlike_L57_b σ a1 x1 x2 k102) n) x3 = some r := h
                have h := (f_X4_isAlike_L57_b.eq_1 _ _ _ _ _ _ _ ).symm.trans h
                refine lv_iload hx hb dX4_isAlike_57 (lv_at hl 4 rfl) ?_
                refine lv_iconst (v := 4) hx hb dX4_isAlike_59 (by decide) ?_
                refine lv_icmp_ge (tgt := 102) hx hb dX4_isAlike_60 (by decide) (fun c60 => ?_) (fun c60 => ?_)
                · have h := k_if c60 h
                  exact hk102 _ _ _ h hP (lv_sub hl [0, 1, 2] rfl)
                · have h := k_nf c60 h
                  refine lv_aload_n hx hb dX4_isAlike_63 rfl (lv_at hl 0 rfl) ?_
                  refine r_get C hP (ci := 4) rfl uin_X4 2 (by decide) 0 (by decide) rfl qFL_RX4_7 rfl rfl dX4_isAlike_64 ?_
                  refine lv_aload_n hx hb dX4_isAlike_67 rfl (lv_at hl 0 rfl) ?_
                  refine lv_iload_n hx hb dX4_isAlike_68 rfl (lv_at hl 2 rfl) ?_
                  refine lv_iload hx hb dX4_isAlike_69 (lv_at hl 4 rfl) ?_
                  obtain ⟨x4, h1, h⟩ := k_ob h
                  refine k_callVi C hP hap hAA (c_X4_edge l ev ad σ x1 x3   _ h1) Emb.same hap gz_X4_edge qML_RX4_122 qIM_yX4_edge qSE_yX4_edge ⟨(Nat.le_of_ble_eq_true rfl), (Nat.le_of_ble_eq_true rfl)⟩ (q0 := 0) rfl (by decide) rfl rfl rfl rfl hl.1 rfl (Nat.le_of_ble_eq_true rfl) dX4_isAlike_71 ⟨Nat.le_refl _, Nat.le_refl _⟩ (fun H locs hP => ?_)
                  obtain ⟨hg, h⟩ := k_gd h
                  refine r_zald C hP 1 (by decide) rfl hg dX4_isAlike_74 ?_
                  refine lv_aload_n hx hb dX4_isAlike_75 rfl (lv_at hl 0 rfl) ?_
                  refine r_get C hP (ci := 4) rfl uin_X4 2 (by decide) 0 (by decide) rfl qFL_RX4_7 rfl rfl dX4_isAlike_76 ?_
                  refine lv_aload_n hx hb dX4_isAlike_79 rfl (lv_at hl 0 rfl) ?_
                  refine lv_iload_n hx hb dX4_isAlike_80 rfl (lv_at hl 3 rfl) ?_
                  refine lv_iload hx hb dX4_isAlike_81 (lv_at hl 4 rfl) ?_
                  refine lv_iload_n hx hb dX4_isAlike_83 rfl (lv_at hl 1 rfl) ?_
                  obtain ⟨x5, h1, h⟩ := k_ob h
                  refine k_callSi C hP hap hAA (c_X4_turnedSide l ev ad x3 a1   _ h1) Emb.none (apart_0 _) gz_X4_turnedSide qML_RX4_274 qSM_yX4_turnedSide ⟨(Nat.le_of_ble_eq_true rfl), (Nat.le_of_ble_eq_true rfl)⟩ rfl hl.1 rfl (Nat.le_of_ble_eq_true rfl) dX4_isAlike_84 ⟨Nat.le_refl _, Nat.le_refl _⟩ (fun H locs hP => ?_)
                  obtain ⟨x6, h1, h⟩ := k_ob h
                  refine k_callVi C hP hap hAA (c_X4_edge l ev ad σ x2 x5   _ h1) Emb.same hap gz_X4_edge qML_RX4_122 qIM_yX4_edge qSE_yX4_edge ⟨(Nat.le_of_ble_eq_true rfl), (Nat.le_of_ble_eq_true rfl)⟩ (q0 := 0) rfl (by decide) rfl rfl rfl rfl hl.1 rfl (Nat.le_of_ble_eq_true rfl) dX4_isAlike_87 ⟨Nat.le_refl _, Nat.le_refl _⟩ (fun H locs hP => ?_)
                  obtain ⟨hg, h⟩ := k_gd h
                  refine r_zald C hP 1 (by decide) rfl hg dX4_isAlike_90 ?_
                  refine lv_icmp_eq (tgt := 96) hx hb dX4_isAlike_91 (by decide) (fun c91 => ?_) (fun c91 => ?_)
                  · have h := k_if c91 h
                    obtain ⟨x7, ex7, h⟩ := k_ltx h
                    refine lv_iinc (v := x7) (lv' := [(4, .int x7), (0, .ref (ad 0)), (1, .int a1), (2, .int x1), (3, .int x2)]) hx hb dX4_isAlike_96 hl (k := 4) rfl (by rw [ex7]; rfl) (by decide) rfl (fun ls hl => ?_)
                    refine lv_goto (tgt := 57) hx hb dX4_isAlike_99 (by decide) ?_
                    exact ih _ _ _ _ h hP (lv_sub hl [1, 2, 3, 4, 0] rfl)
                  · have h := k_nf c91 h
                    refine lv_iconst (v := 0) hx hb dX4_isAlike_94 (by decide) ?_
                    exact e_zret C hend hP (k_some h) rfl dX4_isAlike_95 rfl
            refine hL57 _ (fun  H locs ls h hP hl => ?_) FU _ _ _ _ h hP (lv_sub hl [2, 3, 4, 1, 0] rfl)
            obtain ⟨x8, ex8, h⟩ := k_ltx h
            refine lv_iinc (v := x8) (lv' := [(2, .int x8), (0, .ref (ad 0)), (1, .int a1)]) hx hb dX4_isAlike_102 hl (k := 2) rfl (by rw [ex8]; rfl) (by decide) rfl (fun ls hl => ?_)
            refine lv_goto (tgt := 2) hx hb dX4_isAlike_105 (by decide) ?_
            exact ih _ _ _ _ h hP (lv_sub hl [1, 2, 0] rfl)
          · have h := k_nf c49 h
            refine lv_iconst (v := 0) hx hb dX4_isAlike_52 (by decide) ?_
            exact e_zret C hend hP (k_some h) rfl dX4_isAlike_53 rfl
  exact hL2 FU _ _ _ _ h hP (lv_sub hl [1, 2, 0] rfl)
