/-! functions read off, and their contracts: by program (wip/whole/gen2.py) -/
def f_X4_part (σ : MM) (a1 : Int32) : Option (Int32 × MM) :=
  if (f_X4_isField σ a1) = true then ob (f_X4_partOf σ a1) (fun x3 => some (x3, σ)) else ob2 (f_X4_no σ (-2)) (fun x2 σ1 => some (x2, σ1))
set_option maxHeartbeats 4000000 in
set_option maxRecDepth 100000 in
theorem c_X4_part (l : Launch) (ev : EV) (ad : Nat → Nat) (σ : MM) (a1 : Int32)   (r : Int32) (σ' : MM) (h : f_X4_part σ a1 = some (r, σ')) : Ct l yX4_part prog_6_method_92_code 2 (Option.some Jvm.ClassFile.FieldType.int) (rmk 5 114) ev 13 ad (mw ev ad σ) (mw ev ad σ') [.ref (ad 0), .int a1] (some (.int r)) := by
  refine Ct.of (by decide +kernel) (Nat.le_of_ble_eq_true rfl) ?_
  intro p e s m args below meth c Qc C hap hP hend ls hl
  have hAA : ∀ j, j < 13 → inA ad 13 (ad j) := fun j hj => ⟨j, hj, rfl⟩
  have hx := C.1
  have hb := C.2.1
  have hl : lv_has ls 2 [(0, .ref (ad 0)), (1, .int a1)] := hl
  have h := (f_X4_part.eq_1 _ _ ).symm.trans h
  refine lv_aload_n hx hb dX4_part_0 rfl (lv_at hl 0 rfl) ?_
  refine lv_iload_n hx hb dX4_part_1 rfl (lv_at hl 1 rfl) ?_
  refine k_callVi C hP hap hAA (c_X4_isField l ev ad σ a1   _ rfl) Emb.same hap gz_X4_isField qML_RX4_116 qIM_yX4_isField qSE_yX4_isField ⟨(Nat.le_of_ble_eq_true rfl), (Nat.le_of_ble_eq_true rfl)⟩ (q0 := 0) rfl (by decide) rfl rfl rfl rfl hl.1 rfl (Nat.le_of_ble_eq_true rfl) dX4_part_2 ⟨Nat.le_refl _, Nat.le_refl _⟩ (fun H locs hP => ?_)
  refine r_ifz_eq (tgt := 16) hx hb dX4_part_5 (by decide) (fun c5 => ?_) (fun c5 => ?_)
  · have h := k_nf c5 h
    refine lv_aload_n hx hb dX4_part_16 rfl (lv_at hl 0 rfl) ?_
    refine lv_bipush (v := (-2)) hx hb dX4_part_17 (by decide) ?_
    obtain ⟨x2, σ1, h1, h⟩ := k_ob2 h
    refine k_callVi C hP hap hAA (c_X4_no l ev ad σ (-2)   _ _ h1) Emb.same hap gz_X4_no qML_RX4_56 qIM_yX4_no qSE_yX4_no ⟨(Nat.le_of_ble_eq_true rfl), (Nat.le_of_ble_eq_true rfl)⟩ (q0 := 0) rfl (by decide) rfl rfl rfl rfl hl.1 rfl (Nat.le_of_ble_eq_true rfl) dX4_part_19 ⟨Nat.le_refl _, Nat.le_refl _⟩ (fun H locs hP => ?_)
    exact e_iret C hend hP (k_some2 h).1 (congrArg (mw ev ad) (k_some2 h).2) dX4_part_22
  · have h := k_if c5 h
    refine lv_aload_n hx hb dX4_part_8 rfl (lv_at hl 0 rfl) ?_
    refine lv_iload_n hx hb dX4_part_9 rfl (lv_at hl 1 rfl) ?_
    obtain ⟨x3, h1, h⟩ := k_ob h
    refine k_callVi C hP hap hAA (c_X4_partOf l ev ad σ a1   _ h1) Emb.same hap gz_X4_partOf qML_RX4_283 qIM_yX4_partOf qSE_yX4_partOf ⟨(Nat.le_of_ble_eq_true rfl), (Nat.le_of_ble_eq_true rfl)⟩ (q0 := 0) rfl (by decide) rfl rfl rfl rfl hl.1 rfl (Nat.le_of_ble_eq_true rfl) dX4_part_10 ⟨Nat.le_refl _, Nat.le_refl _⟩ (fun H locs hP => ?_)
    refine lv_goto (tgt := 22) hx hb dX4_part_13 (by decide) ?_
    exact e_iret C hend hP (k_some2 h).1 (congrArg (mw ev ad) (k_some2 h).2) dX4_part_22
def f_J6_numberOfTrailingZeros_0f7a4_b62  (x6 : Int32) (x7 : Int32) : Int32 :=
  if x6 ≤ 4 then (x7 + (iushr x6 1)) else lt (x7 + 2) (fun x8 => lt (iushr x6 2) (fun x9 => (x8 + (iushr x9 1))))
def f_J6_numberOfTrailingZeros_0f7a4_b49  (x4 : Int32) (x5 : Int32) : Int32 :=
  if x4 ≤ 16 then f_J6_numberOfTrailingZeros_0f7a4_b62 x4 x5 else lt (x5 + 4) (fun x10 => lt (iushr x4 4) (fun x11 => f_J6_numberOfTrailingZeros_0f7a4_b62 x11 x10))
def f_J6_numberOfTrailingZeros_0f7a4_b34  (x2 : Int32) (x3 : Int32) : Int32 :=
  if x2 ≤ 256 then f_J6_numberOfTrailingZeros_0f7a4_b49 x2 x3 else lt (x3 + 8) (fun x12 => lt (iushr x2 8) (fun x13 => f_J6_numberOfTrailingZeros_0f7a4_b49 x13 x12))
def f_J6_numberOfTrailingZeros_0f7a4 (a1 : Int32) : Int32 :=
  lt ((a1 ^^^ (-1)) &&& (a1 - 1)) (fun x1 => if 0 < x1 then if x1 ≤ 65536 then f_J6_numberOfTrailingZeros_0f7a4_b34 x1 1 else lt (1 + 16) (fun x14 => lt (iushr x1 16) (fun x15 => f_J6_numberOfTrailingZeros_0f7a4_b34 x15 x14)) else (x1 &&& 32))
set_option maxHeartbeats 4000000 in
set_option maxRecDepth 100000 in
theorem c_J6_numberOfTrailingZeros_0f7a4 (l : Launch) (ev : EV) (ad : Nat → Nat) (a1 : Int32)   (r : Int32)  (h : f_J6_numberOfTrailingZeros_0f7a4 a1 = r) : Ct l yJ6_numberOfTrailingZeros_0f7a4 prog_7_method_48_code 2 (Option.some Jvm.ClassFile.FieldType.int) (rmk 0 0) ev 0 ad w00 w00 [.int a1] (some (.int r)) := by
  refine Ct.of (by decide +kernel) (Nat.le_of_ble_eq_true rfl) ?_
  intro p e s m args below meth c Qc C hap hP hend ls hl
  have hAA : ∀ j, j < 0 → inA ad 0 (ad j) := fun j hj => ⟨j, hj, rfl⟩
  have hx := C.1
  have hb := C.2.1
  have hl : lv_has ls 2 [(0, .int a1)] := hl
  have h := (f_J6_numberOfTrailingZeros_0f7a4.eq_1 _ ).symm.trans h
  have hB62 : ∀ (x6 : Int32) (x7 : Int32) (H : Heap) (locs : List Loc) (ls : Array Slot), f_J6_numberOfTrailingZeros_0f7a4_b62  x6 x7 = r → PS ev 0 ad w00 (inA ad 0) s H locs → lv_has ls 2 [(0, .int x6), (1, .int x7)] → WW ev p l e (rmk 0 0) s m args below meth c Qc ad 0 H locs 62 ls [] := by
    intro x6 x7 H locs ls h hP hl
    have h := (f_J6_numberOfTrailingZeros_0f7a4_b62.eq_1 _ _ ).symm.trans h
    refine lv_iload_n hx hb dJ6_numberOfTrailingZeros_0f7a4_62 rfl (lv_at hl 0 rfl) ?_
    refine lv_iconst (v := 4) hx hb dJ6_numberOfTrailingZeros_0f7a4_63 (by decide) ?_
    refine lv_icmp_le (tgt := 74) hx hb dJ6_numberOfTrailingZeros_0f7a4_64 (by decide) (fun c64 => ?_) (fun c64 => ?_)
    · have h := k_if c64 h
      refine lv_iload_n hx hb dJ6_numberOfTrailingZeros_0f7a4_74 rfl (lv_at hl 1 rfl) ?_
      refine lv_iload_n hx hb dJ6_numberOfTrailingZeros_0f7a4_75 rfl (lv_at hl 0 rfl) ?_
      refine lv_iconst (v := 1) hx hb dJ6_numberOfTrailingZeros_0f7a4_76 (by decide) ?_
      refine r_iushr hx hb dJ6_numberOfTrailingZeros_0f7a4_77 ?_
      refine lv_iadd hx hb dJ6_numberOfTrailingZeros_0f7a4_78 ?_
      exact e_iret C hend hP h rfl dJ6_numberOfTrailingZeros_0f7a4_79
    · have h := k_nf c64 h
      obtain ⟨x8, ex8, h⟩ := k_ltx h
      refine lv_iinc (v := x8) (lv' := [(1, .int x8), (0, .int x6)]) hx hb dJ6_numberOfTrailingZeros_0f7a4_67 hl (k := 1) rfl (by rw [ex8]; rfl) (by decide) rfl (fun ls hl => ?_)
      refine lv_iload_n hx hb dJ6_numberOfTrailingZeros_0f7a4_70 rfl (lv_at hl 1 rfl) ?_
      refine lv_iconst (v := 2) hx hb dJ6_numberOfTrailingZeros_0f7a4_71 (by decide) ?_
      refine r_iushr hx hb dJ6_numberOfTrailingZeros_0f7a4_72 ?_
      refine lv_topi (fun x9 ex9 => ?_)
      have h := k_lt ex9 h
      refine lv_istore_n (lv' := [(0, .int x9), (1, .int x8)]) hx hb dJ6_numberOfTrailingZeros_0f7a4_73 rfl hl (by decide) rfl (fun ls hl => ?_)
      refine lv_iload_n hx hb dJ6_numberOfTrailingZeros_0f7a4_74 rfl (lv_at hl 1 rfl) ?_
      refine lv_iload_n hx hb dJ6_numberOfTrailingZeros_0f7a4_75 rfl (lv_at hl 0 rfl) ?_
      refine lv_iconst (v := 1) hx hb dJ6_numberOfTrailingZeros_0f7a4_76 (by decide) ?_
      refine r_iushr hx hb dJ6_numberOfTrailingZeros_0f7a4_77 ?_
      refine lv_iadd hx hb dJ6_numberOfTrailingZeros_0f7a4_78 ?_
      exact e_iret C hend hP h rfl dJ6_numberOfTrailingZeros_0f7a4_79
  have hB49 : ∀ (x4 : Int32) (x5 : Int32) (H : Heap) (locs : List Loc) (ls : Array Slot), f_J6_numberOfTrailingZeros_0f7a4_b49  x4 x5 = r → PS ev 0 ad w00 (inA ad 0) s H locs → lv_has ls 2 [(0, .int x4), (1, .int x5)] → WW ev p l e (rmk 0 0) s m args below meth c Qc ad 0 H locs 49 ls [] := by
    intro x4 x5 H locs ls h hP hl
    have h := (f_J6_numberOfTrailingZeros_0f7a4_b49.eq_1 _ _ ).symm.trans h
    refine lv_iload_n hx hb dJ6_numberOfTrailingZeros_0f7a4_49 rfl (lv_at hl 0 rfl) ?_
    refine lv_bipush (v := 16) hx hb dJ6_numberOfTrailingZeros_0f7a4_50 (by decide) ?_
    refine lv_icmp_le (tgt := 62) hx hb dJ6_numberOfTrailingZeros_0f7a4_52 (by decide) (fun c52 => ?_) (fun c52 => ?_)
    · have h := k_if c52 h
      exact hB62 _ _ _ _ _ h hP (lv_sub hl [0, 1] rfl)
    · have h := k_nf c52 h
      obtain ⟨x10, ex10, h⟩ := k_ltx h
      refine lv_iinc (v := x10) (lv' := [(1, .int x10), (0, .int x4)]) hx hb dJ6_numberOfTrailingZeros_0f7a4_55 hl (k := 1) rfl (by rw [ex10]; rfl) (by decide) rfl (fun ls hl => ?_)
      refine lv_iload_n hx hb dJ6_numberOfTrailingZeros_0f7a4_58 rfl (lv_at hl 1 rfl) ?_
      refine lv_iconst (v := 4) hx hb dJ6_numberOfTrailingZeros_0f7a4_59 (by decide) ?_
      refine r_iushr hx hb dJ6_numberOfTrailingZeros_0f7a4_60 ?_
      refine lv_topi (fun x11 ex11 => ?_)
      have h := k_lt ex11 h
      refine lv_istore_n (lv' := [(0, .int x11), (1, .int x10)]) hx hb dJ6_numberOfTrailingZeros_0f7a4_61 rfl hl (by decide) rfl (fun ls hl => ?_)
      exact hB62 _ _ _ _ _ h hP (lv_sub hl [0, 1] rfl)
  have hB34 : ∀ (x2 : Int32) (x3 : Int32) (H : Heap) (locs : List Loc) (ls : Array Slot), f_J6_numberOfTrailingZeros_0f7a4_b34  x2 x3 = r → PS ev 0 ad w00 (inA ad 0) s H locs → lv_has ls 2 [(0, .int x2), (1, .int x3)] → WW ev p l e (rmk 0 0) s m args below meth c Qc ad 0 H locs 34 ls [] := by
    intro x2 x3 H locs ls h hP hl
    have h := (f_J6_numberOfTrailingZeros_0f7a4_b34.eq_1 _ _ ).symm.trans h
    refine lv_iload_n hx hb dJ6_numberOfTrailingZeros_0f7a4_34 rfl (lv_at hl 0 rfl) ?_
    refine lv_sipush (v := 256) hx hb dJ6_numberOfTrailingZeros_0f7a4_35 (by decide) ?_
    refine lv_icmp_le (tgt := 49) hx hb dJ6_numberOfTrailingZeros_0f7a4_38 (by decide) (fun c38 => ?_) (fun c38 => ?_)
    · have h := k_if c38 h
      exact hB49 _ _ _ _ _ h hP (lv_sub hl [0, 1] rfl)
    · have h := k_nf c38 h
      obtain ⟨x12, ex12, h⟩ := k_ltx h
      refine lv_iinc (v := x12) (lv' := [(1, .int x12), (0, .int x2)]) hx hb dJ6_numberOfTrailingZeros_0f7a4_41 hl (k := 1) rfl (by rw [ex12]; rfl) (by decide) rfl (fun ls hl => ?_)
      refine lv_iload_n hx hb dJ6_numberOfTrailingZeros_0f7a4_44 rfl (lv_at hl 1 rfl) ?_
      refine lv_bipush (v := 8) hx hb dJ6_numberOfTrailingZeros_0f7a4_45 (by decide) ?_
      refine r_iushr hx hb dJ6_numberOfTrailingZeros_0f7a4_47 ?_
      refine lv_topi (fun x13 ex13 => ?_)
      have h := k_lt ex13 h
      refine lv_istore_n (lv' := [(0, .int x13), (1, .int x12)]) hx hb dJ6_numberOfTrailingZeros_0f7a4_48 rfl hl (by decide) rfl (fun ls hl => ?_)
      exact hB49 _ _ _ _ _ h hP (lv_sub hl [0, 1] rfl)
  refine lv_iload_n hx hb dJ6_numberOfTrailingZeros_0f7a4_0 rfl (lv_at hl 0 rfl) ?_
  refine lv_iconst (v := (-1)) hx hb dJ6_numberOfTrailingZeros_0f7a4_1 (by decide) ?_
  refine lv_ixor hx hb dJ6_numberOfTrailingZeros_0f7a4_2 ?_
  refine lv_iload_n hx hb dJ6_numberOfTrailingZeros_0f7a4_3 rfl (lv_at hl 0 rfl) ?_
  refine lv_iconst (v := 1) hx hb dJ6_numberOfTrailingZeros_0f7a4_4 (by decide) ?_
  refine lv_isub hx hb dJ6_numberOfTrailingZeros_0f7a4_5 ?_
  refine lv_iand hx hb dJ6_numberOfTrailingZeros_0f7a4_6 ?_
  refine lv_topi (fun x1 ex1 => ?_)
  have h := k_lt ex1 h
  refine lv_istore_n (lv' := [(0, .int x1)]) hx hb dJ6_numberOfTrailingZeros_0f7a4_7 rfl hl (by decide) rfl (fun ls hl => ?_)
  refine lv_iload_n hx hb dJ6_numberOfTrailingZeros_0f7a4_8 rfl (lv_at hl 0 rfl) ?_
  refine lv_if_gt (tgt := 17) hx hb dJ6_numberOfTrailingZeros_0f7a4_9 (by decide) (fun c9 => ?_) (fun c9 => ?_)
  · have h := k_if c9 h
    refine lv_iconst (v := 1) hx hb dJ6_numberOfTrailingZeros_0f7a4_17 (by decide) ?_
    refine lv_istore_n (lv' := [(1, .int 1), (0, .int x1)]) hx hb dJ6_numberOfTrailingZeros_0f7a4_18 rfl hl (by decide) rfl (fun ls hl => ?_)
    refine lv_iload_n hx hb dJ6_numberOfTrailingZeros_0f7a4_19 rfl (lv_at hl 1 rfl) ?_
    refine lv_ldcw (v := 65536) hx hb C.2.2.2.2.2.1 (C.2.2.2.2.1 _ qCT_RJ6_264) dJ6_numberOfTrailingZeros_0f7a4_20 ?_
    refine lv_icmp_le (tgt := 34) hx hb dJ6_numberOfTrailingZeros_0f7a4_23 (by decide) (fun c23 => ?_) (fun c23 => ?_)
    · have h := k_if c23 h
      exact hB34 _ _ _ _ _ h hP (lv_sub hl [1, 0] rfl)
    · have h := k_nf c23 h
      obtain ⟨x14, ex14, h⟩ := k_ltx h
      refine lv_iinc (v := x14) (lv' := [(1, .int x14), (0, .int x1)]) hx hb dJ6_numberOfTrailingZeros_0f7a4_26 hl (k := 0) rfl (by rw [ex14]; rfl) (by decide) rfl (fun ls hl => ?_)
      refine lv_iload_n hx hb dJ6_numberOfTrailingZeros_0f7a4_29 rfl (lv_at hl 1 rfl) ?_
      refine lv_bipush (v := 16) hx hb dJ6_numberOfTrailingZeros_0f7a4_30 (by decide) ?_
      refine r_iushr hx hb dJ6_numberOfTrailingZeros_0f7a4_32 ?_
      refine lv_topi (fun x15 ex15 => ?_)
      have h := k_lt ex15 h
      refine lv_istore_n (lv' := [(0, .int x15), (1, .int x14)]) hx hb dJ6_numberOfTrailingZeros_0f7a4_33 rfl hl (by decide) rfl (fun ls hl => ?_)
      exact hB34 _ _ _ _ _ h hP (lv_sub hl [0, 1] rfl)
  · have h := k_nf c9 h
    refine lv_iload_n hx hb dJ6_numberOfTrailingZeros_0f7a4_12 rfl (lv_at hl 0 rfl) ?_
    refine lv_bipush (v := 32) hx hb dJ6_numberOfTrailingZeros_0f7a4_13 (by decide) ?_
    refine lv_iand hx hb dJ6_numberOfTrailingZeros_0f7a4_15 ?_
    exact e_iret C hend hP h rfl dJ6_numberOfTrailingZeros_0f7a4_16
def f_X4_parts_L4_b (σ : MM)  (rec4 : Int32 → Int32 → Option (Int32)) (x1 : Int32) (x2 : Int32) : Option (Int32) :=
  if ((m_w σ) * (m_h σ)) ≤ x2 then some x1 else ob (f_X4_partOf σ x2) (fun x3 => if (f_J6_numberOfTrailingZeros_0f7a4 x3) = x2 then lt (x1 + 1) (fun x5 => lt (x2 + 1) (fun x6 => rec4 x5 x6)) else lt (x2 + 1) (fun x4 => rec4 x1 x4))
def f_X4_parts_L4 (σ : MM)  (x1 : Int32) (x2 : Int32) : Option (Int32) :=
  lp (fun _ _ => none) (f_X4_parts_L4_b σ ) FU x1 x2
def f_X4_parts (σ : MM) : Option (Int32) :=
  f_X4_parts_L4 σ 0 0
set_option maxHeartbeats 4000000 in
set_option maxRecDepth 100000 in
theorem c_X4_parts (l : Launch) (ev : EV) (ad : Nat → Nat) (σ : MM)   (r : Int32)  (h : f_X4_parts σ = some r) : Ct l yX4_parts prog_6_method_93_code 3 (Option.some Jvm.ClassFile.FieldType.int) (rmk 5 114) ev 13 ad (mw ev ad σ) (mw ev ad σ) [.ref (ad 0)] (some (.int r)) := by
  refine Ct.of (by decide +kernel) (Nat.le_of_ble_eq_true rfl) ?_
  intro p e s m args below meth c Qc C hap hP hend ls hl
  have hAA : ∀ j, j < 13 → inA ad 13 (ad j) := fun j hj => ⟨j, hj, rfl⟩
  have hx := C.1
  have hb := C.2.1
  have hl : lv_has ls 3 [(0, .ref (ad 0))] := hl
  have h := (f_X4_parts.eq_1 _ ).symm.trans h
  refine lv_iconst (v := 0) hx hb dX4_parts_0 (by decide) ?_
  refine lv_istore_n (lv' := [(1, .int 0), (0, .ref (ad 0))]) hx hb dX4_parts_1 rfl hl (by decide) rfl (fun ls hl => ?_)
  refine lv_iconst (v := 0) hx hb dX4_parts_2 (by decide) ?_
  refine lv_istore_n (lv' := [(2, .int 0), (1, .int 0), (0, .ref (ad 0))]) hx hb dX4_parts_3 rfl hl (by decide) rfl (fun ls hl => ?_)
  have hL4 : ∀ (n : Nat) (x1 : Int32) (x2 : Int32) (H : Heap) (locs : List Loc) (ls : Array Slot), lp (fun _ _ => none) (f_X4_parts_L4_b σ ) n x1 x2 = some r → PS ev 13 ad (mw ev ad σ) (inA ad 13) s H locs → lv_has ls 3 [(0, .ref (ad 0)), (1, .int x1), (2, .int x2)] → WW ev p l e (rmk 5 114) s m args below meth c Qc ad 13 H locs 4 ls [] := by
    intro n
    induction n with
    | zero =>
      intro x1 x2 H locs ls h; exact k_none h
    | succ n ih =>
      intro x1 x2 H locs ls h hP hl
      have h : f_X4_parts_L4_b σ  (lp (fun _ _ => none) (f_X4_parts_L4_b σ ) n) x1 x2 = some r := h
      have h := (f_X4_parts_L4_b.eq_1 _ _ _ _ ).symm.trans h
      refine lv_iload_n hx hb dX4_parts_4 rfl (lv_at hl 2 rfl) ?_
      refine lv_aload_n hx hb dX4_parts_5 rfl (lv_at hl 0 rfl) ?_
      refine r_get C hP (ci := 4) rfl uin_X4 0 (by decide) 0 (by decide) rfl qFL_RX4_67 rfl rfl dX4_parts_6 ?_
      refine lv_aload_n hx hb dX4_parts_9 rfl (lv_at hl 0 rfl) ?_
      refine r_get C hP (ci := 4) rfl uin_X4 1 (by decide) 0 (by decide) rfl qFL_RX4_70 rfl rfl dX4_parts_10 ?_
      refine lv_imul hx hb dX4_parts_13 ?_
      refine lv_icmp_ge (tgt := 38) hx hb dX4_parts_14 (by decide) (fun c14 => ?_) (fun c14 => ?_)
      · have h := k_if c14 h
        refine lv_iload_n hx hb dX4_parts_38 rfl (lv_at hl 1 rfl) ?_
        exact e_iret C hend hP (k_some h) rfl dX4_parts_39
      · have h := k_nf c14 h
        refine lv_aload_n hx hb dX4_parts_17 rfl (lv_at hl 0 rfl) ?_
        refine lv_iload_n hx hb dX4_parts_18 rfl (lv_at hl 2 rfl) ?_
        obtain ⟨x3, h1, h⟩ := k_ob h
        refine k_callVi C hP hap hAA (c_X4_partOf l ev ad σ x2   _ h1) Emb.same hap gz_X4_partOf qML_RX4_283 qIM_yX4_partOf qSE_yX4_partOf ⟨(Nat.le_of_ble_eq_true rfl), (Nat.le_of_ble_eq_true rfl)⟩ (q0 := 0) rfl (by decide) rfl rfl rfl rfl hl.1 rfl (Nat.le_of_ble_eq_true rfl) dX4_parts_19 ⟨Nat.le_refl _, Nat.le_refl _⟩ (fun H locs hP => ?_)
        refine k_callSi C hP hap hAA (c_J6_numberOfTrailingZeros_0f7a4 l ev ad x3   _ rfl) Emb.none (apart_0 _) gz_J6_numberOfTrailingZeros_0f7a4 qML_RX4_286 qSM_yJ6_numberOfTrailingZeros_0f7a4 ⟨(Nat.le_of_ble_eq_true rfl), (Nat.le_of_ble_eq_true rfl)⟩ rfl hl.1 rfl (Nat.le_of_ble_eq_true rfl) dX4_parts_22 ⟨Nat.le_refl _, Nat.le_refl _⟩ (fun H locs hP => ?_)
        refine lv_iload_n hx hb dX4_parts_25 rfl (lv_at hl 2 rfl) ?_
        refine lv_icmp_ne (tgt := 32) hx hb dX4_parts_26 (by decide) (fun c26 => ?_) (fun c26 => ?_)
        · have h := k_nf c26 h
          obtain ⟨x4, ex4, h⟩ := k_ltx h
          refine lv_iinc (v := x4) (lv' := [(2, .int x4), (0, .ref (ad 0)), (1, .int x1)]) hx hb dX4_parts_32 hl (k := 2) rfl (by rw [ex4]; rfl) (by decide) rfl (fun ls hl => ?_)
          refine lv_goto (tgt := 4) hx hb dX4_parts_35 (by decide) ?_
          exact ih _ _ _ _ _ h hP (lv_sub hl [1, 2, 0] rfl)
        · have h := k_if c26 h
          obtain ⟨x5, ex5, h⟩ := k_ltx h
          refine lv_iinc (v := x5) (lv' := [(1, .int x5), (0, .ref (ad 0)), (2, .int x2)]) hx hb dX4_parts_29 hl (k := 1) rfl (by rw [ex5]; rfl) (by decide) rfl (fun ls hl => ?_)
          obtain ⟨x6, ex6, h⟩ := k_ltx h
          refine lv_iinc (v := x6) (lv' := [(2, .int x6), (1, .int x5), (0, .ref (ad 0))]) hx hb dX4_parts_32 hl (k := 2) rfl (by rw [ex6]; rfl) (by decide) rfl (fun ls hl => ?_)
          refine lv_goto (tgt := 4) hx hb dX4_parts_35 (by decide) ?_
          exact ih _ _ _ _ _ h hP (lv_sub hl [2, 1, 0] rfl)
  exact hL4 FU _ _ _ _ _ h hP (lv_sub hl [2, 1, 0] rfl)
def f_X4_ditches_L4_b (σ : MM)  (rec4 : Int32 → Int32 → Option (Int32)) (x1 : Int32) (x2 : Int32) : Option (Int32) :=
  if ((m_w σ) * (m_h σ)) ≤ x2 then some x1 else gd (inb x2 16) (if ((m_dug σ) (Int32.toNatClampNeg x2)) = 0 then lt (x2 + 1) (fun x3 => rec4 x1 x3) else ob (f_X4_ditchOf σ x2) (fun x4 => if (f_J6_numberOfTrailingZeros_0f7a4 x4) = x2 then lt (x1 + 1) (fun x6 => lt (x2 + 1) (fun x7 => rec4 x6 x7)) else lt (x2 + 1) (fun x5 => rec4 x1 x5)))
def f_X4_ditches_L4 (σ : MM)  (x1 : Int32) (x2 : Int32) : Option (Int32) :=
  lp (fun _ _ => none) (f_X4_ditches_L4_b σ ) FU x1 x2
def f_X4_ditches (σ : MM) : Option (Int32) :=
  f_X4_ditches_L4 σ 0 0
set_option maxHeartbeats 4000000 in
set_option maxRecDepth 100000 in
theorem c_X4_ditches (l : Launch) (ev : EV) (ad : Nat → Nat) (σ : MM)   (r : Int32)  (h : f_X4_ditches σ = some r) : Ct l yX4_ditches prog_6_method_94_code 3 (Option.some Jvm.ClassFile.FieldType.int) (rmk 5 115) ev 13 ad (mw ev ad σ) (mw ev ad σ) [.ref (ad 0)] (some (.int r)) := by
  refine Ct.of (by decide +kernel) (Nat.le_of_ble_eq_true rfl) ?_
  intro p e s m args below meth c Qc C hap hP hend ls hl
  have hAA : ∀ j, j < 13 → inA ad 13 (ad j) := fun j hj => ⟨j, hj, rfl⟩
  have hx := C.1
  have hb := C.2.1
  have hl : lv_has ls 3 [(0, .ref (ad 0))] := hl
  have h := (f_X4_ditches.eq_1 _ ).symm.trans h
  refine lv_iconst (v := 0) hx hb dX4_ditches_0 (by decide) ?_
  refine lv_istore_n (lv' := [(1, .int 0), (0, .ref (ad 0))]) hx hb dX4_ditches_1 rfl hl (by decide) rfl (fun ls hl => ?_)
  refine lv_iconst (v := 0) hx hb dX4_ditches_2 (by decide) ?_
  refine lv_istore_n (lv' := [(2, .int 0), (1, .int 0), (0, .ref (ad 0))]) hx hb dX4_ditches_3 rfl hl (by decide) rfl (fun ls hl => ?_)
  have hL4 : ∀ (n : Nat) (x1 : Int32) (x2 : Int32) (H : Heap) (locs : List Loc) (ls : Array Slot), lp (fun _ _ => none) (f_X4_ditches_L4_b σ ) n x1 x2 = some r → PS ev 13 ad (mw ev ad σ) (inA ad 13) s H locs → lv_has ls 3 [(0, .ref (ad 0)), (1, .int x1), (2, .int x2)] → WW ev p l e (rmk 5 115) s m args below meth c Qc ad 13 H locs 4 ls [] := by
    intro n
    induction n with
    | zero =>
      intro x1 x2 H locs ls h; exact k_none h
    | succ n ih =>
      intro x1 x2 H locs ls h hP hl
      have h : f_X4_ditches_L4_b σ  (lp (fun _ _ => none) (f_X4_ditches_L4_b σ ) n) x1 x2 = some r := h
      have h := (f_X4_ditches_L4_b.eq_1 _ _ _ _ ).symm.trans h
      refine lv_iload_n hx hb dX4_ditches_4 rfl (lv_at hl 2 rfl) ?_
      refine lv_aload_n hx hb dX4_ditches_5 rfl (lv_at hl 0 rfl) ?_
      refine r_get C hP (ci := 4) rfl uin_X4 0 (by decide) 0 (by decide) rfl qFL_RX4_67 rfl rfl dX4_ditches_6 ?_
      refine lv_aload_n hx hb dX4_ditches_9 rfl (lv_at hl 0 rfl) ?_
      refine r_get C hP (ci := 4) rfl uin_X4 1 (by decide) 0 (by decide) rfl qFL_RX4_70 rfl rfl dX4_ditches_10 ?_
      refine lv_imul hx hb dX4_ditches_13 ?_
      refine lv_icmp_ge (tgt := 47) hx hb dX4_ditches_14 (by decide) (fun c14 => ?_) (fun c14 => ?_)
      · have h := k_if c14 h
        refine lv_iload_n hx hb dX4_ditches_47 rfl (lv_at hl 1 rfl) ?_
        exact e_iret C hend hP (k_some h) rfl dX4_ditches_48
      · have h := k_nf c14 h
        refine lv_aload_n hx hb dX4_ditches_17 rfl (lv_at hl 0 rfl) ?_
        refine r_get C hP (ci := 4) rfl uin_X4 3 (by decide) 0 (by decide) rfl qFL_RX4_13 rfl rfl dX4_ditches_18 ?_
        refine lv_iload_n hx hb dX4_ditches_21 rfl (lv_at hl 2 rfl) ?_
        obtain ⟨hg, h⟩ := k_gd h
        refine r_zald C hP 2 (by decide) rfl hg dX4_ditches_22 ?_
        refine lv_if_eq (tgt := 41) hx hb dX4_ditches_23 (by decide) (fun c23 => ?_) (fun c23 => ?_)
        · have h := k_if c23 h
          obtain ⟨x3, ex3, h⟩ := k_ltx h
          refine lv_iinc (v := x3) (lv' := [(2, .int x3), (0, .ref (ad 0)), (1, .int x1)]) hx hb dX4_ditches_41 hl (k := 2) rfl (by rw [ex3]; rfl) (by decide) rfl (fun ls hl => ?_)
          refine lv_goto (tgt := 4) hx hb dX4_ditches_44 (by decide) ?_
          exact ih _ _ _ _ _ h hP (lv_sub hl [1, 2, 0] rfl)
        · have h := k_nf c23 h
          refine lv_aload_n hx hb dX4_ditches_26 rfl (lv_at hl 0 rfl) ?_
          refine lv_iload_n hx hb dX4_ditches_27 rfl (lv_at hl 2 rfl) ?_
          obtain ⟨x4, h1, h⟩ := k_ob h
          refine k_callVi C hP hap hAA (c_X4_ditchOf l ev ad σ x2   _ h1) Emb.same hap gz_X4_ditchOf qML_RX4_214 qIM_yX4_ditchOf qSE_yX4_ditchOf ⟨(Nat.le_of_ble_eq_true rfl), (Nat.le_of_ble_eq_true rfl)⟩ (q0 := 0) rfl (by decide) rfl rfl rfl rfl hl.1 rfl (Nat.le_of_ble_eq_true rfl) dX4_ditches_28 ⟨Nat.le_refl _, Nat.le_refl _⟩ (fun H locs hP => ?_)
          refine k_callSi C hP hap hAA (c_J6_numberOfTrailingZeros_0f7a4 l ev ad x4   _ rfl) Emb.none (apart_0 _) gz_J6_numberOfTrailingZeros_0f7a4 qML_RX4_286 qSM_yJ6_numberOfTrailingZeros_0f7a4 ⟨(Nat.le_of_ble_eq_true rfl), (Nat.le_of_ble_eq_true rfl)⟩ rfl hl.1 rfl (Nat.le_of_ble_eq_true rfl) dX4_ditches_31 ⟨Nat.le_refl _, Nat.le_refl _⟩ (fun H locs hP => ?_)
          refine lv_iload_n hx hb dX4_ditches_34 rfl (lv_at hl 2 rfl) ?_
          refine lv_icmp_ne (tgt := 41) hx hb dX4_ditches_35 (by decide) (fun c35 => ?_) (fun c35 => ?_)
          · have h := k_nf c35 h
            obtain ⟨x5, ex5, h⟩ := k_ltx h
            refine lv_iinc (v := x5) (lv' := [(2, .int x5), (0, .ref (ad 0)), (1, .int x1)]) hx hb dX4_ditches_41 hl (k := 2) rfl (by rw [ex5]; rfl) (by decide) rfl (fun ls hl => ?_)
            refine lv_goto (tgt := 4) hx hb dX4_ditches_44 (by decide) ?_
            exact ih _ _ _ _ _ h hP (lv_sub hl [1, 2, 0] rfl)
          · have h := k_if c35 h
            obtain ⟨x6, ex6, h⟩ := k_ltx h
            refine lv_iinc (v := x6) (lv' := [(1, .int x6), (0, .ref (ad 0)), (2, .int x2)]) hx hb dX4_ditches_38 hl (k := 1) rfl (by rw [ex6]; rfl) (by decide) rfl (fun ls hl => ?_)
            obtain ⟨x7, ex7, h⟩ := k_ltx h
            refine lv_iinc (v := x7) (lv' := [(2, .int x7), (1, .int x6), (0, .ref (ad 0))]) hx hb dX4_ditches_41 hl (k := 2) rfl (by rw [ex7]; rfl) (by decide) rfl (fun ls hl => ?_)
            refine lv_goto (tgt := 4) hx hb dX4_ditches_44 (by decide) ?_
            exact ih _ _ _ _ _ h hP (lv_sub hl [2, 1, 0] rfl)
  exact hL4 FU _ _ _ _ _ h hP (lv_sub hl [2, 1, 0] rfl)
