/-! functions read off, and their contracts: by program (wip/whole/gen2.py) -/
def f_X0_withTwo (σ : GG) (a1 : Int64) : Option (Int32) :=
  lt (f_X0_withAbove σ a1) (fun x1 => lt (f_X0_withBelow σ a1) (fun x2 => ob (f_X0_withUpright σ a1 0) (fun x3 => ob (f_X0_withUpright σ a1 1) (fun x4 => some ((((x1 ^^^ x2) &&& (x3 ^^^ x4)) ||| (((x1 &&& x2) &&& (x3 ^^^ (-1))) &&& (x4 ^^^ (-1)))) ||| (((x3 &&& x4) &&& (x1 ^^^ (-1))) &&& (x2 ^^^ (-1))))))))
set_option maxHeartbeats 4000000 in
set_option maxRecDepth 100000 in
theorem c_X0_withTwo (l : Launch) (ev : EV) (ad : Nat → Nat) (σ : GG) (a1 : Int64)   (r : Int32)  (h : f_X0_withTwo σ a1 = some r) : Ct l yX0_withTwo prog_2_method_22_code 7 (Option.some Jvm.ClassFile.FieldType.int) (rmk 1 26) ev 1 ad (gw1 σ) (gw1 σ) [.ref (ad 0), .long a1] (some (.int r)) := by
  refine Ct.of (by decide +kernel) (Nat.le_of_ble_eq_true rfl) ?_
  intro p e s m args below meth c Qc C hap hP hend ls hl
  have hAA : ∀ j, j < 1 → inA ad 1 (ad j) := fun j hj => ⟨j, hj, rfl⟩
  have hx := C.1
  have hb := C.2.1
  have hl : lv_has ls 7 [(0, .ref (ad 0)), (1, .long a1)] := hl
  have h := (f_X0_withTwo.eq_1 _ _ ).symm.trans h
  refine lv_aload_n hx hb dX0_withTwo_0 rfl (lv_at hl 0 rfl) ?_
  refine lv_lload_n hx hb dX0_withTwo_1 rfl (lv_at hl 1 rfl) ?_
  refine k_callVi C hP hap hAA (c_X0_withAbove l ev ad σ a1   _ rfl) Emb.same hap gz_X0_withAbove qML_RX0_84 qIM_yX0_withAbove qSE_yX0_withAbove ⟨(Nat.le_of_ble_eq_true rfl), (Nat.le_of_ble_eq_true rfl)⟩ (q0 := 0) rfl (by decide) rfl rfl rfl rfl hl.1 rfl (Nat.le_of_ble_eq_true rfl) dX0_withTwo_2 ⟨Nat.le_refl _, Nat.le_refl _⟩ (fun H locs hP => ?_)
  refine lv_topi (fun x1 ex1 => ?_)
  have h := k_lt ex1 h
  refine lv_istore_n (lv' := [(3, .int x1), (0, .ref (ad 0)), (1, .long a1)]) hx hb dX0_withTwo_5 rfl hl (by decide) rfl (fun ls hl => ?_)
  refine lv_aload_n hx hb dX0_withTwo_6 rfl (lv_at hl 1 rfl) ?_
  refine lv_lload_n hx hb dX0_withTwo_7 rfl (lv_at hl 2 rfl) ?_
  refine k_callVi C hP hap hAA (c_X0_withBelow l ev ad σ a1   _ rfl) Emb.same hap gz_X0_withBelow qML_RX0_88 qIM_yX0_withBelow qSE_yX0_withBelow ⟨(Nat.le_of_ble_eq_true rfl), (Nat.le_of_ble_eq_true rfl)⟩ (q0 := 0) rfl (by decide) rfl rfl rfl rfl hl.1 rfl (Nat.le_of_ble_eq_true rfl) dX0_withTwo_8 ⟨Nat.le_refl _, Nat.le_refl _⟩ (fun H locs hP => ?_)
  refine lv_topi (fun x2 ex2 => ?_)
  have h := k_lt ex2 h
  refine lv_istore (lv' := [(4, .int x2), (3, .int x1), (0, .ref (ad 0)), (1, .long a1)]) hx hb dX0_withTwo_11 hl (by decide) rfl (fun ls hl => ?_)
  refine lv_aload_n hx hb dX0_withTwo_13 rfl (lv_at hl 2 rfl) ?_
  refine lv_lload_n hx hb dX0_withTwo_14 rfl (lv_at hl 3 rfl) ?_
  refine lv_iconst (v := 0) hx hb dX0_withTwo_15 (by decide) ?_
  obtain ⟨x3, h1, h⟩ := k_ob h
  refine k_callVi C hP hap hAA (c_X0_withUpright l ev ad σ a1 0   _ h1) Emb.same hap gz_X0_withUpright qML_RX0_91 qIM_yX0_withUpright qSE_yX0_withUpright ⟨(Nat.le_of_ble_eq_true rfl), (Nat.le_of_ble_eq_true rfl)⟩ (q0 := 0) rfl (by decide) rfl rfl rfl rfl hl.1 rfl (Nat.le_of_ble_eq_true rfl) dX0_withTwo_16 ⟨Nat.le_refl _, Nat.le_refl _⟩ (fun H locs hP => ?_)
  refine lv_istore (lv' := [(5, .int x3), (4, .int x2), (3, .int x1), (0, .ref (ad 0)), (1, .long a1)]) hx hb dX0_withTwo_19 hl (by decide) rfl (fun ls hl => ?_)
  refine lv_aload_n hx hb dX0_withTwo_21 rfl (lv_at hl 3 rfl) ?_
  refine lv_lload_n hx hb dX0_withTwo_22 rfl (lv_at hl 4 rfl) ?_
  refine lv_iconst (v := 1) hx hb dX0_withTwo_23 (by decide) ?_
  obtain ⟨x4, h1, h⟩ := k_ob h
  refine k_callVi C hP hap hAA (c_X0_withUpright l ev ad σ a1 1   _ h1) Emb.same hap gz_X0_withUpright qML_RX0_91 qIM_yX0_withUpright qSE_yX0_withUpright ⟨(Nat.le_of_ble_eq_true rfl), (Nat.le_of_ble_eq_true rfl)⟩ (q0 := 0) rfl (by decide) rfl rfl rfl rfl hl.1 rfl (Nat.le_of_ble_eq_true rfl) dX0_withTwo_24 ⟨Nat.le_refl _, Nat.le_refl _⟩ (fun H locs hP => ?_)
  refine lv_istore (lv' := [(6, .int x4), (5, .int x3), (4, .int x2), (3, .int x1), (0, .ref (ad 0)), (1, .long a1)]) hx hb dX0_withTwo_27 hl (by decide) rfl (fun ls hl => ?_)
  refine lv_iload_n hx hb dX0_withTwo_29 rfl (lv_at hl 3 rfl) ?_
  refine lv_iload hx hb dX0_withTwo_30 (lv_at hl 2 rfl) ?_
  refine lv_ixor hx hb dX0_withTwo_32 ?_
  refine lv_iload hx hb dX0_withTwo_33 (lv_at hl 1 rfl) ?_
  refine lv_iload hx hb dX0_withTwo_35 (lv_at hl 0 rfl) ?_
  refine lv_ixor hx hb dX0_withTwo_37 ?_
  refine lv_iand hx hb dX0_withTwo_38 ?_
  refine lv_iload_n hx hb dX0_withTwo_39 rfl (lv_at hl 3 rfl) ?_
  refine lv_iload hx hb dX0_withTwo_40 (lv_at hl 2 rfl) ?_
  refine lv_iand hx hb dX0_withTwo_42 ?_
  refine lv_iload hx hb dX0_withTwo_43 (lv_at hl 1 rfl) ?_
  refine lv_iconst (v := (-1)) hx hb dX0_withTwo_45 (by decide) ?_
  refine lv_ixor hx hb dX0_withTwo_46 ?_
  refine lv_iand hx hb dX0_withTwo_47 ?_
  refine lv_iload hx hb dX0_withTwo_48 (lv_at hl 0 rfl) ?_
  refine lv_iconst (v := (-1)) hx hb dX0_withTwo_50 (by decide) ?_
  refine lv_ixor hx hb dX0_withTwo_51 ?_
  refine lv_iand hx hb dX0_withTwo_52 ?_
  refine lv_ior hx hb dX0_withTwo_53 ?_
  refine lv_iload hx hb dX0_withTwo_54 (lv_at hl 1 rfl) ?_
  refine lv_iload hx hb dX0_withTwo_56 (lv_at hl 0 rfl) ?_
  refine lv_iand hx hb dX0_withTwo_58 ?_
  refine lv_iload_n hx hb dX0_withTwo_59 rfl (lv_at hl 3 rfl) ?_
  refine lv_iconst (v := (-1)) hx hb dX0_withTwo_60 (by decide) ?_
  refine lv_ixor hx hb dX0_withTwo_61 ?_
  refine lv_iand hx hb dX0_withTwo_62 ?_
  refine lv_iload hx hb dX0_withTwo_63 (lv_at hl 2 rfl) ?_
  refine lv_iconst (v := (-1)) hx hb dX0_withTwo_65 (by decide) ?_
  refine lv_ixor hx hb dX0_withTwo_66 ?_
  refine lv_iand hx hb dX0_withTwo_67 ?_
  refine lv_ior hx hb dX0_withTwo_68 ?_
  exact e_iret C hend hP (k_some h) rfl dX0_withTwo_69
def f_X0_around_L23_b (σ : GG) (a1 : Int32) (x1 : Int32)  (rec23 : Int64 → Int32 → Option (Int64)) (y3 : Int64) (x4 : Int32) : Option (Int64) :=
  if (g_height σ) ≤ x4 then some y3 else lt ((iushr a1 (x4 * (g_width σ))) &&& x1) (fun x5 => lt (y3 ||| (lshl (Int32.toInt64 (x5 ||| (ishl x5 1))) ((g_uprights σ) + (x4 * ((g_width σ) + 1))))) (fun y6 => lt (x4 + 1) (fun x7 => rec23 y6 x7)))
def f_X0_around_L23 (σ : GG) (a1 : Int32) (x1 : Int32)  (y3 : Int64) (x4 : Int32) : Option (Int64) :=
  lp (fun _ _ => none) (f_X0_around_L23_b σ a1 x1 ) FU y3 x4
def f_X0_around (σ : GG) (a1 : Int32) : Option (Int64) :=
  lt ((ishl 1 (g_width σ)) - 1) (fun x1 => lt ((Int32.toInt64 a1) ||| (lshl (Int32.toInt64 a1) (g_width σ))) (fun y2 => f_X0_around_L23 σ a1 x1 y2 0))
set_option maxHeartbeats 4000000 in
set_option maxRecDepth 100000 in
theorem c_X0_around (l : Launch) (ev : EV) (ad : Nat → Nat) (σ : GG) (a1 : Int32)   (r : Int64)  (h : f_X0_around σ a1 = some r) : Ct l yX0_around prog_2_method_23_code 7 (Option.some Jvm.ClassFile.FieldType.long) (rmk 0 0) ev 1 ad (gw1 σ) (gw1 σ) [.ref (ad 0), .int a1] (some (.long r)) := by
  refine Ct.of (by decide +kernel) (Nat.le_of_ble_eq_true rfl) ?_
  intro p e s m args below meth c Qc C hap hP hend ls hl
  have hAA : ∀ j, j < 1 → inA ad 1 (ad j) := fun j hj => ⟨j, hj, rfl⟩
  have hx := C.1
  have hb := C.2.1
  have hl : lv_has ls 7 [(0, .ref (ad 0)), (1, .int a1)] := hl
  have h := (f_X0_around.eq_1 _ _ ).symm.trans h
  refine lv_iconst (v := 1) hx hb dX0_around_0 (by decide) ?_
  refine lv_aload_n hx hb dX0_around_1 rfl (lv_at hl 0 rfl) ?_
  refine r_get C hP (ci := 0) rfl uin_X0 0 (by decide) 0 (by decide) rfl qFL_RX0_19 rfl rfl dX0_around_2 ?_
  refine r_ishl hx hb dX0_around_5 ?_
  refine lv_iconst (v := 1) hx hb dX0_around_6 (by decide) ?_
  refine lv_isub hx hb dX0_around_7 ?_
  refine lv_topi (fun x1 ex1 => ?_)
  have h := k_lt ex1 h
  refine lv_istore_n (lv' := [(2, .int x1), (0, .ref (ad 0)), (1, .int a1)]) hx hb dX0_around_8 rfl hl (by decide) rfl (fun ls hl => ?_)
  refine lv_iload_n hx hb dX0_around_9 rfl (lv_at hl 2 rfl) ?_
  refine lv_i2l hx hb dX0_around_10 rfl ?_
  refine lv_iload_n hx hb dX0_around_11 rfl (lv_at hl 2 rfl) ?_
  refine lv_i2l hx hb dX0_around_12 rfl ?_
  refine lv_aload_n hx hb dX0_around_13 rfl (lv_at hl 1 rfl) ?_
  refine r_get C hP (ci := 0) rfl uin_X0 0 (by decide) 0 (by decide) rfl qFL_RX0_19 rfl rfl dX0_around_14 ?_
  refine r_lshl hx hb dX0_around_17 ?_
  refine lv_lor hx hb dX0_around_18 ?_
  refine lv_topl (fun y2 ey2 => ?_)
  have h := k_lt ey2 h
  refine lv_lstore_n (lv' := [(3, .long y2), (2, .int x1), (0, .ref (ad 0)), (1, .int a1)]) hx hb dX0_around_19 rfl hl (by decide) rfl (fun ls hl => ?_)
  refine lv_iconst (v := 0) hx hb dX0_around_20 (by decide) ?_
  refine lv_istore (lv' := [(5, .int 0), (3, .long y2), (2, .int x1), (0, .ref (ad 0)), (1, .int a1)]) hx hb dX0_around_21 hl (by decide) rfl (fun ls hl => ?_)
  have hL23 : ∀ (n : Nat) (y3 : Int64) (x4 : Int32) (H : Heap) (locs : List Loc) (ls : Array Slot), lp (fun _ _ => none) (f_X0_around_L23_b σ a1 x1 ) n y3 x4 = some r → PS ev 1 ad (gw1 σ) (inA ad 1) s H locs → lv_has ls 7 [(0, .ref (ad 0)), (1, .int a1), (2, .int x1), (3, .long y3), (5, .int x4)] → WW ev p l e (rmk 0 0) s m args below meth c Qc ad 1 H locs 23 ls [] := by
    intro n
    induction n with
    | zero =>
      intro y3 x4 H locs ls h; exact k_none h
    | succ n ih =>
      intro y3 x4 H locs ls h hP hl
      have h : f_X0_around_L23_b σ a1 x1  (lp (fun _ _ => none) (f_X0_around_L23_b σ a1 x1 ) n) y3 x4 = some r := h
      have h := (f_X0_around_L23_b.eq_1 _ _ _ _ _ _ ).symm.trans h
      refine lv_iload hx hb dX0_around_23 (lv_at hl 4 rfl) ?_
      refine lv_aload_n hx hb dX0_around_25 rfl (lv_at hl 0 rfl) ?_
      refine r_get C hP (ci := 0) rfl uin_X0 1 (by decide) 0 (by decide) rfl qFL_RX0_22 rfl rfl dX0_around_26 ?_
      refine lv_icmp_ge (tgt := 77) hx hb dX0_around_29 (by decide) (fun c29 => ?_) (fun c29 => ?_)
      · have h := k_if c29 h
        refine lv_lload_n hx hb dX0_around_77 rfl (lv_at hl 3 rfl) ?_
        exact e_lret C hend hP (k_some h) rfl dX0_around_78
      · have h := k_nf c29 h
        refine lv_iload_n hx hb dX0_around_32 rfl (lv_at hl 1 rfl) ?_
        refine lv_iload hx hb dX0_around_33 (lv_at hl 4 rfl) ?_
        refine lv_aload_n hx hb dX0_around_35 rfl (lv_at hl 0 rfl) ?_
        refine r_get C hP (ci := 0) rfl uin_X0 0 (by decide) 0 (by decide) rfl qFL_RX0_19 rfl rfl dX0_around_36 ?_
        refine lv_imul hx hb dX0_around_39 ?_
        refine r_iushr hx hb dX0_around_40 ?_
        refine lv_iload_n hx hb dX0_around_41 rfl (lv_at hl 2 rfl) ?_
        refine lv_iand hx hb dX0_around_42 ?_
        refine lv_topi (fun x5 ex5 => ?_)
        have h := k_lt ex5 h
        refine lv_istore (lv' := [(6, .int x5), (0, .ref (ad 0)), (1, .int a1), (2, .int x1), (3, .long y3), (5, .int x4)]) hx hb dX0_around_43 hl (by decide) rfl (fun ls hl => ?_)
        refine lv_lload_n hx hb dX0_around_45 rfl (lv_at hl 4 rfl) ?_
        refine lv_iload hx hb dX0_around_46 (lv_at hl 0 rfl) ?_
        refine lv_iload hx hb dX0_around_48 (lv_at hl 0 rfl) ?_
        refine lv_iconst (v := 1) hx hb dX0_around_50 (by decide) ?_
        refine r_ishl hx hb dX0_around_51 ?_
        refine lv_ior hx hb dX0_around_52 ?_
        refine lv_i2l hx hb dX0_around_53 rfl ?_
        refine lv_aload_n hx hb dX0_around_54 rfl (lv_at hl 1 rfl) ?_
        refine r_get C hP (ci := 0) rfl uin_X0 4 (by decide) 0 (by decide) rfl qFL_RX0_28 rfl rfl dX0_around_55 ?_
        refine lv_iload hx hb dX0_around_58 (lv_at hl 5 rfl) ?_
        refine lv_aload_n hx hb dX0_around_60 rfl (lv_at hl 1 rfl) ?_
        refine r_get C hP (ci := 0) rfl uin_X0 0 (by decide) 0 (by decide) rfl qFL_RX0_19 rfl rfl dX0_around_61 ?_
        refine lv_iconst (v := 1) hx hb dX0_around_64 (by decide) ?_
        refine lv_iadd hx hb dX0_around_65 ?_
        refine lv_imul hx hb dX0_around_66 ?_
        refine lv_iadd hx hb dX0_around_67 ?_
        refine r_lshl hx hb dX0_around_68 ?_
        refine lv_lor hx hb dX0_around_69 ?_
        refine lv_topl (fun y6 ey6 => ?_)
        have h := k_lt ey6 h
        refine lv_lstore_n (lv' := [(3, .long y6), (6, .int x5), (0, .ref (ad 0)), (1, .int a1), (2, .int x1), (5, .int x4)]) hx hb dX0_around_70 rfl hl (by decide) rfl (fun ls hl => ?_)
        obtain ⟨x7, ex7, h⟩ := k_ltx h
        refine lv_iinc (v := x7) (lv' := [(5, .int x7), (3, .long y6), (6, .int x5), (0, .ref (ad 0)), (1, .int a1), (2, .int x1)]) hx hb dX0_around_71 hl (k := 5) rfl (by rw [ex7]; rfl) (by decide) rfl (fun ls hl => ?_)
        refine lv_goto (tgt := 23) hx hb dX0_around_74 (by decide) ?_
        exact ih _ _ _ _ _ h hP (lv_sub hl [3, 4, 5, 1, 0] rfl)
  exact hL23 FU _ _ _ _ _ h hP (lv_sub hl [3, 4, 2, 1, 0] rfl)
def f_X0_beside (σ : GG) (a1 : Int32) (a2 : Int64) : Option (Int32) :=
  lt (iushr (a1 &&& ((f_X0_withAbove σ a2) ^^^ (-1))) (g_width σ)) (fun x1 => lt ((ishl (a1 &&& ((f_X0_withBelow σ a2) ^^^ (-1))) (g_width σ)) &&& (g_all σ)) (fun x2 => ob (f_X0_withUpright σ a2 0) (fun x3 => lt (iushr ((a1 &&& (x3 ^^^ (-1))) &&& ((g_leftmost σ) ^^^ (-1))) 1) (fun x4 => ob (f_X0_withUpright σ a2 1) (fun x5 => lt (ishl ((a1 &&& (x5 ^^^ (-1))) &&& ((g_rightmost σ) ^^^ (-1))) 1) (fun x6 => some (((x1 ||| x2) ||| x4) ||| x6)))))))
set_option maxHeartbeats 4000000 in
set_option maxRecDepth 100000 in
theorem c_X0_beside (l : Launch) (ev : EV) (ad : Nat → Nat) (σ : GG) (a1 : Int32) (a2 : Int64)   (r : Int32)  (h : f_X0_beside σ a1 a2 = some r) : Ct l yX0_beside prog_2_method_24_code 8 (Option.some Jvm.ClassFile.FieldType.int) (rmk 1 26) ev 1 ad (gw1 σ) (gw1 σ) [.ref (ad 0), .int a1, .long a2] (some (.int r)) := by
  refine Ct.of (by decide +kernel) (Nat.le_of_ble_eq_true rfl) ?_
  intro p e s m args below meth c Qc C hap hP hend ls hl
  have hAA : ∀ j, j < 1 → inA ad 1 (ad j) := fun j hj => ⟨j, hj, rfl⟩
  have hx := C.1
  have hb := C.2.1
  have hl : lv_has ls 8 [(0, .ref (ad 0)), (1, .int a1), (2, .long a2)] := hl
  have h := (f_X0_beside.eq_1 _ _ _ ).symm.trans h
  refine lv_iload_n hx hb dX0_beside_0 rfl (lv_at hl 1 rfl) ?_
  refine lv_aload_n hx hb dX0_beside_1 rfl (lv_at hl 0 rfl) ?_
  refine lv_lload_n hx hb dX0_beside_2 rfl (lv_at hl 2 rfl) ?_
  refine k_callVi C hP hap hAA (c_X0_withAbove l ev ad σ a2   _ rfl) Emb.same hap gz_X0_withAbove qML_RX0_84 qIM_yX0_withAbove qSE_yX0_withAbove ⟨(Nat.le_of_ble_eq_true rfl), (Nat.le_of_ble_eq_true rfl)⟩ (q0 := 0) rfl (by decide) rfl rfl rfl rfl hl.1 rfl (Nat.le_of_ble_eq_true rfl) dX0_beside_3 ⟨Nat.le_refl _, Nat.le_refl _⟩ (fun H locs hP => ?_)
  refine lv_iconst (v := (-1)) hx hb dX0_beside_6 (by decide) ?_
  refine lv_ixor hx hb dX0_beside_7 ?_
  refine lv_iand hx hb dX0_beside_8 ?_
  refine lv_aload_n hx hb dX0_beside_9 rfl (lv_at hl 0 rfl) ?_
  refine r_get C hP (ci := 0) rfl uin_X0 0 (by decide) 0 (by decide) rfl qFL_RX0_19 rfl rfl dX0_beside_10 ?_
  refine r_iushr hx hb dX0_beside_13 ?_
  refine lv_topi (fun x1 ex1 => ?_)
  have h := k_lt ex1 h
  refine lv_istore (lv' := [(4, .int x1), (0, .ref (ad 0)), (1, .int a1), (2, .long a2)]) hx hb dX0_beside_14 hl (by decide) rfl (fun ls hl => ?_)
  refine lv_iload_n hx hb dX0_beside_16 rfl (lv_at hl 2 rfl) ?_
  refine lv_aload_n hx hb dX0_beside_17 rfl (lv_at hl 1 rfl) ?_
  refine lv_lload_n hx hb dX0_beside_18 rfl (lv_at hl 3 rfl) ?_
  refine k_callVi C hP hap hAA (c_X0_withBelow l ev ad σ a2   _ rfl) Emb.same hap gz_X0_withBelow qML_RX0_88 qIM_yX0_withBelow qSE_yX0_withBelow ⟨(Nat.le_of_ble_eq_true rfl), (Nat.le_of_ble_eq_true rfl)⟩ (q0 := 0) rfl (by decide) rfl rfl rfl rfl hl.1 rfl (Nat.le_of_ble_eq_true rfl) dX0_beside_19 ⟨Nat.le_refl _, Nat.le_refl _⟩ (fun H locs hP => ?_)
  refine lv_iconst (v := (-1)) hx hb dX0_beside_22 (by decide) ?_
  refine lv_ixor hx hb dX0_beside_23 ?_
  refine lv_iand hx hb dX0_beside_24 ?_
  refine lv_aload_n hx hb dX0_beside_25 rfl (lv_at hl 1 rfl) ?_
  refine r_get C hP (ci := 0) rfl uin_X0 0 (by decide) 0 (by decide) rfl qFL_RX0_19 rfl rfl dX0_beside_26 ?_
  refine r_ishl hx hb dX0_beside_29 ?_
  refine lv_aload_n hx hb dX0_beside_30 rfl (lv_at hl 1 rfl) ?_
  refine r_get C hP (ci := 0) rfl uin_X0 5 (by decide) 0 (by decide) rfl qFL_RX0_34 rfl rfl dX0_beside_31 ?_
  refine lv_iand hx hb dX0_beside_34 ?_
  refine lv_topi (fun x2 ex2 => ?_)
  have h := k_lt ex2 h
  refine lv_istore (lv' := [(5, .int x2), (4, .int x1), (0, .ref (ad 0)), (1, .int a1), (2, .long a2)]) hx hb dX0_beside_35 hl (by decide) rfl (fun ls hl => ?_)
  refine lv_iload_n hx hb dX0_beside_37 rfl (lv_at hl 3 rfl) ?_
  refine lv_aload_n hx hb dX0_beside_38 rfl (lv_at hl 2 rfl) ?_
  refine lv_lload_n hx hb dX0_beside_39 rfl (lv_at hl 4 rfl) ?_
  refine lv_iconst (v := 0) hx hb dX0_beside_40 (by decide) ?_
  obtain ⟨x3, h1, h⟩ := k_ob h
  refine k_callVi C hP hap hAA (c_X0_withUpright l ev ad σ a2 0   _ h1) Emb.same hap gz_X0_withUpright qML_RX0_91 qIM_yX0_withUpright qSE_yX0_withUpright ⟨(Nat.le_of_ble_eq_true rfl), (Nat.le_of_ble_eq_true rfl)⟩ (q0 := 0) rfl (by decide) rfl rfl rfl rfl hl.1 rfl (Nat.le_of_ble_eq_true rfl) dX0_beside_41 ⟨Nat.le_refl _, Nat.le_refl _⟩ (fun H locs hP => ?_)
  refine lv_iconst (v := (-1)) hx hb dX0_beside_44 (by decide) ?_
  refine lv_ixor hx hb dX0_beside_45 ?_
  refine lv_iand hx hb dX0_beside_46 ?_
  refine lv_aload_n hx hb dX0_beside_47 rfl (lv_at hl 2 rfl) ?_
  refine r_get C hP (ci := 0) rfl uin_X0 6 (by decide) 0 (by decide) rfl qFL_RX0_37 rfl rfl dX0_beside_48 ?_
  refine lv_iconst (v := (-1)) hx hb dX0_beside_51 (by decide) ?_
  refine lv_ixor hx hb dX0_beside_52 ?_
  refine lv_iand hx hb dX0_beside_53 ?_
  refine lv_iconst (v := 1) hx hb dX0_beside_54 (by decide) ?_
  refine r_iushr hx hb dX0_beside_55 ?_
  refine lv_topi (fun x4 ex4 => ?_)
  have h := k_lt ex4 h
  refine lv_istore (lv' := [(6, .int x4), (5, .int x2), (4, .int x1), (0, .ref (ad 0)), (1, .int a1), (2, .long a2)]) hx hb dX0_beside_56 hl (by decide) rfl (fun ls hl => ?_)
  refine lv_iload_n hx hb dX0_beside_58 rfl (lv_at hl 4 rfl) ?_
  refine lv_aload_n hx hb dX0_beside_59 rfl (lv_at hl 3 rfl) ?_
  refine lv_lload_n hx hb dX0_beside_60 rfl (lv_at hl 5 rfl) ?_
  refine lv_iconst (v := 1) hx hb dX0_beside_61 (by decide) ?_
  obtain ⟨x5, h1, h⟩ := k_ob h
  refine k_callVi C hP hap hAA (c_X0_withUpright l ev ad σ a2 1   _ h1) Emb.same hap gz_X0_withUpright qML_RX0_91 qIM_yX0_withUpright qSE_yX0_withUpright ⟨(Nat.le_of_ble_eq_true rfl), (Nat.le_of_ble_eq_true rfl)⟩ (q0 := 0) rfl (by decide) rfl rfl rfl rfl hl.1 rfl (Nat.le_of_ble_eq_true rfl) dX0_beside_62 ⟨Nat.le_refl _, Nat.le_refl _⟩ (fun H locs hP => ?_)
  refine lv_iconst (v := (-1)) hx hb dX0_beside_65 (by decide) ?_
  refine lv_ixor hx hb dX0_beside_66 ?_
  refine lv_iand hx hb dX0_beside_67 ?_
  refine lv_aload_n hx hb dX0_beside_68 rfl (lv_at hl 3 rfl) ?_
  refine r_get C hP (ci := 0) rfl uin_X0 7 (by decide) 0 (by decide) rfl qFL_RX0_40 rfl rfl dX0_beside_69 ?_
  refine lv_iconst (v := (-1)) hx hb dX0_beside_72 (by decide) ?_
  refine lv_ixor hx hb dX0_beside_73 ?_
  refine lv_iand hx hb dX0_beside_74 ?_
  refine lv_iconst (v := 1) hx hb dX0_beside_75 (by decide) ?_
  refine r_ishl hx hb dX0_beside_76 ?_
  refine lv_topi (fun x6 ex6 => ?_)
  have h := k_lt ex6 h
  refine lv_istore (lv' := [(7, .int x6), (6, .int x4), (5, .int x2), (4, .int x1), (0, .ref (ad 0)), (1, .int a1), (2, .long a2)]) hx hb dX0_beside_77 hl (by decide) rfl (fun ls hl => ?_)
  refine lv_iload hx hb dX0_beside_79 (lv_at hl 3 rfl) ?_
  refine lv_iload hx hb dX0_beside_81 (lv_at hl 2 rfl) ?_
  refine lv_ior hx hb dX0_beside_83 ?_
  refine lv_iload hx hb dX0_beside_84 (lv_at hl 1 rfl) ?_
  refine lv_ior hx hb dX0_beside_86 ?_
  refine lv_iload hx hb dX0_beside_87 (lv_at hl 0 rfl) ?_
  refine lv_ior hx hb dX0_beside_89 ?_
  exact e_iret C hend hP (k_some h) rfl dX0_beside_90
def f_X0_hanging_L8_b (σ : GG) (a2 : Int32) (a3 : Int64)  (rec8 : Int32 → Int32 → Option (Int32)) (x2 : Int32) (x3 : Int32) : Option (Int32) :=
  if 16 ≤ x3 then some x2 else ob (f_X0_beside σ x2 a3) (fun x4 => lt ((x2 ||| x4) &&& a2) (fun x5 => if x5 = x2 then some x2 else lt (x3 + 1) (fun x6 => rec8 x5 x6)))
def f_X0_hanging_L8 (σ : GG) (a2 : Int32) (a3 : Int64)  (x2 : Int32) (x3 : Int32) : Option (Int32) :=
  lp (fun _ _ => none) (f_X0_hanging_L8_b σ a2 a3 ) FU x2 x3
def f_X0_hanging (σ : GG) (a1 : Int32) (a2 : Int32) (a3 : Int64) : Option (Int32) :=
  lt (a1 &&& a2) (fun x1 => f_X0_hanging_L8 σ a2 a3 x1 0)
set_option maxHeartbeats 4000000 in
set_option maxRecDepth 100000 in
theorem c_X0_hanging (l : Launch) (ev : EV) (ad : Nat → Nat) (σ : GG) (a1 : Int32) (a2 : Int32) (a3 : Int64)   (r : Int32)  (h : f_X0_hanging σ a1 a2 a3 = some r) : Ct l yX0_hanging prog_2_method_25_code 8 (Option.some Jvm.ClassFile.FieldType.int) (rmk 2 53) ev 1 ad (gw1 σ) (gw1 σ) [.ref (ad 0), .int a1, .int a2, .long a3] (some (.int r)) := by
  refine Ct.of (by decide +kernel) (Nat.le_of_ble_eq_true rfl) ?_
  intro p e s m args below meth c Qc C hap hP hend ls hl
  have hAA : ∀ j, j < 1 → inA ad 1 (ad j) := fun j hj => ⟨j, hj, rfl⟩
  have hx := C.1
  have hb := C.2.1
  have hl : lv_has ls 8 [(0, .ref (ad 0)), (1, .int a1), (2, .int a2), (3, .long a3)] := hl
  have h := (f_X0_hanging.eq_1 _ _ _ _ ).symm.trans h
  refine lv_iload_n hx hb dX0_hanging_0 rfl (lv_at hl 1 rfl) ?_
  refine lv_iload_n hx hb dX0_hanging_1 rfl (lv_at hl 2 rfl) ?_
  refine lv_iand hx hb dX0_hanging_2 ?_
  refine lv_topi (fun x1 ex1 => ?_)
  have h := k_lt ex1 h
  refine lv_istore (lv' := [(5, .int x1), (0, .ref (ad 0)), (1, .int a1), (2, .int a2), (3, .long a3)]) hx hb dX0_hanging_3 hl (by decide) rfl (fun ls hl => ?_)
  refine lv_iconst (v := 0) hx hb dX0_hanging_5 (by decide) ?_
  refine lv_istore (lv' := [(6, .int 0), (5, .int x1), (0, .ref (ad 0)), (1, .int a1), (2, .int a2), (3, .long a3)]) hx hb dX0_hanging_6 hl (by decide) rfl (fun ls hl => ?_)
  have hL8 : ∀ (n : Nat) (x2 : Int32) (x3 : Int32) (H : Heap) (locs : List Loc) (ls : Array Slot), lp (fun _ _ => none) (f_X0_hanging_L8_b σ a2 a3 ) n x2 x3 = some r → PS ev 1 ad (gw1 σ) (inA ad 1) s H locs → lv_has ls 8 [(0, .ref (ad 0)), (2, .int a2), (3, .long a3), (5, .int x2), (6, .int x3)] → WW ev p l e (rmk 2 53) s m args below meth c Qc ad 1 H locs 8 ls [] := by
    intro n
    induction n with
    | zero =>
      intro x2 x3 H locs ls h; exact k_none h
    | succ n ih =>
      intro x2 x3 H locs ls h hP hl
      have h : f_X0_hanging_L8_b σ a2 a3  (lp (fun _ _ => none) (f_X0_hanging_L8_b σ a2 a3 ) n) x2 x3 = some r := h
      have h := (f_X0_hanging_L8_b.eq_1 _ _ _ _ _ _ ).symm.trans h
      refine lv_iload hx hb dX0_hanging_8 (lv_at hl 4 rfl) ?_
      refine lv_bipush (v := 16) hx hb dX0_hanging_10 (by decide) ?_
      refine lv_icmp_ge (tgt := 49) hx hb dX0_hanging_12 (by decide) (fun c12 => ?_) (fun c12 => ?_)
      · have h := k_if c12 h
        refine lv_iload hx hb dX0_hanging_49 (lv_at hl 3 rfl) ?_
        exact e_iret C hend hP (k_some h) rfl dX0_hanging_51
      · have h := k_nf c12 h
        refine lv_iload hx hb dX0_hanging_15 (lv_at hl 3 rfl) ?_
        refine lv_aload_n hx hb dX0_hanging_17 rfl (lv_at hl 0 rfl) ?_
        refine lv_iload hx hb dX0_hanging_18 (lv_at hl 3 rfl) ?_
        refine lv_lload_n hx hb dX0_hanging_20 rfl (lv_at hl 2 rfl) ?_
        obtain ⟨x4, h1, h⟩ := k_ob h
        refine k_callVi C hP hap hAA (c_X0_beside l ev ad σ x2 a3   _ h1) Emb.same hap gz_X0_beside qML_RX0_95 qIM_yX0_beside qSE_yX0_beside ⟨(Nat.le_of_ble_eq_true rfl), (Nat.le_of_ble_eq_true rfl)⟩ (q0 := 0) rfl (by decide) rfl rfl rfl rfl hl.1 rfl (Nat.le_of_ble_eq_true rfl) dX0_hanging_21 ⟨Nat.le_refl _, Nat.le_refl _⟩ (fun H locs hP => ?_)
        refine lv_ior hx hb dX0_hanging_24 ?_
        refine lv_iload_n hx hb dX0_hanging_25 rfl (lv_at hl 1 rfl) ?_
        refine lv_iand hx hb dX0_hanging_26 ?_
        refine lv_topi (fun x5 ex5 => ?_)
        have h := k_lt ex5 h
        refine lv_istore (lv' := [(7, .int x5), (0, .ref (ad 0)), (2, .int a2), (3, .long a3), (5, .int x2), (6, .int x3)]) hx hb dX0_hanging_27 hl (by decide) rfl (fun ls hl => ?_)
        refine lv_iload hx hb dX0_hanging_29 (lv_at hl 0 rfl) ?_
        refine lv_iload hx hb dX0_hanging_31 (lv_at hl 4 rfl) ?_
        refine lv_icmp_ne (tgt := 39) hx hb dX0_hanging_33 (by decide) (fun c33 => ?_) (fun c33 => ?_)
        · have h := k_nf c33 h
          refine lv_iload hx hb dX0_hanging_39 (lv_at hl 0 rfl) ?_
          refine lv_istore (lv' := [(5, .int x5), (7, .int x5), (0, .ref (ad 0)), (2, .int a2), (3, .long a3), (6, .int x3)]) hx hb dX0_hanging_41 hl (by decide) rfl (fun ls hl => ?_)
          obtain ⟨x6, ex6, h⟩ := k_ltx h
          refine lv_iinc (v := x6) (lv' := [(6, .int x6), (5, .int x5), (7, .int x5), (0, .ref (ad 0)), (2, .int a2), (3, .long a3)]) hx hb dX0_hanging_43 hl (k := 5) rfl (by rw [ex6]; rfl) (by decide) rfl (fun ls hl => ?_)
          refine lv_goto (tgt := 8) hx hb dX0_hanging_46 (by decide) ?_
          exact ih _ _ _ _ _ h hP (lv_sub hl [3, 4, 5, 1, 0] rfl)
        · have h := k_if c33 h
          refine lv_goto (tgt := 49) hx hb dX0_hanging_36 (by decide) ?_
          refine lv_iload hx hb dX0_hanging_49 (lv_at hl 4 rfl) ?_
          exact e_iret C hend hP (k_some h) rfl dX0_hanging_51
  exact hL8 FU _ _ _ _ _ h hP (lv_sub hl [2, 4, 5, 1, 0] rfl)
def f_X0_countHanging_L9_b (σ : GG) (a1 : Int32) (a2 : Int64)  (rec9 : Int32 → Int32 → Int32 → Option (Int32)) (x1 : Int32) (x2 : Int32) (x3 : Int32) : Option (Int32) :=
  if 16 ≤ x3 then some x2 else if x1 = 0 then some x2 else ob (f_X0_hanging σ (x1 &&& (-x1)) a1 a2) (fun x4 => lt (x1 &&& (x4 ^^^ (-1))) (fun x5 => lt (x2 + 1) (fun x6 => lt (x3 + 1) (fun x7 => rec9 x5 x6 x7))))
def f_X0_countHanging_L9 (σ : GG) (a1 : Int32) (a2 : Int64)  (x1 : Int32) (x2 : Int32) (x3 : Int32) : Option (Int32) :=
  lp (fun _ _ _ => none) (f_X0_countHanging_L9_b σ a1 a2 ) FU x1 x2 x3
def f_X0_countHanging (σ : GG) (a1 : Int32) (a2 : Int64) : Option (Int32) :=
  f_X0_countHanging_L9 σ a1 a2 a1 0 0
set_option maxHeartbeats 4000000 in
set_option maxRecDepth 100000 in
theorem c_X0_countHanging (l : Launch) (ev : EV) (ad : Nat → Nat) (σ : GG) (a1 : Int32) (a2 : Int64)   (r : Int32)  (h : f_X0_countHanging σ a1 a2 = some r) : Ct l yX0_countHanging prog_2_method_26_code 7 (Option.some Jvm.ClassFile.FieldType.int) (rmk 3 80) ev 1 ad (gw1 σ) (gw1 σ) [.ref (ad 0), .int a1, .long a2] (some (.int r)) := by
  refine Ct.of (by decide +kernel) (Nat.le_of_ble_eq_true rfl) ?_
  intro p e s m args below meth c Qc C hap hP hend ls hl
  have hAA : ∀ j, j < 1 → inA ad 1 (ad j) := fun j hj => ⟨j, hj, rfl⟩
  have hx := C.1
  have hb := C.2.1
  have hl : lv_has ls 7 [(0, .ref (ad 0)), (1, .int a1), (2, .long a2)] := hl
  have h := (f_X0_countHanging.eq_1 _ _ _ ).symm.trans h
  refine lv_iload_n hx hb dX0_countHanging_0 rfl (lv_at hl 1 rfl) ?_
  refine lv_istore (lv' := [(4, .int a1), (0, .ref (ad 0)), (1, .int a1), (2, .long a2)]) hx hb dX0_countHanging_1 hl (by decide) rfl (fun ls hl => ?_)
  refine lv_iconst (v := 0) hx hb dX0_countHanging_3 (by decide) ?_
  refine lv_istore (lv' := [(5, .int 0), (4, .int a1), (0, .ref (ad 0)), (1, .int a1), (2, .long a2)]) hx hb dX0_countHanging_4 hl (by decide) rfl (fun ls hl => ?_)
  refine lv_iconst (v := 0) hx hb dX0_countHanging_6 (by decide) ?_
  refine lv_istore (lv' := [(6, .int 0), (5, .int 0), (4, .int a1), (0, .ref (ad 0)), (1, .int a1), (2, .long a2)]) hx hb dX0_countHanging_7 hl (by decide) rfl (fun ls hl => ?_)
  have hL9 : ∀ (n : Nat) (x1 : Int32) (x2 : Int32) (x3 : Int32) (H : Heap) (locs : List Loc) (ls : Array Slot), lp (fun _ _ _ => none) (f_X0_countHanging_L9_b σ a1 a2 ) n x1 x2 x3 = some r → PS ev 1 ad (gw1 σ) (inA ad 1) s H locs → lv_has ls 7 [(0, .ref (ad 0)), (1, .int a1), (2, .long a2), (4, .int x1), (5, .int x2), (6, .int x3)] → WW ev p l e (rmk 3 80) s m args below meth c Qc ad 1 H locs 9 ls [] := by
    intro n
    induction n with
    | zero =>
      intro x1 x2 x3 H locs ls h; exact k_none h
    | succ n ih =>
      intro x1 x2 x3 H locs ls h hP hl
      have h : f_X0_countHanging_L9_b σ a1 a2  (lp (fun _ _ _ => none) (f_X0_countHanging_L9_b σ a1 a2 ) n) x1 x2 x3 = some r := h
      have h := (f_X0_countHanging_L9_b.eq_1 _ _ _ _ _ _ _ ).symm.trans h
      refine lv_iload hx hb dX0_countHanging_9 (lv_at hl 5 rfl) ?_
      refine lv_bipush (v := 16) hx hb dX0_countHanging_11 (by decide) ?_
      refine lv_icmp_ge (tgt := 49) hx hb dX0_countHanging_13 (by decide) (fun c13 => ?_) (fun c13 => ?_)
      · have h := k_if c13 h
        refine lv_iload hx hb dX0_countHanging_49 (lv_at hl 4 rfl) ?_
        exact e_iret C hend hP (k_some h) rfl dX0_countHanging_51
      · have h := k_nf c13 h
        refine lv_iload hx hb dX0_countHanging_16 (lv_at hl 3 rfl) ?_
        refine lv_if_eq (tgt := 49) hx hb dX0_countHanging_18 (by decide) (fun c18 => ?_) (fun c18 => ?_)
        · have h := k_if c18 h
          refine lv_iload hx hb dX0_countHanging_49 (lv_at hl 4 rfl) ?_
          exact e_iret C hend hP (k_some h) rfl dX0_countHanging_51
        · have h := k_nf c18 h
          refine lv_iload hx hb dX0_countHanging_21 (lv_at hl 3 rfl) ?_
          refine lv_aload_n hx hb dX0_countHanging_23 rfl (lv_at hl 0 rfl) ?_
          refine lv_iload hx hb dX0_countHanging_24 (lv_at hl 3 rfl) ?_
          refine lv_iload hx hb dX0_countHanging_26 (lv_at hl 3 rfl) ?_
          refine lv_ineg hx hb dX0_countHanging_28 ?_
          refine lv_iand hx hb dX0_countHanging_29 ?_
          refine lv_iload_n hx hb dX0_countHanging_30 rfl (lv_at hl 1 rfl) ?_
          refine lv_lload_n hx hb dX0_countHanging_31 rfl (lv_at hl 2 rfl) ?_
          obtain ⟨x4, h1, h⟩ := k_ob h
          refine k_callVi C hP hap hAA (c_X0_hanging l ev ad σ (x1 &&& (-x1)) a1 a2   _ h1) Emb.same hap gz_X0_hanging qML_RX0_99 qIM_yX0_hanging qSE_yX0_hanging ⟨(Nat.le_of_ble_eq_true rfl), (Nat.le_of_ble_eq_true rfl)⟩ (q0 := 0) rfl (by decide) rfl rfl rfl rfl hl.1 rfl (Nat.le_of_ble_eq_true rfl) dX0_countHanging_32 ⟨Nat.le_refl _, Nat.le_refl _⟩ (fun H locs hP => ?_)
          refine lv_iconst (v := (-1)) hx hb dX0_countHanging_35 (by decide) ?_
          refine lv_ixor hx hb dX0_countHanging_36 ?_
          refine lv_iand hx hb dX0_countHanging_37 ?_
          refine lv_topi (fun x5 ex5 => ?_)
          have h := k_lt ex5 h
          refine lv_istore (lv' := [(4, .int x5), (0, .ref (ad 0)), (1, .int a1), (2, .long a2), (5, .int x2), (6, .int x3)]) hx hb dX0_countHanging_38 hl (by decide) rfl (fun ls hl => ?_)
          obtain ⟨x6, ex6, h⟩ := k_ltx h
          refine lv_iinc (v := x6) (lv' := [(5, .int x6), (4, .int x5), (0, .ref (ad 0)), (1, .int a1), (2, .long a2), (6, .int x3)]) hx hb dX0_countHanging_40 hl (k := 4) rfl (by rw [ex6]; rfl) (by decide) rfl (fun ls hl => ?_)
          obtain ⟨x7, ex7, h⟩ := k_ltx h
          refine lv_iinc (v := x7) (lv' := [(6, .int x7), (5, .int x6), (4, .int x5), (0, .ref (ad 0)), (1, .int a1), (2, .long a2)]) hx hb dX0_countHanging_43 hl (k := 5) rfl (by rw [ex7]; rfl) (by decide) rfl (fun ls hl => ?_)
          refine lv_goto (tgt := 9) hx hb dX0_countHanging_46 (by decide) ?_
          exact ih _ _ _ _ _ _ h hP (lv_sub hl [3, 4, 5, 2, 1, 0] rfl)
  exact hL9 FU _ _ _ _ _ _ h hP (lv_sub hl [3, 4, 5, 2, 1, 0] rfl)
def f_X0_slotOf (σ : GG) (a1 : Int32) : Int32 :=
  if (f_X0_isEdge σ a1) = true then a1 else if a1 < 100 then (-1) else if (f_X0_isField σ (a1 - 100)) = true then ((a1 - 100) + 40) else (-1)
set_option maxHeartbeats 4000000 in
set_option maxRecDepth 100000 in
theorem c_X0_slotOf (l : Launch) (ev : EV) (ad : Nat → Nat) (σ : GG) (a1 : Int32)   (r : Int32)  (h : f_X0_slotOf σ a1 = r) : Ct l yX0_slotOf prog_2_method_27_code 2 (Option.some Jvm.ClassFile.FieldType.int) (rmk 1 21) ev 1 ad (gw1 σ) (gw1 σ) [.ref (ad 0), .int a1] (some (.int r)) := by
  refine Ct.of (by decide +kernel) (Nat.le_of_ble_eq_true rfl) ?_
  intro p e s m args below meth c Qc C hap hP hend ls hl
  have hAA : ∀ j, j < 1 → inA ad 1 (ad j) := fun j hj => ⟨j, hj, rfl⟩
  have hx := C.1
  have hb := C.2.1
  have hl : lv_has ls 2 [(0, .ref (ad 0)), (1, .int a1)] := hl
  have h := (f_X0_slotOf.eq_1 _ _ ).symm.trans h
  refine lv_aload_n hx hb dX0_slotOf_0 rfl (lv_at hl 0 rfl) ?_
  refine lv_iload_n hx hb dX0_slotOf_1 rfl (lv_at hl 1 rfl) ?_
  refine k_callVi C hP hap hAA (c_X0_isEdge l ev ad σ a1   _ rfl) Emb.same hap gz_X0_isEdge qML_RX0_103 qIM_yX0_isEdge qSE_yX0_isEdge ⟨(Nat.le_of_ble_eq_true rfl), (Nat.le_of_ble_eq_true rfl)⟩ (q0 := 0) rfl (by decide) rfl rfl rfl rfl hl.1 rfl (Nat.le_of_ble_eq_true rfl) dX0_slotOf_2 ⟨Nat.le_refl _, Nat.le_refl _⟩ (fun H locs hP => ?_)
  refine r_ifz_eq (tgt := 10) hx hb dX0_slotOf_5 (by decide) (fun c5 => ?_) (fun c5 => ?_)
  · have h := k_nf c5 h
    refine lv_iload_n hx hb dX0_slotOf_10 rfl (lv_at hl 1 rfl) ?_
    refine lv_bipush (v := 100) hx hb dX0_slotOf_11 (by decide) ?_
    refine lv_icmp_lt (tgt := 37) hx hb dX0_slotOf_13 (by decide) (fun c13 => ?_) (fun c13 => ?_)
    · have h := k_if c13 h
      refine lv_iconst (v := (-1)) hx hb dX0_slotOf_37 (by decide) ?_
      exact e_iret C hend hP h rfl dX0_slotOf_38
    · have h := k_nf c13 h
      refine lv_aload_n hx hb dX0_slotOf_16 rfl (lv_at hl 0 rfl) ?_
      refine lv_iload_n hx hb dX0_slotOf_17 rfl (lv_at hl 1 rfl) ?_
      refine lv_bipush (v := 100) hx hb dX0_slotOf_18 (by decide) ?_
      refine lv_isub hx hb dX0_slotOf_20 ?_
      refine k_callVi C hP hap hAA (c_X0_isField l ev ad σ (a1 - 100)   _ rfl) Emb.same hap gz_X0_isField qML_RX0_107 qIM_yX0_isField qSE_yX0_isField ⟨(Nat.le_of_ble_eq_true rfl), (Nat.le_of_ble_eq_true rfl)⟩ (q0 := 0) rfl (by decide) rfl rfl rfl rfl hl.1 rfl (Nat.le_of_ble_eq_true rfl) dX0_slotOf_21 ⟨Nat.le_refl _, Nat.le_refl _⟩ (fun H locs hP => ?_)
      refine r_ifz_eq (tgt := 37) hx hb dX0_slotOf_24 (by decide) (fun c24 => ?_) (fun c24 => ?_)
      · have h := k_nf c24 h
        refine lv_iconst (v := (-1)) hx hb dX0_slotOf_37 (by decide) ?_
        exact e_iret C hend hP h rfl dX0_slotOf_38
      · have h := k_if c24 h
        refine lv_iload_n hx hb dX0_slotOf_27 rfl (lv_at hl 1 rfl) ?_
        refine lv_bipush (v := 100) hx hb dX0_slotOf_28 (by decide) ?_
        refine lv_isub hx hb dX0_slotOf_30 ?_
        refine lv_bipush (v := 40) hx hb dX0_slotOf_31 (by decide) ?_
        refine lv_iadd hx hb dX0_slotOf_33 ?_
        refine lv_goto (tgt := 38) hx hb dX0_slotOf_34 (by decide) ?_
        exact e_iret C hend hP h rfl dX0_slotOf_38
  · have h := k_if c5 h
    refine lv_iload_n hx hb dX0_slotOf_8 rfl (lv_at hl 1 rfl) ?_
    exact e_iret C hend hP h rfl dX0_slotOf_9
def f_X0_freeEdges (σ : GG) : Int64 :=
  (((g_hedges σ) ^^^ (-1)) &&& ((lshl 1 (g_edges σ)) - 1))
set_option maxHeartbeats 4000000 in
set_option maxRecDepth 100000 in
theorem c_X0_freeEdges (l : Launch) (ev : EV) (ad : Nat → Nat) (σ : GG)   (r : Int64)  (h : f_X0_freeEdges σ = r) : Ct l yX0_freeEdges prog_2_method_28_code 1 (Option.some Jvm.ClassFile.FieldType.long) (rmk 0 0) ev 1 ad (gw1 σ) (gw1 σ) [.ref (ad 0)] (some (.long r)) := by
  refine Ct.of (by decide +kernel) (Nat.le_of_ble_eq_true rfl) ?_
  intro p e s m args below meth c Qc C hap hP hend ls hl
  have hAA : ∀ j, j < 1 → inA ad 1 (ad j) := fun j hj => ⟨j, hj, rfl⟩
  have hx := C.1
  have hb := C.2.1
  have hl : lv_has ls 1 [(0, .ref (ad 0))] := hl
  have h := (f_X0_freeEdges.eq_1 _ ).symm.trans h
  refine lv_aload_n hx hb dX0_freeEdges_0 rfl (lv_at hl 0 rfl) ?_
  refine r_get C hP (ci := 0) rfl uin_X0 9 (by decide) 0 (by decide) rfl qFL_RX0_57 rfl rfl dX0_freeEdges_1 ?_
  refine lv_ldc2 (v := (-1)) hx hb C.2.2.2.2.2.1 (C.2.2.2.2.1 _ qCL_RX0_110) dX0_freeEdges_4 ?_
  refine lv_lxor hx hb dX0_freeEdges_7 ?_
  refine lv_lconst (v := 1) hx hb dX0_freeEdges_8 (by decide) ?_
  refine lv_aload_n hx hb dX0_freeEdges_9 rfl (lv_at hl 0 rfl) ?_
  refine r_get C hP (ci := 0) rfl uin_X0 3 (by decide) 0 (by decide) rfl qFL_RX0_31 rfl rfl dX0_freeEdges_10 ?_
  refine r_lshl hx hb dX0_freeEdges_13 ?_
  refine lv_lconst (v := 1) hx hb dX0_freeEdges_14 (by decide) ?_
  refine lv_lsub hx hb dX0_freeEdges_15 ?_
  refine lv_land hx hb dX0_freeEdges_16 ?_
  exact e_lret C hend hP h rfl dX0_freeEdges_17
def f_X0_shutFields (σ : GG) : Int32 :=
  ((g_ownedBy0 σ) ||| (g_ownedBy1 σ))
set_option maxHeartbeats 4000000 in
set_option maxRecDepth 100000 in
theorem c_X0_shutFields (l : Launch) (ev : EV) (ad : Nat → Nat) (σ : GG)   (r : Int32)  (h : f_X0_shutFields σ = r) : Ct l yX0_shutFields prog_2_method_34_code 1 (Option.some Jvm.ClassFile.FieldType.int) (rmk 0 0) ev 1 ad (gw1 σ) (gw1 σ) [.ref (ad 0)] (some (.int r)) := by
  refine Ct.of (by decide +kernel) (Nat.le_of_ble_eq_true rfl) ?_
  intro p e s m args below meth c Qc C hap hP hend ls hl
  have hAA : ∀ j, j < 1 → inA ad 1 (ad j) := fun j hj => ⟨j, hj, rfl⟩
  have hx := C.1
  have hb := C.2.1
  have hl : lv_has ls 1 [(0, .ref (ad 0))] := hl
  have h := (f_X0_shutFields.eq_1 _ ).symm.trans h
  refine lv_aload_n hx hb dX0_shutFields_0 rfl (lv_at hl 0 rfl) ?_
  refine r_get C hP (ci := 0) rfl uin_X0 11 (by decide) 0 (by decide) rfl qFL_RX0_63 rfl rfl dX0_shutFields_1 ?_
  refine lv_aload_n hx hb dX0_shutFields_4 rfl (lv_at hl 0 rfl) ?_
  refine r_get C hP (ci := 0) rfl uin_X0 12 (by decide) 0 (by decide) rfl qFL_RX0_66 rfl rfl dX0_shutFields_5 ?_
  refine lv_ior hx hb dX0_shutFields_8 ?_
  exact e_iret C hend hP h rfl dX0_shutFields_9
def f_X0_softFields (σ : GG) : Int32 :=
  (((g_all σ) &&& ((g_dug σ) ^^^ (-1))) &&& ((f_X0_shutFields σ) ^^^ (-1)))
set_option maxHeartbeats 4000000 in
set_option maxRecDepth 100000 in
theorem c_X0_softFields (l : Launch) (ev : EV) (ad : Nat → Nat) (σ : GG)   (r : Int32)  (h : f_X0_softFields σ = r) : Ct l yX0_softFields prog_2_method_29_code 1 (Option.some Jvm.ClassFile.FieldType.int) (rmk 1 20) ev 1 ad (gw1 σ) (gw1 σ) [.ref (ad 0)] (some (.int r)) := by
  refine Ct.of (by decide +kernel) (Nat.le_of_ble_eq_true rfl) ?_
  intro p e s m args below meth c Qc C hap hP hend ls hl
  have hAA : ∀ j, j < 1 → inA ad 1 (ad j) := fun j hj => ⟨j, hj, rfl⟩
  have hx := C.1
  have hb := C.2.1
  have hl : lv_has ls 1 [(0, .ref (ad 0))] := hl
  have h := (f_X0_softFields.eq_1 _ ).symm.trans h
  refine lv_aload_n hx hb dX0_softFields_0 rfl (lv_at hl 0 rfl) ?_
  refine r_get C hP (ci := 0) rfl uin_X0 5 (by decide) 0 (by decide) rfl qFL_RX0_34 rfl rfl dX0_softFields_1 ?_
  refine lv_aload_n hx hb dX0_softFields_4 rfl (lv_at hl 0 rfl) ?_
  refine r_get C hP (ci := 0) rfl uin_X0 10 (by decide) 0 (by decide) rfl qFL_RX0_60 rfl rfl dX0_softFields_5 ?_
  refine lv_iconst (v := (-1)) hx hb dX0_softFields_8 (by decide) ?_
  refine lv_ixor hx hb dX0_softFields_9 ?_
  refine lv_iand hx hb dX0_softFields_10 ?_
  refine lv_aload_n hx hb dX0_softFields_11 rfl (lv_at hl 0 rfl) ?_
  refine k_callVi C hP hap hAA (c_X0_shutFields l ev ad σ   _ rfl) Emb.same hap gz_X0_shutFields qML_RX0_112 qIM_yX0_shutFields qSE_yX0_shutFields ⟨(Nat.le_of_ble_eq_true rfl), (Nat.le_of_ble_eq_true rfl)⟩ (q0 := 0) rfl (by decide) rfl rfl rfl rfl hl.1 rfl (Nat.le_of_ble_eq_true rfl) dX0_softFields_12 ⟨Nat.le_refl _, Nat.le_refl _⟩ (fun H locs hP => ?_)
  refine lv_iconst (v := (-1)) hx hb dX0_softFields_15 (by decide) ?_
  refine lv_ixor hx hb dX0_softFields_16 ?_
  refine lv_iand hx hb dX0_softFields_17 ?_
  exact e_iret C hend hP h rfl dX0_softFields_18
def f_X0_openSlots (σ : GG) : Int64 :=
  ((f_X0_freeEdges σ) ||| (lshl (Int32.toInt64 (f_X0_softFields σ)) 40))
set_option maxHeartbeats 4000000 in
set_option maxRecDepth 100000 in
theorem c_X0_openSlots (l : Launch) (ev : EV) (ad : Nat → Nat) (σ : GG)   (r : Int64)  (h : f_X0_openSlots σ = r) : Ct l yX0_openSlots prog_2_method_30_code 1 (Option.some Jvm.ClassFile.FieldType.long) (rmk 2 40) ev 1 ad (gw1 σ) (gw1 σ) [.ref (ad 0)] (some (.long r)) := by
  refine Ct.of (by decide +kernel) (Nat.le_of_ble_eq_true rfl) ?_
  intro p e s m args below meth c Qc C hap hP hend ls hl
  have hAA : ∀ j, j < 1 → inA ad 1 (ad j) := fun j hj => ⟨j, hj, rfl⟩
  have hx := C.1
  have hb := C.2.1
  have hl : lv_has ls 1 [(0, .ref (ad 0))] := hl
  have h := (f_X0_openSlots.eq_1 _ ).symm.trans h
  refine lv_aload_n hx hb dX0_openSlots_0 rfl (lv_at hl 0 rfl) ?_
  refine k_callVl C hP hap hAA (c_X0_freeEdges l ev ad σ   _ rfl) Emb.same hap gz_X0_freeEdges qML_RX0_116 qIM_yX0_freeEdges qSE_yX0_freeEdges ⟨(Nat.le_of_ble_eq_true rfl), (Nat.le_of_ble_eq_true rfl)⟩ (q0 := 0) rfl (by decide) rfl rfl rfl rfl hl.1 rfl (Nat.le_of_ble_eq_true rfl) dX0_openSlots_1 ⟨Nat.le_refl _, Nat.le_refl _⟩ (fun H locs hP => ?_)
  refine lv_aload_n hx hb dX0_openSlots_4 rfl (lv_at hl 0 rfl) ?_
  refine k_callVi C hP hap hAA (c_X0_softFields l ev ad σ   _ rfl) Emb.same hap gz_X0_softFields qML_RX0_120 qIM_yX0_softFields qSE_yX0_softFields ⟨(Nat.le_of_ble_eq_true rfl), (Nat.le_of_ble_eq_true rfl)⟩ (q0 := 0) rfl (by decide) rfl rfl rfl rfl hl.1 rfl (Nat.le_of_ble_eq_true rfl) dX0_openSlots_5 ⟨Nat.le_refl _, Nat.le_refl _⟩ (fun H locs hP => ?_)
  refine lv_i2l hx hb dX0_openSlots_8 rfl ?_
  refine lv_bipush (v := 40) hx hb dX0_openSlots_9 (by decide) ?_
  refine r_lshl hx hb dX0_openSlots_11 ?_
  refine lv_lor hx hb dX0_openSlots_12 ?_
  exact e_lret C hend hP h rfl dX0_openSlots_13
def f_X0_isOpen (σ : GG) (a1 : Int32) : Bool :=
  if (lg_cmp ((lushr (f_X0_openSlots σ) a1) &&& 1) 0) = 0 then false else true
set_option maxHeartbeats 4000000 in
set_option maxRecDepth 100000 in
theorem c_X0_isOpen (l : Launch) (ev : EV) (ad : Nat → Nat) (σ : GG) (a1 : Int32)   (r : Bool)  (h : f_X0_isOpen σ a1 = r) : Ct l yX0_isOpen prog_2_method_31_code 2 (Option.some Jvm.ClassFile.FieldType.boolean) (rmk 3 60) ev 1 ad (gw1 σ) (gw1 σ) [.ref (ad 0), .int a1] (some (.int (bi r))) := by
  refine Ct.of (by decide +kernel) (Nat.le_of_ble_eq_true rfl) ?_
  intro p e s m args below meth c Qc C hap hP hend ls hl
  have hAA : ∀ j, j < 1 → inA ad 1 (ad j) := fun j hj => ⟨j, hj, rfl⟩
  have hx := C.1
  have hb := C.2.1
  have hl : lv_has ls 2 [(0, .ref (ad 0)), (1, .int a1)] := hl
  have h := (f_X0_isOpen.eq_1 _ _ ).symm.trans h
  refine lv_aload_n hx hb dX0_isOpen_0 rfl (lv_at hl 0 rfl) ?_
  refine k_callVl C hP hap hAA (c_X0_openSlots l ev ad σ   _ rfl) Emb.same hap gz_X0_openSlots qML_RX0_123 qIM_yX0_openSlots qSE_yX0_openSlots ⟨(Nat.le_of_ble_eq_true rfl), (Nat.le_of_ble_eq_true rfl)⟩ (q0 := 0) rfl (by decide) rfl rfl rfl rfl hl.1 rfl (Nat.le_of_ble_eq_true rfl) dX0_isOpen_1 ⟨Nat.le_refl _, Nat.le_refl _⟩ (fun H locs hP => ?_)
  refine lv_iload_n hx hb dX0_isOpen_4 rfl (lv_at hl 1 rfl) ?_
  refine r_lushr hx hb dX0_isOpen_5 ?_
  refine lv_lconst (v := 1) hx hb dX0_isOpen_6 (by decide) ?_
  refine lv_land hx hb dX0_isOpen_7 ?_
  refine lv_lconst (v := 0) hx hb dX0_isOpen_8 (by decide) ?_
  refine W.lcmp hx hb dX0_isOpen_9 ?_
  refine lv_if_eq (tgt := 17) hx hb dX0_isOpen_10 (by decide) (fun c10 => ?_) (fun c10 => ?_)
  · have h := k_if c10 h
    refine lv_iconst (v := 0) hx hb dX0_isOpen_17 (by decide) ?_
    exact e_zret C hend hP h rfl dX0_isOpen_18 rfl
  · have h := k_nf c10 h
    refine lv_iconst (v := 1) hx hb dX0_isOpen_13 (by decide) ?_
    refine lv_goto (tgt := 18) hx hb dX0_isOpen_14 (by decide) ?_
    exact e_zret C hend hP h rfl dX0_isOpen_18 rfl
def f_X0_make_b82  (σ2 : GG) : Option GG :=
  lt (g_turn' σ2 (1 - (g_turn σ2))) (fun σ3 => lt (g_made' σ3 ((g_made σ3) + 1)) (fun σ4 => some σ4))
def f_X0_make_b64  (σ9 : GG) : Option GG :=
  f_X0_make_b82 σ9
def f_X0_make (σ : GG) (a1 : Int32) : Option GG :=
  if 40 ≤ a1 then lt (g_dug' σ ((g_dug σ) ||| (ishl 1 (a1 - 40)))) (fun σ1 => f_X0_make_b82 σ1) else lt (g_hedges' σ ((g_hedges σ) ||| (lshl 1 a1))) (fun σ5 => ob (f_X0_closed σ5 (g_hedges σ5)) (fun x6 => lt (x6 &&& ((f_X0_shutFields σ5) ^^^ (-1))) (fun x7 => if (g_turn σ5) = 0 then lt (g_ownedBy0' σ5 ((g_ownedBy0 σ5) ||| x7)) (fun σ10 => f_X0_make_b64 σ10) else lt (g_ownedBy1' σ5 ((g_ownedBy1 σ5) ||| x7)) (fun σ8 => f_X0_make_b64 σ8))))
set_option maxHeartbeats 4000000 in
set_option maxRecDepth 100000 in
theorem c_X0_make (l : Launch) (ev : EV) (ad : Nat → Nat) (σ : GG) (a1 : Int32)    (σ' : GG) (h : f_X0_make σ a1 = some σ') : Ct l yX0_make prog_2_method_32_code 3 (Option.none : Option Jvm.ClassFile.FieldType) (rmk 2 48) ev 1 ad (gw1 σ) (gw1 σ') [.ref (ad 0), .int a1] none := by
  refine Ct.of (by decide +kernel) (Nat.le_of_ble_eq_true rfl) ?_
  intro p e s m args below meth c Qc C hap hP hend ls hl
  have hAA : ∀ j, j < 1 → inA ad 1 (ad j) := fun j hj => ⟨j, hj, rfl⟩
  have hx := C.1
  have hb := C.2.1
  have hl : lv_has ls 3 [(0, .ref (ad 0)), (1, .int a1)] := hl
  have h := (f_X0_make.eq_1 _ _ ).symm.trans h
  have hB82 : ∀ (σ2 : GG) (H : Heap) (locs : List Loc) (ls : Array Slot), f_X0_make_b82  σ2 = some σ' → PS ev 1 ad (gw1 σ2) (inA ad 1) s H locs → lv_has ls 3 [(0, .ref (ad 0))] → WW ev p l e (rmk 2 48) s m args below meth c Qc ad 1 H locs 82 ls [] := by
    intro σ2 H locs ls h hP hl
    have h := (f_X0_make_b82.eq_1 _ ).symm.trans h
    refine lv_aload_n hx hb dX0_make_82 rfl (lv_at hl 0 rfl) ?_
    refine lv_iconst (v := 1) hx hb dX0_make_83 (by decide) ?_
    refine lv_aload_n hx hb dX0_make_84 rfl (lv_at hl 0 rfl) ?_
    refine r_get C hP (ci := 0) rfl uin_X0 13 (by decide) 0 (by decide) rfl qFL_RX0_69 rfl rfl dX0_make_85 ?_
    refine lv_isub hx hb dX0_make_88 ?_
    obtain ⟨σ3, eσ3, h⟩ := k_ltx h
    refine pt_G_X0_turn C hP hap hAA eσ3 qFL_RX0_69 dX0_make_89 (fun H locs hP => ?_)
    refine lv_aload_n hx hb dX0_make_92 rfl (lv_at hl 0 rfl) ?_
    refine lv_dup hx hb dX0_make_93 rfl ?_
    refine r_get C hP (ci := 0) rfl uin_X0 14 (by decide) 0 (by decide) rfl qFL_RX0_72 rfl rfl dX0_make_94 ?_
    refine lv_iconst (v := 1) hx hb dX0_make_97 (by decide) ?_
    refine lv_iadd hx hb dX0_make_98 ?_
    obtain ⟨σ4, eσ4, h⟩ := k_ltx h
    refine pt_G_X0_made C hP hap hAA eσ4 qFL_RX0_72 dX0_make_99 (fun H locs hP => ?_)
    exact e_vret C hend hP (congrArg (gw1) (k_some h)) dX0_make_102
  have hB64 : ∀ (σ9 : GG) (H : Heap) (locs : List Loc) (ls : Array Slot), f_X0_make_b64  σ9 = some σ' → PS ev 1 ad (gw1 σ9) (inA ad 1) s H locs → lv_has ls 3 [(0, .ref (ad 0))] → WW ev p l e (rmk 2 48) s m args below meth c Qc ad 1 H locs 64 ls [] := by
    intro σ9 H locs ls h hP hl
    have h := (f_X0_make_b64.eq_1 _ ).symm.trans h
    refine lv_goto (tgt := 82) hx hb dX0_make_64 (by decide) ?_
    exact hB82 _ _ _ _ h hP (lv_sub hl [0] rfl)
  refine lv_iload_n hx hb dX0_make_0 rfl (lv_at hl 1 rfl) ?_
  refine lv_bipush (v := 40) hx hb dX0_make_1 (by decide) ?_
  refine lv_icmp_ge (tgt := 67) hx hb dX0_make_3 (by decide) (fun c3 => ?_) (fun c3 => ?_)
  · have h := k_if c3 h
    refine lv_aload_n hx hb dX0_make_67 rfl (lv_at hl 0 rfl) ?_
    refine lv_dup hx hb dX0_make_68 rfl ?_
    refine r_get C hP (ci := 0) rfl uin_X0 10 (by decide) 0 (by decide) rfl qFL_RX0_60 rfl rfl dX0_make_69 ?_
    refine lv_iconst (v := 1) hx hb dX0_make_72 (by decide) ?_
    refine lv_iload_n hx hb dX0_make_73 rfl (lv_at hl 1 rfl) ?_
    refine lv_bipush (v := 40) hx hb dX0_make_74 (by decide) ?_
    refine lv_isub hx hb dX0_make_76 ?_
    refine r_ishl hx hb dX0_make_77 ?_
    refine lv_ior hx hb dX0_make_78 ?_
    obtain ⟨σ1, eσ1, h⟩ := k_ltx h
    refine pt_G_X0_dug C hP hap hAA eσ1 qFL_RX0_60 dX0_make_79 (fun H locs hP => ?_)
    exact hB82 _ _ _ _ h hP (lv_sub hl [0] rfl)
  · have h := k_nf c3 h
    refine lv_aload_n hx hb dX0_make_6 rfl (lv_at hl 0 rfl) ?_
    refine lv_dup hx hb dX0_make_7 rfl ?_
    refine r_get C hP (ci := 0) rfl uin_X0 9 (by decide) 0 (by decide) rfl qFL_RX0_57 rfl rfl dX0_make_8 ?_
    refine lv_lconst (v := 1) hx hb dX0_make_11 (by decide) ?_
    refine lv_iload_n hx hb dX0_make_12 rfl (lv_at hl 1 rfl) ?_
    refine r_lshl hx hb dX0_make_13 ?_
    refine lv_lor hx hb dX0_make_14 ?_
    obtain ⟨σ5, eσ5, h⟩ := k_ltx h
    refine pt_G_X0_hedges C hP hap hAA eσ5 qFL_RX0_57 dX0_make_15 (fun H locs hP => ?_)
    refine lv_aload_n hx hb dX0_make_18 rfl (lv_at hl 0 rfl) ?_
    refine lv_aload_n hx hb dX0_make_19 rfl (lv_at hl 0 rfl) ?_
    refine r_get C hP (ci := 0) rfl uin_X0 9 (by decide) 0 (by decide) rfl qFL_RX0_57 rfl rfl dX0_make_20 ?_
    obtain ⟨x6, h1, h⟩ := k_ob h
    refine k_callVi C hP hap hAA (c_X0_closed l ev ad σ5 (g_hedges σ5)   _ h1) Emb.same hap gz_X0_closed qML_RX0_126 qIM_yX0_closed qSE_yX0_closed ⟨(Nat.le_of_ble_eq_true rfl), (Nat.le_of_ble_eq_true rfl)⟩ (q0 := 0) rfl (by decide) rfl rfl rfl rfl hl.1 rfl (Nat.le_of_ble_eq_true rfl) dX0_make_23 ⟨Nat.le_refl _, Nat.le_refl _⟩ (fun H locs hP => ?_)
    refine lv_aload_n hx hb dX0_make_26 rfl (lv_at hl 0 rfl) ?_
    refine k_callVi C hP hap hAA (c_X0_shutFields l ev ad σ5   _ rfl) Emb.same hap gz_X0_shutFields qML_RX0_112 qIM_yX0_shutFields qSE_yX0_shutFields ⟨(Nat.le_of_ble_eq_true rfl), (Nat.le_of_ble_eq_true rfl)⟩ (q0 := 0) rfl (by decide) rfl rfl rfl rfl hl.1 rfl (Nat.le_of_ble_eq_true rfl) dX0_make_27 ⟨Nat.le_refl _, Nat.le_refl _⟩ (fun H locs hP => ?_)
    refine lv_iconst (v := (-1)) hx hb dX0_make_30 (by decide) ?_
    refine lv_ixor hx hb dX0_make_31 ?_
    refine lv_iand hx hb dX0_make_32 ?_
    refine lv_topi (fun x7 ex7 => ?_)
    have h := k_lt ex7 h
    refine lv_istore_n (lv' := [(2, .int x7), (0, .ref (ad 0)), (1, .int a1)]) hx hb dX0_make_33 rfl hl (by decide) rfl (fun ls hl => ?_)
    refine lv_aload_n hx hb dX0_make_34 rfl (lv_at hl 1 rfl) ?_
    refine r_get C hP (ci := 0) rfl uin_X0 13 (by decide) 0 (by decide) rfl qFL_RX0_69 rfl rfl dX0_make_35 ?_
    refine lv_if_ne (tgt := 54) hx hb dX0_make_38 (by decide) (fun c38 => ?_) (fun c38 => ?_)
    · have h := k_nf c38 h
      refine lv_aload_n hx hb dX0_make_54 rfl (lv_at hl 1 rfl) ?_
      refine lv_dup hx hb dX0_make_55 rfl ?_
      refine r_get C hP (ci := 0) rfl uin_X0 12 (by decide) 0 (by decide) rfl qFL_RX0_66 rfl rfl dX0_make_56 ?_
      refine lv_iload_n hx hb dX0_make_59 rfl (lv_at hl 0 rfl) ?_
      refine lv_ior hx hb dX0_make_60 ?_
      obtain ⟨σ8, eσ8, h⟩ := k_ltx h
      refine pt_G_X0_ownedBy1 C hP hap hAA eσ8 qFL_RX0_66 dX0_make_61 (fun H locs hP => ?_)
      exact hB64 _ _ _ _ h hP (lv_sub hl [1] rfl)
    · have h := k_if c38 h
      refine lv_aload_n hx hb dX0_make_41 rfl (lv_at hl 1 rfl) ?_
      refine lv_dup hx hb dX0_make_42 rfl ?_
      refine r_get C hP (ci := 0) rfl uin_X0 11 (by decide) 0 (by decide) rfl qFL_RX0_63 rfl rfl dX0_make_43 ?_
      refine lv_iload_n hx hb dX0_make_46 rfl (lv_at hl 0 rfl) ?_
      refine lv_ior hx hb dX0_make_47 ?_
      obtain ⟨σ10, eσ10, h⟩ := k_ltx h
      refine pt_G_X0_ownedBy0 C hP hap hAA eσ10 qFL_RX0_63 dX0_make_48 (fun H locs hP => ?_)
      refine lv_goto (tgt := 64) hx hb dX0_make_51 (by decide) ?_
      exact hB64 _ _ _ _ h hP (lv_sub hl [1] rfl)
def f_X0_unmake (σ : GG) (a1 : Int64) (a2 : Int32) (a3 : Int32) (a4 : Int32) : Option GG :=
  lt (g_hedges' σ a1) (fun σ1 => lt (g_dug' σ1 a2) (fun σ2 => lt (g_ownedBy0' σ2 a3) (fun σ3 => lt (g_ownedBy1' σ3 a4) (fun σ4 => lt (g_turn' σ4 (1 - (g_turn σ4))) (fun σ5 => lt (g_made' σ5 ((g_made σ5) - 1)) (fun σ6 => some σ6))))))
set_option maxHeartbeats 4000000 in
set_option maxRecDepth 100000 in
theorem c_X0_unmake (l : Launch) (ev : EV) (ad : Nat → Nat) (σ : GG) (a1 : Int64) (a2 : Int32) (a3 : Int32) (a4 : Int32)    (σ' : GG) (h : f_X0_unmake σ a1 a2 a3 a4 = some σ') : Ct l yX0_unmake prog_2_method_33_code 6 (Option.none : Option Jvm.ClassFile.FieldType) (rmk 0 0) ev 1 ad (gw1 σ) (gw1 σ') [.ref (ad 0), .long a1, .int a2, .int a3, .int a4] none := by
  refine Ct.of (by decide +kernel) (Nat.le_of_ble_eq_true rfl) ?_
  intro p e s m args below meth c Qc C hap hP hend ls hl
  have hAA : ∀ j, j < 1 → inA ad 1 (ad j) := fun j hj => ⟨j, hj, rfl⟩
  have hx := C.1
  have hb := C.2.1
  have hl : lv_has ls 6 [(0, .ref (ad 0)), (1, .long a1), (3, .int a2), (4, .int a3), (5, .int a4)] := hl
  have h := (f_X0_unmake.eq_1 _ _ _ _ _ ).symm.trans h
  refine lv_aload_n hx hb dX0_unmake_0 rfl (lv_at hl 0 rfl) ?_
  refine lv_lload_n hx hb dX0_unmake_1 rfl (lv_at hl 1 rfl) ?_
  obtain ⟨σ1, eσ1, h⟩ := k_ltx h
  refine pt_G_X0_hedges C hP hap hAA eσ1 qFL_RX0_57 dX0_unmake_2 (fun H locs hP => ?_)
  refine lv_aload_n hx hb dX0_unmake_5 rfl (lv_at hl 0 rfl) ?_
  refine lv_iload_n hx hb dX0_unmake_6 rfl (lv_at hl 2 rfl) ?_
  obtain ⟨σ2, eσ2, h⟩ := k_ltx h
  refine pt_G_X0_dug C hP hap hAA eσ2 qFL_RX0_60 dX0_unmake_7 (fun H locs hP => ?_)
  refine lv_aload_n hx hb dX0_unmake_10 rfl (lv_at hl 0 rfl) ?_
  refine lv_iload hx hb dX0_unmake_11 (lv_at hl 3 rfl) ?_
  obtain ⟨σ3, eσ3, h⟩ := k_ltx h
  refine pt_G_X0_ownedBy0 C hP hap hAA eσ3 qFL_RX0_63 dX0_unmake_13 (fun H locs hP => ?_)
  refine lv_aload_n hx hb dX0_unmake_16 rfl (lv_at hl 0 rfl) ?_
  refine lv_iload hx hb dX0_unmake_17 (lv_at hl 4 rfl) ?_
  obtain ⟨σ4, eσ4, h⟩ := k_ltx h
  refine pt_G_X0_ownedBy1 C hP hap hAA eσ4 qFL_RX0_66 dX0_unmake_19 (fun H locs hP => ?_)
  refine lv_aload_n hx hb dX0_unmake_22 rfl (lv_at hl 0 rfl) ?_
  refine lv_iconst (v := 1) hx hb dX0_unmake_23 (by decide) ?_
  refine lv_aload_n hx hb dX0_unmake_24 rfl (lv_at hl 0 rfl) ?_
  refine r_get C hP (ci := 0) rfl uin_X0 13 (by decide) 0 (by decide) rfl qFL_RX0_69 rfl rfl dX0_unmake_25 ?_
  refine lv_isub hx hb dX0_unmake_28 ?_
  obtain ⟨σ5, eσ5, h⟩ := k_ltx h
  refine pt_G_X0_turn C hP hap hAA eσ5 qFL_RX0_69 dX0_unmake_29 (fun H locs hP => ?_)
  refine lv_aload_n hx hb dX0_unmake_32 rfl (lv_at hl 0 rfl) ?_
  refine lv_dup hx hb dX0_unmake_33 rfl ?_
  refine r_get C hP (ci := 0) rfl uin_X0 14 (by decide) 0 (by decide) rfl qFL_RX0_72 rfl rfl dX0_unmake_34 ?_
  refine lv_iconst (v := 1) hx hb dX0_unmake_37 (by decide) ?_
  refine lv_isub hx hb dX0_unmake_38 ?_
  obtain ⟨σ6, eσ6, h⟩ := k_ltx h
  refine pt_G_X0_made C hP hap hAA eσ6 qFL_RX0_72 dX0_unmake_39 (fun H locs hP => ?_)
  exact e_vret C hend hP (congrArg (gw1) (k_some h)) dX0_unmake_42
def f_X0_ownedBy (σ : GG) (a1 : Int32) : Int32 :=
  if a1 = 0 then (g_ownedBy0 σ) else (g_ownedBy1 σ)
set_option maxHeartbeats 4000000 in
set_option maxRecDepth 100000 in
theorem c_X0_ownedBy (l : Launch) (ev : EV) (ad : Nat → Nat) (σ : GG) (a1 : Int32)   (r : Int32)  (h : f_X0_ownedBy σ a1 = r) : Ct l yX0_ownedBy prog_2_method_35_code 2 (Option.some Jvm.ClassFile.FieldType.int) (rmk 0 0) ev 1 ad (gw1 σ) (gw1 σ) [.ref (ad 0), .int a1] (some (.int r)) := by
  refine Ct.of (by decide +kernel) (Nat.le_of_ble_eq_true rfl) ?_
  intro p e s m args below meth c Qc C hap hP hend ls hl
  have hAA : ∀ j, j < 1 → inA ad 1 (ad j) := fun j hj => ⟨j, hj, rfl⟩
  have hx := C.1
  have hb := C.2.1
  have hl : lv_has ls 2 [(0, .ref (ad 0)), (1, .int a1)] := hl
  have h := (f_X0_ownedBy.eq_1 _ _ ).symm.trans h
  refine lv_iload_n hx hb dX0_ownedBy_0 rfl (lv_at hl 1 rfl) ?_
  refine lv_if_ne (tgt := 11) hx hb dX0_ownedBy_1 (by decide) (fun c1 => ?_) (fun c1 => ?_)
  · have h := k_nf c1 h
    refine lv_aload_n hx hb dX0_ownedBy_11 rfl (lv_at hl 0 rfl) ?_
    refine r_get C hP (ci := 0) rfl uin_X0 12 (by decide) 0 (by decide) rfl qFL_RX0_66 rfl rfl dX0_ownedBy_12 ?_
    exact e_iret C hend hP h rfl dX0_ownedBy_15
  · have h := k_if c1 h
    refine lv_aload_n hx hb dX0_ownedBy_4 rfl (lv_at hl 0 rfl) ?_
    refine r_get C hP (ci := 0) rfl uin_X0 11 (by decide) 0 (by decide) rfl qFL_RX0_63 rfl rfl dX0_ownedBy_5 ?_
    refine lv_goto (tgt := 15) hx hb dX0_ownedBy_8 (by decide) ?_
    exact e_iret C hend hP h rfl dX0_ownedBy_15
def f_X0_drainedFields (σ : GG) : Option (Int32) :=
  ob (f_X0_touched σ ((g_rimEdges σ) &&& ((g_hedges σ) ^^^ (-1)))) (fun x1 => ob (f_X0_hanging σ x1 (g_dug σ) 0) (fun x2 => some x2))
set_option maxHeartbeats 4000000 in
set_option maxRecDepth 100000 in
theorem c_X0_drainedFields (l : Launch) (ev : EV) (ad : Nat → Nat) (σ : GG)   (r : Int32)  (h : f_X0_drainedFields σ = some r) : Ct l yX0_drainedFields prog_2_method_36_code 1 (Option.some Jvm.ClassFile.FieldType.int) (rmk 3 80) ev 1 ad (gw1 σ) (gw1 σ) [.ref (ad 0)] (some (.int r)) := by
  refine Ct.of (by decide +kernel) (Nat.le_of_ble_eq_true rfl) ?_
  intro p e s m args below meth c Qc C hap hP hend ls hl
  have hAA : ∀ j, j < 1 → inA ad 1 (ad j) := fun j hj => ⟨j, hj, rfl⟩
  have hx := C.1
  have hb := C.2.1
  have hl : lv_has ls 1 [(0, .ref (ad 0))] := hl
  have h := (f_X0_drainedFields.eq_1 _ ).symm.trans h
  refine lv_aload_n hx hb dX0_drainedFields_0 rfl (lv_at hl 0 rfl) ?_
  refine lv_aload_n hx hb dX0_drainedFields_1 rfl (lv_at hl 0 rfl) ?_
  refine lv_aload_n hx hb dX0_drainedFields_2 rfl (lv_at hl 0 rfl) ?_
  refine r_get C hP (ci := 0) rfl uin_X0 8 (by decide) 0 (by decide) rfl qFL_RX0_43 rfl rfl dX0_drainedFields_3 ?_
  refine lv_aload_n hx hb dX0_drainedFields_6 rfl (lv_at hl 0 rfl) ?_
  refine r_get C hP (ci := 0) rfl uin_X0 9 (by decide) 0 (by decide) rfl qFL_RX0_57 rfl rfl dX0_drainedFields_7 ?_
  refine lv_ldc2 (v := (-1)) hx hb C.2.2.2.2.2.1 (C.2.2.2.2.1 _ qCL_RX0_110) dX0_drainedFields_10 ?_
  refine lv_lxor hx hb dX0_drainedFields_13 ?_
  refine lv_land hx hb dX0_drainedFields_14 ?_
  obtain ⟨x1, h1, h⟩ := k_ob h
  refine k_callVi C hP hap hAA (c_X0_touched l ev ad σ ((g_rimEdges σ) &&& ((g_hedges σ) ^^^ (-1)))   _ h1) Emb.same hap gz_X0_touched qML_RX0_129 qIM_yX0_touched qSE_yX0_touched ⟨(Nat.le_of_ble_eq_true rfl), (Nat.le_of_ble_eq_true rfl)⟩ (q0 := 0) rfl (by decide) rfl rfl rfl rfl hl.1 rfl (Nat.le_of_ble_eq_true rfl) dX0_drainedFields_15 ⟨Nat.le_refl _, Nat.le_refl _⟩ (fun H locs hP => ?_)
  refine lv_aload_n hx hb dX0_drainedFields_18 rfl (lv_at hl 0 rfl) ?_
  refine r_get C hP (ci := 0) rfl uin_X0 10 (by decide) 0 (by decide) rfl qFL_RX0_60 rfl rfl dX0_drainedFields_19 ?_
  refine lv_lconst (v := 0) hx hb dX0_drainedFields_22 (by decide) ?_
  obtain ⟨x2, h1, h⟩ := k_ob h
  refine k_callVi C hP hap hAA (c_X0_hanging l ev ad σ x1 (g_dug σ) 0   _ h1) Emb.same hap gz_X0_hanging qML_RX0_99 qIM_yX0_hanging qSE_yX0_hanging ⟨(Nat.le_of_ble_eq_true rfl), (Nat.le_of_ble_eq_true rfl)⟩ (q0 := 0) rfl (by decide) rfl rfl rfl rfl hl.1 rfl (Nat.le_of_ble_eq_true rfl) dX0_drainedFields_23 ⟨Nat.le_refl _, Nat.le_refl _⟩ (fun H locs hP => ?_)
  exact e_iret C hend hP (k_some h) rfl dX0_drainedFields_26
def f_X0_dryFields (σ : GG) : Option (Int32) :=
  ob (f_X0_drainedFields σ) (fun x1 => ob (f_X0_beside σ x1 0) (fun x2 => some ((g_all σ) &&& ((x1 ||| x2) ^^^ (-1)))))
set_option maxHeartbeats 4000000 in
set_option maxRecDepth 100000 in
theorem c_X0_dryFields (l : Launch) (ev : EV) (ad : Nat → Nat) (σ : GG)   (r : Int32)  (h : f_X0_dryFields σ = some r) : Ct l yX0_dryFields prog_2_method_37_code 2 (Option.some Jvm.ClassFile.FieldType.int) (rmk 4 100) ev 1 ad (gw1 σ) (gw1 σ) [.ref (ad 0)] (some (.int r)) := by
  refine Ct.of (by decide +kernel) (Nat.le_of_ble_eq_true rfl) ?_
  intro p e s m args below meth c Qc C hap hP hend ls hl
  have hAA : ∀ j, j < 1 → inA ad 1 (ad j) := fun j hj => ⟨j, hj, rfl⟩
  have hx := C.1
  have hb := C.2.1
  have hl : lv_has ls 2 [(0, .ref (ad 0))] := hl
  have h := (f_X0_dryFields.eq_1 _ ).symm.trans h
  refine lv_aload_n hx hb dX0_dryFields_0 rfl (lv_at hl 0 rfl) ?_
  obtain ⟨x1, h1, h⟩ := k_ob h
  refine k_callVi C hP hap hAA (c_X0_drainedFields l ev ad σ   _ h1) Emb.same hap gz_X0_drainedFields qML_RX0_132 qIM_yX0_drainedFields qSE_yX0_drainedFields ⟨(Nat.le_of_ble_eq_true rfl), (Nat.le_of_ble_eq_true rfl)⟩ (q0 := 0) rfl (by decide) rfl rfl rfl rfl hl.1 rfl (Nat.le_of_ble_eq_true rfl) dX0_dryFields_1 ⟨Nat.le_refl _, Nat.le_refl _⟩ (fun H locs hP => ?_)
  refine lv_istore_n (lv' := [(1, .int x1), (0, .ref (ad 0))]) hx hb dX0_dryFields_4 rfl hl (by decide) rfl (fun ls hl => ?_)
  refine lv_aload_n hx hb dX0_dryFields_5 rfl (lv_at hl 1 rfl) ?_
  refine r_get C hP (ci := 0) rfl uin_X0 5 (by decide) 0 (by decide) rfl qFL_RX0_34 rfl rfl dX0_dryFields_6 ?_
  refine lv_iload_n hx hb dX0_dryFields_9 rfl (lv_at hl 0 rfl) ?_
  refine lv_aload_n hx hb dX0_dryFields_10 rfl (lv_at hl 1 rfl) ?_
  refine lv_iload_n hx hb dX0_dryFields_11 rfl (lv_at hl 0 rfl) ?_
  refine lv_lconst (v := 0) hx hb dX0_dryFields_12 (by decide) ?_
  obtain ⟨x2, h1, h⟩ := k_ob h
  refine k_callVi C hP hap hAA (c_X0_beside l ev ad σ x1 0   _ h1) Emb.same hap gz_X0_beside qML_RX0_95 qIM_yX0_beside qSE_yX0_beside ⟨(Nat.le_of_ble_eq_true rfl), (Nat.le_of_ble_eq_true rfl)⟩ (q0 := 0) rfl (by decide) rfl rfl rfl rfl hl.1 rfl (Nat.le_of_ble_eq_true rfl) dX0_dryFields_13 ⟨Nat.le_refl _, Nat.le_refl _⟩ (fun H locs hP => ?_)
  refine lv_ior hx hb dX0_dryFields_16 ?_
  refine lv_iconst (v := (-1)) hx hb dX0_dryFields_17 (by decide) ?_
  refine lv_ixor hx hb dX0_dryFields_18 ?_
  refine lv_iand hx hb dX0_dryFields_19 ?_
  exact e_iret C hend hP (k_some h) rfl dX0_dryFields_20
def f_X0_tinted (σ : GG) (a1 : Int32) : Option (Int32) :=
  ob (f_X0_dryFields σ) (fun x1 => some ((f_X0_ownedBy σ a1) &&& x1))
set_option maxHeartbeats 4000000 in
set_option maxRecDepth 100000 in
theorem c_X0_tinted (l : Launch) (ev : EV) (ad : Nat → Nat) (σ : GG) (a1 : Int32)   (r : Int32)  (h : f_X0_tinted σ a1 = some r) : Ct l yX0_tinted prog_2_method_38_code 2 (Option.some Jvm.ClassFile.FieldType.int) (rmk 5 121) ev 1 ad (gw1 σ) (gw1 σ) [.ref (ad 0), .int a1] (some (.int r)) := by
  refine Ct.of (by decide +kernel) (Nat.le_of_ble_eq_true rfl) ?_
  intro p e s m args below meth c Qc C hap hP hend ls hl
  have hAA : ∀ j, j < 1 → inA ad 1 (ad j) := fun j hj => ⟨j, hj, rfl⟩
  have hx := C.1
  have hb := C.2.1
  have hl : lv_has ls 2 [(0, .ref (ad 0)), (1, .int a1)] := hl
  have h := (f_X0_tinted.eq_1 _ _ ).symm.trans h
  refine lv_aload_n hx hb dX0_tinted_0 rfl (lv_at hl 0 rfl) ?_
  refine lv_iload_n hx hb dX0_tinted_1 rfl (lv_at hl 1 rfl) ?_
  refine k_callVi C hP hap hAA (c_X0_ownedBy l ev ad σ a1   _ rfl) Emb.same hap gz_X0_ownedBy qML_RX0_135 qIM_yX0_ownedBy qSE_yX0_ownedBy ⟨(Nat.le_of_ble_eq_true rfl), (Nat.le_of_ble_eq_true rfl)⟩ (q0 := 0) rfl (by decide) rfl rfl rfl rfl hl.1 rfl (Nat.le_of_ble_eq_true rfl) dX0_tinted_2 ⟨Nat.le_refl _, Nat.le_refl _⟩ (fun H locs hP => ?_)
  refine lv_aload_n hx hb dX0_tinted_5 rfl (lv_at hl 0 rfl) ?_
  obtain ⟨x1, h1, h⟩ := k_ob h
  refine k_callVi C hP hap hAA (c_X0_dryFields l ev ad σ   _ h1) Emb.same hap gz_X0_dryFields qML_RX0_138 qIM_yX0_dryFields qSE_yX0_dryFields ⟨(Nat.le_of_ble_eq_true rfl), (Nat.le_of_ble_eq_true rfl)⟩ (q0 := 0) rfl (by decide) rfl rfl rfl rfl hl.1 rfl (Nat.le_of_ble_eq_true rfl) dX0_tinted_6 ⟨Nat.le_refl _, Nat.le_refl _⟩ (fun H locs hP => ?_)
  refine lv_iand hx hb dX0_tinted_9 ?_
  exact e_iret C hend hP (k_some h) rfl dX0_tinted_10
def f_J6_bitCount_0f7a4 (a1 : Int32) : Int32 :=
  lt (a1 - ((iushr a1 1) &&& 1431655765)) (fun x1 => lt ((x1 &&& 858993459) + ((iushr x1 2) &&& 858993459)) (fun x2 => lt ((x2 + (iushr x2 4)) &&& 252645135) (fun x3 => lt (x3 + (iushr x3 8)) (fun x4 => lt (x4 + (iushr x4 16)) (fun x5 => (x5 &&& 63))))))
set_option maxHeartbeats 4000000 in
set_option maxRecDepth 100000 in
theorem c_J6_bitCount_0f7a4 (l : Launch) (ev : EV) (ad : Nat → Nat) (a1 : Int32)   (r : Int32)  (h : f_J6_bitCount_0f7a4 a1 = r) : Ct l yJ6_bitCount_0f7a4 prog_7_method_49_code 1 (Option.some Jvm.ClassFile.FieldType.int) (rmk 0 0) ev 0 ad w00 w00 [.int a1] (some (.int r)) := by
  refine Ct.of (by decide +kernel) (Nat.le_of_ble_eq_true rfl) ?_
  intro p e s m args below meth c Qc C hap hP hend ls hl
  have hAA : ∀ j, j < 0 → inA ad 0 (ad j) := fun j hj => ⟨j, hj, rfl⟩
  have hx := C.1
  have hb := C.2.1
  have hl : lv_has ls 1 [(0, .int a1)] := hl
  have h := (f_J6_bitCount_0f7a4.eq_1 _ ).symm.trans h
  refine lv_iload_n hx hb dJ6_bitCount_0f7a4_0 rfl (lv_at hl 0 rfl) ?_
  refine lv_iload_n hx hb dJ6_bitCount_0f7a4_1 rfl (lv_at hl 0 rfl) ?_
  refine lv_iconst (v := 1) hx hb dJ6_bitCount_0f7a4_2 (by decide) ?_
  refine r_iushr hx hb dJ6_bitCount_0f7a4_3 ?_
  refine lv_ldcw (v := 1431655765) hx hb C.2.2.2.2.2.1 (C.2.2.2.2.1 _ qCT_RJ6_265) dJ6_bitCount_0f7a4_4 ?_
  refine lv_iand hx hb dJ6_bitCount_0f7a4_7 ?_
  refine lv_isub hx hb dJ6_bitCount_0f7a4_8 ?_
  refine lv_topi (fun x1 ex1 => ?_)
  have h := k_lt ex1 h
  refine lv_istore_n (lv' := [(0, .int x1)]) hx hb dJ6_bitCount_0f7a4_9 rfl hl (by decide) rfl (fun ls hl => ?_)
  refine lv_iload_n hx hb dJ6_bitCount_0f7a4_10 rfl (lv_at hl 0 rfl) ?_
  refine lv_ldcw (v := 858993459) hx hb C.2.2.2.2.2.1 (C.2.2.2.2.1 _ qCT_RJ6_266) dJ6_bitCount_0f7a4_11 ?_
  refine lv_iand hx hb dJ6_bitCount_0f7a4_14 ?_
  refine lv_iload_n hx hb dJ6_bitCount_0f7a4_15 rfl (lv_at hl 0 rfl) ?_
  refine lv_iconst (v := 2) hx hb dJ6_bitCount_0f7a4_16 (by decide) ?_
  refine r_iushr hx hb dJ6_bitCount_0f7a4_17 ?_
  refine lv_ldcw (v := 858993459) hx hb C.2.2.2.2.2.1 (C.2.2.2.2.1 _ qCT_RJ6_266) dJ6_bitCount_0f7a4_18 ?_
  refine lv_iand hx hb dJ6_bitCount_0f7a4_21 ?_
  refine lv_iadd hx hb dJ6_bitCount_0f7a4_22 ?_
  refine lv_topi (fun x2 ex2 => ?_)
  have h := k_lt ex2 h
  refine lv_istore_n (lv' := [(0, .int x2)]) hx hb dJ6_bitCount_0f7a4_23 rfl hl (by decide) rfl (fun ls hl => ?_)
  refine lv_iload_n hx hb dJ6_bitCount_0f7a4_24 rfl (lv_at hl 0 rfl) ?_
  refine lv_iload_n hx hb dJ6_bitCount_0f7a4_25 rfl (lv_at hl 0 rfl) ?_
  refine lv_iconst (v := 4) hx hb dJ6_bitCount_0f7a4_26 (by decide) ?_
  refine r_iushr hx hb dJ6_bitCount_0f7a4_27 ?_
  refine lv_iadd hx hb dJ6_bitCount_0f7a4_28 ?_
  refine lv_ldcw (v := 252645135) hx hb C.2.2.2.2.2.1 (C.2.2.2.2.1 _ qCT_RJ6_267) dJ6_bitCount_0f7a4_29 ?_
  refine lv_iand hx hb dJ6_bitCount_0f7a4_32 ?_
  refine lv_topi (fun x3 ex3 => ?_)
  have h := k_lt ex3 h
  refine lv_istore_n (lv' := [(0, .int x3)]) hx hb dJ6_bitCount_0f7a4_33 rfl hl (by decide) rfl (fun ls hl => ?_)
  refine lv_iload_n hx hb dJ6_bitCount_0f7a4_34 rfl (lv_at hl 0 rfl) ?_
  refine lv_iload_n hx hb dJ6_bitCount_0f7a4_35 rfl (lv_at hl 0 rfl) ?_
  refine lv_bipush (v := 8) hx hb dJ6_bitCount_0f7a4_36 (by decide) ?_
  refine r_iushr hx hb dJ6_bitCount_0f7a4_38 ?_
  refine lv_iadd hx hb dJ6_bitCount_0f7a4_39 ?_
  refine lv_topi (fun x4 ex4 => ?_)
  have h := k_lt ex4 h
  refine lv_istore_n (lv' := [(0, .int x4)]) hx hb dJ6_bitCount_0f7a4_40 rfl hl (by decide) rfl (fun ls hl => ?_)
  refine lv_iload_n hx hb dJ6_bitCount_0f7a4_41 rfl (lv_at hl 0 rfl) ?_
  refine lv_iload_n hx hb dJ6_bitCount_0f7a4_42 rfl (lv_at hl 0 rfl) ?_
  refine lv_bipush (v := 16) hx hb dJ6_bitCount_0f7a4_43 (by decide) ?_
  refine r_iushr hx hb dJ6_bitCount_0f7a4_45 ?_
  refine lv_iadd hx hb dJ6_bitCount_0f7a4_46 ?_
  refine lv_topi (fun x5 ex5 => ?_)
  have h := k_lt ex5 h
  refine lv_istore_n (lv' := [(0, .int x5)]) hx hb dJ6_bitCount_0f7a4_47 rfl hl (by decide) rfl (fun ls hl => ?_)
  refine lv_iload_n hx hb dJ6_bitCount_0f7a4_48 rfl (lv_at hl 0 rfl) ?_
  refine lv_bipush (v := 63) hx hb dJ6_bitCount_0f7a4_49 (by decide) ?_
  refine lv_iand hx hb dJ6_bitCount_0f7a4_51 ?_
  exact e_iret C hend hP h rfl dJ6_bitCount_0f7a4_52
def f_X0_lanesAmong (σ : GG) (a1 : Int32) : Int32 :=
  lt ((((a1 &&& (iushr a1 1)) &&& (iushr a1 2)) &&& ((g_rightmost σ) ^^^ (-1))) &&& ((iushr (g_rightmost σ) 1) ^^^ (-1))) (fun x1 => lt ((a1 &&& (iushr a1 (g_width σ))) &&& (iushr a1 (2 * (g_width σ)))) (fun x2 => ((f_J6_bitCount_0f7a4 x1) + (f_J6_bitCount_0f7a4 x2))))
set_option maxHeartbeats 4000000 in
set_option maxRecDepth 100000 in
theorem c_X0_lanesAmong (l : Launch) (ev : EV) (ad : Nat → Nat) (σ : GG) (a1 : Int32)   (r : Int32)  (h : f_X0_lanesAmong σ a1 = r) : Ct l yX0_lanesAmong prog_2_method_39_code 4 (Option.some Jvm.ClassFile.FieldType.int) (rmk 1 20) ev 1 ad (gw1 σ) (gw1 σ) [.ref (ad 0), .int a1] (some (.int r)) := by
  refine Ct.of (by decide +kernel) (Nat.le_of_ble_eq_true rfl) ?_
  intro p e s m args below meth c Qc C hap hP hend ls hl
  have hAA : ∀ j, j < 1 → inA ad 1 (ad j) := fun j hj => ⟨j, hj, rfl⟩
  have hx := C.1
  have hb := C.2.1
  have hl : lv_has ls 4 [(0, .ref (ad 0)), (1, .int a1)] := hl
  have h := (f_X0_lanesAmong.eq_1 _ _ ).symm.trans h
  refine lv_iload_n hx hb dX0_lanesAmong_0 rfl (lv_at hl 1 rfl) ?_
  refine lv_iload_n hx hb dX0_lanesAmong_1 rfl (lv_at hl 1 rfl) ?_
  refine lv_iconst (v := 1) hx hb dX0_lanesAmong_2 (by decide) ?_
  refine r_iushr hx hb dX0_lanesAmong_3 ?_
  refine lv_iand hx hb dX0_lanesAmong_4 ?_
  refine lv_iload_n hx hb dX0_lanesAmong_5 rfl (lv_at hl 1 rfl) ?_
  refine lv_iconst (v := 2) hx hb dX0_lanesAmong_6 (by decide) ?_
  refine r_iushr hx hb dX0_lanesAmong_7 ?_
  refine lv_iand hx hb dX0_lanesAmong_8 ?_
  refine lv_aload_n hx hb dX0_lanesAmong_9 rfl (lv_at hl 0 rfl) ?_
  refine r_get C hP (ci := 0) rfl uin_X0 7 (by decide) 0 (by decide) rfl qFL_RX0_40 rfl rfl dX0_lanesAmong_10 ?_
  refine lv_iconst (v := (-1)) hx hb dX0_lanesAmong_13 (by decide) ?_
  refine lv_ixor hx hb dX0_lanesAmong_14 ?_
  refine lv_iand hx hb dX0_lanesAmong_15 ?_
  refine lv_aload_n hx hb dX0_lanesAmong_16 rfl (lv_at hl 0 rfl) ?_
  refine r_get C hP (ci := 0) rfl uin_X0 7 (by decide) 0 (by decide) rfl qFL_RX0_40 rfl rfl dX0_lanesAmong_17 ?_
  refine lv_iconst (v := 1) hx hb dX0_lanesAmong_20 (by decide) ?_
  refine r_iushr hx hb dX0_lanesAmong_21 ?_
  refine lv_iconst (v := (-1)) hx hb dX0_lanesAmong_22 (by decide) ?_
  refine lv_ixor hx hb dX0_lanesAmong_23 ?_
  refine lv_iand hx hb dX0_lanesAmong_24 ?_
  refine lv_topi (fun x1 ex1 => ?_)
  have h := k_lt ex1 h
  refine lv_istore_n (lv' := [(2, .int x1), (0, .ref (ad 0)), (1, .int a1)]) hx hb dX0_lanesAmong_25 rfl hl (by decide) rfl (fun ls hl => ?_)
  refine lv_iload_n hx hb dX0_lanesAmong_26 rfl (lv_at hl 2 rfl) ?_
  refine lv_iload_n hx hb dX0_lanesAmong_27 rfl (lv_at hl 2 rfl) ?_
  refine lv_aload_n hx hb dX0_lanesAmong_28 rfl (lv_at hl 1 rfl) ?_
  refine r_get C hP (ci := 0) rfl uin_X0 0 (by decide) 0 (by decide) rfl qFL_RX0_19 rfl rfl dX0_lanesAmong_29 ?_
  refine r_iushr hx hb dX0_lanesAmong_32 ?_
  refine lv_iand hx hb dX0_lanesAmong_33 ?_
  refine lv_iload_n hx hb dX0_lanesAmong_34 rfl (lv_at hl 2 rfl) ?_
  refine lv_iconst (v := 2) hx hb dX0_lanesAmong_35 (by decide) ?_
  refine lv_aload_n hx hb dX0_lanesAmong_36 rfl (lv_at hl 1 rfl) ?_
  refine r_get C hP (ci := 0) rfl uin_X0 0 (by decide) 0 (by decide) rfl qFL_RX0_19 rfl rfl dX0_lanesAmong_37 ?_
  refine lv_imul hx hb dX0_lanesAmong_40 ?_
  refine r_iushr hx hb dX0_lanesAmong_41 ?_
  refine lv_iand hx hb dX0_lanesAmong_42 ?_
  refine lv_topi (fun x2 ex2 => ?_)
  have h := k_lt ex2 h
  refine lv_istore_n (lv' := [(3, .int x2), (2, .int x1), (0, .ref (ad 0)), (1, .int a1)]) hx hb dX0_lanesAmong_43 rfl hl (by decide) rfl (fun ls hl => ?_)
  refine lv_iload_n hx hb dX0_lanesAmong_44 rfl (lv_at hl 1 rfl) ?_
  refine k_callSi C hP hap hAA (c_J6_bitCount_0f7a4 l ev ad x1   _ rfl) Emb.none (apart_0 _) gz_J6_bitCount_0f7a4 qML_RX0_141 qSM_yJ6_bitCount_0f7a4 ⟨(Nat.le_of_ble_eq_true rfl), (Nat.le_of_ble_eq_true rfl)⟩ rfl hl.1 rfl (Nat.le_of_ble_eq_true rfl) dX0_lanesAmong_45 ⟨Nat.le_refl _, Nat.le_refl _⟩ (fun H locs hP => ?_)
  refine lv_iload_n hx hb dX0_lanesAmong_48 rfl (lv_at hl 0 rfl) ?_
  refine k_callSi C hP hap hAA (c_J6_bitCount_0f7a4 l ev ad x2   _ rfl) Emb.none (apart_0 _) gz_J6_bitCount_0f7a4 qML_RX0_141 qSM_yJ6_bitCount_0f7a4 ⟨(Nat.le_of_ble_eq_true rfl), (Nat.le_of_ble_eq_true rfl)⟩ rfl hl.1 rfl (Nat.le_of_ble_eq_true rfl) dX0_lanesAmong_49 ⟨Nat.le_refl _, Nat.le_refl _⟩ (fun H locs hP => ?_)
  refine lv_iadd hx hb dX0_lanesAmong_52 ?_
  exact e_iret C hend hP h rfl dX0_lanesAmong_53
