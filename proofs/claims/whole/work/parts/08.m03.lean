/-! functions read off, and their contracts: by program (wip/whole/gen2.py) -/
def f_X0_withTwo (σ : GG) (a1 : Int64) : Option (Int32) :=
  lt (f_X0_withAbove σ a1) (fun x1 => lt (f_X0_withBelow σ a1) (fun x2 => ob (f_X0_withUpright σ a1 0) (fun x3 => ob (f_X0_withUpright σ a1 1) (fun x4 => some ((((x1 ^^^ x2) &&& (x3 ^^^ x4)) ||| (((x1 &&& x2) &&& (x3 ^^^ (-1))) &&& (x4 ^^^ (-1)))) ||| (((x3 &&& x4) &&& (x1 ^^^ (-1))) &&& (x2 ^^^ (-1))))))))
set_option maxHeartbeats 4000000 in
set_option maxRecDepth 100000 in
theorem c_X0_withTwo (l : Launch) (ev : EV) (ad : Nat → Nat) (σ : GG) (a1 : Int64)   (r : Int32)  (h : f_X0_withTwo σ a1 = some r) : Ct l yX0_withTwo prog_2_method_22_code 7 (Option.some Jvm.ClassFile.FieldType.int) (rmk 1 26) ev 1 ad (gw1 σ) (gw1 σ) [.ref (ad 0), .long a1] (some (.int r)) := by
  refine Ct.of (by decide +kernel) (Nat.le_of_ble_eq_true rfl) ?_
  intro p e s m args below meth c Qc C hap hP hend ls hl
  have hAA : ∀ j, j < 1 → inA ad 1 (ad j) := fun j hj => ⟨j, hj, rfl⟩
  have hx := C.1
  have hb := C.2.1
  have hl : lv_has ls 7 [(0, .ref (ad 0)), (1, .long a1)] := hl
  have h := (f_X0_withTwo.eq_1 _ _ ).symm.trans h
  refine lv_aload_n hx hb dX0_withTwo_0 rfl (lv_at hl 0 rfl) ?_
  refine lv_lload_n hx hb dX0_withTwo_1 rfl (lv_at hl 1 rfl) ?_
  refine k_callVi C hP hap hAA (c_X0_withAbove l ev ad σ a1   _ rfl) Emb.same hap gz_X0_withAbove qML_RX0_84 qIM_yX0_withAbove qSE_yX0_withAbove ⟨(Nat.le_of_ble_eq_true rfl), (Nat.le_of_ble_eq_true rfl)⟩ (q0 := 0) rfl (by decide) rfl rfl rfl rfl hl.1 rfl (Nat.le_of_ble_eq_true rfl) dX0_withTwo_2 ⟨Nat.le_refl _, Nat.le_refl _⟩ (fun H locs hP => ?_)
  refine lv_topi (fun x1 ex1 => ?_)
  have h := k_lt ex1 h
  refine lv_istore_n (lv' := [(3, .int x1), (0, .ref (ad 0)), (1, .long a1)]) hx hb dX0_withTwo_5 rfl hl (by decide) rfl (fun ls hl => ?_)
  refine lv_aload_n hx hb dX0_withTwo_6 rfl (lv_at hl 1 rfl) ?_
  refine lv_lload_n hx hb dX0_withTwo_7 rfl (lv_at hl 2 rfl) ?_
  refine k_callVi C hP hap hAA (c_X0_withBelow l ev ad σ a1   _ rfl) Emb.same hap gz_X0_withBelow qML_RX0_88 qIM_yX0_withBelow qSE_yX0_withBelow ⟨(Nat.le_of_ble_eq_true rfl), (Nat.le_of_ble_eq_true rfl)⟩ (q0 := 0) rfl (by decide) rfl rfl rfl rfl hl.1 rfl (Nat.le_of_ble_eq_true rfl) dX0_withTwo_8 ⟨Nat.le_refl _, Nat.le_refl _⟩ (fun H locs hP => ?_)
  refine lv_topi (fun x2 ex2 => ?_)
  have h := k_lt ex2 h
  refine lv_istore (lv' := [(4, .int x2), (3, .int x1), (0, .ref (ad 0)), (1, .long a1)]) hx hb dX0_withTwo_11 hl (by decide) rfl (fun ls hl => ?_)
  refine lv_aload_n hx hb dX0_withTwo_13 rfl (lv_at hl 2 rfl) ?_
  refine lv_lload_n hx hb dX0_withTwo_14 rfl (lv_at hl 3 rfl) ?_
  refine lv_iconst (v := 0) hx hb dX0_withTwo_15 (by decide) ?_
  obtain ⟨x3, h1, h⟩ := k_ob h
  refine k_callVi C hP hap hAA (c_X0_withUpright l ev ad σ a1 0   _ h1) Emb.same hap gz_X0_withUpright qML_RX0_91 qIM_yX0_withUpright qSE_yX0_withUpright ⟨(Nat.le_of_ble_eq_true rfl), (Nat.le_of_ble_eq_true rfl)⟩ (q0 := 0) rfl (by decide) rfl rfl rfl rfl hl.1 rfl (Nat.le_of_ble_eq_true rfl) dX0_withTwo_16 ⟨Nat.le_refl _, Nat.le_refl _⟩ (fun H locs hP => ?_)
  refine lv_istore (lv' := [(5, .int x3), (4, .int x2), (3, .int x1), (0, .ref (ad 0)), (1, .long a1)]) hx hb dX0_withTwo_19 hl (by decide) rfl (fun ls hl => ?_)
  refine lv_aload_n hx hb dX0_withTwo_21 rfl (lv_at hl 3 rfl) ?_
  refine lv_lload_n hx hb dX0_withTwo_22 rfl (lv_at hl 4 rfl) ?_
  refine lv_iconst (v := 1) hx hb dX0_withTwo_23 (by decide) ?_
  obtain ⟨x4, h1, h⟩ := k_ob h
  refine k_callVi C hP hap hAA (c_X0_withUpright l ev ad σ a1 1   _ h1) Emb.same hap gz_X0_withUpright qML_RX0_91 qIM_yX0_withUpright qSE_yX0_withUpright ⟨(Nat.le_of_ble_eq_true rfl), (Nat.le_of_ble_eq_true rfl)⟩ (q0 := 0) rfl (by decide) rfl rfl rfl rfl hl.1 rfl (Nat.le_of_ble_eq_true rfl) dX0_withTwo_24 ⟨Nat.le_refl _, Nat.le_refl _⟩ (fun H locs hP => ?_)
  refine lv_istore (lv' := [(6, .int x4), (5, .int x3), (4, .int x2), (3, .int x1), (0, .ref (ad 0)), (1, .long a1)]) hx hb dX0_withTwo_27 hl (by decide) rfl (fun ls hl => ?_)
  refine lv_iload_n hx hb dX0_withTwo_29 rfl (lv_at hl 3 rfl) ?_
  refine lv_iload hx hb dX0_withTwo_30 (lv_at hl 2 rfl) ?_
  refine lv_ixor hx hb dX0_withTwo_32 ?_
  refine lv_iload hx hb dX0_withTwo_33 (lv_at hl 1 rfl) ?_
  refine lv_iload hx hb dX0_withTwo_35 (lv_at hl 0 rfl) ?_
  refine lv_ixor hx hb dX0_withTwo_37 ?_
  refine lv_iand hx hb dX0_withTwo_38 ?_
  refine lv_iload_n hx hb dX0_withTwo_39 rfl (lv_at hl 3 rfl) ?_
  refine lv_iload hx hb dX0_withTwo_40 (lv_at hl 2 rfl) ?_
  refine lv_iand hx hb dX0_withTwo_42 ?_
  refine lv_iload hx hb dX0_withTwo_43 (lv_at hl 1 rfl) ?_
  refine lv_iconst (v := (-1)) hx hb dX0_withTwo_45 (by decide) ?_
  refine lv_ixor hx hb dX0_withTwo_46 ?_
  refine lv_iand hx hb dX0_withTwo_47 ?_
  refine lv_iload hx hb dX0_withTwo_48 (lv_at hl 0 rfl) ?_
  refine lv_iconst (v := (-1)) hx hb dX0_withTwo_50 (by decide) ?_
  refine lv_ixor hx hb dX0_withTwo_51 ?_
  refine lv_iand hx hb dX0_withTwo_52 ?_
  refine lv_ior hx hb dX0_withTwo_53 ?_
  refine lv_iload hx hb dX0_withTwo_54 (lv_at hl 1 rfl) ?_
  refine lv_iload hx hb dX0_withTwo_56 (lv_at hl 0 rfl) ?_
  refine lv_iand hx hb dX0_withTwo_58 ?_
  refine lv_iload_n hx hb dX0_withTwo_59 rfl (lv_at hl 3 rfl) ?_
  refine lv_iconst (v := (-1)) hx hb dX0_withTwo_60 (by decide) ?_
  refine lv_ixor hx hb dX0_withTwo_61 ?_
  refine lv_iand hx hb dX0_withTwo_62 ?_
  refine lv_iload hx hb dX0_withTwo_63 (lv_at hl 2 rfl) ?_
  refine lv_iconst (v := (-1)) hx hb dX0_withTwo_65 (by decide) ?_
  refine lv_ixor hx hb dX0_withTwo_66 ?_
  refine lv_iand hx hb dX0_withTwo_67 ?_
  refine lv_ior hx hb dX0_withTwo_68 ?_
  exact e_iret C hend hP (k_some h) rfl dX0_withTwo_69
def f_X0_around_L23_b (σ : GG) (a1 : Int32) (x1 : Int32)  (rec23 : Int64 → Int32 → Option (Int64)) (y3 : Int64) (x4 : Int32) : Option (Int64) :=
  if (g_height σ) ≤ x4 then some y3 else lt ((iushr a1 (x4 * (g_width σ))) &&& x1) (fun x5 => lt (y3 ||| (lshl (Int32.toInt64 (x5 ||| (ishl x5 1))) ((g_uprights σ) + (x4 * ((g_width σ) + 1))))) (fun y6 => lt (x4 + 1) (fun x7 => rec23 y6 x7)))
def f_X0_around_L23 (σ : GG) (a1 : Int32) (x1 : Int32)  (y3 : Int64) (x4 : Int32) : Option (Int64) :=
  lp (fun _ _ => none) (f_X0_around_L23_b σ a1 x1 ) FU y3 x4
def f_X0_around (σ : GG) (a1 : Int32) : Option (Int64) :=
  lt ((ishl 1 (g_width σ)) - 1) (fun x1 => lt ((Int32.toInt64 a1) ||| (lshl (Int32.toInt64 a1) (g_width σ))) (fun y2 => f_X0_around_L23 σ a1 x1 y2 0))
set_option maxHeartbeats 4000000 in
set_option maxRecDepth 100000 in
theorem c_X0_around (l : Launch) (ev : EV) (ad : Nat → Nat) (σ : GG) (a1 : Int32)   (r : Int64)  (h : f_X0_around σ a1 = some r) : Ct l yX0_around prog_2_method_23_code 7 (Option.some Jvm.ClassFile.FieldType.long) (rmk 0 0) ev 1 ad (gw1 σ) (gw1 σ) [.ref (ad 0), .int a1] (some (.long r)) := by
  refine Ct.of (by decide +kernel) (Nat.le_of_ble_eq_true rfl) ?_
  intro p e s m args below meth c Qc C hap hP hend ls hl
  have hAA : ∀ j, j < 1 → inA ad 1 (ad j) := fun j hj => ⟨j, hj, rfl⟩
  have hx := C.1
  have hb := C.2.1
  have hl : lv_has ls 7 [(0, .ref (ad 0)), (1, .int a1)] := hl
  have h := (f_X0_around.eq_1 _ _ ).symm.trans h
  refine lv_iconst (v := 1) hx hb dX0_around_0 (by decide) ?_
  refine lv_aload_n hx hb dX0_around_1 rfl (lv_at hl 0 rfl) ?_
  refine r_get C hP (ci := 0) rfl uin_X0 0 (by decide) 0 (by decide) rfl qFL_RX0_19 rfl rfl dX0_around_2 ?_
  refine r_ishl hx hb dX0_around_5 ?_
  refine lv_iconst (v := 1) hx hb dX0_around_6 (by decide) ?_
  refine lv_isub hx hb dX0_around_7 ?_
  refine lv_topi (fun x1 ex1 => ?_)
  have h := k_lt ex1 h
  refine lv_istore_n (lv' := [(2, .int x1), (0, .ref (ad 0)), (1, .int a1)]) hx hb dX0_around_8 rfl hl (by decide) rfl (fun ls hl => ?_)
  refine lv_iload_n hx hb dX0_around_9 rfl (lv_at hl 2 rfl) ?_
  refine lv_i2l hx hb dX0_around_10 rfl ?_
  refine lv_iload_n hx hb dX0_around_11 rfl (lv_at hl 2 rfl) ?_
  refine lv_i2l hx hb dX0_around_12 rfl ?_
  refine lv_aload_n hx hb dX0_around_13 rfl (lv_at hl 1 rfl) ?_
  refine r_get C hP (ci := 0) rfl uin_X0 0 (by decide) 0 (by decide) rfl qFL_RX0_19 rfl rfl dX0_around_14 ?_
  refine r_lshl hx hb dX0_around_17 ?_
  refine lv_lor hx hb dX0_around_18 ?_
  refine lv_topl (fun y2 ey2 => ?_)
  have h := k_lt ey2 h
  refine lv_lstore_n (lv' := [(3, .long y2), (2, .int x1), (0, .ref (ad 0)), (1, .int a1)]) hx hb dX0_around_19 rfl hl (by decide) rfl (fun ls hl => ?_)
  refine lv_iconst (v := 0) hx hb dX0_around_20 (by decide) ?_
  refine lv_istore (lv' := [(5, .int 0), (3, .long y2), (2, .int x1), (0, .ref (ad 0)), (1, .int a1)]) hx hb dX0_around_21 hl (by decide) rfl (fun ls hl => ?_)
  have hL23 : ∀ (n : Nat) (y3 : Int64) (x4 : Int32) (H : Heap) (locs : List Loc) (ls : Array Slot), lp (fun _ _ => none) (f_X0_around_L23_b σ a1 x1 ) n y3 x4 = some r → PS ev 1 ad (gw1 σ) (inA ad 1) s H locs → lv_has ls 7 [(0, .ref (ad 0)), (1, .int a1), (2, .int x1), (3, .long y3), (5, .int x4)] → WW ev p l e (rmk 0 0) s m args below meth c Qc ad 1 H locs 23 ls [] := by
    intro n
    induction n with
    | zero =>
      intro y3 x4 H locs ls h; exact k_none h
    | succ n ih =>
      intro y3 x4 H locs ls h hP hl
      have h : f_X0_around_L23_b σ a1 x1  (lp (fun _ _ => none) (f_X0_around_L23_b σ a1 x1 ) n) y3 x4 = some r := h
      have h := (f_X0_around_L23_b.eq_1 _ _ _ _ _ _ ).symm.trans h
      refine lv_iload hx hb dX0_around_23 (lv_at hl 4 rfl) ?_
      refine lv_aload_n hx hb dX0_around_25 rfl (lv_at hl 0 rfl) ?_
      refine r_get C hP (ci := 0) rfl uin_X0 1 (by decide) 0 (by decide) rfl qFL_RX0_22 rfl rfl dX0_around_26 ?_
      refine lv_icmp_ge (tgt := 77) hx hb dX0_around_29 (by decide) (fun c29 => ?_) (fun c29 => ?_)
      · have h := k_if c29 h
        refine lv_lload_n hx hb dX0_around_77 rfl (lv_at hl 3 rfl) ?_
        exact e_lret C hend hP (k_some h) rfl dX0_around_78
      · have h := k_nf c29 h
        refine lv_iload_n hx hb dX0_around_32 rfl (lv_at hl 1 rfl) ?_
        refine lv_iload hx hb dX0_around_33 (lv_at hl 4 rfl) ?_
        refine lv_aload_n hx hb dX0_around_35 rfl (lv_at hl 0 rfl) ?_
        refine r_get C hP (ci := 0) rfl uin_X0 0 (by decide) 0 (by decide) rfl qFL_RX0_19 rfl rfl dX0_around_36 ?_
        refine lv_imul hx hb dX0_around_39 ?_
        refine r_iushr hx hb dX0_around_40 ?_
        refine lv_iload_n hx hb dX0_around_41 rfl (lv_at hl 2 rfl) ?_
        refine lv_iand hx hb dX0_around_42 ?_
        refine lv_topi (fun x5 ex5 => ?_)
        have h := k_lt ex5 h
        refine lv_istore (lv' := [(6, .int x5), (0, .ref (ad 0)), (1, .int a1), (2, .int x1), (3, .long y3), (5, .int x4)]) hx hb dX0_around_43 hl (by decide) rfl (fun ls hl => ?_)
        refine lv_lload_n hx hb dX0_around_45 rfl (lv_at hl 4 rfl) ?_
        refine lv_iload hx hb dX0_around_46 (lv_at hl 0 rfl) ?_
        refine lv_iload hx hb dX0_around_48 (lv_at hl 0 rfl) ?_
        refine lv_iconst (v := 1) hx hb dX0_around_50 (by decide) ?_
        refine r_ishl hx hb dX0_around_51 ?_
        refine lv_ior hx hb dX0_around_52 ?_
        refine lv_i2l hx hb dX0_around_53 rfl ?_
        refine lv_aload_n hx hb dX0_around_54 rfl (lv_at hl 1 rfl) ?_
        refine r_get C hP (ci := 0) rfl uin_X0 4 (by decide) 0 (by decide) rfl qFL_RX0_28 rfl rfl dX0_around_55 ?_
        refine lv_iload hx hb dX0_around_58 (lv_at hl 5 rfl) ?_
        refine lv_aload_n hx hb dX0_around_60 rfl (lv_at hl 1 rfl) ?_
        refine r_get C hP (ci := 0) rfl uin_X0 0 (by decide) 0 (by decide) rfl qFL_RX0_19 rfl rfl dX0_around_61 ?_
        refine lv_iconst (v := 1) hx hb dX0_around_64 (by decide) ?_
        refine lv_iadd hx hb dX0_around_65 ?_
        refine lv_imul hx hb dX0_around_66 ?_
        refine lv_iadd hx hb dX0_around_67 ?_
        refine r_lshl hx hb dX0_around_68 ?_
        refine lv_lor hx hb dX0_around_69 ?_
        refine lv_topl (fun y6 ey6 => ?_)
        have h := k_lt ey6 h
        refine lv_lstore_n (lv' := [(3, .long y6), (6, .int x5), (0, .ref (ad 0)), (1, .int a1), (2, .int x1), (5, .int x4)]) hx hb dX0_around_70 rfl hl (by decide) rfl (fun ls hl => ?_)
        obtain ⟨x7, ex7, h⟩ := k_ltx h
        refine lv_iinc (v := x7) (lv' := [(5, .int x7), (3, .long y6), (6, .int x5), (0, .ref (ad 0)), (1, .int a1), (2, .int x1)]) hx hb dX0_around_71 hl (k := 5) rfl (by rw [ex7]; rfl) (by decide) rfl (fun ls hl => ?_)
        refine lv_goto (tgt := 23) hx hb dX0_around_74 (by decide) ?_
        exact ih _ _ _ _ _ h hP (lv_sub hl [3, 4, 5, 1, 0] rfl)
  exact hL23 FU _ _ _ _ _ h hP (lv_sub hl [3, 4, 2, 1, 0] rfl)
def f_X0_beside (σ : GG) (a1 : Int32) (a2 : Int64) : Option (Int32) :=
  lt (iushr (a1 &&& ((f_X0_withAbove σ a2) ^^^ (-1))) (g_width σ)) (fun x1 => lt ((ishl (a1 &&& ((f_X0_withBelow σ a2) ^^^ (-1))) (g_width σ)) &&& (g_all σ)) (fun x2 => ob (f_X0_withUpright σ a2 0) (fun x3 => lt (iushr ((a1 &&& (x3 ^^^ (-1))) &&& ((g_leftmost σ) ^^^ (-1))) 1) (fun x4 => ob (f_X0_withUpright σ a2 1) (fun x5 => lt (ishl ((a1 &&& (x5 ^^^ (-1))) &&& ((g_rightmost σ) ^^^ (-1))) 1) (fun x6 => some (((x1 ||| x2) ||| x4) ||| x6)))))))
set_option maxHeartbeats 4000000 in
set_option maxRecDepth 100000 in
theorem c_X0_beside (l : Launch) (ev : EV) (ad : Nat → Nat) (σ : GG) (a1 : Int32) (a2 : Int64)   (r : Int32)  (h : f_X0_beside σ a1 a2 = some r) : Ct l yX0_beside prog_2_method_24_code 8 (Option.some Jvm.ClassFile.FieldType.int) (rmk 1 26) ev 1 ad (gw1 σ) (gw1 σ) [.ref (ad 0), .int a1, .long a2] (some (.int r)) := by
  refine Ct.of (by decide +kernel) (Nat.le_of_ble_eq_true rfl) ?_
  intro p e s m args below meth c Qc C hap hP hend ls hl
  have hAA : ∀ j, j < 1 → inA ad 1 (ad j) := fun j hj => ⟨j, hj, rfl⟩
  have hx := C.1
  have hb := C.2.1
  have hl : lv_has ls 8 [(0, .ref (ad 0)), (1, .int a1), (2, .long a2)] := hl
  have h := (f_X0_beside.eq_1 _ _ _ ).symm.trans h
  refine lv_iload_n hx hb dX0_beside_0 rfl (lv_at hl 1 rfl) ?_
  refine lv_aload_n hx hb dX0_beside_1 rfl (lv_at hl 0 rfl) ?_
  refine lv_lload_n hx hb dX0_beside_2 rfl (lv_at hl 2 rfl) ?_
  refine k_callVi C hP hap hAA (c_X0_withAbove l ev ad σ a2   _ rfl) Emb.same hap gz_X0_withAbove qML_RX0_84 qIM_yX0_withAbove qSE_yX0_withAbove ⟨(Nat.le_of_ble_eq_true rfl), (Nat.le_of_ble_eq_true rfl)⟩ (q0 := 0) rfl (by decide) rfl rfl rfl rfl hl.1 rfl (Nat.le_of_ble_eq_true rfl) dX0_beside_3 ⟨Nat.le_refl _, Nat.le_refl _⟩ (fun H locs hP => ?_)
  refine lv_iconst (v := (-1)) hx hb dX0_beside_6 (by decide) ?_
  refine lv_ixor hx hb dX0_beside_7 ?_
  refine lv_iand hx hb dX0_beside_8 ?_
  refine lv_aload_n hx hb dX0_beside_9 rfl (lv_at hl 0 rfl) ?_
  refine r_get C hP (ci := 0) rfl uin_X0 0 (by decide) 0 (by decide) rfl qFL_RX0_19 rfl rfl dX0_beside_10 ?_
  refine r_iushr hx hb dX0_beside_13 ?_
  refine lv_topi (fun x1 ex1 => ?_)
  have h := k_lt ex1 h
  refine lv_istore (lv' := [(4, .int x1), (0, .ref (ad 0)), (1, .int a1), (2, .long a2)]) hx hb dX0_beside_14 hl (by decide) rfl (fun ls hl => ?_)
  refine lv_iload_n hx hb dX0_beside_16 rfl (lv_at hl 2 rfl) ?_
  refine lv_aload_n hx hb dX0_beside_17 rfl (lv_at hl 1 rfl) ?_
  refine lv_lload_n hx hb dX0_beside_18 rfl (lv_at hl 3 rfl) ?_
  refine k_callVi C hP hap hAA (c_X0_withBelow l ev ad σ a2   _ rfl) Emb.same hap gz_X0_withBelow qML_RX0_88 qIM_yX0_withBelow qSE_yX0_withBelow ⟨(Nat.le_of_ble_eq_true rfl), (Nat.le_of_ble_eq_true rfl)⟩ (q0 := 0) rfl (by decide) rfl rfl rfl rfl hl.1 rfl (Nat.le_of_ble_eq_true rfl) dX0_beside_19 ⟨Nat.le_refl _, Nat.le_refl _⟩ (fun H locs hP => ?_)
  refine lv_iconst (v := (-1)) hx hb dX0_beside_22 (by decide) ?_
  refine lv_ixor hx hb dX0_beside_23 ?_
  refine lv_iand hx hb dX0_beside_24 ?_
  refine lv_aload_n hx hb dX0_beside_25 rfl (lv_at hl 1 rfl) ?_
  refine r_get C hP (ci := 0) rfl uin_X0 0 (by decide) 0 (by decide) rfl qFL_RX0_19 rfl rfl dX0_beside_26 ?_
  refine r_ishl hx hb dX0_beside_29 ?_
  refine lv_aload_n hx hb dX0_beside_30 rfl (lv_at hl 1 rfl) ?_
  refine r_get C hP (ci := 0) rfl uin_X0 5 (by decide) 0 (by decide) rfl qFL_RX0_34 rfl rfl dX0_beside_31 ?_
  refine lv_iand hx hb dX0_beside_34 ?_
  refine lv_topi (fun x2 ex2 => ?_)
  have h := k_lt ex2 h
  refine lv_istore (lv' := [(5, .int x2), (4, .int x1), (0, .ref (ad 0)), (1, .int a1), (2, .long a2)]) hx hb dX0_beside_35 hl (by decide) rfl (fun ls hl => ?_)
  refine lv_iload_n hx hb dX0_beside_37 rfl (lv_at hl 3 rfl) ?_
  refine lv_aload_n hx hb dX0_beside_38 rfl (lv_at hl 2 rfl) ?_
  refine lv_lload_n hx hb dX0_beside_39 rfl (lv_at hl 4 rfl) ?_
  refine lv_iconst (v := 0) hx hb dX0_beside_40 (by decide) ?_
  obtain ⟨x3, h1, h⟩ := k_ob h
  refine k_callVi C hP hap hAA (c_X0_withUpright l ev ad σ a2 0   _ h1) Emb.same hap gz_X0_withUpright qML_RX0_91 qIM_yX0_withUpright qSE_yX0_withUpright ⟨(Nat.le_of_ble_eq_true rfl), (Nat.le_of_ble_eq_true rfl)⟩ (q0 := 0) rfl (by decide) rfl rfl rfl rfl hl.1 rfl (Nat.le_of_ble_eq_true rfl) dX0_beside_41 ⟨Nat.le_refl _, Nat.le_refl _⟩ (fun H locs hP => ?_)
  refine lv_iconst (v := (-1)) hx hb dX0_beside_44 (by decide) ?_
  refine lv_ixor hx hb dX0_beside_45 ?_
  refine lv_iand hx hb dX0_beside_46 ?_
  refine lv_aload_n hx hb dX0_beside_47 rfl (lv_at hl 2 rfl) ?_
  refine r_get C hP (ci := 0) rfl uin_X0 6 (by decide) 0 (by decide) rfl qFL_RX0_37 rfl rfl dX0_beside_48 ?_
  refine lv_iconst (v := (-1)) hx hb dX0_beside_51 (by decide) ?_
  refine lv_ixor hx hb dX0_beside_52 ?_
  refine lv_iand hx hb dX0_beside_53 ?_
  refine lv_iconst (v := 1) hx hb dX0_beside_54 (by decide) ?_
  refine r_iushr hx hb dX0_beside_55 ?_
  refine lv_topi (fun x4 ex4 => ?_)
  have h := k_lt ex4 h
  refine lv_istore (lv' := [(6, .int x4), (5, .int x2), (4, .int x1), (0, .ref (ad 0)), (1, .int a1), (2, .long a2)]) hx hb dX0_beside_56 hl (by decide) rfl (fun ls hl => ?_)
  refine lv_iload_n hx hb dX0_beside_58 rfl (lv_at hl 4 rfl) ?_
  refine lv_aload_n hx hb dX0_beside_59 rfl (lv_at hl 3 rfl) ?_
  refine lv_lload_n hx hb dX0_beside_60 rfl (lv_at hl 5 rfl) ?_
  refine lv_iconst (v := 1) hx hb dX0_beside_61 (by decide) ?_
  obtain ⟨x5, h1, h⟩ := k_ob h
  refine k_callVi C hP hap hAA (c_X0_withUpright l ev ad σ a2 1   _ h1) Emb.same hap gz_X0_withUpright qML_RX0_91 qIM_yX0_withUpright qSE_yX0_withUpright ⟨(Nat.le_of_ble_eq_true rfl), (Nat.le_of_ble_eq_true rfl)⟩ (q0 := 0) rfl (by decide) rfl rfl rfl rfl hl.1 rfl (Nat.le_of_ble_eq_true rfl) dX0_beside_62 ⟨Nat.le_refl _, Nat.le_refl _⟩ (fun H locs hP => ?_)
  refine lv_iconst (v := (-1)) hx hb dX0_beside_65 (by decide) ?_
  refine lv_ixor hx hb dX0_beside_66 ?_
  refine lv_iand hx hb dX0_beside_67 ?_
  refine lv_aload_n hx hb dX0_beside_68 rfl (lv_at hl 3 rfl) ?_
  refine r_get C hP (ci := 0) rfl uin_X0 7 (by decide) 0 (by decide) rfl qFL_RX0_40 rfl rfl dX0_beside_69 ?_
  refine lv_iconst (v := (-1)) hx hb dX0_beside_72 (by decide) ?_
  refine lv_ixor hx hb dX0_beside_73 ?_
  refine lv_iand hx hb dX0_beside_74 ?_
  refine lv_iconst (v := 1) hx hb dX0_beside_75 (by decide) ?_
  refine r_ishl hx hb dX0_beside_76 ?_
  refine lv_topi (fun x6 ex6 => ?_)
  have h := k_lt ex6 h
  refine lv_istore (lv' := [(7, .int x6), (6, .int x4), (5, .int x2), (4, .int x1), (0, .ref (ad 0)), (1, .int a1), (2, .long a2)]) hx hb dX0_beside_77 hl (by decide) rfl (fun ls hl => ?_)
  refine lv_iload hx hb dX0_beside_79 (lv_at hl 3 rfl) ?_
  refine lv_iload hx hb dX0_beside_81 (lv_at hl 2 rfl) ?_
  refine lv_ior hx hb dX0_beside_83 ?_
  refine lv_iload hx hb dX0_beside_84 (lv_at hl 1 rfl) ?_
  refine lv_ior hx hb dX0_beside_86 ?_
  refine lv_iload hx hb dX0_beside_87 (lv_at hl 0 rfl) ?_
  refine lv_ior hx hb dX0_beside_89 ?_
  exact e_iret C hend hP (k_some h) rfl dX0_beside_90
def f_X0_hanging_L8_b (σ : GG) (a2 : Int32) (a3 : Int64)  (rec8 : Int32 → Int32 → Option (Int32)) (x2 : Int32) (x3 : Int32) : Option (Int32) :=
  if 16 ≤ x3 then some x2 else ob (f_X0_beside σ x2 a3) (fun x4 => lt ((x2 ||| x4) &&& a2) (fun x5 => if x5 = x2 then some x2 else lt (x3 + 1) (fun x6 => rec8 x5 x6)))
def f_X0_hanging_L8 (σ : GG) (a2 : Int32) (a3 : Int64)  (x2 : Int32) (x3 : Int32) : Option (Int32) :=
  lp (fun _ _ => none) (f_X0_hanging_L8_b σ a2 a3 ) FU x2 x3
def f_X0_hanging (σ : GG) (a1 : Int32) (a2 : Int32) (a3 : Int64) : Option (Int32) :=
  lt (a1 &&& a2) (fun x1 => f_X0_hanging_L8 σ a2 a3 x1 0)
set_option maxHeartbeats 4000000 in
set_option maxRecDepth 100000 in
theorem c_X0_hanging (l : Launch) (ev : EV) (ad : Nat → Nat) (σ : GG) (a1 : Int32) (a2 : Int32) (a3 : Int64)   (r : Int32)  (h : f_X0_hanging σ a1 a2 a3 = some r) : Ct l yX0_hanging prog_2_method_25_code 8 (Option.some Jvm.ClassFile.FieldType.int) (rmk 2 53) ev 1 ad (gw1 σ) (gw1 σ) [.ref (ad 0), .int a1, .int a2, .long a3] (some (.int r)) := by
  refine Ct.of (by decide +kernel) (Nat.le_of_ble_eq_true rfl) ?_
  intro p e s m args below meth c Qc C hap hP hend ls hl
  have hAA : ∀ j, j < 1 → inA ad 1 (ad j) := fun j hj => ⟨j, hj, rfl⟩
  have hx := C.1
  have hb := C.2.1
  have hl : lv_has ls 8 [(0, .ref (ad 0)), (1, .int a1), (2, .int a2), (3, .long a3)] := hl
  have h := (f_X0_hanging.eq_1 _ _ _ _ ).symm.trans h
  refine lv_iload_n hx hb dX0_hanging_0 rfl (lv_at hl 1 rfl) ?_
  refine lv_iload_n hx hb dX0_hanging_1 rfl (lv_at hl 2 rfl) ?_
  refine lv_iand hx hb dX0_hanging_2 ?_
  refine lv_topi (fun x1 ex1 => ?_)
  have h := k_lt ex1 h
  refine lv_istore (lv' := [(5, .int x1), (0, .ref (ad 0)), (1, .int a1), (2, .int a2), (3, .long a3)]) hx hb dX0_hanging_3 hl (by decide) rfl (fun ls hl => ?_)
  refine lv_iconst (v := 0) hx hb dX0_hanging_5 (by decide) ?_
  refine lv_istore (lv' := [(6, .int 0), (5, .int x1), (0, .ref (ad 0)), (1, .int a1), (2, .int a2), (3, .long a3)]) hx hb dX0_hanging_6 hl (by decide) rfl (fun ls hl => ?_)
  have hL8 : ∀ (n : Nat) (x2 : Int32) (x3 : Int32) (H : Heap) (locs : List Loc) (ls : Array Slot), lp (fun _ _ => none) (f_X0_hanging_L8_b σ a2 a3 ) n x2 x3 = some r → PS ev 1 ad (gw1 σ) (inA ad 1) s H locs → lv_has ls 8 [(0, .ref (ad 0)), (2, .int a2), (3, .long a3), (5, .int x2), (6, .int x3)] → WW ev p l e (rmk 2 53) s m args below meth c Qc ad 1 H locs 8 ls [] := by
    intro n
    induction n with
    | zero =>
      intro x2 x3 H locs ls h; exact k_none h
    | succ n ih =>
      intro x2 x3 H locs ls h hP hl
      have h : f_X0_hanging_L8_b σ a2 a3  (lp (fun _ _ => none) (f_X0_hanging_L8_b σ a2 a3 ) n) x2 x3 = some r := h
      have h := (f_X0_hanging_L8_b.eq_1 _ _ _ _ _ _ ).symm.trans h
      refine lv_iload hx hb dX0_hanging_8 (lv_at hl 4 rfl) ?_
      refine lv_bipush (v := 16) hx hb dX0_hanging_10 (by decide) ?_
      refine lv_icmp_ge (tgt := 49) hx hb dX0_hanging_12 (by decide) (fun c12 => ?_) (fun c12 => ?_)
      · have h := k_if c12 h
        refine lv_iload hx hb dX0_hanging_49 (lv_at hl 3 rfl) ?_
        exact e_iret C hend hP (k_some h) rfl dX0_hanging_51
      · have h := k_nf c12 h
        refine lv_iload hx hb dX0_hanging_15 (lv_at hl 3 rfl) ?_
        refine lv_aload_n hx hb dX0_hanging_17 rfl (lv_at hl 0 rfl) ?_
        refine lv_iload hx hb dX0_hanging_18 (lv_at hl 3 rfl) ?_
        refine lv_lload_n hx hb dX0_hanging_20 rfl (lv_at hl 2 rfl) ?_
        obtain ⟨x4, h1, h⟩ := k_ob h
        refine k_callVi C hP hap hAA (c_X0_beside l ev ad σ x2 a3   _ h1) Emb.same hap gz_X0_beside qML_RX0_95 qIM_yX0_beside qSE_yX0_beside ⟨(Nat.le_of_ble_eq_true rfl), (Nat.le_of_ble_eq_true rfl)⟩ (q0 := 0) rfl (by decide) rfl rfl rfl rfl hl.1 rfl (Nat.le_of_ble_eq_true rfl) dX0_hanging_21 ⟨Nat.le_refl _, Nat.le_refl _⟩ (fun H locs hP => ?_)
        refine lv_ior hx hb dX0_hanging_24 ?_
        refine lv_iload_n hx hb dX0_hanging_25 rfl (lv_at hl 1 rfl) ?_
        refine lv_iand hx hb dX0_hanging_26 ?_
        refine lv_topi (fun x5 ex5 => ?_)
        have h := k_lt ex5 h
        refine lv_istore (lv' := [(7, .int x5), (0, .ref (ad 0)), (2, .int a2), (3, .long a3), (5, .int x2), (6, .int x3)]) hx hb dX0_hanging_27 hl (by decide) rfl (fun ls hl => ?_)
        refine lv_iload hx hb dX0_hanging_29 (lv_at hl 0 rfl) ?_
        refine lv_iload hx hb dX0_hanging_31 (lv_at hl 4 rfl) ?_
        refine lv_icmp_ne (tgt := 39) hx hb dX0_hanging_33 (by decide) (fun c33 => ?_) (fun c33 => ?_)
        · have h := k_nf c33 h
          refine lv_iload hx hb dX0_hanging_39 (lv_at hl 0 rfl) ?_
          refine lv_istore (lv' := [(5, .int x5), (7, .int x5), (0, .ref (ad 0)), (2, .int a2), (3, .long a3), (6, .int x3)]) hx hb dX0_hanging_41 hl (by decide) rfl (fun ls hl => ?_)
          obtain ⟨x6, ex6, h⟩ := k_ltx h
          refine lv_iinc (v := x6) (lv' := [(6, .int x6), (5, .int x5), (7, .int x5), (0, .ref (ad 0)), (2, .int a2), (3, .long a3)]) hx hb dX0_hanging_43 hl (k := 5) rfl (by rw [ex6]; rfl) (by decide) rfl (fun ls hl => ?_)
          refine lv_goto (tgt := 8) hx hb dX0_hanging_46 (by decide) ?_
          exact ih _ _ _ _ _ h hP (lv_sub hl [3, 4, 5, 1, 0] rfl)
        · have h := k_if c33 h
          refine lv_goto (tgt := 49) hx hb dX0_hanging_36 (by decide) ?_
          refine lv_iload hx hb dX0_hanging_49 (lv_at hl 4 rfl) ?_
          exact e_iret C hend hP (k_some h) rfl dX0_hanging_51
  exact hL8 FU _ _ _ _ _ h hP (lv_sub hl [2, 4, 5, 1, 0] rfl)
