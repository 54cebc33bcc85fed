/-! functions read off, and their contracts: by program (wip/whole/gen2.py) -/
def f_X0_edgeRight (σ : GG) (a1 : Int32) : Option (Int32) :=
  ob (f_X0_edgeLeft σ a1) (fun x1 => some (x1 + 1))
set_option maxHeartbeats 4000000 in
set_option maxRecDepth 100000 in
theorem c_X0_edgeRight (l : Launch) (ev : EV) (ad : Nat → Nat) (σ : GG) (a1 : Int32)   (r : Int32)  (h : f_X0_edgeRight σ a1 = some r) : Ct l yX0_edgeRight prog_2_method_12_code 2 (Option.some Jvm.ClassFile.FieldType.int) (rmk 2 42) ev 1 ad (gw1 σ) (gw1 σ) [.ref (ad 0), .int a1] (some (.int r)) := by
  refine Ct.of (by decide +kernel) (Nat.le_of_ble_eq_true rfl) ?_
  intro p e s m args below meth c Qc C hap hP hend ls hl
  have hAA : ∀ j, j < 1 → inA ad 1 (ad j) := fun j hj => ⟨j, hj, rfl⟩
  have hx := C.1
  have hb := C.2.1
  have hl : lv_has ls 2 [(0, .ref (ad 0)), (1, .int a1)] := hl
  have h := (f_X0_edgeRight.eq_1 _ _ ).symm.trans h
  refine lv_aload_n hx hb dX0_edgeRight_0 rfl (lv_at hl 0 rfl) ?_
  refine lv_iload_n hx hb dX0_edgeRight_1 rfl (lv_at hl 1 rfl) ?_
  obtain ⟨x1, h1, h⟩ := k_ob h
  refine k_callVi C hP hap hAA (c_X0_edgeLeft l ev ad σ a1   _ h1) Emb.same hap gz_X0_edgeLeft qML_RX0_78 qIM_yX0_edgeLeft qSE_yX0_edgeLeft ⟨(Nat.le_of_ble_eq_true rfl), (Nat.le_of_ble_eq_true rfl)⟩ (q0 := 0) rfl (by decide) rfl rfl rfl rfl hl.1 rfl (Nat.le_of_ble_eq_true rfl) dX0_edgeRight_2 ⟨Nat.le_refl _, Nat.le_refl _⟩ (fun H locs hP => ?_)
  refine lv_iconst (v := 1) hx hb dX0_edgeRight_5 (by decide) ?_
  refine lv_iadd hx hb dX0_edgeRight_6 ?_
  exact e_iret C hend hP (k_some h) rfl dX0_edgeRight_7
def f_X0_withAbove (σ : GG) (a1 : Int64) : Int32 :=
  ((Int64.toInt32 a1) &&& (g_all σ))
set_option maxHeartbeats 4000000 in
set_option maxRecDepth 100000 in
theorem c_X0_withAbove (l : Launch) (ev : EV) (ad : Nat → Nat) (σ : GG) (a1 : Int64)   (r : Int32)  (h : f_X0_withAbove σ a1 = r) : Ct l yX0_withAbove prog_2_method_16_code 3 (Option.some Jvm.ClassFile.FieldType.int) (rmk 0 0) ev 1 ad (gw1 σ) (gw1 σ) [.ref (ad 0), .long a1] (some (.int r)) := by
  refine Ct.of (by decide +kernel) (Nat.le_of_ble_eq_true rfl) ?_
  intro p e s m args below meth c Qc C hap hP hend ls hl
  have hAA : ∀ j, j < 1 → inA ad 1 (ad j) := fun j hj => ⟨j, hj, rfl⟩
  have hx := C.1
  have hb := C.2.1
  have hl : lv_has ls 3 [(0, .ref (ad 0)), (1, .long a1)] := hl
  have h := (f_X0_withAbove.eq_1 _ _ ).symm.trans h
  refine lv_lload_n hx hb dX0_withAbove_0 rfl (lv_at hl 1 rfl) ?_
  refine lv_l2i hx hb dX0_withAbove_1 rfl ?_
  refine lv_aload_n hx hb dX0_withAbove_2 rfl (lv_at hl 0 rfl) ?_
  refine r_get C hP (ci := 0) rfl uin_X0 5 (by decide) 0 (by decide) rfl qFL_RX0_34 rfl rfl dX0_withAbove_3 ?_
  refine lv_iand hx hb dX0_withAbove_6 ?_
  exact e_iret C hend hP h rfl dX0_withAbove_7
def f_X0_withBelow (σ : GG) (a1 : Int64) : Int32 :=
  ((Int64.toInt32 (lushr a1 (g_width σ))) &&& (g_all σ))
set_option maxHeartbeats 4000000 in
set_option maxRecDepth 100000 in
theorem c_X0_withBelow (l : Launch) (ev : EV) (ad : Nat → Nat) (σ : GG) (a1 : Int64)   (r : Int32)  (h : f_X0_withBelow σ a1 = r) : Ct l yX0_withBelow prog_2_method_17_code 3 (Option.some Jvm.ClassFile.FieldType.int) (rmk 0 0) ev 1 ad (gw1 σ) (gw1 σ) [.ref (ad 0), .long a1] (some (.int r)) := by
  refine Ct.of (by decide +kernel) (Nat.le_of_ble_eq_true rfl) ?_
  intro p e s m args below meth c Qc C hap hP hend ls hl
  have hAA : ∀ j, j < 1 → inA ad 1 (ad j) := fun j hj => ⟨j, hj, rfl⟩
  have hx := C.1
  have hb := C.2.1
  have hl : lv_has ls 3 [(0, .ref (ad 0)), (1, .long a1)] := hl
  have h := (f_X0_withBelow.eq_1 _ _ ).symm.trans h
  refine lv_lload_n hx hb dX0_withBelow_0 rfl (lv_at hl 1 rfl) ?_
  refine lv_aload_n hx hb dX0_withBelow_1 rfl (lv_at hl 0 rfl) ?_
  refine r_get C hP (ci := 0) rfl uin_X0 0 (by decide) 0 (by decide) rfl qFL_RX0_19 rfl rfl dX0_withBelow_2 ?_
  refine r_lushr hx hb dX0_withBelow_5 ?_
  refine lv_l2i hx hb dX0_withBelow_6 rfl ?_
  refine lv_aload_n hx hb dX0_withBelow_7 rfl (lv_at hl 0 rfl) ?_
  refine r_get C hP (ci := 0) rfl uin_X0 5 (by decide) 0 (by decide) rfl qFL_RX0_34 rfl rfl dX0_withBelow_8 ?_
  refine lv_iand hx hb dX0_withBelow_11 ?_
  exact e_iret C hend hP h rfl dX0_withBelow_12
def f_X0_withUpright_L16_b (σ : GG) (a1 : Int64) (a2 : Int32) (x1 : Int32)  (rec16 : Int32 → Int32 → Option (Int32)) (x2 : Int32) (x3 : Int32) : Option (Int32) :=
  if (g_height σ) ≤ x3 then some x2 else lt (x2 ||| (ishl ((Int64.toInt32 (lushr a1 (((g_uprights σ) + (x3 * ((g_width σ) + 1))) + a2))) &&& x1) (x3 * (g_width σ)))) (fun x4 => lt (x3 + 1) (fun x5 => rec16 x4 x5))
def f_X0_withUpright_L16 (σ : GG) (a1 : Int64) (a2 : Int32) (x1 : Int32)  (x2 : Int32) (x3 : Int32) : Option (Int32) :=
  lp (fun _ _ => none) (f_X0_withUpright_L16_b σ a1 a2 x1 ) FU x2 x3
def f_X0_withUpright (σ : GG) (a1 : Int64) (a2 : Int32) : Option (Int32) :=
  lt ((ishl 1 (g_width σ)) - 1) (fun x1 => f_X0_withUpright_L16 σ a1 a2 x1 0 0)
set_option maxHeartbeats 4000000 in
set_option maxRecDepth 100000 in
theorem c_X0_withUpright (l : Launch) (ev : EV) (ad : Nat → Nat) (σ : GG) (a1 : Int64) (a2 : Int32)   (r : Int32)  (h : f_X0_withUpright σ a1 a2 = some r) : Ct l yX0_withUpright prog_2_method_18_code 7 (Option.some Jvm.ClassFile.FieldType.int) (rmk 0 0) ev 1 ad (gw1 σ) (gw1 σ) [.ref (ad 0), .long a1, .int a2] (some (.int r)) := by
  refine Ct.of (by decide +kernel) (Nat.le_of_ble_eq_true rfl) ?_
  intro p e s m args below meth c Qc C hap hP hend ls hl
  have hAA : ∀ j, j < 1 → inA ad 1 (ad j) := fun j hj => ⟨j, hj, rfl⟩
  have hx := C.1
  have hb := C.2.1
  have hl : lv_has ls 7 [(0, .ref (ad 0)), (1, .long a1), (3, .int a2)] := hl
  have h := (f_X0_withUpright.eq_1 _ _ _ ).symm.trans h
  refine lv_iconst (v := 1) hx hb dX0_withUpright_0 (by decide) ?_
  refine lv_aload_n hx hb dX0_withUpright_1 rfl (lv_at hl 0 rfl) ?_
  refine r_get C hP (ci := 0) rfl uin_X0 0 (by decide) 0 (by decide) rfl qFL_RX0_19 rfl rfl dX0_withUpright_2 ?_
  refine r_ishl hx hb dX0_withUpright_5 ?_
  refine lv_iconst (v := 1) hx hb dX0_withUpright_6 (by decide) ?_
  refine lv_isub hx hb dX0_withUpright_7 ?_
  refine lv_topi (fun x1 ex1 => ?_)
  have h := k_lt ex1 h
  refine lv_istore (lv' := [(4, .int x1), (0, .ref (ad 0)), (1, .long a1), (3, .int a2)]) hx hb dX0_withUpright_8 hl (by decide) rfl (fun ls hl => ?_)
  refine lv_iconst (v := 0) hx hb dX0_withUpright_10 (by decide) ?_
  refine lv_istore (lv' := [(5, .int 0), (4, .int x1), (0, .ref (ad 0)), (1, .long a1), (3, .int a2)]) hx hb dX0_withUpright_11 hl (by decide) rfl (fun ls hl => ?_)
  refine lv_iconst (v := 0) hx hb dX0_withUpright_13 (by decide) ?_
  refine lv_istore (lv' := [(6, .int 0), (5, .int 0), (4, .int x1), (0, .ref (ad 0)), (1, .long a1), (3, .int a2)]) hx hb dX0_withUpright_14 hl (by decide) rfl (fun ls hl => ?_)
  have hL16 : ∀ (n : Nat) (x2 : Int32) (x3 : Int32) (H : Heap) (locs : List Loc) (ls : Array Slot), lp (fun _ _ => none) (f_X0_withUpright_L16_b σ a1 a2 x1 ) n x2 x3 = some r → PS ev 1 ad (gw1 σ) (inA ad 1) s H locs → lv_has ls 7 [(0, .ref (ad 0)), (1, .long a1), (3, .int a2), (4, .int x1), (5, .int x2), (6, .int x3)] → WW ev p l e (rmk 0 0) s m args below meth c Qc ad 1 H locs 16 ls [] := by
    intro n
    induction n with
    | zero =>
      intro x2 x3 H locs ls h; exact k_none h
    | succ n ih =>
      intro x2 x3 H locs ls h hP hl
      have h : f_X0_withUpright_L16_b σ a1 a2 x1  (lp (fun _ _ => none) (f_X0_withUpright_L16_b σ a1 a2 x1 ) n) x2 x3 = some r := h
      have h := (f_X0_withUpright_L16_b.eq_1 _ _ _ _ _ _ _ ).symm.trans h
      refine lv_iload hx hb dX0_withUpright_16 (lv_at hl 5 rfl) ?_
      refine lv_aload_n hx hb dX0_withUpright_18 rfl (lv_at hl 0 rfl) ?_
      refine r_get C hP (ci := 0) rfl uin_X0 1 (by decide) 0 (by decide) rfl qFL_RX0_22 rfl rfl dX0_withUpright_19 ?_
      refine lv_icmp_ge (tgt := 66) hx hb dX0_withUpright_22 (by decide) (fun c22 => ?_) (fun c22 => ?_)
      · have h := k_if c22 h
        refine lv_iload hx hb dX0_withUpright_66 (lv_at hl 4 rfl) ?_
        exact e_iret C hend hP (k_some h) rfl dX0_withUpright_68
      · have h := k_nf c22 h
        refine lv_iload hx hb dX0_withUpright_25 (lv_at hl 4 rfl) ?_
        refine lv_lload_n hx hb dX0_withUpright_27 rfl (lv_at hl 1 rfl) ?_
        refine lv_aload_n hx hb dX0_withUpright_28 rfl (lv_at hl 0 rfl) ?_
        refine r_get C hP (ci := 0) rfl uin_X0 4 (by decide) 0 (by decide) rfl qFL_RX0_28 rfl rfl dX0_withUpright_29 ?_
        refine lv_iload hx hb dX0_withUpright_32 (lv_at hl 5 rfl) ?_
        refine lv_aload_n hx hb dX0_withUpright_34 rfl (lv_at hl 0 rfl) ?_
        refine r_get C hP (ci := 0) rfl uin_X0 0 (by decide) 0 (by decide) rfl qFL_RX0_19 rfl rfl dX0_withUpright_35 ?_
        refine lv_iconst (v := 1) hx hb dX0_withUpright_38 (by decide) ?_
        refine lv_iadd hx hb dX0_withUpright_39 ?_
        refine lv_imul hx hb dX0_withUpright_40 ?_
        refine lv_iadd hx hb dX0_withUpright_41 ?_
        refine lv_iload_n hx hb dX0_withUpright_42 rfl (lv_at hl 2 rfl) ?_
        refine lv_iadd hx hb dX0_withUpright_43 ?_
        refine r_lushr hx hb dX0_withUpright_44 ?_
        refine lv_l2i hx hb dX0_withUpright_45 rfl ?_
        refine lv_iload hx hb dX0_withUpright_46 (lv_at hl 3 rfl) ?_
        refine lv_iand hx hb dX0_withUpright_48 ?_
        refine lv_iload hx hb dX0_withUpright_49 (lv_at hl 5 rfl) ?_
        refine lv_aload_n hx hb dX0_withUpright_51 rfl (lv_at hl 0 rfl) ?_
        refine r_get C hP (ci := 0) rfl uin_X0 0 (by decide) 0 (by decide) rfl qFL_RX0_19 rfl rfl dX0_withUpright_52 ?_
        refine lv_imul hx hb dX0_withUpright_55 ?_
        refine r_ishl hx hb dX0_withUpright_56 ?_
        refine lv_ior hx hb dX0_withUpright_57 ?_
        refine lv_topi (fun x4 ex4 => ?_)
        have h := k_lt ex4 h
        refine lv_istore (lv' := [(5, .int x4), (0, .ref (ad 0)), (1, .long a1), (3, .int a2), (4, .int x1), (6, .int x3)]) hx hb dX0_withUpright_58 hl (by decide) rfl (fun ls hl => ?_)
        obtain ⟨x5, ex5, h⟩ := k_ltx h
        refine lv_iinc (v := x5) (lv' := [(6, .int x5), (5, .int x4), (0, .ref (ad 0)), (1, .long a1), (3, .int a2), (4, .int x1)]) hx hb dX0_withUpright_60 hl (k := 5) rfl (by rw [ex5]; rfl) (by decide) rfl (fun ls hl => ?_)
        refine lv_goto (tgt := 16) hx hb dX0_withUpright_63 (by decide) ?_
        exact ih _ _ _ _ _ h hP (lv_sub hl [2, 3, 4, 5, 1, 0] rfl)
  exact hL16 FU _ _ _ _ _ h hP (lv_sub hl [3, 4, 5, 2, 1, 0] rfl)
def f_X0_touched (σ : GG) (a1 : Int64) : Option (Int32) :=
  ob (f_X0_withUpright σ a1 0) (fun x1 => ob (f_X0_withUpright σ a1 1) (fun x2 => some ((((f_X0_withAbove σ a1) ||| (f_X0_withBelow σ a1)) ||| x1) ||| x2)))
set_option maxHeartbeats 4000000 in
set_option maxRecDepth 100000 in
theorem c_X0_touched (l : Launch) (ev : EV) (ad : Nat → Nat) (σ : GG) (a1 : Int64)   (r : Int32)  (h : f_X0_touched σ a1 = some r) : Ct l yX0_touched prog_2_method_19_code 3 (Option.some Jvm.ClassFile.FieldType.int) (rmk 1 26) ev 1 ad (gw1 σ) (gw1 σ) [.ref (ad 0), .long a1] (some (.int r)) := by
  refine Ct.of (by decide +kernel) (Nat.le_of_ble_eq_true rfl) ?_
  intro p e s m args below meth c Qc C hap hP hend ls hl
  have hAA : ∀ j, j < 1 → inA ad 1 (ad j) := fun j hj => ⟨j, hj, rfl⟩
  have hx := C.1
  have hb := C.2.1
  have hl : lv_has ls 3 [(0, .ref (ad 0)), (1, .long a1)] := hl
  have h := (f_X0_touched.eq_1 _ _ ).symm.trans h
  refine lv_aload_n hx hb dX0_touched_0 rfl (lv_at hl 0 rfl) ?_
  refine lv_lload_n hx hb dX0_touched_1 rfl (lv_at hl 1 rfl) ?_
  refine k_callVi C hP hap hAA (c_X0_withAbove l ev ad σ a1   _ rfl) Emb.same hap gz_X0_withAbove qML_RX0_84 qIM_yX0_withAbove qSE_yX0_withAbove ⟨(Nat.le_of_ble_eq_true rfl), (Nat.le_of_ble_eq_true rfl)⟩ (q0 := 0) rfl (by decide) rfl rfl rfl rfl hl.1 rfl (Nat.le_of_ble_eq_true rfl) dX0_touched_2 ⟨Nat.le_refl _, Nat.le_refl _⟩ (fun H locs hP => ?_)
  refine lv_aload_n hx hb dX0_touched_5 rfl (lv_at hl 0 rfl) ?_
  refine lv_lload_n hx hb dX0_touched_6 rfl (lv_at hl 1 rfl) ?_
  refine k_callVi C hP hap hAA (c_X0_withBelow l ev ad σ a1   _ rfl) Emb.same hap gz_X0_withBelow qML_RX0_88 qIM_yX0_withBelow qSE_yX0_withBelow ⟨(Nat.le_of_ble_eq_true rfl), (Nat.le_of_ble_eq_true rfl)⟩ (q0 := 0) rfl (by decide) rfl rfl rfl rfl hl.1 rfl (Nat.le_of_ble_eq_true rfl) dX0_touched_7 ⟨Nat.le_refl _, Nat.le_refl _⟩ (fun H locs hP => ?_)
  refine lv_ior hx hb dX0_touched_10 ?_
  refine lv_aload_n hx hb dX0_touched_11 rfl (lv_at hl 0 rfl) ?_
  refine lv_lload_n hx hb dX0_touched_12 rfl (lv_at hl 1 rfl) ?_
  refine lv_iconst (v := 0) hx hb dX0_touched_13 (by decide) ?_
  obtain ⟨x1, h1, h⟩ := k_ob h
  refine k_callVi C hP hap hAA (c_X0_withUpright l ev ad σ a1 0   _ h1) Emb.same hap gz_X0_withUpright qML_RX0_91 qIM_yX0_withUpright qSE_yX0_withUpright ⟨(Nat.le_of_ble_eq_true rfl), (Nat.le_of_ble_eq_true rfl)⟩ (q0 := 0) rfl (by decide) rfl rfl rfl rfl hl.1 rfl (Nat.le_of_ble_eq_true rfl) dX0_touched_14 ⟨Nat.le_refl _, Nat.le_refl _⟩ (fun H locs hP => ?_)
  refine lv_ior hx hb dX0_touched_17 ?_
  refine lv_aload_n hx hb dX0_touched_18 rfl (lv_at hl 0 rfl) ?_
  refine lv_lload_n hx hb dX0_touched_19 rfl (lv_at hl 1 rfl) ?_
  refine lv_iconst (v := 1) hx hb dX0_touched_20 (by decide) ?_
  obtain ⟨x2, h1, h⟩ := k_ob h
  refine k_callVi C hP hap hAA (c_X0_withUpright l ev ad σ a1 1   _ h1) Emb.same hap gz_X0_withUpright qML_RX0_91 qIM_yX0_withUpright qSE_yX0_withUpright ⟨(Nat.le_of_ble_eq_true rfl), (Nat.le_of_ble_eq_true rfl)⟩ (q0 := 0) rfl (by decide) rfl rfl rfl rfl hl.1 rfl (Nat.le_of_ble_eq_true rfl) dX0_touched_21 ⟨Nat.le_refl _, Nat.le_refl _⟩ (fun H locs hP => ?_)
  refine lv_ior hx hb dX0_touched_24 ?_
  exact e_iret C hend hP (k_some h) rfl dX0_touched_25
def f_X0_closed (σ : GG) (a1 : Int64) : Option (Int32) :=
  ob (f_X0_withUpright σ a1 0) (fun x1 => ob (f_X0_withUpright σ a1 1) (fun x2 => some ((((f_X0_withAbove σ a1) &&& (f_X0_withBelow σ a1)) &&& x1) &&& x2)))
set_option maxHeartbeats 4000000 in
set_option maxRecDepth 100000 in
theorem c_X0_closed (l : Launch) (ev : EV) (ad : Nat → Nat) (σ : GG) (a1 : Int64)   (r : Int32)  (h : f_X0_closed σ a1 = some r) : Ct l yX0_closed prog_2_method_20_code 3 (Option.some Jvm.ClassFile.FieldType.int) (rmk 1 26) ev 1 ad (gw1 σ) (gw1 σ) [.ref (ad 0), .long a1] (some (.int r)) := by
  refine Ct.of (by decide +kernel) (Nat.le_of_ble_eq_true rfl) ?_
  intro p e s m args below meth c Qc C hap hP hend ls hl
  have hAA : ∀ j, j < 1 → inA ad 1 (ad j) := fun j hj => ⟨j, hj, rfl⟩
  have hx := C.1
  have hb := C.2.1
  have hl : lv_has ls 3 [(0, .ref (ad 0)), (1, .long a1)] := hl
  have h := (f_X0_closed.eq_1 _ _ ).symm.trans h
  refine lv_aload_n hx hb dX0_closed_0 rfl (lv_at hl 0 rfl) ?_
  refine lv_lload_n hx hb dX0_closed_1 rfl (lv_at hl 1 rfl) ?_
  refine k_callVi C hP hap hAA (c_X0_withAbove l ev ad σ a1   _ rfl) Emb.same hap gz_X0_withAbove qML_RX0_84 qIM_yX0_withAbove qSE_yX0_withAbove ⟨(Nat.le_of_ble_eq_true rfl), (Nat.le_of_ble_eq_true rfl)⟩ (q0 := 0) rfl (by decide) rfl rfl rfl rfl hl.1 rfl (Nat.le_of_ble_eq_true rfl) dX0_closed_2 ⟨Nat.le_refl _, Nat.le_refl _⟩ (fun H locs hP => ?_)
  refine lv_aload_n hx hb dX0_closed_5 rfl (lv_at hl 0 rfl) ?_
  refine lv_lload_n hx hb dX0_closed_6 rfl (lv_at hl 1 rfl) ?_
  refine k_callVi C hP hap hAA (c_X0_withBelow l ev ad σ a1   _ rfl) Emb.same hap gz_X0_withBelow qML_RX0_88 qIM_yX0_withBelow qSE_yX0_withBelow ⟨(Nat.le_of_ble_eq_true rfl), (Nat.le_of_ble_eq_true rfl)⟩ (q0 := 0) rfl (by decide) rfl rfl rfl rfl hl.1 rfl (Nat.le_of_ble_eq_true rfl) dX0_closed_7 ⟨Nat.le_refl _, Nat.le_refl _⟩ (fun H locs hP => ?_)
  refine lv_iand hx hb dX0_closed_10 ?_
  refine lv_aload_n hx hb dX0_closed_11 rfl (lv_at hl 0 rfl) ?_
  refine lv_lload_n hx hb dX0_closed_12 rfl (lv_at hl 1 rfl) ?_
  refine lv_iconst (v := 0) hx hb dX0_closed_13 (by decide) ?_
  obtain ⟨x1, h1, h⟩ := k_ob h
  refine k_callVi C hP hap hAA (c_X0_withUpright l ev ad σ a1 0   _ h1) Emb.same hap gz_X0_withUpright qML_RX0_91 qIM_yX0_withUpright qSE_yX0_withUpright ⟨(Nat.le_of_ble_eq_true rfl), (Nat.le_of_ble_eq_true rfl)⟩ (q0 := 0) rfl (by decide) rfl rfl rfl rfl hl.1 rfl (Nat.le_of_ble_eq_true rfl) dX0_closed_14 ⟨Nat.le_refl _, Nat.le_refl _⟩ (fun H locs hP => ?_)
  refine lv_iand hx hb dX0_closed_17 ?_
  refine lv_aload_n hx hb dX0_closed_18 rfl (lv_at hl 0 rfl) ?_
  refine lv_lload_n hx hb dX0_closed_19 rfl (lv_at hl 1 rfl) ?_
  refine lv_iconst (v := 1) hx hb dX0_closed_20 (by decide) ?_
  obtain ⟨x2, h1, h⟩ := k_ob h
  refine k_callVi C hP hap hAA (c_X0_withUpright l ev ad σ a1 1   _ h1) Emb.same hap gz_X0_withUpright qML_RX0_91 qIM_yX0_withUpright qSE_yX0_withUpright ⟨(Nat.le_of_ble_eq_true rfl), (Nat.le_of_ble_eq_true rfl)⟩ (q0 := 0) rfl (by decide) rfl rfl rfl rfl hl.1 rfl (Nat.le_of_ble_eq_true rfl) dX0_closed_21 ⟨Nat.le_refl _, Nat.le_refl _⟩ (fun H locs hP => ?_)
  refine lv_iand hx hb dX0_closed_24 ?_
  exact e_iret C hend hP (k_some h) rfl dX0_closed_25
def f_X0_withThree (σ : GG) (a1 : Int64) : Option (Int32) :=
  lt (f_X0_withAbove σ a1) (fun x1 => lt (f_X0_withBelow σ a1) (fun x2 => ob (f_X0_withUpright σ a1 0) (fun x3 => ob (f_X0_withUpright σ a1 1) (fun x4 => some (((x1 &&& x2) &&& (x3 ^^^ x4)) ||| ((x3 &&& x4) &&& (x1 ^^^ x2)))))))
set_option maxHeartbeats 4000000 in
set_option maxRecDepth 100000 in
theorem c_X0_withThree (l : Launch) (ev : EV) (ad : Nat → Nat) (σ : GG) (a1 : Int64)   (r : Int32)  (h : f_X0_withThree σ a1 = some r) : Ct l yX0_withThree prog_2_method_21_code 7 (Option.some Jvm.ClassFile.FieldType.int) (rmk 1 26) ev 1 ad (gw1 σ) (gw1 σ) [.ref (ad 0), .long a1] (some (.int r)) := by
  refine Ct.of (by decide +kernel) (Nat.le_of_ble_eq_true rfl) ?_
  intro p e s m args below meth c Qc C hap hP hend ls hl
  have hAA : ∀ j, j < 1 → inA ad 1 (ad j) := fun j hj => ⟨j, hj, rfl⟩
  have hx := C.1
  have hb := C.2.1
  have hl : lv_has ls 7 [(0, .ref (ad 0)), (1, .long a1)] := hl
  have h := (f_X0_withThree.eq_1 _ _ ).symm.trans h
  refine lv_aload_n hx hb dX0_withThree_0 rfl (lv_at hl 0 rfl) ?_
  refine lv_lload_n hx hb dX0_withThree_1 rfl (lv_at hl 1 rfl) ?_
  refine k_callVi C hP hap hAA (c_X0_withAbove l ev ad σ a1   _ rfl) Emb.same hap gz_X0_withAbove qML_RX0_84 qIM_yX0_withAbove qSE_yX0_withAbove ⟨(Nat.le_of_ble_eq_true rfl), (Nat.le_of_ble_eq_true rfl)⟩ (q0 := 0) rfl (by decide) rfl rfl rfl rfl hl.1 rfl (Nat.le_of_ble_eq_true rfl) dX0_withThree_2 ⟨Nat.le_refl _, Nat.le_refl _⟩ (fun H locs hP => ?_)
  refine lv_topi (fun x1 ex1 => ?_)
  have h := k_lt ex1 h
  refine lv_istore_n (lv' := [(3, .int x1), (0, .ref (ad 0)), (1, .long a1)]) hx hb dX0_withThree_5 rfl hl (by decide) rfl (fun ls hl => ?_)
  refine lv_aload_n hx hb dX0_withThree_6 rfl (lv_at hl 1 rfl) ?_
  refine lv_lload_n hx hb dX0_withThree_7 rfl (lv_at hl 2 rfl) ?_
  refine k_callVi C hP hap hAA (c_X0_withBelow l ev ad σ a1   _ rfl) Emb.same hap gz_X0_withBelow qML_RX0_88 qIM_yX0_withBelow qSE_yX0_withBelow ⟨(Nat.le_of_ble_eq_true rfl), (Nat.le_of_ble_eq_true rfl)⟩ (q0 := 0) rfl (by decide) rfl rfl rfl rfl hl.1 rfl (Nat.le_of_ble_eq_true rfl) dX0_withThree_8 ⟨Nat.le_refl _, Nat.le_refl _⟩ (fun H locs hP => ?_)
  refine lv_topi (fun x2 ex2 => ?_)
  have h := k_lt ex2 h
  refine lv_istore (lv' := [(4, .int x2), (3, .int x1), (0, .ref (ad 0)), (1, .long a1)]) hx hb dX0_withThree_11 hl (by decide) rfl (fun ls hl => ?_)
  refine lv_aload_n hx hb dX0_withThree_13 rfl (lv_at hl 2 rfl) ?_
  refine lv_lload_n hx hb dX0_withThree_14 rfl (lv_at hl 3 rfl) ?_
  refine lv_iconst (v := 0) hx hb dX0_withThree_15 (by decide) ?_
  obtain ⟨x3, h1, h⟩ := k_ob h
  refine k_callVi C hP hap hAA (c_X0_withUpright l ev ad σ a1 0   _ h1) Emb.same hap gz_X0_withUpright qML_RX0_91 qIM_yX0_withUpright qSE_yX0_withUpright ⟨(Nat.le_of_ble_eq_true rfl), (Nat.le_of_ble_eq_true rfl)⟩ (q0 := 0) rfl (by decide) rfl rfl rfl rfl hl.1 rfl (Nat.le_of_ble_eq_true rfl) dX0_withThree_16 ⟨Nat.le_refl _, Nat.le_refl _⟩ (fun H locs hP => ?_)
  refine lv_istore (lv' := [(5, .int x3), (4, .int x2), (3, .int x1), (0, .ref (ad 0)), (1, .long a1)]) hx hb dX0_withThree_19 hl (by decide) rfl (fun ls hl => ?_)
  refine lv_aload_n hx hb dX0_withThree_21 rfl (lv_at hl 3 rfl) ?_
  refine lv_lload_n hx hb dX0_withThree_22 rfl (lv_at hl 4 rfl) ?_
  refine lv_iconst (v := 1) hx hb dX0_withThree_23 (by decide) ?_
  obtain ⟨x4, h1, h⟩ := k_ob h
  refine k_callVi C hP hap hAA (c_X0_withUpright l ev ad σ a1 1   _ h1) Emb.same hap gz_X0_withUpright qML_RX0_91 qIM_yX0_withUpright qSE_yX0_withUpright ⟨(Nat.le_of_ble_eq_true rfl), (Nat.le_of_ble_eq_true rfl)⟩ (q0 := 0) rfl (by decide) rfl rfl rfl rfl hl.1 rfl (Nat.le_of_ble_eq_true rfl) dX0_withThree_24 ⟨Nat.le_refl _, Nat.le_refl _⟩ (fun H locs hP => ?_)
  refine lv_istore (lv' := [(6, .int x4), (5, .int x3), (4, .int x2), (3, .int x1), (0, .ref (ad 0)), (1, .long a1)]) hx hb dX0_withThree_27 hl (by decide) rfl (fun ls hl => ?_)
  refine lv_iload_n hx hb dX0_withThree_29 rfl (lv_at hl 3 rfl) ?_
  refine lv_iload hx hb dX0_withThree_30 (lv_at hl 2 rfl) ?_
  refine lv_iand hx hb dX0_withThree_32 ?_
  refine lv_iload hx hb dX0_withThree_33 (lv_at hl 1 rfl) ?_
  refine lv_iload hx hb dX0_withThree_35 (lv_at hl 0 rfl) ?_
  refine lv_ixor hx hb dX0_withThree_37 ?_
  refine lv_iand hx hb dX0_withThree_38 ?_
  refine lv_iload hx hb dX0_withThree_39 (lv_at hl 1 rfl) ?_
  refine lv_iload hx hb dX0_withThree_41 (lv_at hl 0 rfl) ?_
  refine lv_iand hx hb dX0_withThree_43 ?_
  refine lv_iload_n hx hb dX0_withThree_44 rfl (lv_at hl 3 rfl) ?_
  refine lv_iload hx hb dX0_withThree_45 (lv_at hl 2 rfl) ?_
  refine lv_ixor hx hb dX0_withThree_47 ?_
  refine lv_iand hx hb dX0_withThree_48 ?_
  refine lv_ior hx hb dX0_withThree_49 ?_
  exact e_iret C hend hP (k_some h) rfl dX0_withThree_50
