/-! functions read off, and their contracts: by program (wip/whole/gen2.py) -/
def f_X0_turnedEdges_L6_b (σ : GG) (a1 : Int64) (a2 : Int32)  (rec6 : Int64 → Int32 → Option (Int64)) (y1 : Int64) (x2 : Int32) : Option (Int64) :=
  if (g_edges σ) ≤ x2 then some y1 else if (lg_cmp ((lushr a1 x2) &&& 1) 0) = 0 then lt (x2 + 1) (fun x3 => rec6 y1 x3) else ob (f_X0_edgeTurned σ x2 a2) (fun x4 => lt (y1 ||| (lshl 1 x4)) (fun y5 => lt (x2 + 1) (fun x6 => rec6 y5 x6)))
def f_X0_turnedEdges_L6 (σ : GG) (a1 : Int64) (a2 : Int32)  (y1 : Int64) (x2 : Int32) : Option (Int64) :=
  lp (fun _ _ => none) (f_X0_turnedEdges_L6_b σ a1 a2 ) FU y1 x2
def f_X0_turnedEdges (σ : GG) (a1 : Int64) (a2 : Int32) : Option (Int64) :=
  f_X0_turnedEdges_L6 σ a1 a2 0 0
set_option maxHeartbeats 4000000 in
set_option maxRecDepth 100000 in
theorem c_X0_turnedEdges (l : Launch) (ev : EV) (ad : Nat → Nat) (σ : GG) (a1 : Int64) (a2 : Int32)   (r : Int64)  (h : f_X0_turnedEdges σ a1 a2 = some r) : Ct l yX0_turnedEdges prog_2_method_50_code 7 (Option.some Jvm.ClassFile.FieldType.long) (rmk 2 55) ev 1 ad (gw1 σ) (gw1 σ) [.ref (ad 0), .long a1, .int a2] (some (.long r)) := by
  refine Ct.of (by decide +kernel) (Nat.le_of_ble_eq_true rfl) ?_
  intro p e s m args below meth c Qc C hap hP hend ls hl
  have hAA : ∀ j, j < 1 → inA ad 1 (ad j) := fun j hj => ⟨j, hj, rfl⟩
  have hx := C.1
  have hb := C.2.1
  have hl : lv_has ls 7 [(0, .ref (ad 0)), (1, .long a1), (3, .int a2)] := hl
  have h := (f_X0_turnedEdges.eq_1 _ _ _ ).symm.trans h
  refine lv_lconst (v := 0) hx hb dX0_turnedEdges_0 (by decide) ?_
  refine lv_lstore (lv' := [(4, .long 0), (0, .ref (ad 0)), (1, .long a1), (3, .int a2)]) hx hb dX0_turnedEdges_1 hl (by decide) rfl (fun ls hl => ?_)
  refine lv_iconst (v := 0) hx hb dX0_turnedEdges_3 (by decide) ?_
  refine lv_istore (lv' := [(6, .int 0), (4, .long 0), (0, .ref (ad 0)), (1, .long a1), (3, .int a2)]) hx hb dX0_turnedEdges_4 hl (by decide) rfl (fun ls hl => ?_)
  have hL6 : ∀ (n : Nat) (y1 : Int64) (x2 : Int32) (H : Heap) (locs : List Loc) (ls : Array Slot), lp (fun _ _ => none) (f_X0_turnedEdges_L6_b σ a1 a2 ) n y1 x2 = some r → PS ev 1 ad (gw1 σ) (inA ad 1) s H locs → lv_has ls 7 [(0, .ref (ad 0)), (1, .long a1), (3, .int a2), (4, .long y1), (6, .int x2)] → WW ev p l e (rmk 2 55) s m args below meth c Qc ad 1 H locs 6 ls [] := by
    intro n
    induction n with
    | zero =>
      intro y1 x2 H locs ls h; exact k_none h
    | succ n ih =>
      intro y1 x2 H locs ls h hP hl
      have h : f_X0_turnedEdges_L6_b σ a1 a2  (lp (fun _ _ => none) (f_X0_turnedEdges_L6_b σ a1 a2 ) n) y1 x2 = some r := h
      have h := (f_X0_turnedEdges_L6_b.eq_1 _ _ _ _ _ _ ).symm.trans h
      refine lv_iload hx hb dX0_turnedEdges_6 (lv_at hl 4 rfl) ?_
      refine lv_aload_n hx hb dX0_turnedEdges_8 rfl (lv_at hl 0 rfl) ?_
      refine r_get C hP (ci := 0) rfl uin_X0 3 (by decide) 0 (by decide) rfl qFL_RX0_31 rfl rfl dX0_turnedEdges_9 ?_
      refine lv_icmp_ge (tgt := 46) hx hb dX0_turnedEdges_12 (by decide) (fun c12 => ?_) (fun c12 => ?_)
      · have h := k_if c12 h
        refine lv_lload hx hb dX0_turnedEdges_46 (lv_at hl 3 rfl) ?_
        exact e_lret C hend hP (k_some h) rfl dX0_turnedEdges_48
      · have h := k_nf c12 h
        refine lv_lload_n hx hb dX0_turnedEdges_15 rfl (lv_at hl 1 rfl) ?_
        refine lv_iload hx hb dX0_turnedEdges_16 (lv_at hl 4 rfl) ?_
        refine r_lushr hx hb dX0_turnedEdges_18 ?_
        refine lv_lconst (v := 1) hx hb dX0_turnedEdges_19 (by decide) ?_
        refine lv_land hx hb dX0_turnedEdges_20 ?_
        refine lv_lconst (v := 0) hx hb dX0_turnedEdges_21 (by decide) ?_
        refine W.lcmp hx hb dX0_turnedEdges_22 ?_
        refine lv_if_eq (tgt := 40) hx hb dX0_turnedEdges_23 (by decide) (fun c23 => ?_) (fun c23 => ?_)
        · have h := k_if c23 h
          obtain ⟨x3, ex3, h⟩ := k_ltx h
          refine lv_iinc (v := x3) (lv' := [(6, .int x3), (0, .ref (ad 0)), (1, .long a1), (3, .int a2), (4, .long y1)]) hx hb dX0_turnedEdges_40 hl (k := 4) rfl (by rw [ex3]; rfl) (by decide) rfl (fun ls hl => ?_)
          refine lv_goto (tgt := 6) hx hb dX0_turnedEdges_43 (by decide) ?_
          exact ih _ _ _ _ _ h hP (lv_sub hl [1, 2, 3, 4, 0] rfl)
        · have h := k_nf c23 h
          refine lv_lload hx hb dX0_turnedEdges_26 (lv_at hl 3 rfl) ?_
          refine lv_lconst (v := 1) hx hb dX0_turnedEdges_28 (by decide) ?_
          refine lv_aload_n hx hb dX0_turnedEdges_29 rfl (lv_at hl 0 rfl) ?_
          refine lv_iload hx hb dX0_turnedEdges_30 (lv_at hl 4 rfl) ?_
          refine lv_iload_n hx hb dX0_turnedEdges_32 rfl (lv_at hl 2 rfl) ?_
          obtain ⟨x4, h1, h⟩ := k_ob h
          refine k_callVi C hP hap hAA (c_X0_edgeTurned l ev ad σ x2 a2   _ h1) Emb.same hap gz_X0_edgeTurned qML_RX0_188 qIM_yX0_edgeTurned qSE_yX0_edgeTurned ⟨(Nat.le_of_ble_eq_true rfl), (Nat.le_of_ble_eq_true rfl)⟩ (q0 := 0) rfl (by decide) rfl rfl rfl rfl hl.1 rfl (Nat.le_of_ble_eq_true rfl) dX0_turnedEdges_33 ⟨Nat.le_refl _, Nat.le_refl _⟩ (fun H locs hP => ?_)
          refine r_lshl hx hb dX0_turnedEdges_36 ?_
          refine lv_lor hx hb dX0_turnedEdges_37 ?_
          refine lv_topl (fun y5 ey5 => ?_)
          have h := k_lt ey5 h
          refine lv_lstore (lv' := [(4, .long y5), (0, .ref (ad 0)), (1, .long a1), (3, .int a2), (6, .int x2)]) hx hb dX0_turnedEdges_38 hl (by decide) rfl (fun ls hl => ?_)
          obtain ⟨x6, ex6, h⟩ := k_ltx h
          refine lv_iinc (v := x6) (lv' := [(6, .int x6), (4, .long y5), (0, .ref (ad 0)), (1, .long a1), (3, .int a2)]) hx hb dX0_turnedEdges_40 hl (k := 4) rfl (by rw [ex6]; rfl) (by decide) rfl (fun ls hl => ?_)
          refine lv_goto (tgt := 6) hx hb dX0_turnedEdges_43 (by decide) ?_
          exact ih _ _ _ _ _ h hP (lv_sub hl [2, 3, 4, 1, 0] rfl)
  exact hL6 FU _ _ _ _ _ h hP (lv_sub hl [2, 3, 4, 1, 0] rfl)
def f_X0_turnedFields_L5_b (σ : GG) (a1 : Int32) (a2 : Int32)  (rec5 : Int32 → Int32 → Option (Int32)) (x1 : Int32) (x2 : Int32) : Option (Int32) :=
  if (g_fields σ) ≤ x2 then some x1 else if ((iushr a1 x2) &&& 1) = 0 then lt (x2 + 1) (fun x3 => rec5 x1 x3) else ob (f_X0_rowOf σ x2) (fun x4 => lt (x1 ||| (ishl 1 (f_X0_placeTurned σ x4 (x2 - (x4 * (g_width σ))) (g_height σ) (g_width σ) a2))) (fun x5 => lt (x2 + 1) (fun x6 => rec5 x5 x6)))
def f_X0_turnedFields_L5 (σ : GG) (a1 : Int32) (a2 : Int32)  (x1 : Int32) (x2 : Int32) : Option (Int32) :=
  lp (fun _ _ => none) (f_X0_turnedFields_L5_b σ a1 a2 ) FU x1 x2
def f_X0_turnedFields (σ : GG) (a1 : Int32) (a2 : Int32) : Option (Int32) :=
  f_X0_turnedFields_L5 σ a1 a2 0 0
set_option maxHeartbeats 4000000 in
set_option maxRecDepth 100000 in
theorem c_X0_turnedFields (l : Launch) (ev : EV) (ad : Nat → Nat) (σ : GG) (a1 : Int32) (a2 : Int32)   (r : Int32)  (h : f_X0_turnedFields σ a1 a2 = some r) : Ct l yX0_turnedFields prog_2_method_49_code 6 (Option.some Jvm.ClassFile.FieldType.int) (rmk 1 27) ev 1 ad (gw1 σ) (gw1 σ) [.ref (ad 0), .int a1, .int a2] (some (.int r)) := by
  refine Ct.of (by decide +kernel) (Nat.le_of_ble_eq_true rfl) ?_
  intro p e s m args below meth c Qc C hap hP hend ls hl
  have hAA : ∀ j, j < 1 → inA ad 1 (ad j) := fun j hj => ⟨j, hj, rfl⟩
  have hx := C.1
  have hb := C.2.1
  have hl : lv_has ls 6 [(0, .ref (ad 0)), (1, .int a1), (2, .int a2)] := hl
  have h := (f_X0_turnedFields.eq_1 _ _ _ ).symm.trans h
  refine lv_iconst (v := 0) hx hb dX0_turnedFields_0 (by decide) ?_
  refine lv_istore_n (lv' := [(3, .int 0), (0, .ref (ad 0)), (1, .int a1), (2, .int a2)]) hx hb dX0_turnedFields_1 rfl hl (by decide) rfl (fun ls hl => ?_)
  refine lv_iconst (v := 0) hx hb dX0_turnedFields_2 (by decide) ?_
  refine lv_istore (lv' := [(4, .int 0), (3, .int 0), (0, .ref (ad 0)), (1, .int a1), (2, .int a2)]) hx hb dX0_turnedFields_3 hl (by decide) rfl (fun ls hl => ?_)
  have hL5 : ∀ (n : Nat) (x1 : Int32) (x2 : Int32) (H : Heap) (locs : List Loc) (ls : Array Slot), lp (fun _ _ => none) (f_X0_turnedFields_L5_b σ a1 a2 ) n x1 x2 = some r → PS ev 1 ad (gw1 σ) (inA ad 1) s H locs → lv_has ls 6 [(0, .ref (ad 0)), (1, .int a1), (2, .int a2), (3, .int x1), (4, .int x2)] → WW ev p l e (rmk 1 27) s m args below meth c Qc ad 1 H locs 5 ls [] := by
    intro n
    induction n with
    | zero =>
      intro x1 x2 H locs ls h; exact k_none h
    | succ n ih =>
      intro x1 x2 H locs ls h hP hl
      have h : f_X0_turnedFields_L5_b σ a1 a2  (lp (fun _ _ => none) (f_X0_turnedFields_L5_b σ a1 a2 ) n) x1 x2 = some r := h
      have h := (f_X0_turnedFields_L5_b.eq_1 _ _ _ _ _ _ ).symm.trans h
      refine lv_iload hx hb dX0_turnedFields_5 (lv_at hl 4 rfl) ?_
      refine lv_aload_n hx hb dX0_turnedFields_7 rfl (lv_at hl 0 rfl) ?_
      refine r_get C hP (ci := 0) rfl uin_X0 2 (by decide) 0 (by decide) rfl qFL_RX0_25 rfl rfl dX0_turnedFields_8 ?_
      refine lv_icmp_ge (tgt := 67) hx hb dX0_turnedFields_11 (by decide) (fun c11 => ?_) (fun c11 => ?_)
      · have h := k_if c11 h
        refine lv_iload_n hx hb dX0_turnedFields_67 rfl (lv_at hl 3 rfl) ?_
        exact e_iret C hend hP (k_some h) rfl dX0_turnedFields_68
      · have h := k_nf c11 h
        refine lv_iload_n hx hb dX0_turnedFields_14 rfl (lv_at hl 1 rfl) ?_
        refine lv_iload hx hb dX0_turnedFields_15 (lv_at hl 4 rfl) ?_
        refine r_iushr hx hb dX0_turnedFields_17 ?_
        refine lv_iconst (v := 1) hx hb dX0_turnedFields_18 (by decide) ?_
        refine lv_iand hx hb dX0_turnedFields_19 ?_
        refine lv_if_eq (tgt := 61) hx hb dX0_turnedFields_20 (by decide) (fun c20 => ?_) (fun c20 => ?_)
        · have h := k_if c20 h
          obtain ⟨x3, ex3, h⟩ := k_ltx h
          refine lv_iinc (v := x3) (lv' := [(4, .int x3), (0, .ref (ad 0)), (1, .int a1), (2, .int a2), (3, .int x1)]) hx hb dX0_turnedFields_61 hl (k := 4) rfl (by rw [ex3]; rfl) (by decide) rfl (fun ls hl => ?_)
          refine lv_goto (tgt := 5) hx hb dX0_turnedFields_64 (by decide) ?_
          exact ih _ _ _ _ _ h hP (lv_sub hl [1, 2, 3, 4, 0] rfl)
        · have h := k_nf c20 h
          refine lv_aload_n hx hb dX0_turnedFields_23 rfl (lv_at hl 0 rfl) ?_
          refine lv_iload hx hb dX0_turnedFields_24 (lv_at hl 4 rfl) ?_
          obtain ⟨x4, h1, h⟩ := k_ob h
          refine k_callVi C hP hap hAA (c_X0_rowOf l ev ad σ x2   _ h1) Emb.same hap gz_X0_rowOf qML_RX0_75 qIM_yX0_rowOf qSE_yX0_rowOf ⟨(Nat.le_of_ble_eq_true rfl), (Nat.le_of_ble_eq_true rfl)⟩ (q0 := 0) rfl (by decide) rfl rfl rfl rfl hl.1 rfl (Nat.le_of_ble_eq_true rfl) dX0_turnedFields_26 ⟨Nat.le_refl _, Nat.le_refl _⟩ (fun H locs hP => ?_)
          refine lv_istore (lv' := [(5, .int x4), (0, .ref (ad 0)), (1, .int a1), (2, .int a2), (3, .int x1), (4, .int x2)]) hx hb dX0_turnedFields_29 hl (by decide) rfl (fun ls hl => ?_)
          refine lv_iload_n hx hb dX0_turnedFields_31 rfl (lv_at hl 4 rfl) ?_
          refine lv_iconst (v := 1) hx hb dX0_turnedFields_32 (by decide) ?_
          refine lv_aload_n hx hb dX0_turnedFields_33 rfl (lv_at hl 1 rfl) ?_
          refine lv_iload hx hb dX0_turnedFields_34 (lv_at hl 0 rfl) ?_
          refine lv_iload hx hb dX0_turnedFields_36 (lv_at hl 5 rfl) ?_
          refine lv_iload hx hb dX0_turnedFields_38 (lv_at hl 0 rfl) ?_
          refine lv_aload_n hx hb dX0_turnedFields_40 rfl (lv_at hl 1 rfl) ?_
          refine r_get C hP (ci := 0) rfl uin_X0 0 (by decide) 0 (by decide) rfl qFL_RX0_19 rfl rfl dX0_turnedFields_41 ?_
          refine lv_imul hx hb dX0_turnedFields_44 ?_
          refine lv_isub hx hb dX0_turnedFields_45 ?_
          refine lv_aload_n hx hb dX0_turnedFields_46 rfl (lv_at hl 1 rfl) ?_
          refine r_get C hP (ci := 0) rfl uin_X0 1 (by decide) 0 (by decide) rfl qFL_RX0_22 rfl rfl dX0_turnedFields_47 ?_
          refine lv_aload_n hx hb dX0_turnedFields_50 rfl (lv_at hl 1 rfl) ?_
          refine r_get C hP (ci := 0) rfl uin_X0 0 (by decide) 0 (by decide) rfl qFL_RX0_19 rfl rfl dX0_turnedFields_51 ?_
          refine lv_iload_n hx hb dX0_turnedFields_54 rfl (lv_at hl 3 rfl) ?_
          refine k_callVi C hP hap hAA (c_X0_placeTurned l ev ad σ x4 (x2 - (x4 * (g_width σ))) (g_height σ) (g_width σ) a2   _ rfl) Emb.same hap gz_X0_placeTurned qML_RX0_184 qIM_yX0_placeTurned qSE_yX0_placeTurned ⟨(Nat.le_of_ble_eq_true rfl), (Nat.le_of_ble_eq_true rfl)⟩ (q0 := 0) rfl (by decide) rfl rfl rfl rfl hl.1 rfl (Nat.le_of_ble_eq_true rfl) dX0_turnedFields_55 ⟨Nat.le_refl _, Nat.le_refl _⟩ (fun H locs hP => ?_)
          refine r_ishl hx hb dX0_turnedFields_58 ?_
          refine lv_ior hx hb dX0_turnedFields_59 ?_
          refine lv_topi (fun x5 ex5 => ?_)
          have h := k_lt ex5 h
          refine lv_istore_n (lv' := [(3, .int x5), (5, .int x4), (0, .ref (ad 0)), (1, .int a1), (2, .int a2), (4, .int x2)]) hx hb dX0_turnedFields_60 rfl hl (by decide) rfl (fun ls hl => ?_)
          obtain ⟨x6, ex6, h⟩ := k_ltx h
          refine lv_iinc (v := x6) (lv' := [(4, .int x6), (3, .int x5), (5, .int x4), (0, .ref (ad 0)), (1, .int a1), (2, .int a2)]) hx hb dX0_turnedFields_61 hl (k := 5) rfl (by rw [ex6]; rfl) (by decide) rfl (fun ls hl => ?_)
          refine lv_goto (tgt := 5) hx hb dX0_turnedFields_64 (by decide) ?_
          exact ih _ _ _ _ _ h hP (lv_sub hl [3, 4, 5, 1, 0] rfl)
  exact hL5 FU _ _ _ _ _ h hP (lv_sub hl [2, 3, 4, 1, 0] rfl)
def f_X0_isAlike (σ : GG) (a1 : Int32) : Option (Bool) :=
  ob (f_X0_turnedEdges σ (g_hedges σ) a1) (fun y1 => if (lg_cmp y1 (g_hedges σ)) = 0 then ob (f_X0_turnedFields σ (g_dug σ) a1) (fun x2 => if x2 = (g_dug σ) then ob (f_X0_turnedFields σ (g_ownedBy0 σ) a1) (fun x3 => if x3 = (g_ownedBy0 σ) then ob (f_X0_turnedFields σ (g_ownedBy1 σ) a1) (fun x4 => if x4 = (g_ownedBy1 σ) then some true else some false) else some false) else some false) else some false)
set_option maxHeartbeats 4000000 in
set_option maxRecDepth 100000 in
theorem c_X0_isAlike (l : Launch) (ev : EV) (ad : Nat → Nat) (σ : GG) (a1 : Int32)   (r : Bool)  (h : f_X0_isAlike σ a1 = some r) : Ct l yX0_isAlike prog_2_method_48_code 2 (Option.some Jvm.ClassFile.FieldType.boolean) (rmk 3 81) ev 1 ad (gw1 σ) (gw1 σ) [.ref (ad 0), .int a1] (some (.int (bi r))) := by
  refine Ct.of (by decide +kernel) (Nat.le_of_ble_eq_true rfl) ?_
  intro p e s m args below meth c Qc C hap hP hend ls hl
  have hAA : ∀ j, j < 1 → inA ad 1 (ad j) := fun j hj => ⟨j, hj, rfl⟩
  have hx := C.1
  have hb := C.2.1
  have hl : lv_has ls 2 [(0, .ref (ad 0)), (1, .int a1)] := hl
  have h := (f_X0_isAlike.eq_1 _ _ ).symm.trans h
  refine lv_aload_n hx hb dX0_isAlike_0 rfl (lv_at hl 0 rfl) ?_
  refine lv_aload_n hx hb dX0_isAlike_1 rfl (lv_at hl 0 rfl) ?_
  refine r_get C hP (ci := 0) rfl uin_X0 9 (by decide) 0 (by decide) rfl qFL_RX0_57 rfl rfl dX0_isAlike_2 ?_
  refine lv_iload_n hx hb dX0_isAlike_5 rfl (lv_at hl 1 rfl) ?_
  obtain ⟨y1, h1, h⟩ := k_ob h
  refine k_callVl C hP hap hAA (c_X0_turnedEdges l ev ad σ (g_hedges σ) a1   _ h1) Emb.same hap gz_X0_turnedEdges qML_RX0_176 qIM_yX0_turnedEdges qSE_yX0_turnedEdges ⟨(Nat.le_of_ble_eq_true rfl), (Nat.le_of_ble_eq_true rfl)⟩ (q0 := 0) rfl (by decide) rfl rfl rfl rfl hl.1 rfl (Nat.le_of_ble_eq_true rfl) dX0_isAlike_6 ⟨Nat.le_refl _, Nat.le_refl _⟩ (fun H locs hP => ?_)
  refine lv_aload_n hx hb dX0_isAlike_9 rfl (lv_at hl 0 rfl) ?_
  refine r_get C hP (ci := 0) rfl uin_X0 9 (by decide) 0 (by decide) rfl qFL_RX0_57 rfl rfl dX0_isAlike_10 ?_
  refine W.lcmp hx hb dX0_isAlike_13 ?_
  refine lv_if_ne (tgt := 69) hx hb dX0_isAlike_14 (by decide) (fun c14 => ?_) (fun c14 => ?_)
  · have h := k_nf c14 h
    refine lv_iconst (v := 0) hx hb dX0_isAlike_69 (by decide) ?_
    exact e_zret C hend hP (k_some h) rfl dX0_isAlike_70 rfl
  · have h := k_if c14 h
    refine lv_aload_n hx hb dX0_isAlike_17 rfl (lv_at hl 0 rfl) ?_
    refine lv_aload_n hx hb dX0_isAlike_18 rfl (lv_at hl 0 rfl) ?_
    refine r_get C hP (ci := 0) rfl uin_X0 10 (by decide) 0 (by decide) rfl qFL_RX0_60 rfl rfl dX0_isAlike_19 ?_
    refine lv_iload_n hx hb dX0_isAlike_22 rfl (lv_at hl 1 rfl) ?_
    obtain ⟨x2, h1, h⟩ := k_ob h
    refine k_callVi C hP hap hAA (c_X0_turnedFields l ev ad σ (g_dug σ) a1   _ h1) Emb.same hap gz_X0_turnedFields qML_RX0_180 qIM_yX0_turnedFields qSE_yX0_turnedFields ⟨(Nat.le_of_ble_eq_true rfl), (Nat.le_of_ble_eq_true rfl)⟩ (q0 := 0) rfl (by decide) rfl rfl rfl rfl hl.1 rfl (Nat.le_of_ble_eq_true rfl) dX0_isAlike_23 ⟨Nat.le_refl _, Nat.le_refl _⟩ (fun H locs hP => ?_)
    refine lv_aload_n hx hb dX0_isAlike_26 rfl (lv_at hl 0 rfl) ?_
    refine r_get C hP (ci := 0) rfl uin_X0 10 (by decide) 0 (by decide) rfl qFL_RX0_60 rfl rfl dX0_isAlike_27 ?_
    refine lv_icmp_ne (tgt := 69) hx hb dX0_isAlike_30 (by decide) (fun c30 => ?_) (fun c30 => ?_)
    · have h := k_nf c30 h
      refine lv_iconst (v := 0) hx hb dX0_isAlike_69 (by decide) ?_
      exact e_zret C hend hP (k_some h) rfl dX0_isAlike_70 rfl
    · have h := k_if c30 h
      refine lv_aload_n hx hb dX0_isAlike_33 rfl (lv_at hl 0 rfl) ?_
      refine lv_aload_n hx hb dX0_isAlike_34 rfl (lv_at hl 0 rfl) ?_
      refine r_get C hP (ci := 0) rfl uin_X0 11 (by decide) 0 (by decide) rfl qFL_RX0_63 rfl rfl dX0_isAlike_35 ?_
      refine lv_iload_n hx hb dX0_isAlike_38 rfl (lv_at hl 1 rfl) ?_
      obtain ⟨x3, h1, h⟩ := k_ob h
      refine k_callVi C hP hap hAA (c_X0_turnedFields l ev ad σ (g_ownedBy0 σ) a1   _ h1) Emb.same hap gz_X0_turnedFields qML_RX0_180 qIM_yX0_turnedFields qSE_yX0_turnedFields ⟨(Nat.le_of_ble_eq_true rfl), (Nat.le_of_ble_eq_true rfl)⟩ (q0 := 0) rfl (by decide) rfl rfl rfl rfl hl.1 rfl (Nat.le_of_ble_eq_true rfl) dX0_isAlike_39 ⟨Nat.le_refl _, Nat.le_refl _⟩ (fun H locs hP => ?_)
      refine lv_aload_n hx hb dX0_isAlike_42 rfl (lv_at hl 0 rfl) ?_
      refine r_get C hP (ci := 0) rfl uin_X0 11 (by decide) 0 (by decide) rfl qFL_RX0_63 rfl rfl dX0_isAlike_43 ?_
      refine lv_icmp_ne (tgt := 69) hx hb dX0_isAlike_46 (by decide) (fun c46 => ?_) (fun c46 => ?_)
      · have h := k_nf c46 h
        refine lv_iconst (v := 0) hx hb dX0_isAlike_69 (by decide) ?_
        exact e_zret C hend hP (k_some h) rfl dX0_isAlike_70 rfl
      · have h := k_if c46 h
        refine lv_aload_n hx hb dX0_isAlike_49 rfl (lv_at hl 0 rfl) ?_
        refine lv_aload_n hx hb dX0_isAlike_50 rfl (lv_at hl 0 rfl) ?_
        refine r_get C hP (ci := 0) rfl uin_X0 12 (by decide) 0 (by decide) rfl qFL_RX0_66 rfl rfl dX0_isAlike_51 ?_
        refine lv_iload_n hx hb dX0_isAlike_54 rfl (lv_at hl 1 rfl) ?_
        obtain ⟨x4, h1, h⟩ := k_ob h
        refine k_callVi C hP hap hAA (c_X0_turnedFields l ev ad σ (g_ownedBy1 σ) a1   _ h1) Emb.same hap gz_X0_turnedFields qML_RX0_180 qIM_yX0_turnedFields qSE_yX0_turnedFields ⟨(Nat.le_of_ble_eq_true rfl), (Nat.le_of_ble_eq_true rfl)⟩ (q0 := 0) rfl (by decide) rfl rfl rfl rfl hl.1 rfl (Nat.le_of_ble_eq_true rfl) dX0_isAlike_55 ⟨Nat.le_refl _, Nat.le_refl _⟩ (fun H locs hP => ?_)
        refine lv_aload_n hx hb dX0_isAlike_58 rfl (lv_at hl 0 rfl) ?_
        refine r_get C hP (ci := 0) rfl uin_X0 12 (by decide) 0 (by decide) rfl qFL_RX0_66 rfl rfl dX0_isAlike_59 ?_
        refine lv_icmp_ne (tgt := 69) hx hb dX0_isAlike_62 (by decide) (fun c62 => ?_) (fun c62 => ?_)
        · have h := k_nf c62 h
          refine lv_iconst (v := 0) hx hb dX0_isAlike_69 (by decide) ?_
          exact e_zret C hend hP (k_some h) rfl dX0_isAlike_70 rfl
        · have h := k_if c62 h
          refine lv_iconst (v := 1) hx hb dX0_isAlike_65 (by decide) ?_
          refine lv_goto (tgt := 70) hx hb dX0_isAlike_66 (by decide) ?_
          exact e_zret C hend hP (k_some h) rfl dX0_isAlike_70 rfl
def f_X1_bearsRow (σ : SS) : Bool :=
  if (s_content σ) < 0 then false else if 5 ≤ (s_content σ) then false else true
set_option maxHeartbeats 4000000 in
set_option maxRecDepth 100000 in
theorem c_X1_bearsRow (l : Launch) (ev : EV) (ad : Nat → Nat) (σ : SS)   (r : Bool)  (h : f_X1_bearsRow σ = r) : Ct l yX1_bearsRow prog_3_method_2_code 1 (Option.some Jvm.ClassFile.FieldType.boolean) (rmk 0 0) ev 2 ad (sw ev ad σ) (sw ev ad σ) [.ref (ad 0)] (some (.int (bi r))) := by
  refine Ct.of (by decide +kernel) (Nat.le_of_ble_eq_true rfl) ?_
  intro p e s m args below meth c Qc C hap hP hend ls hl
  have hAA : ∀ j, j < 2 → inA ad 2 (ad j) := fun j hj => ⟨j, hj, rfl⟩
  have hx := C.1
  have hb := C.2.1
  have hl : lv_has ls 1 [(0, .ref (ad 0))] := hl
  have h := (f_X1_bearsRow.eq_1 _ ).symm.trans h
  refine lv_aload_n hx hb dX1_bearsRow_0 rfl (lv_at hl 0 rfl) ?_
  refine r_get C hP (ci := 1) rfl uin_X1 0 (by decide) 0 (by decide) rfl qFL_RX1_9 rfl rfl dX1_bearsRow_1 ?_
  refine lv_if_lt (tgt := 19) hx hb dX1_bearsRow_4 (by decide) (fun c4 => ?_) (fun c4 => ?_)
  · have h := k_if c4 h
    refine lv_iconst (v := 0) hx hb dX1_bearsRow_19 (by decide) ?_
    exact e_zret C hend hP h rfl dX1_bearsRow_20 rfl
  · have h := k_nf c4 h
    refine lv_aload_n hx hb dX1_bearsRow_7 rfl (lv_at hl 0 rfl) ?_
    refine r_get C hP (ci := 1) rfl uin_X1 0 (by decide) 0 (by decide) rfl qFL_RX1_9 rfl rfl dX1_bearsRow_8 ?_
    refine lv_iconst (v := 5) hx hb dX1_bearsRow_11 (by decide) ?_
    refine lv_icmp_ge (tgt := 19) hx hb dX1_bearsRow_12 (by decide) (fun c12 => ?_) (fun c12 => ?_)
    · have h := k_if c12 h
      refine lv_iconst (v := 0) hx hb dX1_bearsRow_19 (by decide) ?_
      exact e_zret C hend hP h rfl dX1_bearsRow_20 rfl
    · have h := k_nf c12 h
      refine lv_iconst (v := 1) hx hb dX1_bearsRow_15 (by decide) ?_
      refine lv_goto (tgt := 20) hx hb dX1_bearsRow_16 (by decide) ?_
      exact e_zret C hend hP h rfl dX1_bearsRow_20 rfl
def f_X1_bearsPlayer (σ : SS) : Bool :=
  if (s_content σ) < 10 then false else true
set_option maxHeartbeats 4000000 in
set_option maxRecDepth 100000 in
theorem c_X1_bearsPlayer (l : Launch) (ev : EV) (ad : Nat → Nat) (σ : SS)   (r : Bool)  (h : f_X1_bearsPlayer σ = r) : Ct l yX1_bearsPlayer prog_3_method_3_code 1 (Option.some Jvm.ClassFile.FieldType.boolean) (rmk 0 0) ev 2 ad (sw ev ad σ) (sw ev ad σ) [.ref (ad 0)] (some (.int (bi r))) := by
  refine Ct.of (by decide +kernel) (Nat.le_of_ble_eq_true rfl) ?_
  intro p e s m args below meth c Qc C hap hP hend ls hl
  have hAA : ∀ j, j < 2 → inA ad 2 (ad j) := fun j hj => ⟨j, hj, rfl⟩
  have hx := C.1
  have hb := C.2.1
  have hl : lv_has ls 1 [(0, .ref (ad 0))] := hl
  have h := (f_X1_bearsPlayer.eq_1 _ ).symm.trans h
  refine lv_aload_n hx hb dX1_bearsPlayer_0 rfl (lv_at hl 0 rfl) ?_
  refine r_get C hP (ci := 1) rfl uin_X1 0 (by decide) 0 (by decide) rfl qFL_RX1_9 rfl rfl dX1_bearsPlayer_1 ?_
  refine lv_bipush (v := 10) hx hb dX1_bearsPlayer_4 (by decide) ?_
  refine lv_icmp_lt (tgt := 13) hx hb dX1_bearsPlayer_6 (by decide) (fun c6 => ?_) (fun c6 => ?_)
  · have h := k_if c6 h
    refine lv_iconst (v := 0) hx hb dX1_bearsPlayer_13 (by decide) ?_
    exact e_zret C hend hP h rfl dX1_bearsPlayer_14 rfl
  · have h := k_nf c6 h
    refine lv_iconst (v := 1) hx hb dX1_bearsPlayer_9 (by decide) ?_
    refine lv_goto (tgt := 14) hx hb dX1_bearsPlayer_10 (by decide) ?_
    exact e_zret C hend hP h rfl dX1_bearsPlayer_14 rfl
