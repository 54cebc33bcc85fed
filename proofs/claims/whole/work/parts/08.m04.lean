/-! functions read off, and their contracts: by program (wip/whole/gen2.py) -/
def f_X0_countHanging_L9_b (σ : GG) (a1 : Int32) (a2 : Int64)  (rec9 : Int32 → Int32 → Int32 → Option (Int32)) (x1 : Int32) (x2 : Int32) (x3 : Int32) : Option (Int32) :=
  if 16 ≤ x3 then some x2 else if x1 = 0 then some x2 else ob (f_X0_hanging σ (x1 &&& (-x1)) a1 a2) (fun x4 => lt (x1 &&& (x4 ^^^ (-1))) (fun x5 => lt (x2 + 1) (fun x6 => lt (x3 + 1) (fun x7 => rec9 x5 x6 x7))))
def f_X0_countHanging_L9 (σ : GG) (a1 : Int32) (a2 : Int64)  (x1 : Int32) (x2 : Int32) (x3 : Int32) : Option (Int32) :=
  lp (fun _ _ _ => none) (f_X0_countHanging_L9_b σ a1 a2 ) FU x1 x2 x3
def f_X0_countHanging (σ : GG) (a1 : Int32) (a2 : Int64) : Option (Int32) :=
  f_X0_countHanging_L9 σ a1 a2 a1 0 0
set_option maxHeartbeats 4000000 in
set_option maxRecDepth 100000 in
theorem c_X0_countHanging (l : Launch) (ev : EV) (ad : Nat → Nat) (σ : GG) (a1 : Int32) (a2 : Int64)   (r : Int32)  (h : f_X0_countHanging σ a1 a2 = some r) : Ct l yX0_countHanging prog_2_method_26_code 7 (Option.some Jvm.ClassFile.FieldType.int) (rmk 3 80) ev 1 ad (gw1 σ) (gw1 σ) [.ref (ad 0), .int a1, .long a2] (some (.int r)) := by
  refine Ct.of (by decide +kernel) (Nat.le_of_ble_eq_true rfl) ?_
  intro p e s m args below meth c Qc C hap hP hend ls hl
  have hAA : ∀ j, j < 1 → inA ad 1 (ad j) := fun j hj => ⟨j, hj, rfl⟩
  have hx := C.1
  have hb := C.2.1
  have hl : lv_has ls 7 [(0, .ref (ad 0)), (1, .int a1), (2, .long a2)] := hl
  have h := (f_X0_countHanging.eq_1 _ _ _ ).symm.trans h
  refine lv_iload_n hx hb dX0_countHanging_0 rfl (lv_at hl 1 rfl) ?_
  refine lv_istore (lv' := [(4, .int a1), (0, .ref (ad 0)), (1, .int a1), (2, .long a2)]) hx hb dX0_countHanging_1 hl (by decide) rfl (fun ls hl => ?_)
  refine lv_iconst (v := 0) hx hb dX0_countHanging_3 (by decide) ?_
  refine lv_istore (lv' := [(5, .int 0), (4, .int a1), (0, .ref (ad 0)), (1, .int a1), (2, .long a2)]) hx hb dX0_countHanging_4 hl (by decide) rfl (fun ls hl => ?_)
  refine lv_iconst (v := 0) hx hb dX0_countHanging_6 (by decide) ?_
  refine lv_istore (lv' := [(6, .int 0), (5, .int 0), (4, .int a1), (0, .ref (ad 0)), (1, .int a1), (2, .long a2)]) hx hb dX0_countHanging_7 hl (by decide) rfl (fun ls hl => ?_)
  have hL9 : ∀ (n : Nat) (x1 : Int32) (x2 : Int32) (x3 : Int32) (H : Heap) (locs : List Loc) (ls : Array Slot), lp (fun _ _ _ => none) (f_X0_countHanging_L9_b σ a1 a2 ) n x1 x2 x3 = some r → PS ev 1 ad (gw1 σ) (inA ad 1) s H locs → lv_has ls 7 [(0, .ref (ad 0)), (1, .int a1), (2, .long a2), (4, .int x1), (5, .int x2), (6, .int x3)] → WW ev p l e (rmk 3 80) s m args below meth c Qc ad 1 H locs 9 ls [] := by
    intro n
    induction n with
    | zero =>
      intro x1 x2 x3 H locs ls h; exact k_none h
    | succ n ih =>
      intro x1 x2 x3 H locs ls h hP hl
      have h : f_X0_countHanging_L9_b σ a1 a2  (lp (fun _ _ _ => none) (f_X0_countHanging_L9_b σ a1 a2 ) n) x1 x2 x3 = some r := h
      have h := (f_X0_countHanging_L9_b.eq_1 _ _ _ _ _ _ _ ).symm.trans h
      refine lv_iload hx hb dX0_countHanging_9 (lv_at hl 5 rfl) ?_
      refine lv_bipush (v := 16) hx hb dX0_countHanging_11 (by decide) ?_
      refine lv_icmp_ge (tgt := 49) hx hb dX0_countHanging_13 (by decide) (fun c13 => ?_) (fun c13 => ?_)
      · have h := k_if c13 h
        refine lv_iload hx hb dX0_countHanging_49 (lv_at hl 4 rfl) ?_
        exact e_iret C hend hP (k_some h) rfl dX0_countHanging_51
      · have h := k_nf c13 h
        refine lv_iload hx hb dX0_countHanging_16 (lv_at hl 3 rfl) ?_
        refine lv_if_eq (tgt := 49) hx hb dX0_countHanging_18 (by decide) (fun c18 => ?_) (fun c18 => ?_)
        · have h := k_if c18 h
          refine lv_iload hx hb dX0_countHanging_49 (lv_at hl 4 rfl) ?_
          exact e_iret C hend hP (k_some h) rfl dX0_countHanging_51
        · have h := k_nf c18 h
          refine lv_iload hx hb dX0_countHanging_21 (lv_at hl 3 rfl) ?_
          refine lv_aload_n hx hb dX0_countHanging_23 rfl (lv_at hl 0 rfl) ?_
          refine lv_iload hx hb dX0_countHanging_24 (lv_at hl 3 rfl) ?_
          refine lv_iload hx hb dX0_countHanging_26 (lv_at hl 3 rfl) ?_
          refine lv_ineg hx hb dX0_countHanging_28 ?_
          refine lv_iand hx hb dX0_countHanging_29 ?_
          refine lv_iload_n hx hb dX0_countHanging_30 rfl (lv_at hl 1 rfl) ?_
          refine lv_lload_n hx hb dX0_countHanging_31 rfl (lv_at hl 2 rfl) ?_
          obtain ⟨x4, h1, h⟩ := k_ob h
          refine k_callVi C hP hap hAA (c_X0_hanging l ev ad σ (x1 &&& (-x1)) a1 a2   _ h1) Emb.same hap gz_X0_hanging qML_RX0_99 qIM_yX0_hanging qSE_yX0_hanging ⟨(Nat.le_of_ble_eq_true rfl), (Nat.le_of_ble_eq_true rfl)⟩ (q0 := 0) rfl (by decide) rfl rfl rfl rfl hl.1 rfl (Nat.le_of_ble_eq_true rfl) dX0_countHanging_32 ⟨Nat.le_refl _, Nat.le_refl _⟩ (fun H locs hP => ?_)
          refine lv_iconst (v := (-1)) hx hb dX0_countHanging_35 (by decide) ?_
          refine lv_ixor hx hb dX0_countHanging_36 ?_
          refine lv_iand hx hb dX0_countHanging_37 ?_
          refine lv_topi (fun x5 ex5 => ?_)
          have h := k_lt ex5 h
          refine lv_istore (lv' := [(4, .int x5), (0, .ref (ad 0)), (1, .int a1), (2, .long a2), (5, .int x2), (6, .int x3)]) hx hb dX0_countHanging_38 hl (by decide) rfl (fun ls hl => ?_)
          obtain ⟨x6, ex6, h⟩ := k_ltx h
          refine lv_iinc (v := x6) (lv' := [(5, .int x6), (4, .int x5), (0, .ref (ad 0)), (1, .int a1), (2, .long a2), (6, .int x3)]) hx hb dX0_countHanging_40 hl (k := 4) rfl (by rw [ex6]; rfl) (by decide) rfl (fun ls hl => ?_)
          obtain ⟨x7, ex7, h⟩ := k_ltx h
          refine lv_iinc (v := x7) (lv' := [(6, .int x7), (5, .int x6), (4, .int x5), (0, .ref (ad 0)), (1, .int a1), (2, .long a2)]) hx hb dX0_countHanging_43 hl (k := 5) rfl (by rw [ex7]; rfl) (by decide) rfl (fun ls hl => ?_)
          refine lv_goto (tgt := 9) hx hb dX0_countHanging_46 (by decide) ?_
          exact ih _ _ _ _ _ _ h hP (lv_sub hl [3, 4, 5, 2, 1, 0] rfl)
  exact hL9 FU _ _ _ _ _ _ h hP (lv_sub hl [3, 4, 5, 2, 1, 0] rfl)
def f_X0_slotOf (σ : GG) (a1 : Int32) : Int32 :=
  if (f_X0_isEdge σ a1) = true then a1 else if a1 < 100 then (-1) else if (f_X0_isField σ (a1 - 100)) = true then ((a1 - 100) + 40) else (-1)
set_option maxHeartbeats 4000000 in
set_option maxRecDepth 100000 in
theorem c_X0_slotOf (l : Launch) (ev : EV) (ad : Nat → Nat) (σ : GG) (a1 : Int32)   (r : Int32)  (h : f_X0_slotOf σ a1 = r) : Ct l yX0_slotOf prog_2_method_27_code 2 (Option.some Jvm.ClassFile.FieldType.int) (rmk 1 21) ev 1 ad (gw1 σ) (gw1 σ) [.ref (ad 0), .int a1] (some (.int r)) := by
  refine Ct.of (by decide +kernel) (Nat.le_of_ble_eq_true rfl) ?_
  intro p e s m args below meth c Qc C hap hP hend ls hl
  have hAA : ∀ j, j < 1 → inA ad 1 (ad j) := fun j hj => ⟨j, hj, rfl⟩
  have hx := C.1
  have hb := C.2.1
  have hl : lv_has ls 2 [(0, .ref (ad 0)), (1, .int a1)] := hl
  have h := (f_X0_slotOf.eq_1 _ _ ).symm.trans h
  refine lv_aload_n hx hb dX0_slotOf_0 rfl (lv_at hl 0 rfl) ?_
  refine lv_iload_n hx hb dX0_slotOf_1 rfl (lv_at hl 1 rfl) ?_
  refine k_callVi C hP hap hAA (c_X0_isEdge l ev ad σ a1   _ rfl) Emb.same hap gz_X0_isEdge qML_RX0_103 qIM_yX0_isEdge qSE_yX0_isEdge ⟨(Nat.le_of_ble_eq_true rfl), (Nat.le_of_ble_eq_true rfl)⟩ (q0 := 0) rfl (by decide) rfl rfl rfl rfl hl.1 rfl (Nat.le_of_ble_eq_true rfl) dX0_slotOf_2 ⟨Nat.le_refl _, Nat.le_refl _⟩ (fun H locs hP => ?_)
  refine r_ifz_eq (tgt := 10) hx hb dX0_slotOf_5 (by decide) (fun c5 => ?_) (fun c5 => ?_)
  · have h := k_nf c5 h
    refine lv_iload_n hx hb dX0_slotOf_10 rfl (lv_at hl 1 rfl) ?_
    refine lv_bipush (v := 100) hx hb dX0_slotOf_11 (by decide) ?_
    refine lv_icmp_lt (tgt := 37) hx hb dX0_slotOf_13 (by decide) (fun c13 => ?_) (fun c13 => ?_)
    · have h := k_if c13 h
      refine lv_iconst (v := (-1)) hx hb dX0_slotOf_37 (by decide) ?_
      exact e_iret C hend hP h rfl dX0_slotOf_38
    · have h := k_nf c13 h
      refine lv_aload_n hx hb dX0_slotOf_16 rfl (lv_at hl 0 rfl) ?_
      refine lv_iload_n hx hb dX0_slotOf_17 rfl (lv_at hl 1 rfl) ?_
      refine lv_bipush (v := 100) hx hb dX0_slotOf_18 (by decide) ?_
      refine lv_isub hx hb dX0_slotOf_20 ?_
      refine k_callVi C hP hap hAA (c_X0_isField l ev ad σ (a1 - 100)   _ rfl) Emb.same hap gz_X0_isField qML_RX0_107 qIM_yX0_isField qSE_yX0_isField ⟨(Nat.le_of_ble_eq_true rfl), (Nat.le_of_ble_eq_true rfl)⟩ (q0 := 0) rfl (by decide) rfl rfl rfl rfl hl.1 rfl (Nat.le_of_ble_eq_true rfl) dX0_slotOf_21 ⟨Nat.le_refl _, Nat.le_refl _⟩ (fun H locs hP => ?_)
      refine r_ifz_eq (tgt := 37) hx hb dX0_slotOf_24 (by decide) (fun c24 => ?_) (fun c24 => ?_)
      · have h := k_nf c24 h
        refine lv_iconst (v := (-1)) hx hb dX0_slotOf_37 (by decide) ?_
        exact e_iret C hend hP h rfl dX0_slotOf_38
      · have h := k_if c24 h
        refine lv_iload_n hx hb dX0_slotOf_27 rfl (lv_at hl 1 rfl) ?_
        refine lv_bipush (v := 100) hx hb dX0_slotOf_28 (by decide) ?_
        refine lv_isub hx hb dX0_slotOf_30 ?_
        refine lv_bipush (v := 40) hx hb dX0_slotOf_31 (by decide) ?_
        refine lv_iadd hx hb dX0_slotOf_33 ?_
        refine lv_goto (tgt := 38) hx hb dX0_slotOf_34 (by decide) ?_
        exact e_iret C hend hP h rfl dX0_slotOf_38
  · have h := k_if c5 h
    refine lv_iload_n hx hb dX0_slotOf_8 rfl (lv_at hl 1 rfl) ?_
    exact e_iret C hend hP h rfl dX0_slotOf_9
def f_X0_freeEdges (σ : GG) : Int64 :=
  (((g_hedges σ) ^^^ (-1)) &&& ((lshl 1 (g_edges σ)) - 1))
set_option maxHeartbeats 4000000 in
set_option maxRecDepth 100000 in
theorem c_X0_freeEdges (l : Launch) (ev : EV) (ad : Nat → Nat) (σ : GG)   (r : Int64)  (h : f_X0_freeEdges σ = r) : Ct l yX0_freeEdges prog_2_method_28_code 1 (Option.some Jvm.ClassFile.FieldType.long) (rmk 0 0) ev 1 ad (gw1 σ) (gw1 σ) [.ref (ad 0)] (some (.long r)) := by
  refine Ct.of (by decide +kernel) (Nat.le_of_ble_eq_true rfl) ?_
  intro p e s m args below meth c Qc C hap hP hend ls hl
  have hAA : ∀ j, j < 1 → inA ad 1 (ad j) := fun j hj => ⟨j, hj, rfl⟩
  have hx := C.1
  have hb := C.2.1
  have hl : lv_has ls 1 [(0, .ref (ad 0))] := hl
  have h := (f_X0_freeEdges.eq_1 _ ).symm.trans h
  refine lv_aload_n hx hb dX0_freeEdges_0 rfl (lv_at hl 0 rfl) ?_
  refine r_get C hP (ci := 0) rfl uin_X0 9 (by decide) 0 (by decide) rfl qFL_RX0_57 rfl rfl dX0_freeEdges_1 ?_
  refine lv_ldc2 (v := (-1)) hx hb C.2.2.2.2.2.1 (C.2.2.2.2.1 _ qCL_RX0_110) dX0_freeEdges_4 ?_
  refine lv_lxor hx hb dX0_freeEdges_7 ?_
  refine lv_lconst (v := 1) hx hb dX0_freeEdges_8 (by decide) ?_
  refine lv_aload_n hx hb dX0_freeEdges_9 rfl (lv_at hl 0 rfl) ?_
  refine r_get C hP (ci := 0) rfl uin_X0 3 (by decide) 0 (by decide) rfl qFL_RX0_31 rfl rfl dX0_freeEdges_10 ?_
  refine r_lshl hx hb dX0_freeEdges_13 ?_
  refine lv_lconst (v := 1) hx hb dX0_freeEdges_14 (by decide) ?_
  refine lv_lsub hx hb dX0_freeEdges_15 ?_
  refine lv_land hx hb dX0_freeEdges_16 ?_
  exact e_lret C hend hP h rfl dX0_freeEdges_17
def f_X0_shutFields (σ : GG) : Int32 :=
  ((g_ownedBy0 σ) ||| (g_ownedBy1 σ))
set_option maxHeartbeats 4000000 in
set_option maxRecDepth 100000 in
theorem c_X0_shutFields (l : Launch) (ev : EV) (ad : Nat → Nat) (σ : GG)   (r : Int32)  (h : f_X0_shutFields σ = r) : Ct l yX0_shutFields prog_2_method_34_code 1 (Option.some Jvm.ClassFile.FieldType.int) (rmk 0 0) ev 1 ad (gw1 σ) (gw1 σ) [.ref (ad 0)] (some (.int r)) := by
  refine Ct.of (by decide +kernel) (Nat.le_of_ble_eq_true rfl) ?_
  intro p e s m args below meth c Qc C hap hP hend ls hl
  have hAA : ∀ j, j < 1 → inA ad 1 (ad j) := fun j hj => ⟨j, hj, rfl⟩
  have hx := C.1
  have hb := C.2.1
  have hl : lv_has ls 1 [(0, .ref (ad 0))] := hl
  have h := (f_X0_shutFields.eq_1 _ ).symm.trans h
  refine lv_aload_n hx hb dX0_shutFields_0 rfl (lv_at hl 0 rfl) ?_
  refine r_get C hP (ci := 0) rfl uin_X0 11 (by decide) 0 (by decide) rfl qFL_RX0_63 rfl rfl dX0_shutFields_1 ?_
  refine lv_aload_n hx hb dX0_shutFields_4 rfl (lv_at hl 0 rfl) ?_
  refine r_get C hP (ci := 0) rfl uin_X0 12 (by decide) 0 (by decide) rfl qFL_RX0_66 rfl rfl dX0_shutFields_5 ?_
  refine lv_ior hx hb dX0_shutFields_8 ?_
  exact e_iret C hend hP h rfl dX0_shutFields_9
def f_X0_softFields (σ : GG) : Int32 :=
  (((g_all σ) &&& ((g_dug σ) ^^^ (-1))) &&& ((f_X0_shutFields σ) ^^^ (-1)))
set_option maxHeartbeats 4000000 in
set_option maxRecDepth 100000 in
theorem c_X0_softFields (l : Launch) (ev : EV) (ad : Nat → Nat) (σ : GG)   (r : Int32)  (h : f_X0_softFields σ = r) : Ct l yX0_softFields prog_2_method_29_code 1 (Option.some Jvm.ClassFile.FieldType.int) (rmk 1 20) ev 1 ad (gw1 σ) (gw1 σ) [.ref (ad 0)] (some (.int r)) := by
  refine Ct.of (by decide +kernel) (Nat.le_of_ble_eq_true rfl) ?_
  intro p e s m args below meth c Qc C hap hP hend ls hl
  have hAA : ∀ j, j < 1 → inA ad 1 (ad j) := fun j hj => ⟨j, hj, rfl⟩
  have hx := C.1
  have hb := C.2.1
  have hl : lv_has ls 1 [(0, .ref (ad 0))] := hl
  have h := (f_X0_softFields.eq_1 _ ).symm.trans h
  refine lv_aload_n hx hb dX0_softFields_0 rfl (lv_at hl 0 rfl) ?_
  refine r_get C hP (ci := 0) rfl uin_X0 5 (by decide) 0 (by decide) rfl qFL_RX0_34 rfl rfl dX0_softFields_1 ?_
  refine lv_aload_n hx hb dX0_softFields_4 rfl (lv_at hl 0 rfl) ?_
  refine r_get C hP (ci := 0) rfl uin_X0 10 (by decide) 0 (by decide) rfl qFL_RX0_60 rfl rfl dX0_softFields_5 ?_
  refine lv_iconst (v := (-1)) hx hb dX0_softFields_8 (by decide) ?_
  refine lv_ixor hx hb dX0_softFields_9 ?_
  refine lv_iand hx hb dX0_softFields_10 ?_
  refine lv_aload_n hx hb dX0_softFields_11 rfl (lv_at hl 0 rfl) ?_
  refine k_callVi C hP hap hAA (c_X0_shutFields l ev ad σ   _ rfl) Emb.same hap gz_X0_shutFields qML_RX0_112 qIM_yX0_shutFields qSE_yX0_shutFields ⟨(Nat.le_of_ble_eq_true rfl), (Nat.le_of_ble_eq_true rfl)⟩ (q0 := 0) rfl (by decide) rfl rfl rfl rfl hl.1 rfl (Nat.le_of_ble_eq_true rfl) dX0_softFields_12 ⟨Nat.le_refl _, Nat.le_refl _⟩ (fun H locs hP => ?_)
  refine lv_iconst (v := (-1)) hx hb dX0_softFields_15 (by decide) ?_
  refine lv_ixor hx hb dX0_softFields_16 ?_
  refine lv_iand hx hb dX0_softFields_17 ?_
  exact e_iret C hend hP h rfl dX0_softFields_18
def f_X0_openSlots (σ : GG) : Int64 :=
  ((f_X0_freeEdges σ) ||| (lshl (Int32.toInt64 (f_X0_softFields σ)) 40))
set_option maxHeartbeats 4000000 in
set_option maxRecDepth 100000 in
theorem c_X0_openSlots (l : Launch) (ev : EV) (ad : Nat → Nat) (σ : GG)   (r : Int64)  (h : f_X0_openSlots σ = r) : Ct l yX0_openSlots prog_2_method_30_code 1 (Option.some Jvm.ClassFile.FieldType.long) (rmk 2 40) ev 1 ad (gw1 σ) (gw1 σ) [.ref (ad 0)] (some (.long r)) := by
  refine Ct.of (by decide +kernel) (Nat.le_of_ble_eq_true rfl) ?_
  intro p e s m args below meth c Qc C hap hP hend ls hl
  have hAA : ∀ j, j < 1 → inA ad 1 (ad j) := fun j hj => ⟨j, hj, rfl⟩
  have hx := C.1
  have hb := C.2.1
  have hl : lv_has ls 1 [(0, .ref (ad 0))] := hl
  have h := (f_X0_openSlots.eq_1 _ ).symm.trans h
  refine lv_aload_n hx hb dX0_openSlots_0 rfl (lv_at hl 0 rfl) ?_
  refine k_callVl C hP hap hAA (c_X0_freeEdges l ev ad σ   _ rfl) Emb.same hap gz_X0_freeEdges qML_RX0_116 qIM_yX0_freeEdges qSE_yX0_freeEdges ⟨(Nat.le_of_ble_eq_true rfl), (Nat.le_of_ble_eq_true rfl)⟩ (q0 := 0) rfl (by decide) rfl rfl rfl rfl hl.1 rfl (Nat.le_of_ble_eq_true rfl) dX0_openSlots_1 ⟨Nat.le_refl _, Nat.le_refl _⟩ (fun H locs hP => ?_)
  refine lv_aload_n hx hb dX0_openSlots_4 rfl (lv_at hl 0 rfl) ?_
  refine k_callVi C hP hap hAA (c_X0_softFields l ev ad σ   _ rfl) Emb.same hap gz_X0_softFields qML_RX0_120 qIM_yX0_softFields qSE_yX0_softFields ⟨(Nat.le_of_ble_eq_true rfl), (Nat.le_of_ble_eq_true rfl)⟩ (q0 := 0) rfl (by decide) rfl rfl rfl rfl hl.1 rfl (Nat.le_of_ble_eq_true rfl) dX0_openSlots_5 ⟨Nat.le_refl _, Nat.le_refl _⟩ (fun H locs hP => ?_)
  refine lv_i2l hx hb dX0_openSlots_8 rfl ?_
  refine lv_bipush (v := 40) hx hb dX0_openSlots_9 (by decide) ?_
  refine r_lshl hx hb dX0_openSlots_11 ?_
  refine lv_lor hx hb dX0_openSlots_12 ?_
  exact e_lret C hend hP h rfl dX0_openSlots_13
def f_X0_isOpen (σ : GG) (a1 : Int32) : Bool :=
  if (lg_cmp ((lushr (f_X0_openSlots σ) a1) &&& 1) 0) = 0 then false else true
set_option maxHeartbeats 4000000 in
set_option maxRecDepth 100000 in
theorem c_X0_isOpen (l : Launch) (ev : EV) (ad : Nat → Nat) (σ : GG) (a1 : Int32)   (r : Bool)  (h : f_X0_isOpen σ a1 = r) : Ct l yX0_isOpen prog_2_method_31_code 2 (Option.some Jvm.ClassFile.FieldType.boolean) (rmk 3 60) ev 1 ad (gw1 σ) (gw1 σ) [.ref (ad 0), .int a1] (some (.int (bi r))) := by
  refine Ct.of (by decide +kernel) (Nat.le_of_ble_eq_true rfl) ?_
  intro p e s m args below meth c Qc C hap hP hend ls hl
  have hAA : ∀ j, j < 1 → inA ad 1 (ad j) := fun j hj => ⟨j, hj, rfl⟩
  have hx := C.1
  have hb := C.2.1
  have hl : lv_has ls 2 [(0, .ref (ad 0)), (1, .int a1)] := hl
  have h := (f_X0_isOpen.eq_1 _ _ ).symm.trans h
  refine lv_aload_n hx hb dX0_isOpen_0 rfl (lv_at hl 0 rfl) ?_
  refine k_callVl C hP hap hAA (c_X0_openSlots l ev ad σ   _ rfl) Emb.same hap gz_X0_openSlots qML_RX0_123 qIM_yX0_openSlots qSE_yX0_openSlots ⟨(Nat.le_of_ble_eq_true rfl), (Nat.le_of_ble_eq_true rfl)⟩ (q0 := 0) rfl (by decide) rfl rfl rfl rfl hl.1 rfl (Nat.le_of_ble_eq_true rfl) dX0_isOpen_1 ⟨Nat.le_refl _, Nat.le_refl _⟩ (fun H locs hP => ?_)
  refine lv_iload_n hx hb dX0_isOpen_4 rfl (lv_at hl 1 rfl) ?_
  refine r_lushr hx hb dX0_isOpen_5 ?_
  refine lv_lconst (v := 1) hx hb dX0_isOpen_6 (by decide) ?_
  refine lv_land hx hb dX0_isOpen_7 ?_
  refine lv_lconst (v := 0) hx hb dX0_isOpen_8 (by decide) ?_
  refine W.lcmp hx hb dX0_isOpen_9 ?_
  refine lv_if_eq (tgt := 17) hx hb dX0_isOpen_10 (by decide) (fun c10 => ?_) (fun c10 => ?_)
  · have h := k_if c10 h
    refine lv_iconst (v := 0) hx hb dX0_isOpen_17 (by decide) ?_
    exact e_zret C hend hP h rfl dX0_isOpen_18 rfl
  · have h := k_nf c10 h
    refine lv_iconst (v := 1) hx hb dX0_isOpen_13 (by decide) ?_
    refine lv_goto (tgt := 18) hx hb dX0_isOpen_14 (by decide) ?_
    exact e_zret C hend hP h rfl dX0_isOpen_18 rfl
def f_X0_make_b82  (σ2 : GG) : Option GG :=
  lt (g_turn' σ2 (1 - (g_turn σ2))) (fun σ3 => lt (g_made' σ3 ((g_made σ3) + 1)) (fun σ4 => some σ4))
def f_X0_make_b64  (σ9 : GG) : Option GG :=
  f_X0_make_b82 σ9
def f_X0_make (σ : GG) (a1 : Int32) : Option GG :=
  if 40 ≤ a1 then lt (g_dug' σ ((g_dug σ) ||| (ishl 1 (a1 - 40)))) (fun σ1 => f_X0_make_b82 σ1) else lt (g_hedges' σ ((g_hedges σ) ||| (lshl 1 a1))) (fun σ5 => ob (f_X0_closed σ5 (g_hedges σ5)) (fun x6 => lt (x6 &&& ((f_X0_shutFields σ5) ^^^ (-1))) (fun x7 => if (g_turn σ5) = 0 then lt (g_ownedBy0' σ5 ((g_ownedBy0 σ5) ||| x7)) (fun σ10 => f_X0_make_b64 σ10) else lt (g_ownedBy1' σ5 ((g_ownedBy1 σ5) ||| x7)) (fun σ8 => f_X0_make_b64 σ8))))
set_option maxHeartbeats 4000000 in
set_option maxRecDepth 100000 in
theorem c_X0_make (l : Launch) (ev : EV) (ad : Nat → Nat) (σ : GG) (a1 : Int32)    (σ' : GG) (h : f_X0_make σ a1 = some σ') : Ct l yX0_make prog_2_method_32_code 3 (Option.none : Option Jvm.ClassFile.FieldType) (rmk 2 48) ev 1 ad (gw1 σ) (gw1 σ') [.ref (ad 0), .int a1] none := by
  refine Ct.of (by decide +kernel) (Nat.le_of_ble_eq_true rfl) ?_
  intro p e s m args below meth c Qc C hap hP hend ls hl
  have hAA : ∀ j, j < 1 → inA ad 1 (ad j) := fun j hj => ⟨j, hj, rfl⟩
  have hx := C.1
  have hb := C.2.1
  have hl : lv_has ls 3 [(0, .ref (ad 0)), (1, .int a1)] := hl
  have h := (f_X0_make.eq_1 _ _ ).symm.trans h
  have hB82 : ∀ (σ2 : GG) (H : Heap) (locs : List Loc) (ls : Array Slot), f_X0_make_b82  σ2 = some σ' → PS ev 1 ad (gw1 σ2) (inA ad 1) s H locs → lv_has ls 3 [(0, .ref (ad 0))] → WW ev p l e (rmk 2 48) s m args below meth c Qc ad 1 H locs 82 ls [] := by
    intro σ2 H locs ls h hP hl
    have h := (f_X0_make_b82.eq_1 _ ).symm.trans h
    refine lv_aload_n hx hb dX0_make_82 rfl (lv_at hl 0 rfl) ?_
    refine lv_iconst (v := 1) hx hb dX0_make_83 (by decide) ?_
    refine lv_aload_n hx hb dX0_make_84 rfl (lv_at hl 0 rfl) ?_
    refine r_get C hP (ci := 0) rfl uin_X0 13 (by decide) 0 (by decide) rfl qFL_RX0_69 rfl rfl dX0_make_85 ?_
    refine lv_isub hx hb dX0_make_88 ?_
    obtain ⟨σ3, eσ3, h⟩ := k_ltx h
    refine pt_G_X0_turn C hP hap hAA eσ3 qFL_RX0_69 dX0_make_89 (fun H locs hP => ?_)
    refine lv_aload_n hx hb dX0_make_92 rfl (lv_at hl 0 rfl) ?_
    refine lv_dup hx hb dX0_make_93 rfl ?_
    refine r_get C hP (ci := 0) rfl uin_X0 14 (by decide) 0 (by decide) rfl qFL_RX0_72 rfl rfl dX0_make_94 ?_
    refine lv_iconst (v := 1) hx hb dX0_make_97 (by decide) ?_
    refine lv_iadd hx hb dX0_make_98 ?_
    obtain ⟨σ4, eσ4, h⟩ := k_ltx h
    refine pt_G_X0_made C hP hap hAA eσ4 qFL_RX0_72 dX0_make_99 (fun H locs hP => ?_)
    exact e_vret C hend hP (congrArg (gw1) (k_some h)) dX0_make_102
  have hB64 : ∀ (σ9 : GG) (H : Heap) (locs : List Loc) (ls : Array Slot), f_X0_make_b64  σ9 = some σ' → PS ev 1 ad (gw1 σ9) (inA ad 1) s H locs → lv_has ls 3 [(0, .ref (ad 0))] → WW ev p l e (rmk 2 48) s m args below meth c Qc ad 1 H locs 64 ls [] := by
    intro σ9 H locs ls h hP hl
    have h := (f_X0_make_b64.eq_1 _ ).symm.trans h
    refine lv_goto (tgt := 82) hx hb dX0_make_64 (by decide) ?_
    exact hB82 _ _ _ _ h hP (lv_sub hl [0] rfl)
  refine lv_iload_n hx hb dX0_make_0 rfl (lv_at hl 1 rfl) ?_
  refine lv_bipush (v := 40) hx hb dX0_make_1 (by decide) ?_
  refine lv_icmp_ge (tgt := 67) hx hb dX0_make_3 (by decide) (fun c3 => ?_) (fun c3 => ?_)
  · have h := k_if c3 h
    refine lv_aload_n hx hb dX0_make_67 rfl (lv_at hl 0 rfl) ?_
    refine lv_dup hx hb dX0_make_68 rfl ?_
    refine r_get C hP (ci := 0) rfl uin_X0 10 (by decide) 0 (by decide) rfl qFL_RX0_60 rfl rfl dX0_make_69 ?_
    refine lv_iconst (v := 1) hx hb dX0_make_72 (by decide) ?_
    refine lv_iload_n hx hb dX0_make_73 rfl (lv_at hl 1 rfl) ?_
    refine lv_bipush (v := 40) hx hb dX0_make_74 (by decide) ?_
    refine lv_isub hx hb dX0_make_76 ?_
    refine r_ishl hx hb dX0_make_77 ?_
    refine lv_ior hx hb dX0_make_78 ?_
    obtain ⟨σ1, eσ1, h⟩ := k_ltx h
    refine pt_G_X0_dug C hP hap hAA eσ1 qFL_RX0_60 dX0_make_79 (fun H locs hP => ?_)
    exact hB82 _ _ _ _ h hP (lv_sub hl [0] rfl)
  · have h := k_nf c3 h
    refine lv_aload_n hx hb dX0_make_6 rfl (lv_at hl 0 rfl) ?_
    refine lv_dup hx hb dX0_make_7 rfl ?_
    refine r_get C hP (ci := 0) rfl uin_X0 9 (by decide) 0 (by decide) rfl qFL_RX0_57 rfl rfl dX0_make_8 ?_
    refine lv_lconst (v := 1) hx hb dX0_make_11 (by decide) ?_
    refine lv_iload_n hx hb dX0_make_12 rfl (lv_at hl 1 rfl) ?_
    refine r_lshl hx hb dX0_make_13 ?_
    refine lv_lor hx hb dX0_make_14 ?_
    obtain ⟨σ5, eσ5, h⟩ := k_ltx h
    refine pt_G_X0_hedges C hP hap hAA eσ5 qFL_RX0_57 dX0_make_15 (fun H locs hP => ?_)
    refine lv_aload_n hx hb dX0_make_18 rfl (lv_at hl 0 rfl) ?_
    refine lv_aload_n hx hb dX0_make_19 rfl (lv_at hl 0 rfl) ?_
    refine r_get C hP (ci := 0) rfl uin_X0 9 (by decide) 0 (by decide) rfl qFL_RX0_57 rfl rfl dX0_make_20 ?_
    obtain ⟨x6, h1, h⟩ := k_ob h
    refine k_callVi C hP hap hAA (c_X0_closed l ev ad σ5 (g_hedges σ5)   _ h1) Emb.same hap gz_X0_closed qML_RX0_126 qIM_yX0_closed qSE_yX0_closed ⟨(Nat.le_of_ble_eq_true rfl), (Nat.le_of_ble_eq_true rfl)⟩ (q0 := 0) rfl (by decide) rfl rfl rfl rfl hl.1 rfl (Nat.le_of_ble_eq_true rfl) dX0_make_23 ⟨Nat.le_refl _, Nat.le_refl _⟩ (fun H locs hP => ?_)
    refine lv_aload_n hx hb dX0_make_26 rfl (lv_at hl 0 rfl) ?_
    refine k_callVi C hP hap hAA (c_X0_shutFields l ev ad σ5   _ rfl) Emb.same hap gz_X0_shutFields qML_RX0_112 qIM_yX0_shutFields qSE_yX0_shutFields ⟨(Nat.le_of_ble_eq_true rfl), (Nat.le_of_ble_eq_true rfl)⟩ (q0 := 0) rfl (by decide) rfl rfl rfl rfl hl.1 rfl (Nat.le_of_ble_eq_true rfl) dX0_make_27 ⟨Nat.le_refl _, Nat.le_refl _⟩ (fun H locs hP => ?_)
    refine lv_iconst (v := (-1)) hx hb dX0_make_30 (by decide) ?_
    refine lv_ixor hx hb dX0_make_31 ?_
    refine lv_iand hx hb dX0_make_32 ?_
    refine lv_topi (fun x7 ex7 => ?_)
    have h := k_lt ex7 h
    refine lv_istore_n (lv' := [(2, .int x7), (0, .ref (ad 0)), (1, .int a1)]) hx hb dX0_make_33 rfl hl (by decide) rfl (fun ls hl => ?_)
    refine lv_aload_n hx hb dX0_make_34 rfl (lv_at hl 1 rfl) ?_
    refine r_get C hP (ci := 0) rfl uin_X0 13 (by decide) 0 (by decide) rfl qFL_RX0_69 rfl rfl dX0_make_35 ?_
    refine lv_if_ne (tgt := 54) hx hb dX0_make_38 (by decide) (fun c38 => ?_) (fun c38 => ?_)
    · have h := k_nf c38 h
      refine lv_aload_n hx hb dX0_make_54 rfl (lv_at hl 1 rfl) ?_
      refine lv_dup hx hb dX0_make_55 rfl ?_
      refine r_get C hP (ci := 0) rfl uin_X0 12 (by decide) 0 (by decide) rfl qFL_RX0_66 rfl rfl dX0_make_56 ?_
      refine lv_iload_n hx hb dX0_make_59 rfl (lv_at hl 0 rfl) ?_
      refine lv_ior hx hb dX0_make_60 ?_
      obtain ⟨σ8, eσ8, h⟩ := k_ltx h
      refine pt_G_X0_ownedBy1 C hP hap hAA eσ8 qFL_RX0_66 dX0_make_61 (fun H locs hP => ?_)
      exact hB64 _ _ _ _ h hP (lv_sub hl [1] rfl)
    · have h := k_if c38 h
      refine lv_aload_n hx hb dX0_make_41 rfl (lv_at hl 1 rfl) ?_
      refine lv_dup hx hb dX0_make_42 rfl ?_
      refine r_get C hP (ci := 0) rfl uin_X0 11 (by decide) 0 (by decide) rfl qFL_RX0_63 rfl rfl dX0_make_43 ?_
      refine lv_iload_n hx hb dX0_make_46 rfl (lv_at hl 0 rfl) ?_
      refine lv_ior hx hb dX0_make_47 ?_
      obtain ⟨σ10, eσ10, h⟩ := k_ltx h
      refine pt_G_X0_ownedBy0 C hP hap hAA eσ10 qFL_RX0_63 dX0_make_48 (fun H locs hP => ?_)
      refine lv_goto (tgt := 64) hx hb dX0_make_51 (by decide) ?_
      exact hB64 _ _ _ _ h hP (lv_sub hl [1] rfl)
