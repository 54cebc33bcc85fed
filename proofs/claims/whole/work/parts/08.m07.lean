/-! functions read off, and their contracts: by program (wip/whole/gen2.py) -/
def f_J13_bitCount_95d88 (a1 : Int64) : Int32 :=
  lt (a1 - ((lushr a1 1) &&& 6148914691236517205)) (fun y1 => lt ((y1 &&& 3689348814741910323) + ((lushr y1 2) &&& 3689348814741910323)) (fun y2 => lt ((y2 + (lushr y2 4)) &&& 1085102592571150095) (fun y3 => lt (y3 + (lushr y3 8)) (fun y4 => lt (y4 + (lushr y4 16)) (fun y5 => lt (y5 + (lushr y5 32)) (fun y6 => ((Int64.toInt32 y6) &&& 127)))))))
set_option maxHeartbeats 4000000 in
set_option maxRecDepth 100000 in
theorem c_J13_bitCount_95d88 (l : Launch) (ev : EV) (ad : Nat → Nat) (a1 : Int64)   (r : Int32)  (h : f_J13_bitCount_95d88 a1 = r) : Ct l yJ13_bitCount_95d88 prog_8_method_50_code 2 (Option.some Jvm.ClassFile.FieldType.int) (rmk 0 0) ev 0 ad w00 w00 [.long a1] (some (.int r)) := by
  refine Ct.of (by decide +kernel) (Nat.le_of_ble_eq_true rfl) ?_
  intro p e s m args below meth c Qc C hap hP hend ls hl
  have hAA : ∀ j, j < 0 → inA ad 0 (ad j) := fun j hj => ⟨j, hj, rfl⟩
  have hx := C.1
  have hb := C.2.1
  have hl : lv_has ls 2 [(0, .long a1)] := hl
  have h := (f_J13_bitCount_95d88.eq_1 _ ).symm.trans h
  refine lv_lload_n hx hb dJ13_bitCount_95d88_0 rfl (lv_at hl 0 rfl) ?_
  refine lv_lload_n hx hb dJ13_bitCount_95d88_1 rfl (lv_at hl 0 rfl) ?_
  refine lv_iconst (v := 1) hx hb dJ13_bitCount_95d88_2 (by decide) ?_
  refine r_lushr hx hb dJ13_bitCount_95d88_3 ?_
  refine lv_ldc2 (v := 6148914691236517205) hx hb C.2.2.2.2.2.1 (C.2.2.2.2.1 _ qCL_RJ13_314) dJ13_bitCount_95d88_4 ?_
  refine lv_land hx hb dJ13_bitCount_95d88_7 ?_
  refine lv_lsub hx hb dJ13_bitCount_95d88_8 ?_
  refine lv_topl (fun y1 ey1 => ?_)
  have h := k_lt ey1 h
  refine lv_lstore_n (lv' := [(0, .long y1)]) hx hb dJ13_bitCount_95d88_9 rfl hl (by decide) rfl (fun ls hl => ?_)
  refine lv_lload_n hx hb dJ13_bitCount_95d88_10 rfl (lv_at hl 0 rfl) ?_
  refine lv_ldc2 (v := 3689348814741910323) hx hb C.2.2.2.2.2.1 (C.2.2.2.2.1 _ qCL_RJ13_316) dJ13_bitCount_95d88_11 ?_
  refine lv_land hx hb dJ13_bitCount_95d88_14 ?_
  refine lv_lload_n hx hb dJ13_bitCount_95d88_15 rfl (lv_at hl 0 rfl) ?_
  refine lv_iconst (v := 2) hx hb dJ13_bitCount_95d88_16 (by decide) ?_
  refine r_lushr hx hb dJ13_bitCount_95d88_17 ?_
  refine lv_ldc2 (v := 3689348814741910323) hx hb C.2.2.2.2.2.1 (C.2.2.2.2.1 _ qCL_RJ13_316) dJ13_bitCount_95d88_18 ?_
  refine lv_land hx hb dJ13_bitCount_95d88_21 ?_
  refine lv_ladd hx hb dJ13_bitCount_95d88_22 ?_
  refine lv_topl (fun y2 ey2 => ?_)
  have h := k_lt ey2 h
  refine lv_lstore_n (lv' := [(0, .long y2)]) hx hb dJ13_bitCount_95d88_23 rfl hl (by decide) rfl (fun ls hl => ?_)
  refine lv_lload_n hx hb dJ13_bitCount_95d88_24 rfl (lv_at hl 0 rfl) ?_
  refine lv_lload_n hx hb dJ13_bitCount_95d88_25 rfl (lv_at hl 0 rfl) ?_
  refine lv_iconst (v := 4) hx hb dJ13_bitCount_95d88_26 (by decide) ?_
  refine r_lushr hx hb dJ13_bitCount_95d88_27 ?_
  refine lv_ladd hx hb dJ13_bitCount_95d88_28 ?_
  refine lv_ldc2 (v := 1085102592571150095) hx hb C.2.2.2.2.2.1 (C.2.2.2.2.1 _ qCL_RJ13_318) dJ13_bitCount_95d88_29 ?_
  refine lv_land hx hb dJ13_bitCount_95d88_32 ?_
  refine lv_topl (fun y3 ey3 => ?_)
  have h := k_lt ey3 h
  refine lv_lstore_n (lv' := [(0, .long y3)]) hx hb dJ13_bitCount_95d88_33 rfl hl (by decide) rfl (fun ls hl => ?_)
  refine lv_lload_n hx hb dJ13_bitCount_95d88_34 rfl (lv_at hl 0 rfl) ?_
  refine lv_lload_n hx hb dJ13_bitCount_95d88_35 rfl (lv_at hl 0 rfl) ?_
  refine lv_bipush (v := 8) hx hb dJ13_bitCount_95d88_36 (by decide) ?_
  refine r_lushr hx hb dJ13_bitCount_95d88_38 ?_
  refine lv_ladd hx hb dJ13_bitCount_95d88_39 ?_
  refine lv_topl (fun y4 ey4 => ?_)
  have h := k_lt ey4 h
  refine lv_lstore_n (lv' := [(0, .long y4)]) hx hb dJ13_bitCount_95d88_40 rfl hl (by decide) rfl (fun ls hl => ?_)
  refine lv_lload_n hx hb dJ13_bitCount_95d88_41 rfl (lv_at hl 0 rfl) ?_
  refine lv_lload_n hx hb dJ13_bitCount_95d88_42 rfl (lv_at hl 0 rfl) ?_
  refine lv_bipush (v := 16) hx hb dJ13_bitCount_95d88_43 (by decide) ?_
  refine r_lushr hx hb dJ13_bitCount_95d88_45 ?_
  refine lv_ladd hx hb dJ13_bitCount_95d88_46 ?_
  refine lv_topl (fun y5 ey5 => ?_)
  have h := k_lt ey5 h
  refine lv_lstore_n (lv' := [(0, .long y5)]) hx hb dJ13_bitCount_95d88_47 rfl hl (by decide) rfl (fun ls hl => ?_)
  refine lv_lload_n hx hb dJ13_bitCount_95d88_48 rfl (lv_at hl 0 rfl) ?_
  refine lv_lload_n hx hb dJ13_bitCount_95d88_49 rfl (lv_at hl 0 rfl) ?_
  refine lv_bipush (v := 32) hx hb dJ13_bitCount_95d88_50 (by decide) ?_
  refine r_lushr hx hb dJ13_bitCount_95d88_52 ?_
  refine lv_ladd hx hb dJ13_bitCount_95d88_53 ?_
  refine lv_topl (fun y6 ey6 => ?_)
  have h := k_lt ey6 h
  refine lv_lstore_n (lv' := [(0, .long y6)]) hx hb dJ13_bitCount_95d88_54 rfl hl (by decide) rfl (fun ls hl => ?_)
  refine lv_lload_n hx hb dJ13_bitCount_95d88_55 rfl (lv_at hl 0 rfl) ?_
  refine lv_l2i hx hb dJ13_bitCount_95d88_56 rfl ?_
  refine lv_bipush (v := 127) hx hb dJ13_bitCount_95d88_57 (by decide) ?_
  refine lv_iand hx hb dJ13_bitCount_95d88_59 ?_
  exact e_iret C hend hP h rfl dJ13_bitCount_95d88_60
def f_X3_firstSlot (a1 : Int64) : Int32 :=
  if (lg_cmp a1 0) = 0 then (-1) else (f_J13_bitCount_95d88 ((a1 &&& (-a1)) - 1))
set_option maxHeartbeats 4000000 in
set_option maxRecDepth 100000 in
theorem c_X3_firstSlot (l : Launch) (ev : EV) (ad : Nat → Nat) (a1 : Int64)   (r : Int32)  (h : f_X3_firstSlot a1 = r) : Ct l yX3_firstSlot prog_1_method_68_code 2 (Option.some Jvm.ClassFile.FieldType.int) (rmk 1 21) ev 0 ad w00 w00 [.long a1] (some (.int r)) := by
  refine Ct.of (by decide +kernel) (Nat.le_of_ble_eq_true rfl) ?_
  intro p e s m args below meth c Qc C hap hP hend ls hl
  have hAA : ∀ j, j < 0 → inA ad 0 (ad j) := fun j hj => ⟨j, hj, rfl⟩
  have hx := C.1
  have hb := C.2.1
  have hl : lv_has ls 2 [(0, .long a1)] := hl
  have h := (f_X3_firstSlot.eq_1 _ ).symm.trans h
  refine lv_lload_n hx hb dX3_firstSlot_0 rfl (lv_at hl 0 rfl) ?_
  refine lv_lconst (v := 0) hx hb dX3_firstSlot_1 (by decide) ?_
  refine W.lcmp hx hb dX3_firstSlot_2 ?_
  refine lv_if_ne (tgt := 10) hx hb dX3_firstSlot_3 (by decide) (fun c3 => ?_) (fun c3 => ?_)
  · have h := k_nf c3 h
    refine lv_lload_n hx hb dX3_firstSlot_10 rfl (lv_at hl 0 rfl) ?_
    refine lv_lload_n hx hb dX3_firstSlot_11 rfl (lv_at hl 0 rfl) ?_
    refine lv_lneg hx hb dX3_firstSlot_12 ?_
    refine lv_land hx hb dX3_firstSlot_13 ?_
    refine lv_lconst (v := 1) hx hb dX3_firstSlot_14 (by decide) ?_
    refine lv_lsub hx hb dX3_firstSlot_15 ?_
    refine k_callSi C hP hap hAA (c_J13_bitCount_95d88 l ev ad ((a1 &&& (-a1)) - 1)   _ rfl) Emb.none (apart_0 _) gz_J13_bitCount_95d88 qML_RX3_131 qSM_yJ13_bitCount_95d88 ⟨(Nat.le_of_ble_eq_true rfl), (Nat.le_of_ble_eq_true rfl)⟩ rfl hl.1 rfl (Nat.le_of_ble_eq_true rfl) dX3_firstSlot_16 ⟨Nat.le_refl _, Nat.le_refl _⟩ (fun H locs hP => ?_)
    exact e_iret C hend hP h rfl dX3_firstSlot_19
  · have h := k_if c3 h
    refine lv_iconst (v := (-1)) hx hb dX3_firstSlot_6 (by decide) ?_
    refine lv_goto (tgt := 19) hx hb dX3_firstSlot_7 (by decide) ?_
    exact e_iret C hend hP h rfl dX3_firstSlot_19
def f_X3_slotAt_L5_b (a2 : Int32) (k30 : Int64 → Option (Int32)) (rec5 : Int64 → Int32 → Option (Int32)) (y1 : Int64) (x2 : Int32) : Option (Int32) :=
  if a2 ≤ x2 then k30 y1 else if 56 ≤ x2 then k30 y1 else lt (y1 &&& (y1 - 1)) (fun y3 => lt (x2 + 1) (fun x4 => rec5 y3 x4))
def f_X3_slotAt_L5 (a2 : Int32) (k30 : Int64 → Option (Int32)) (y1 : Int64) (x2 : Int32) : Option (Int32) :=
  lp (fun _ _ => none) (f_X3_slotAt_L5_b a2 k30) FU y1 x2
def f_X3_slotAt (a1 : Int64) (a2 : Int32) : Option (Int32) :=
  f_X3_slotAt_L5 a2 (fun y6 => some (f_X3_firstSlot y6)) a1 0
set_option maxHeartbeats 4000000 in
set_option maxRecDepth 100000 in
theorem c_X3_slotAt (l : Launch) (ev : EV) (ad : Nat → Nat) (a1 : Int64) (a2 : Int32)   (r : Int32)  (h : f_X3_slotAt a1 a2 = some r) : Ct l yX3_slotAt prog_1_method_69_code 6 (Option.some Jvm.ClassFile.FieldType.int) (rmk 2 42) ev 0 ad w00 w00 [.long a1, .int a2] (some (.int r)) := by
  refine Ct.of (by decide +kernel) (Nat.le_of_ble_eq_true rfl) ?_
  intro p e s m args below meth c Qc C hap hP hend ls hl
  have hAA : ∀ j, j < 0 → inA ad 0 (ad j) := fun j hj => ⟨j, hj, rfl⟩
  have hx := C.1
  have hb := C.2.1
  have hl : lv_has ls 6 [(0, .long a1), (2, .int a2)] := hl
  have h := (f_X3_slotAt.eq_1 _ _ ).symm.trans h
  refine lv_lload_n hx hb dX3_slotAt_0 rfl (lv_at hl 0 rfl) ?_
  refine lv_lstore_n (lv' := [(3, .long a1), (0, .long a1), (2, .int a2)]) hx hb dX3_slotAt_1 rfl hl (by decide) rfl (fun ls hl => ?_)
  refine lv_iconst (v := 0) hx hb dX3_slotAt_2 (by decide) ?_
  refine lv_istore (lv' := [(5, .int 0), (3, .long a1), (0, .long a1), (2, .int a2)]) hx hb dX3_slotAt_3 hl (by decide) rfl (fun ls hl => ?_)
  have hL5 : ∀ (k30 : Int64 → Option (Int32)) (hk30 : ∀ (z5 : Int64) (H : Heap) (locs : List Loc) (ls : Array Slot), k30 z5 = some r → PS ev 0 ad w00 (inA ad 0) s H locs → lv_has ls 6 [(3, .long z5)] → WW ev p l e (rmk 2 42) s m args below meth c Qc ad 0 H locs 30 ls []) (n : Nat) (y1 : Int64) (x2 : Int32) (H : Heap) (locs : List Loc) (ls : Array Slot), lp (fun _ _ => none) (f_X3_slotAt_L5_b a2 k30) n y1 x2 = some r → PS ev 0 ad w00 (inA ad 0) s H locs → lv_has ls 6 [(2, .int a2), (3, .long y1), (5, .int x2)] → WW ev p l e (rmk 2 42) s m args below meth c Qc ad 0 H locs 5 ls [] := by
    intro k30 hk30 n
    induction n with
    | zero =>
      intro y1 x2 H locs ls h; exact k_none h
    | succ n ih =>
      intro y1 x2 H locs ls h hP hl
      have h : f_X3_slotAt_L5_b a2 k30 (lp (fun _ _ => none) (f_X3_slotAt_L5_b a2 k30) n) y1 x2 = some r := h
      have h := (f_X3_slotAt_L5_b.eq_1 _ _ _ _ _ ).symm.trans h
      refine lv_iload hx hb dX3_slotAt_5 (lv_at hl 2 rfl) ?_
      refine lv_iload_n hx hb dX3_slotAt_7 rfl (lv_at hl 0 rfl) ?_
      refine lv_icmp_ge (tgt := 30) hx hb dX3_slotAt_8 (by decide) (fun c8 => ?_) (fun c8 => ?_)
      · have h := k_if c8 h
        exact hk30 _ _ _ _ h hP (lv_sub hl [1] rfl)
      · have h := k_nf c8 h
        refine lv_iload hx hb dX3_slotAt_11 (lv_at hl 2 rfl) ?_
        refine lv_bipush (v := 56) hx hb dX3_slotAt_13 (by decide) ?_
        refine lv_icmp_ge (tgt := 30) hx hb dX3_slotAt_15 (by decide) (fun c15 => ?_) (fun c15 => ?_)
        · have h := k_if c15 h
          exact hk30 _ _ _ _ h hP (lv_sub hl [1] rfl)
        · have h := k_nf c15 h
          refine lv_lload_n hx hb dX3_slotAt_18 rfl (lv_at hl 1 rfl) ?_
          refine lv_lload_n hx hb dX3_slotAt_19 rfl (lv_at hl 1 rfl) ?_
          refine lv_lconst (v := 1) hx hb dX3_slotAt_20 (by decide) ?_
          refine lv_lsub hx hb dX3_slotAt_21 ?_
          refine lv_land hx hb dX3_slotAt_22 ?_
          refine lv_topl (fun y3 ey3 => ?_)
          have h := k_lt ey3 h
          refine lv_lstore_n (lv' := [(3, .long y3), (2, .int a2), (5, .int x2)]) hx hb dX3_slotAt_23 rfl hl (by decide) rfl (fun ls hl => ?_)
          obtain ⟨x4, ex4, h⟩ := k_ltx h
          refine lv_iinc (v := x4) (lv' := [(5, .int x4), (3, .long y3), (2, .int a2)]) hx hb dX3_slotAt_24 hl (k := 2) rfl (by rw [ex4]; rfl) (by decide) rfl (fun ls hl => ?_)
          refine lv_goto (tgt := 5) hx hb dX3_slotAt_27 (by decide) ?_
          exact ih _ _ _ _ _ h hP (lv_sub hl [2, 1, 0] rfl)
  refine hL5 _ (fun y6 H locs ls h hP hl => ?_) FU _ _ _ _ _ h hP (lv_sub hl [3, 1, 0] rfl)
  refine lv_lload_n hx hb dX3_slotAt_30 rfl (lv_at hl 0 rfl) ?_
  refine k_callSi C hP hap hAA (c_X3_firstSlot l ev ad y6   _ rfl) Emb.none (apart_0 _) gz_X3_firstSlot qML_RX3_318 qSM_yX3_firstSlot ⟨(Nat.le_of_ble_eq_true rfl), (Nat.le_of_ble_eq_true rfl)⟩ rfl hl.1 rfl (Nat.le_of_ble_eq_true rfl) dX3_slotAt_31 ⟨Nat.le_refl _, Nat.le_refl _⟩ (fun H locs hP => ?_)
  exact e_iret C hend hP (k_some h) rfl dX3_slotAt_34
def f_X0_drawnSlot (σ : GG) (a1 : Int64) : Option (Int32 × GG) :=
  if (lg_cmp a1 0) = 0 then some ((-1), σ) else ob2 (f_X0_drawBelow σ (f_J13_bitCount_95d88 a1)) (fun x2 σ1 => ob (f_X3_slotAt a1 x2) (fun x3 => some (x3, σ1)))
set_option maxHeartbeats 4000000 in
set_option maxRecDepth 100000 in
theorem c_X0_drawnSlot (l : Launch) (ev : EV) (ad : Nat → Nat) (σ : GG) (a1 : Int64)   (r : Int32) (σ' : GG) (h : f_X0_drawnSlot σ a1 = some (r, σ')) : Ct l yX0_drawnSlot prog_2_method_46_code 3 (Option.some Jvm.ClassFile.FieldType.int) (rmk 3 67) ev 1 ad (gw1 σ) (gw1 σ') [.ref (ad 0), .long a1] (some (.int r)) := by
  refine Ct.of (by decide +kernel) (Nat.le_of_ble_eq_true rfl) ?_
  intro p e s m args below meth c Qc C hap hP hend ls hl
  have hAA : ∀ j, j < 1 → inA ad 1 (ad j) := fun j hj => ⟨j, hj, rfl⟩
  have hx := C.1
  have hb := C.2.1
  have hl : lv_has ls 3 [(0, .ref (ad 0)), (1, .long a1)] := hl
  have h := (f_X0_drawnSlot.eq_1 _ _ ).symm.trans h
  refine lv_lload_n hx hb dX0_drawnSlot_0 rfl (lv_at hl 1 rfl) ?_
  refine lv_lconst (v := 0) hx hb dX0_drawnSlot_1 (by decide) ?_
  refine W.lcmp hx hb dX0_drawnSlot_2 ?_
  refine lv_if_ne (tgt := 10) hx hb dX0_drawnSlot_3 (by decide) (fun c3 => ?_) (fun c3 => ?_)
  · have h := k_nf c3 h
    refine lv_lload_n hx hb dX0_drawnSlot_10 rfl (lv_at hl 1 rfl) ?_
    refine lv_aload_n hx hb dX0_drawnSlot_11 rfl (lv_at hl 0 rfl) ?_
    refine lv_lload_n hx hb dX0_drawnSlot_12 rfl (lv_at hl 1 rfl) ?_
    refine k_callSi C hP hap hAA (c_J13_bitCount_95d88 l ev ad a1   _ rfl) Emb.none (apart_0 _) gz_J13_bitCount_95d88 qML_RX0_163 qSM_yJ13_bitCount_95d88 ⟨(Nat.le_of_ble_eq_true rfl), (Nat.le_of_ble_eq_true rfl)⟩ rfl hl.1 rfl (Nat.le_of_ble_eq_true rfl) dX0_drawnSlot_13 ⟨Nat.le_refl _, Nat.le_refl _⟩ (fun H locs hP => ?_)
    obtain ⟨x2, σ1, h1, h⟩ := k_ob2 h
    refine k_callVi C hP hap hAA (c_X0_drawBelow l ev ad σ (f_J13_bitCount_95d88 a1)   _ _ h1) Emb.same hap gz_X0_drawBelow qML_RX0_167 qIM_yX0_drawBelow qSE_yX0_drawBelow ⟨(Nat.le_of_ble_eq_true rfl), (Nat.le_of_ble_eq_true rfl)⟩ (q0 := 0) rfl (by decide) rfl rfl rfl rfl hl.1 rfl (Nat.le_of_ble_eq_true rfl) dX0_drawnSlot_16 ⟨Nat.le_refl _, Nat.le_refl _⟩ (fun H locs hP => ?_)
    obtain ⟨x3, h1, h⟩ := k_ob h
    refine k_callNi (host := "HedgesAndDitches") C hP hap hAA (c_X3_slotAt l ev ad a1 x2   _ h1) Emb.none (apart_0 _) gz_X3_slotAt (by decide +kernel) qSM_yX3_slotAt ⟨(Nat.le_of_ble_eq_true rfl), (Nat.le_of_ble_eq_true rfl)⟩ rfl hl.1 rfl (Nat.le_of_ble_eq_true rfl) dX0_drawnSlot_19 ⟨Nat.le_refl _, Nat.le_refl _⟩ (fun H locs hP => ?_)
    exact e_iret C hend hP (k_some2 h).1 (congrArg (gw1) (k_some2 h).2) dX0_drawnSlot_22
  · have h := k_if c3 h
    refine lv_iconst (v := (-1)) hx hb dX0_drawnSlot_6 (by decide) ?_
    refine lv_goto (tgt := 22) hx hb dX0_drawnSlot_7 (by decide) ?_
    exact e_iret C hend hP (k_some2 h).1 (congrArg (gw1) (k_some2 h).2) dX0_drawnSlot_22
def f_X0_chainFrom_L14_b (σ : GG)  (rec14 : Int64 → Int32 → Int32 → Int32 → Option (Int32)) (y2 : Int64) (x3 : Int32) (x4 : Int32) (x5 : Int32) : Option (Int32) :=
  if 16 ≤ x5 then some x4 else if (f_X0_isField σ x3) = true then ob (f_X0_withThree σ y2) (fun x6 => if ((iushr x6 x3) &&& 1) = 0 then some x4 else ob (f_X0_around σ (ishl 1 x3)) (fun y7 => lt (f_X3_firstSlot (y7 &&& (y2 ^^^ (-1)))) (fun x8 => lt (y2 ||| (lshl 1 x8)) (fun y9 => lt (x4 + 1) (fun x10 => ob (f_X0_fieldAhead σ x8) (fun x11 => if x11 = x3 then ob (f_X0_fieldBeyond σ x8) (fun x14 => lt (x5 + 1) (fun x15 => rec14 y9 x14 x10 x15)) else ob (f_X0_fieldAhead σ x8) (fun x12 => lt (x5 + 1) (fun x13 => rec14 y9 x12 x10 x13)))))))) else some x4
def f_X0_chainFrom_L14 (σ : GG)  (y2 : Int64) (x3 : Int32) (x4 : Int32) (x5 : Int32) : Option (Int32) :=
  lp (fun _ _ _ _ => none) (f_X0_chainFrom_L14_b σ ) FU y2 x3 x4 x5
def f_X0_chainFrom (σ : GG) (a1 : Int32) : Option (Int32) :=
  lt (g_hedges σ) (fun y1 => f_X0_chainFrom_L14 σ y1 a1 0 0)
set_option maxHeartbeats 4000000 in
set_option maxRecDepth 100000 in
theorem c_X0_chainFrom (l : Launch) (ev : EV) (ad : Nat → Nat) (σ : GG) (a1 : Int32)   (r : Int32)  (h : f_X0_chainFrom σ a1 = some r) : Ct l yX0_chainFrom prog_2_method_47_code 8 (Option.some Jvm.ClassFile.FieldType.int) (rmk 2 52) ev 1 ad (gw1 σ) (gw1 σ) [.ref (ad 0), .int a1] (some (.int r)) := by
  refine Ct.of (by decide +kernel) (Nat.le_of_ble_eq_true rfl) ?_
  intro p e s m args below meth c Qc C hap hP hend ls hl
  have hAA : ∀ j, j < 1 → inA ad 1 (ad j) := fun j hj => ⟨j, hj, rfl⟩
  have hx := C.1
  have hb := C.2.1
  have hl : lv_has ls 8 [(0, .ref (ad 0)), (1, .int a1)] := hl
  have h := (f_X0_chainFrom.eq_1 _ _ ).symm.trans h
  refine lv_aload_n hx hb dX0_chainFrom_0 rfl (lv_at hl 0 rfl) ?_
  refine r_get C hP (ci := 0) rfl uin_X0 9 (by decide) 0 (by decide) rfl qFL_RX0_57 rfl rfl dX0_chainFrom_1 ?_
  refine lv_topl (fun y1 ey1 => ?_)
  have h := k_lt ey1 h
  refine lv_lstore_n (lv' := [(2, .long y1), (0, .ref (ad 0)), (1, .int a1)]) hx hb dX0_chainFrom_4 rfl hl (by decide) rfl (fun ls hl => ?_)
  refine lv_iload_n hx hb dX0_chainFrom_5 rfl (lv_at hl 2 rfl) ?_
  refine lv_istore (lv' := [(4, .int a1), (2, .long y1), (0, .ref (ad 0)), (1, .int a1)]) hx hb dX0_chainFrom_6 hl (by decide) rfl (fun ls hl => ?_)
  refine lv_iconst (v := 0) hx hb dX0_chainFrom_8 (by decide) ?_
  refine lv_istore (lv' := [(5, .int 0), (4, .int a1), (2, .long y1), (0, .ref (ad 0)), (1, .int a1)]) hx hb dX0_chainFrom_9 hl (by decide) rfl (fun ls hl => ?_)
  refine lv_iconst (v := 0) hx hb dX0_chainFrom_11 (by decide) ?_
  refine lv_istore (lv' := [(6, .int 0), (5, .int 0), (4, .int a1), (2, .long y1), (0, .ref (ad 0)), (1, .int a1)]) hx hb dX0_chainFrom_12 hl (by decide) rfl (fun ls hl => ?_)
  have hL14 : ∀ (n : Nat) (y2 : Int64) (x3 : Int32) (x4 : Int32) (x5 : Int32) (H : Heap) (locs : List Loc) (ls : Array Slot), lp (fun _ _ _ _ => none) (f_X0_chainFrom_L14_b σ ) n y2 x3 x4 x5 = some r → PS ev 1 ad (gw1 σ) (inA ad 1) s H locs → lv_has ls 8 [(0, .ref (ad 0)), (2, .long y2), (4, .int x3), (5, .int x4), (6, .int x5)] → WW ev p l e (rmk 2 52) s m args below meth c Qc ad 1 H locs 14 ls [] := by
    intro n
    induction n with
    | zero =>
      intro y2 x3 x4 x5 H locs ls h; exact k_none h
    | succ n ih =>
      intro y2 x3 x4 x5 H locs ls h hP hl
      have h : f_X0_chainFrom_L14_b σ  (lp (fun _ _ _ _ => none) (f_X0_chainFrom_L14_b σ ) n) y2 x3 x4 x5 = some r := h
      have h := (f_X0_chainFrom_L14_b.eq_1 _ _ _ _ _ _ ).symm.trans h
      refine lv_iload hx hb dX0_chainFrom_14 (lv_at hl 4 rfl) ?_
      refine lv_bipush (v := 16) hx hb dX0_chainFrom_16 (by decide) ?_
      refine lv_icmp_ge (tgt := 109) hx hb dX0_chainFrom_18 (by decide) (fun c18 => ?_) (fun c18 => ?_)
      · have h := k_if c18 h
        refine lv_iload hx hb dX0_chainFrom_109 (lv_at hl 3 rfl) ?_
        exact e_iret C hend hP (k_some h) rfl dX0_chainFrom_111
      · have h := k_nf c18 h
        refine lv_aload_n hx hb dX0_chainFrom_21 rfl (lv_at hl 0 rfl) ?_
        refine lv_iload hx hb dX0_chainFrom_22 (lv_at hl 2 rfl) ?_
        refine k_callVi C hP hap hAA (c_X0_isField l ev ad σ x3   _ rfl) Emb.same hap gz_X0_isField qML_RX0_107 qIM_yX0_isField qSE_yX0_isField ⟨(Nat.le_of_ble_eq_true rfl), (Nat.le_of_ble_eq_true rfl)⟩ (q0 := 0) rfl (by decide) rfl rfl rfl rfl hl.1 rfl (Nat.le_of_ble_eq_true rfl) dX0_chainFrom_24 ⟨Nat.le_refl _, Nat.le_refl _⟩ (fun H locs hP => ?_)
        refine r_ifz_eq (tgt := 109) hx hb dX0_chainFrom_27 (by decide) (fun c27 => ?_) (fun c27 => ?_)
        · have h := k_nf c27 h
          refine lv_iload hx hb dX0_chainFrom_109 (lv_at hl 3 rfl) ?_
          exact e_iret C hend hP (k_some h) rfl dX0_chainFrom_111
        · have h := k_if c27 h
          refine lv_aload_n hx hb dX0_chainFrom_30 rfl (lv_at hl 0 rfl) ?_
          refine lv_lload_n hx hb dX0_chainFrom_31 rfl (lv_at hl 1 rfl) ?_
          obtain ⟨x6, h1, h⟩ := k_ob h
          refine k_callVi C hP hap hAA (c_X0_withThree l ev ad σ y2   _ h1) Emb.same hap gz_X0_withThree qML_RX0_152 qIM_yX0_withThree qSE_yX0_withThree ⟨(Nat.le_of_ble_eq_true rfl), (Nat.le_of_ble_eq_true rfl)⟩ (q0 := 0) rfl (by decide) rfl rfl rfl rfl hl.1 rfl (Nat.le_of_ble_eq_true rfl) dX0_chainFrom_32 ⟨Nat.le_refl _, Nat.le_refl _⟩ (fun H locs hP => ?_)
          refine lv_iload hx hb dX0_chainFrom_35 (lv_at hl 2 rfl) ?_
          refine r_iushr hx hb dX0_chainFrom_37 ?_
          refine lv_iconst (v := 1) hx hb dX0_chainFrom_38 (by decide) ?_
          refine lv_iand hx hb dX0_chainFrom_39 ?_
          refine lv_if_ne (tgt := 46) hx hb dX0_chainFrom_40 (by decide) (fun c40 => ?_) (fun c40 => ?_)
          · have h := k_nf c40 h
            refine lv_aload_n hx hb dX0_chainFrom_46 rfl (lv_at hl 0 rfl) ?_
            refine lv_iconst (v := 1) hx hb dX0_chainFrom_47 (by decide) ?_
            refine lv_iload hx hb dX0_chainFrom_48 (lv_at hl 2 rfl) ?_
            refine r_ishl hx hb dX0_chainFrom_50 ?_
            obtain ⟨y7, h1, h⟩ := k_ob h
            refine k_callVl C hP hap hAA (c_X0_around l ev ad σ (ishl 1 x3)   _ h1) Emb.same hap gz_X0_around qML_RX0_155 qIM_yX0_around qSE_yX0_around ⟨(Nat.le_of_ble_eq_true rfl), (Nat.le_of_ble_eq_true rfl)⟩ (q0 := 0) rfl (by decide) rfl rfl rfl rfl hl.1 rfl (Nat.le_of_ble_eq_true rfl) dX0_chainFrom_51 ⟨Nat.le_refl _, Nat.le_refl _⟩ (fun H locs hP => ?_)
            refine lv_lload_n hx hb dX0_chainFrom_54 rfl (lv_at hl 1 rfl) ?_
            refine lv_ldc2 (v := (-1)) hx hb C.2.2.2.2.2.1 (C.2.2.2.2.1 _ qCL_RX0_110) dX0_chainFrom_55 ?_
            refine lv_lxor hx hb dX0_chainFrom_58 ?_
            refine lv_land hx hb dX0_chainFrom_59 ?_
            refine k_callNi (host := "HedgesAndDitches") C hP hap hAA (c_X3_firstSlot l ev ad (y7 &&& (y2 ^^^ (-1)))   _ rfl) Emb.none (apart_0 _) gz_X3_firstSlot (by decide +kernel) qSM_yX3_firstSlot ⟨(Nat.le_of_ble_eq_true rfl), (Nat.le_of_ble_eq_true rfl)⟩ rfl hl.1 rfl (Nat.le_of_ble_eq_true rfl) dX0_chainFrom_60 ⟨Nat.le_refl _, Nat.le_refl _⟩ (fun H locs hP => ?_)
            refine lv_topi (fun x8 ex8 => ?_)
            have h := k_lt ex8 h
            refine lv_istore (lv' := [(7, .int x8), (0, .ref (ad 0)), (2, .long y2), (4, .int x3), (5, .int x4), (6, .int x5)]) hx hb dX0_chainFrom_63 hl (by decide) rfl (fun ls hl => ?_)
            refine lv_lload_n hx hb dX0_chainFrom_65 rfl (lv_at hl 2 rfl) ?_
            refine lv_lconst (v := 1) hx hb dX0_chainFrom_66 (by decide) ?_
            refine lv_iload hx hb dX0_chainFrom_67 (lv_at hl 0 rfl) ?_
            refine r_lshl hx hb dX0_chainFrom_69 ?_
            refine lv_lor hx hb dX0_chainFrom_70 ?_
            refine lv_topl (fun y9 ey9 => ?_)
            have h := k_lt ey9 h
            refine lv_lstore_n (lv' := [(2, .long y9), (7, .int x8), (0, .ref (ad 0)), (4, .int x3), (5, .int x4), (6, .int x5)]) hx hb dX0_chainFrom_71 rfl hl (by decide) rfl (fun ls hl => ?_)
            obtain ⟨x10, ex10, h⟩ := k_ltx h
            refine lv_iinc (v := x10) (lv' := [(5, .int x10), (2, .long y9), (7, .int x8), (0, .ref (ad 0)), (4, .int x3), (6, .int x5)]) hx hb dX0_chainFrom_72 hl (k := 4) rfl (by rw [ex10]; rfl) (by decide) rfl (fun ls hl => ?_)
            refine lv_aload_n hx hb dX0_chainFrom_75 rfl (lv_at hl 3 rfl) ?_
            refine lv_iload hx hb dX0_chainFrom_76 (lv_at hl 2 rfl) ?_
            obtain ⟨x11, h1, h⟩ := k_ob h
            refine k_callVi C hP hap hAA (c_X0_fieldAhead l ev ad σ x8   _ h1) Emb.same hap gz_X0_fieldAhead qML_RX0_47 qIM_yX0_fieldAhead qSE_yX0_fieldAhead ⟨(Nat.le_of_ble_eq_true rfl), (Nat.le_of_ble_eq_true rfl)⟩ (q0 := 0) rfl (by decide) rfl rfl rfl rfl hl.1 rfl (Nat.le_of_ble_eq_true rfl) dX0_chainFrom_78 ⟨Nat.le_refl _, Nat.le_refl _⟩ (fun H locs hP => ?_)
            refine lv_iload hx hb dX0_chainFrom_81 (lv_at hl 4 rfl) ?_
            refine lv_icmp_ne (tgt := 95) hx hb dX0_chainFrom_83 (by decide) (fun c83 => ?_) (fun c83 => ?_)
            · have h := k_nf c83 h
              refine lv_aload_n hx hb dX0_chainFrom_95 rfl (lv_at hl 3 rfl) ?_
              refine lv_iload hx hb dX0_chainFrom_96 (lv_at hl 2 rfl) ?_
              obtain ⟨x12, h1, h⟩ := k_ob h
              refine k_callVi C hP hap hAA (c_X0_fieldAhead l ev ad σ x8   _ h1) Emb.same hap gz_X0_fieldAhead qML_RX0_47 qIM_yX0_fieldAhead qSE_yX0_fieldAhead ⟨(Nat.le_of_ble_eq_true rfl), (Nat.le_of_ble_eq_true rfl)⟩ (q0 := 0) rfl (by decide) rfl rfl rfl rfl hl.1 rfl (Nat.le_of_ble_eq_true rfl) dX0_chainFrom_98 ⟨Nat.le_refl _, Nat.le_refl _⟩ (fun H locs hP => ?_)
              refine lv_istore (lv' := [(4, .int x12), (5, .int x10), (2, .long y9), (7, .int x8), (0, .ref (ad 0)), (6, .int x5)]) hx hb dX0_chainFrom_101 hl (by decide) rfl (fun ls hl => ?_)
              obtain ⟨x13, ex13, h⟩ := k_ltx h
              refine lv_iinc (v := x13) (lv' := [(6, .int x13), (4, .int x12), (5, .int x10), (2, .long y9), (7, .int x8), (0, .ref (ad 0))]) hx hb dX0_chainFrom_103 hl (k := 5) rfl (by rw [ex13]; rfl) (by decide) rfl (fun ls hl => ?_)
              refine lv_goto (tgt := 14) hx hb dX0_chainFrom_106 (by decide) ?_
              exact ih _ _ _ _ _ _ _ h hP (lv_sub hl [5, 3, 1, 2, 0] rfl)
            · have h := k_if c83 h
              refine lv_aload_n hx hb dX0_chainFrom_86 rfl (lv_at hl 3 rfl) ?_
              refine lv_iload hx hb dX0_chainFrom_87 (lv_at hl 2 rfl) ?_
              obtain ⟨x14, h1, h⟩ := k_ob h
              refine k_callVi C hP hap hAA (c_X0_fieldBeyond l ev ad σ x8   _ h1) Emb.same hap gz_X0_fieldBeyond qML_RX0_51 qIM_yX0_fieldBeyond qSE_yX0_fieldBeyond ⟨(Nat.le_of_ble_eq_true rfl), (Nat.le_of_ble_eq_true rfl)⟩ (q0 := 0) rfl (by decide) rfl rfl rfl rfl hl.1 rfl (Nat.le_of_ble_eq_true rfl) dX0_chainFrom_89 ⟨Nat.le_refl _, Nat.le_refl _⟩ (fun H locs hP => ?_)
              refine lv_goto (tgt := 101) hx hb dX0_chainFrom_92 (by decide) ?_
              refine lv_istore (lv' := [(4, .int x14), (5, .int x10), (2, .long y9), (7, .int x8), (0, .ref (ad 0)), (6, .int x5)]) hx hb dX0_chainFrom_101 hl (by decide) rfl (fun ls hl => ?_)
              obtain ⟨x15, ex15, h⟩ := k_ltx h
              refine lv_iinc (v := x15) (lv' := [(6, .int x15), (4, .int x14), (5, .int x10), (2, .long y9), (7, .int x8), (0, .ref (ad 0))]) hx hb dX0_chainFrom_103 hl (k := 5) rfl (by rw [ex15]; rfl) (by decide) rfl (fun ls hl => ?_)
              refine lv_goto (tgt := 14) hx hb dX0_chainFrom_106 (by decide) ?_
              exact ih _ _ _ _ _ _ _ h hP (lv_sub hl [5, 3, 1, 2, 0] rfl)
          · have h := k_if c40 h
            refine lv_goto (tgt := 109) hx hb dX0_chainFrom_43 (by decide) ?_
            refine lv_iload hx hb dX0_chainFrom_109 (lv_at hl 3 rfl) ?_
            exact e_iret C hend hP (k_some h) rfl dX0_chainFrom_111
  exact hL14 FU _ _ _ _ _ _ _ h hP (lv_sub hl [4, 3, 2, 1, 0] rfl)
