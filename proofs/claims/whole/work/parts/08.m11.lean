/-! functions read off, and their contracts: by program (wip/whole/gen2.py) -/
def f_X1_put (σ : SS) (a1 : Int32) (a2 : Int64) : Option SS :=
  if (f_X1_reaches σ a1) = true then gd (inb a1 40) (lt (s_elements' σ (vp_updL (s_elements σ) (Int32.toNatClampNeg a1) (f_X1_lowestBits σ a2))) (fun σ1 => some σ1)) else some σ
set_option maxHeartbeats 4000000 in
set_option maxRecDepth 100000 in
theorem c_X1_put (l : Launch) (ev : EV) (ad : Nat → Nat) (σ : SS) (a1 : Int32) (a2 : Int64)    (σ' : SS) (h : f_X1_put σ a1 a2 = some σ') : Ct l yX1_put prog_3_method_10_code 4 (Option.none : Option Jvm.ClassFile.FieldType) (rmk 2 42) ev 2 ad (sw ev ad σ) (sw ev ad σ') [.ref (ad 0), .int a1, .long a2] none := by
  refine Ct.of (by decide +kernel) (Nat.le_of_ble_eq_true rfl) ?_
  intro p e s m args below meth c Qc C hap hP hend ls hl
  have hAA : ∀ j, j < 2 → inA ad 2 (ad j) := fun j hj => ⟨j, hj, rfl⟩
  have hx := C.1
  have hb := C.2.1
  have hl : lv_has ls 4 [(0, .ref (ad 0)), (1, .int a1), (2, .long a2)] := hl
  have h := (f_X1_put.eq_1 _ _ _ ).symm.trans h
  refine lv_aload_n hx hb dX1_put_0 rfl (lv_at hl 0 rfl) ?_
  refine lv_iload_n hx hb dX1_put_1 rfl (lv_at hl 1 rfl) ?_
  refine k_callVi C hP hap hAA (c_X1_reaches l ev ad σ a1   _ rfl) Emb.same hap gz_X1_reaches qML_RX1_22 qIM_yX1_reaches qSE_yX1_reaches ⟨(Nat.le_of_ble_eq_true rfl), (Nat.le_of_ble_eq_true rfl)⟩ (q0 := 0) rfl (by decide) rfl rfl rfl rfl hl.1 rfl (Nat.le_of_ble_eq_true rfl) dX1_put_2 ⟨Nat.le_refl _, Nat.le_refl _⟩ (fun H locs hP => ?_)
  refine r_ifz_eq (tgt := 19) hx hb dX1_put_5 (by decide) (fun c5 => ?_) (fun c5 => ?_)
  · have h := k_nf c5 h
    exact e_vret C hend hP (congrArg (sw ev ad) (k_some h)) dX1_put_19
  · have h := k_if c5 h
    refine lv_aload_n hx hb dX1_put_8 rfl (lv_at hl 0 rfl) ?_
    refine r_get C hP (ci := 1) rfl uin_X1 2 (by decide) 0 (by decide) rfl qFL_RX1_18 rfl rfl dX1_put_9 ?_
    refine lv_iload_n hx hb dX1_put_12 rfl (lv_at hl 1 rfl) ?_
    refine lv_aload_n hx hb dX1_put_13 rfl (lv_at hl 0 rfl) ?_
    refine lv_lload_n hx hb dX1_put_14 rfl (lv_at hl 2 rfl) ?_
    refine k_callVl C hP hap hAA (c_X1_lowestBits l ev ad σ a2   _ rfl) Emb.same hap gz_X1_lowestBits qML_RX1_26 qIM_yX1_lowestBits qSE_yX1_lowestBits ⟨(Nat.le_of_ble_eq_true rfl), (Nat.le_of_ble_eq_true rfl)⟩ (q0 := 0) rfl (by decide) rfl rfl rfl rfl hl.1 rfl (Nat.le_of_ble_eq_true rfl) dX1_put_15 ⟨Nat.le_refl _, Nat.le_refl _⟩ (fun H locs hP => ?_)
    obtain ⟨hg, h⟩ := k_gd h
    obtain ⟨σ1, eσ1, h⟩ := k_ltx h
    refine st_S_elements C hP hap hAA eσ1 hg dX1_put_18 (fun H locs hP => ?_)
    exact e_vret C hend hP (congrArg (sw ev ad) (k_some h)) dX1_put_19
def f_X2_append (σ : TT) (a1 : Int32) : Option TT :=
  if (t_length σ) < 0 then some σ else if 250 ≤ (t_length σ) then some σ else gd (inb (t_length σ) 250) (lt (t_bytes' σ (upd (t_bytes σ) (Int32.toNatClampNeg (t_length σ)) (vp_nar .char ((Int32.toUInt32 a1 % 65536).toInt32)))) (fun σ1 => lt (t_length' σ1 ((t_length σ1) + 1)) (fun σ2 => some σ2)))
set_option maxHeartbeats 4000000 in
set_option maxRecDepth 100000 in
theorem c_X2_append (l : Launch) (ev : EV) (ad : Nat → Nat) (σ : TT) (a1 : Int32)    (σ' : TT) (h : f_X2_append σ a1 = some σ') : Ct l yX2_append prog_4_method_2_code 2 (Option.none : Option Jvm.ClassFile.FieldType) (rmk 0 0) ev 2 ad (tw ev ad σ) (tw ev ad σ') [.ref (ad 0), .int a1] none := by
  refine Ct.of (by decide +kernel) (Nat.le_of_ble_eq_true rfl) ?_
  intro p e s m args below meth c Qc C hap hP hend ls hl
  have hAA : ∀ j, j < 2 → inA ad 2 (ad j) := fun j hj => ⟨j, hj, rfl⟩
  have hx := C.1
  have hb := C.2.1
  have hl : lv_has ls 2 [(0, .ref (ad 0)), (1, .int a1)] := hl
  have h := (f_X2_append.eq_1 _ _ ).symm.trans h
  refine lv_aload_n hx hb dX2_append_0 rfl (lv_at hl 0 rfl) ?_
  refine r_get C hP (ci := 2) rfl uin_X2 1 (by decide) 0 (by decide) rfl qFL_RX2_15 rfl rfl dX2_append_1 ?_
  refine lv_if_lt (tgt := 40) hx hb dX2_append_4 (by decide) (fun c4 => ?_) (fun c4 => ?_)
  · have h := k_if c4 h
    exact e_vret C hend hP (congrArg (tw ev ad) (k_some h)) dX2_append_40
  · have h := k_nf c4 h
    refine lv_aload_n hx hb dX2_append_7 rfl (lv_at hl 0 rfl) ?_
    refine r_get C hP (ci := 2) rfl uin_X2 1 (by decide) 0 (by decide) rfl qFL_RX2_15 rfl rfl dX2_append_8 ?_
    refine lv_aload_n hx hb dX2_append_11 rfl (lv_at hl 0 rfl) ?_
    refine r_get C hP (ci := 2) rfl uin_X2 0 (by decide) 0 (by decide) rfl qFL_RX2_9 rfl rfl dX2_append_12 ?_
    refine r_alen C hP 1 (by decide) 3 rfl rfl (v := 250) rfl dX2_append_15 ?_
    refine lv_icmp_ge (tgt := 40) hx hb dX2_append_16 (by decide) (fun c16 => ?_) (fun c16 => ?_)
    · have h := k_if c16 h
      exact e_vret C hend hP (congrArg (tw ev ad) (k_some h)) dX2_append_40
    · have h := k_nf c16 h
      refine lv_aload_n hx hb dX2_append_19 rfl (lv_at hl 0 rfl) ?_
      refine r_get C hP (ci := 2) rfl uin_X2 0 (by decide) 0 (by decide) rfl qFL_RX2_9 rfl rfl dX2_append_20 ?_
      refine lv_aload_n hx hb dX2_append_23 rfl (lv_at hl 0 rfl) ?_
      refine r_get C hP (ci := 2) rfl uin_X2 1 (by decide) 0 (by decide) rfl qFL_RX2_15 rfl rfl dX2_append_24 ?_
      refine lv_iload_n hx hb dX2_append_27 rfl (lv_at hl 1 rfl) ?_
      refine lv_i2c hx hb dX2_append_28 rfl ?_
      obtain ⟨hg, h⟩ := k_gd h
      obtain ⟨σ1, eσ1, h⟩ := k_ltx h
      refine st_T_bytes C hP hap hAA eσ1 hg dX2_append_29 (fun H locs hP => ?_)
      refine lv_aload_n hx hb dX2_append_30 rfl (lv_at hl 0 rfl) ?_
      refine lv_dup hx hb dX2_append_31 rfl ?_
      refine r_get C hP (ci := 2) rfl uin_X2 1 (by decide) 0 (by decide) rfl qFL_RX2_15 rfl rfl dX2_append_32 ?_
      refine lv_iconst (v := 1) hx hb dX2_append_35 (by decide) ?_
      refine lv_iadd hx hb dX2_append_36 ?_
      obtain ⟨σ2, eσ2, h⟩ := k_ltx h
      refine pt_T_X2_length C hP hap hAA eσ2 qFL_RX2_15 dX2_append_37 (fun H locs hP => ?_)
      exact e_vret C hend hP (congrArg (tw ev ad) (k_some h)) dX2_append_40
def f_X2_rewind (σ : TT) : Option TT :=
  lt (t_from' σ 0) (fun σ1 => lt (t_upto' σ1 0) (fun σ2 => some σ2))
set_option maxHeartbeats 4000000 in
set_option maxRecDepth 100000 in
theorem c_X2_rewind (l : Launch) (ev : EV) (ad : Nat → Nat) (σ : TT)    (σ' : TT) (h : f_X2_rewind σ = some σ') : Ct l yX2_rewind prog_4_method_3_code 1 (Option.none : Option Jvm.ClassFile.FieldType) (rmk 0 0) ev 2 ad (tw ev ad σ) (tw ev ad σ') [.ref (ad 0)] none := by
  refine Ct.of (by decide +kernel) (Nat.le_of_ble_eq_true rfl) ?_
  intro p e s m args below meth c Qc C hap hP hend ls hl
  have hAA : ∀ j, j < 2 → inA ad 2 (ad j) := fun j hj => ⟨j, hj, rfl⟩
  have hx := C.1
  have hb := C.2.1
  have hl : lv_has ls 1 [(0, .ref (ad 0))] := hl
  have h := (f_X2_rewind.eq_1 _ ).symm.trans h
  refine lv_aload_n hx hb dX2_rewind_0 rfl (lv_at hl 0 rfl) ?_
  refine lv_iconst (v := 0) hx hb dX2_rewind_1 (by decide) ?_
  obtain ⟨σ1, eσ1, h⟩ := k_ltx h
  refine pt_T_X2_from C hP hap hAA eσ1 qFL_RX2_19 dX2_rewind_2 (fun H locs hP => ?_)
  refine lv_aload_n hx hb dX2_rewind_5 rfl (lv_at hl 0 rfl) ?_
  refine lv_iconst (v := 0) hx hb dX2_rewind_6 (by decide) ?_
  obtain ⟨σ2, eσ2, h⟩ := k_ltx h
  refine pt_T_X2_upto C hP hap hAA eσ2 qFL_RX2_22 dX2_rewind_7 (fun H locs hP => ?_)
  exact e_vret C hend hP (congrArg (tw ev ad) (k_some h)) dX2_rewind_10
def f_X2_byteAt (σ : TT) (a1 : Int32) : Option (Int32) :=
  if a1 < 0 then some (-1) else if (t_length σ) ≤ a1 then some (-1) else if 250 ≤ a1 then some (-1) else gd (inb a1 250) (some ((t_bytes σ) (Int32.toNatClampNeg a1)))
set_option maxHeartbeats 4000000 in
set_option maxRecDepth 100000 in
theorem c_X2_byteAt (l : Launch) (ev : EV) (ad : Nat → Nat) (σ : TT) (a1 : Int32)   (r : Int32)  (h : f_X2_byteAt σ a1 = some r) : Ct l yX2_byteAt prog_4_method_4_code 2 (Option.some Jvm.ClassFile.FieldType.int) (rmk 0 0) ev 2 ad (tw ev ad σ) (tw ev ad σ) [.ref (ad 0), .int a1] (some (.int r)) := by
  refine Ct.of (by decide +kernel) (Nat.le_of_ble_eq_true rfl) ?_
  intro p e s m args below meth c Qc C hap hP hend ls hl
  have hAA : ∀ j, j < 2 → inA ad 2 (ad j) := fun j hj => ⟨j, hj, rfl⟩
  have hx := C.1
  have hb := C.2.1
  have hl : lv_has ls 2 [(0, .ref (ad 0)), (1, .int a1)] := hl
  have h := (f_X2_byteAt.eq_1 _ _ ).symm.trans h
  refine lv_iload_n hx hb dX2_byteAt_0 rfl (lv_at hl 1 rfl) ?_
  refine lv_if_lt (tgt := 30) hx hb dX2_byteAt_1 (by decide) (fun c1 => ?_) (fun c1 => ?_)
  · have h := k_if c1 h
    refine lv_iconst (v := (-1)) hx hb dX2_byteAt_30 (by decide) ?_
    exact e_iret C hend hP (k_some h) rfl dX2_byteAt_31
  · have h := k_nf c1 h
    refine lv_iload_n hx hb dX2_byteAt_4 rfl (lv_at hl 1 rfl) ?_
    refine lv_aload_n hx hb dX2_byteAt_5 rfl (lv_at hl 0 rfl) ?_
    refine r_get C hP (ci := 2) rfl uin_X2 1 (by decide) 0 (by decide) rfl qFL_RX2_15 rfl rfl dX2_byteAt_6 ?_
    refine lv_icmp_ge (tgt := 30) hx hb dX2_byteAt_9 (by decide) (fun c9 => ?_) (fun c9 => ?_)
    · have h := k_if c9 h
      refine lv_iconst (v := (-1)) hx hb dX2_byteAt_30 (by decide) ?_
      exact e_iret C hend hP (k_some h) rfl dX2_byteAt_31
    · have h := k_nf c9 h
      refine lv_iload_n hx hb dX2_byteAt_12 rfl (lv_at hl 1 rfl) ?_
      refine lv_aload_n hx hb dX2_byteAt_13 rfl (lv_at hl 0 rfl) ?_
      refine r_get C hP (ci := 2) rfl uin_X2 0 (by decide) 0 (by decide) rfl qFL_RX2_9 rfl rfl dX2_byteAt_14 ?_
      refine r_alen C hP 1 (by decide) 3 rfl rfl (v := 250) rfl dX2_byteAt_17 ?_
      refine lv_icmp_ge (tgt := 30) hx hb dX2_byteAt_18 (by decide) (fun c18 => ?_) (fun c18 => ?_)
      · have h := k_if c18 h
        refine lv_iconst (v := (-1)) hx hb dX2_byteAt_30 (by decide) ?_
        exact e_iret C hend hP (k_some h) rfl dX2_byteAt_31
      · have h := k_nf c18 h
        refine lv_aload_n hx hb dX2_byteAt_21 rfl (lv_at hl 0 rfl) ?_
        refine r_get C hP (ci := 2) rfl uin_X2 0 (by decide) 0 (by decide) rfl qFL_RX2_9 rfl rfl dX2_byteAt_22 ?_
        refine lv_iload_n hx hb dX2_byteAt_25 rfl (lv_at hl 1 rfl) ?_
        obtain ⟨hg, h⟩ := k_gd h
        refine r_cald C hP 1 (by decide) rfl hg dX2_byteAt_26 ?_
        refine lv_goto (tgt := 31) hx hb dX2_byteAt_27 (by decide) ?_
        exact e_iret C hend hP (k_some h) rfl dX2_byteAt_31
def f_X2_sortAt (σ : TT) (a1 : Int32) : Option (Int32) :=
  ob (f_X2_byteAt σ a1) (fun x1 => if x1 < 97 then if x1 < 48 then some (-1) else if 57 < x1 then some (-1) else some 2 else if 122 < x1 then if x1 < 48 then some (-1) else if 57 < x1 then some (-1) else some 2 else some 1)
set_option maxHeartbeats 4000000 in
set_option maxRecDepth 100000 in
theorem c_X2_sortAt (l : Launch) (ev : EV) (ad : Nat → Nat) (σ : TT) (a1 : Int32)   (r : Int32)  (h : f_X2_sortAt σ a1 = some r) : Ct l yX2_sortAt prog_4_method_5_code 3 (Option.some Jvm.ClassFile.FieldType.int) (rmk 1 21) ev 2 ad (tw ev ad σ) (tw ev ad σ) [.ref (ad 0), .int a1] (some (.int r)) := by
  refine Ct.of (by decide +kernel) (Nat.le_of_ble_eq_true rfl) ?_
  intro p e s m args below meth c Qc C hap hP hend ls hl
  have hAA : ∀ j, j < 2 → inA ad 2 (ad j) := fun j hj => ⟨j, hj, rfl⟩
  have hx := C.1
  have hb := C.2.1
  have hl : lv_has ls 3 [(0, .ref (ad 0)), (1, .int a1)] := hl
  have h := (f_X2_sortAt.eq_1 _ _ ).symm.trans h
  refine lv_aload_n hx hb dX2_sortAt_0 rfl (lv_at hl 0 rfl) ?_
  refine lv_iload_n hx hb dX2_sortAt_1 rfl (lv_at hl 1 rfl) ?_
  obtain ⟨x1, h1, h⟩ := k_ob h
  refine k_callVi C hP hap hAA (c_X2_byteAt l ev ad σ a1   _ h1) Emb.same hap gz_X2_byteAt qML_RX2_25 qIM_yX2_byteAt qSE_yX2_byteAt ⟨(Nat.le_of_ble_eq_true rfl), (Nat.le_of_ble_eq_true rfl)⟩ (q0 := 0) rfl (by decide) rfl rfl rfl rfl hl.1 rfl (Nat.le_of_ble_eq_true rfl) dX2_sortAt_2 ⟨Nat.le_refl _, Nat.le_refl _⟩ (fun H locs hP => ?_)
  refine lv_istore_n (lv' := [(2, .int x1), (0, .ref (ad 0)), (1, .int a1)]) hx hb dX2_sortAt_5 rfl hl (by decide) rfl (fun ls hl => ?_)
  refine lv_iload_n hx hb dX2_sortAt_6 rfl (lv_at hl 0 rfl) ?_
  refine lv_bipush (v := 97) hx hb dX2_sortAt_7 (by decide) ?_
  refine lv_icmp_lt (tgt := 20) hx hb dX2_sortAt_9 (by decide) (fun c9 => ?_) (fun c9 => ?_)
  · have h := k_if c9 h
    refine lv_iload_n hx hb dX2_sortAt_20 rfl (lv_at hl 0 rfl) ?_
    refine lv_bipush (v := 48) hx hb dX2_sortAt_21 (by decide) ?_
    refine lv_icmp_lt (tgt := 36) hx hb dX2_sortAt_23 (by decide) (fun c23 => ?_) (fun c23 => ?_)
    · have h := k_if c23 h
      refine lv_iconst (v := (-1)) hx hb dX2_sortAt_36 (by decide) ?_
      exact e_iret C hend hP (k_some h) rfl dX2_sortAt_37
    · have h := k_nf c23 h
      refine lv_iload_n hx hb dX2_sortAt_26 rfl (lv_at hl 0 rfl) ?_
      refine lv_bipush (v := 57) hx hb dX2_sortAt_27 (by decide) ?_
      refine lv_icmp_gt (tgt := 36) hx hb dX2_sortAt_29 (by decide) (fun c29 => ?_) (fun c29 => ?_)
      · have h := k_if c29 h
        refine lv_iconst (v := (-1)) hx hb dX2_sortAt_36 (by decide) ?_
        exact e_iret C hend hP (k_some h) rfl dX2_sortAt_37
      · have h := k_nf c29 h
        refine lv_iconst (v := 2) hx hb dX2_sortAt_32 (by decide) ?_
        refine lv_goto (tgt := 37) hx hb dX2_sortAt_33 (by decide) ?_
        exact e_iret C hend hP (k_some h) rfl dX2_sortAt_37
  · have h := k_nf c9 h
    refine lv_iload_n hx hb dX2_sortAt_12 rfl (lv_at hl 0 rfl) ?_
    refine lv_bipush (v := 122) hx hb dX2_sortAt_13 (by decide) ?_
    refine lv_icmp_gt (tgt := 20) hx hb dX2_sortAt_15 (by decide) (fun c15 => ?_) (fun c15 => ?_)
    · have h := k_if c15 h
      refine lv_iload_n hx hb dX2_sortAt_20 rfl (lv_at hl 0 rfl) ?_
      refine lv_bipush (v := 48) hx hb dX2_sortAt_21 (by decide) ?_
      refine lv_icmp_lt (tgt := 36) hx hb dX2_sortAt_23 (by decide) (fun c23 => ?_) (fun c23 => ?_)
      · have h := k_if c23 h
        refine lv_iconst (v := (-1)) hx hb dX2_sortAt_36 (by decide) ?_
        exact e_iret C hend hP (k_some h) rfl dX2_sortAt_37
      · have h := k_nf c23 h
        refine lv_iload_n hx hb dX2_sortAt_26 rfl (lv_at hl 0 rfl) ?_
        refine lv_bipush (v := 57) hx hb dX2_sortAt_27 (by decide) ?_
        refine lv_icmp_gt (tgt := 36) hx hb dX2_sortAt_29 (by decide) (fun c29 => ?_) (fun c29 => ?_)
        · have h := k_if c29 h
          refine lv_iconst (v := (-1)) hx hb dX2_sortAt_36 (by decide) ?_
          exact e_iret C hend hP (k_some h) rfl dX2_sortAt_37
        · have h := k_nf c29 h
          refine lv_iconst (v := 2) hx hb dX2_sortAt_32 (by decide) ?_
          refine lv_goto (tgt := 37) hx hb dX2_sortAt_33 (by decide) ?_
          exact e_iret C hend hP (k_some h) rfl dX2_sortAt_37
    · have h := k_nf c15 h
      refine lv_iconst (v := 1) hx hb dX2_sortAt_18 (by decide) ?_
      exact e_iret C hend hP (k_some h) rfl dX2_sortAt_19
def f_X2_step_L8_b  (k45 : TT → Option TT) (rec8 : TT → Option TT) (σ2 : TT) : Option TT :=
  if (t_length σ2) ≤ (t_from σ2) then k45 σ2 else ob (f_X2_byteAt σ2 (t_from σ2)) (fun x3 => if x3 = 32 then lt (t_from' σ2 ((t_from σ2) + 1)) (fun σ4 => rec8 σ4) else k45 σ2)
def f_X2_step_L8  (k45 : TT → Option TT) (σ2 : TT) : Option TT :=
  lp (fun _ => none) (f_X2_step_L8_b  k45) FU σ2
def f_X2_step_L71_b (x7 : Int32)  (rec71 : TT → Option TT) (σ9 : TT) : Option TT :=
  if (t_length σ9) ≤ (t_upto σ9) then some σ9 else if x7 = (-1) then some σ9 else ob (f_X2_sortAt σ9 (t_upto σ9)) (fun x10 => if x10 = x7 then lt (t_upto' σ9 ((t_upto σ9) + 1)) (fun σ11 => rec71 σ11) else some σ9)
def f_X2_step_L71 (x7 : Int32)  (σ9 : TT) : Option TT :=
  lp (fun _ => none) (f_X2_step_L71_b x7 ) FU σ9
def f_X2_step_b45  (σ6 : TT) : Option TT :=
  ob (f_X2_sortAt σ6 (t_from σ6)) (fun x7 => lt (t_upto' σ6 (imin ((t_from σ6) + 1) (t_length σ6))) (fun σ8 => f_X2_step_L71 x7 σ8))
def f_X2_step (σ : TT) : Option TT :=
  lt (t_from' σ (t_upto σ)) (fun σ1 => f_X2_step_L8 (fun σ5 => f_X2_step_b45 σ5) σ1)
set_option maxHeartbeats 4000000 in
set_option maxRecDepth 100000 in
theorem c_X2_step (l : Launch) (ev : EV) (ad : Nat → Nat) (σ : TT)    (σ' : TT) (h : f_X2_step σ = some σ') : Ct l yX2_step prog_4_method_6_code 2 (Option.none : Option Jvm.ClassFile.FieldType) (rmk 2 43) ev 2 ad (tw ev ad σ) (tw ev ad σ') [.ref (ad 0)] none := by
  refine Ct.of (by decide +kernel) (Nat.le_of_ble_eq_true rfl) ?_
  intro p e s m args below meth c Qc C hap hP hend ls hl
  have hAA : ∀ j, j < 2 → inA ad 2 (ad j) := fun j hj => ⟨j, hj, rfl⟩
  have hx := C.1
  have hb := C.2.1
  have hl : lv_has ls 2 [(0, .ref (ad 0))] := hl
  have h := (f_X2_step.eq_1 _ ).symm.trans h
  have hB45 : ∀ (σ6 : TT) (H : Heap) (locs : List Loc) (ls : Array Slot), f_X2_step_b45  σ6 = some σ' → PS ev 2 ad (tw ev ad σ6) (inA ad 2) s H locs → lv_has ls 2 [(0, .ref (ad 0))] → WW ev p l e (rmk 2 43) s m args below meth c Qc ad 2 H locs 45 ls [] := by
    intro σ6 H locs ls h hP hl
    have h := (f_X2_step_b45.eq_1 _ ).symm.trans h
    refine lv_aload_n hx hb dX2_step_45 rfl (lv_at hl 0 rfl) ?_
    refine lv_aload_n hx hb dX2_step_46 rfl (lv_at hl 0 rfl) ?_
    refine r_get C hP (ci := 2) rfl uin_X2 2 (by decide) 0 (by decide) rfl qFL_RX2_19 rfl rfl dX2_step_47 ?_
    obtain ⟨x7, h1, h⟩ := k_ob h
    refine k_callVi C hP hap hAA (c_X2_sortAt l ev ad σ6 (t_from σ6)   _ h1) Emb.same hap gz_X2_sortAt qML_RX2_29 qIM_yX2_sortAt qSE_yX2_sortAt ⟨(Nat.le_of_ble_eq_true rfl), (Nat.le_of_ble_eq_true rfl)⟩ (q0 := 0) rfl (by decide) rfl rfl rfl rfl hl.1 rfl (Nat.le_of_ble_eq_true rfl) dX2_step_50 ⟨Nat.le_refl _, Nat.le_refl _⟩ (fun H locs hP => ?_)
    refine lv_istore_n (lv' := [(1, .int x7), (0, .ref (ad 0))]) hx hb dX2_step_53 rfl hl (by decide) rfl (fun ls hl => ?_)
    refine lv_aload_n hx hb dX2_step_54 rfl (lv_at hl 1 rfl) ?_
    refine lv_aload_n hx hb dX2_step_55 rfl (lv_at hl 1 rfl) ?_
    refine r_get C hP (ci := 2) rfl uin_X2 2 (by decide) 0 (by decide) rfl qFL_RX2_19 rfl rfl dX2_step_56 ?_
    refine lv_iconst (v := 1) hx hb dX2_step_59 (by decide) ?_
    refine lv_iadd hx hb dX2_step_60 ?_
    refine lv_aload_n hx hb dX2_step_61 rfl (lv_at hl 1 rfl) ?_
    refine r_get C hP (ci := 2) rfl uin_X2 1 (by decide) 0 (by decide) rfl qFL_RX2_15 rfl rfl dX2_step_62 ?_
    refine r_imin C hP qML_RX2_32 qSM_yJ9_min_7cf53 qIN_RJ9 qCO_yJ9_min_7cf53 hl.1 ⟨(Nat.le_of_ble_eq_true rfl), (Nat.le_of_ble_eq_true rfl)⟩ (by exact (Nat.le_of_ble_eq_true rfl)) dX2_step_65 ⟨Nat.le_refl _, Nat.le_refl _⟩ ?_
    obtain ⟨σ8, eσ8, h⟩ := k_ltx h
    refine pt_T_X2_upto C hP hap hAA eσ8 qFL_RX2_22 dX2_step_68 (fun H locs hP => ?_)
    have hL71 : ∀ (n : Nat) (σ9 : TT) (H : Heap) (locs : List Loc) (ls : Array Slot), lp (fun _ => none) (f_X2_step_L71_b x7 ) n σ9 = some σ' → PS ev 2 ad (tw ev ad σ9) (inA ad 2) s H locs → lv_has ls 2 [(0, .ref (ad 0)), (1, .int x7)] → WW ev p l e (rmk 2 43) s m args below meth c Qc ad 2 H locs 71 ls [] := by
      intro n
      induction n with
      | zero =>
        intro σ9 H locs ls h; exact k_none h
      | succ n ih =>
        intro σ9 H locs ls h hP hl
        have h : f_X2_step_L71_b x7  (lp (fun _ => none) (f_X2_step_L71_b x7 ) n) σ9 = some σ' := h
        have h := (f_X2_step_L71_b.eq_1 _ _ _ ).symm.trans h
        refine lv_aload_n hx hb dX2_step_71 rfl (lv_at hl 0 rfl) ?_
        refine r_get C hP (ci := 2) rfl uin_X2 3 (by decide) 0 (by decide) rfl qFL_RX2_22 rfl rfl dX2_step_72 ?_
        refine lv_aload_n hx hb dX2_step_75 rfl (lv_at hl 0 rfl) ?_
        refine r_get C hP (ci := 2) rfl uin_X2 1 (by decide) 0 (by decide) rfl qFL_RX2_15 rfl rfl dX2_step_76 ?_
        refine lv_icmp_ge (tgt := 112) hx hb dX2_step_79 (by decide) (fun c79 => ?_) (fun c79 => ?_)
        · have h := k_if c79 h
          exact e_vret C hend hP (congrArg (tw ev ad) (k_some h)) dX2_step_112
        · have h := k_nf c79 h
          refine lv_iload_n hx hb dX2_step_82 rfl (lv_at hl 1 rfl) ?_
          refine lv_iconst (v := (-1)) hx hb dX2_step_83 (by decide) ?_
          refine lv_icmp_eq (tgt := 112) hx hb dX2_step_84 (by decide) (fun c84 => ?_) (fun c84 => ?_)
          · have h := k_if c84 h
            exact e_vret C hend hP (congrArg (tw ev ad) (k_some h)) dX2_step_112
          · have h := k_nf c84 h
            refine lv_aload_n hx hb dX2_step_87 rfl (lv_at hl 0 rfl) ?_
            refine lv_aload_n hx hb dX2_step_88 rfl (lv_at hl 0 rfl) ?_
            refine r_get C hP (ci := 2) rfl uin_X2 3 (by decide) 0 (by decide) rfl qFL_RX2_22 rfl rfl dX2_step_89 ?_
            obtain ⟨x10, h1, h⟩ := k_ob h
            refine k_callVi C hP hap hAA (c_X2_sortAt l ev ad σ9 (t_upto σ9)   _ h1) Emb.same hap gz_X2_sortAt qML_RX2_29 qIM_yX2_sortAt qSE_yX2_sortAt ⟨(Nat.le_of_ble_eq_true rfl), (Nat.le_of_ble_eq_true rfl)⟩ (q0 := 0) rfl (by decide) rfl rfl rfl rfl hl.1 rfl (Nat.le_of_ble_eq_true rfl) dX2_step_92 ⟨Nat.le_refl _, Nat.le_refl _⟩ (fun H locs hP => ?_)
            refine lv_iload_n hx hb dX2_step_95 rfl (lv_at hl 1 rfl) ?_
            refine lv_icmp_ne (tgt := 112) hx hb dX2_step_96 (by decide) (fun c96 => ?_) (fun c96 => ?_)
            · have h := k_nf c96 h
              exact e_vret C hend hP (congrArg (tw ev ad) (k_some h)) dX2_step_112
            · have h := k_if c96 h
              refine lv_aload_n hx hb dX2_step_99 rfl (lv_at hl 0 rfl) ?_
              refine lv_dup hx hb dX2_step_100 rfl ?_
              refine r_get C hP (ci := 2) rfl uin_X2 3 (by decide) 0 (by decide) rfl qFL_RX2_22 rfl rfl dX2_step_101 ?_
              refine lv_iconst (v := 1) hx hb dX2_step_104 (by decide) ?_
              refine lv_iadd hx hb dX2_step_105 ?_
              obtain ⟨σ11, eσ11, h⟩ := k_ltx h
              refine pt_T_X2_upto C hP hap hAA eσ11 qFL_RX2_22 dX2_step_106 (fun H locs hP => ?_)
              refine lv_goto (tgt := 71) hx hb dX2_step_109 (by decide) ?_
              exact ih _ _ _ _ h hP (lv_sub hl [0, 1] rfl)
    exact hL71 FU _ _ _ _ h hP (lv_sub hl [1, 0] rfl)
  refine lv_aload_n hx hb dX2_step_0 rfl (lv_at hl 0 rfl) ?_
  refine lv_aload_n hx hb dX2_step_1 rfl (lv_at hl 0 rfl) ?_
  refine r_get C hP (ci := 2) rfl uin_X2 3 (by decide) 0 (by decide) rfl qFL_RX2_22 rfl rfl dX2_step_2 ?_
  obtain ⟨σ1, eσ1, h⟩ := k_ltx h
  refine pt_T_X2_from C hP hap hAA eσ1 qFL_RX2_19 dX2_step_5 (fun H locs hP => ?_)
  have hL8 : ∀ (k45 : TT → Option TT) (hk45 : ∀  (σk : TT) (H : Heap) (locs : List Loc) (ls : Array Slot), k45  σk = some σ' → PS ev 2 ad (tw ev ad σk) (inA ad 2) s H locs → lv_has ls 2 [(0, .ref (ad 0))] → WW ev p l e (rmk 2 43) s m args below meth c Qc ad 2 H locs 45 ls []) (n : Nat) (σ2 : TT) (H : Heap) (locs : List Loc) (ls : Array Slot), lp (fun _ => none) (f_X2_step_L8_b  k45) n σ2 = some σ' → PS ev 2 ad (tw ev ad σ2) (inA ad 2) s H locs → lv_has ls 2 [(0, .ref (ad 0))] → WW ev p l e (rmk 2 43) s m args below meth c Qc ad 2 H locs 8 ls [] := by
    intro k45 hk45 n
    induction n with
    | zero =>
      intro σ2 H locs ls h; exact k_none h
    | succ n ih =>
      intro σ2 H locs ls h hP hl
      have h : f_X2_step_L8_b  k45 (lp (fun _ => none) (f_X2_step_L8_b  k45) n) σ2 = some σ' := h
      have h := (f_X2_step_L8_b.eq_1 _ _ _ ).symm.trans h
      refine lv_aload_n hx hb dX2_step_8 rfl (lv_at hl 0 rfl) ?_
      refine r_get C hP (ci := 2) rfl uin_X2 2 (by decide) 0 (by decide) rfl qFL_RX2_19 rfl rfl dX2_step_9 ?_
      refine lv_aload_n hx hb dX2_step_12 rfl (lv_at hl 0 rfl) ?_
      refine r_get C hP (ci := 2) rfl uin_X2 1 (by decide) 0 (by decide) rfl qFL_RX2_15 rfl rfl dX2_step_13 ?_
      refine lv_icmp_ge (tgt := 45) hx hb dX2_step_16 (by decide) (fun c16 => ?_) (fun c16 => ?_)
      · have h := k_if c16 h
        exact hk45 _ _ _ _ h hP (lv_sub hl [0] rfl)
      · have h := k_nf c16 h
        refine lv_aload_n hx hb dX2_step_19 rfl (lv_at hl 0 rfl) ?_
        refine lv_aload_n hx hb dX2_step_20 rfl (lv_at hl 0 rfl) ?_
        refine r_get C hP (ci := 2) rfl uin_X2 2 (by decide) 0 (by decide) rfl qFL_RX2_19 rfl rfl dX2_step_21 ?_
        obtain ⟨x3, h1, h⟩ := k_ob h
        refine k_callVi C hP hap hAA (c_X2_byteAt l ev ad σ2 (t_from σ2)   _ h1) Emb.same hap gz_X2_byteAt qML_RX2_25 qIM_yX2_byteAt qSE_yX2_byteAt ⟨(Nat.le_of_ble_eq_true rfl), (Nat.le_of_ble_eq_true rfl)⟩ (q0 := 0) rfl (by decide) rfl rfl rfl rfl hl.1 rfl (Nat.le_of_ble_eq_true rfl) dX2_step_24 ⟨Nat.le_refl _, Nat.le_refl _⟩ (fun H locs hP => ?_)
        refine lv_bipush (v := 32) hx hb dX2_step_27 (by decide) ?_
        refine lv_icmp_ne (tgt := 45) hx hb dX2_step_29 (by decide) (fun c29 => ?_) (fun c29 => ?_)
        · have h := k_nf c29 h
          exact hk45 _ _ _ _ h hP (lv_sub hl [0] rfl)
        · have h := k_if c29 h
          refine lv_aload_n hx hb dX2_step_32 rfl (lv_at hl 0 rfl) ?_
          refine lv_dup hx hb dX2_step_33 rfl ?_
          refine r_get C hP (ci := 2) rfl uin_X2 2 (by decide) 0 (by decide) rfl qFL_RX2_19 rfl rfl dX2_step_34 ?_
          refine lv_iconst (v := 1) hx hb dX2_step_37 (by decide) ?_
          refine lv_iadd hx hb dX2_step_38 ?_
          obtain ⟨σ4, eσ4, h⟩ := k_ltx h
          refine pt_T_X2_from C hP hap hAA eσ4 qFL_RX2_19 dX2_step_39 (fun H locs hP => ?_)
          refine lv_goto (tgt := 8) hx hb dX2_step_42 (by decide) ?_
          exact ih _ _ _ _ h hP (lv_sub hl [0] rfl)
  refine hL8 _ (fun σ5 H locs ls h hP hl => ?_) FU _ _ _ _ h hP (lv_sub hl [0] rfl)
  exact hB45 _ _ _ _ h hP (lv_sub hl [0] rfl)
