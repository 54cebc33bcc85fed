/-! functions read off, and their contracts: by program (wip/whole/gen2.py) -/
def f_X3_readTurn (σ : XX) : Option (Bool × XX) :=
  ob2 (f_X3_readNumber σ 0 1) (fun x2 σ1 => if x2 = (-1) then some (false, σ1) else lt (x_thought' σ1 (g_turn' (x_thought σ1) x2)) (fun σ3 => some (true, σ3)))
set_option maxHeartbeats 4000000 in
set_option maxRecDepth 100000 in
theorem c_X3_readTurn (l : Launch) (ev : EV) (ad : Nat → Nat) (σ : XX)   (r : Bool) (σ' : XX) (h : f_X3_readTurn σ = some (r, σ')) : Ct l yX3_readTurn prog_1_method_94_code 2 (Option.some Jvm.ClassFile.FieldType.boolean) (rmk 4 88) ev 26 ad (xw ev ad σ) (xw ev ad σ') [.ref (ad 0)] (some (.int (bi r))) := by
  refine Ct.of (by decide +kernel) (Nat.le_of_ble_eq_true rfl) ?_
  intro p e s m args below meth c Qc C hap hP hend ls hl
  have hAA : ∀ j, j < 26 → inA ad 26 (ad j) := fun j hj => ⟨j, hj, rfl⟩
  have hx := C.1
  have hb := C.2.1
  have hl : lv_has ls 2 [(0, .ref (ad 0))] := hl
  have h := (f_X3_readTurn.eq_1 _ ).symm.trans h
  refine lv_aload_n hx hb dX3_readTurn_0 rfl (lv_at hl 0 rfl) ?_
  refine lv_iconst (v := 0) hx hb dX3_readTurn_1 (by decide) ?_
  refine lv_iconst (v := 1) hx hb dX3_readTurn_2 (by decide) ?_
  obtain ⟨x2, σ1, h1, h⟩ := k_ob2 h
  refine k_callVi C hP hap hAA (c_X3_readNumber l ev ad σ 0 1   _ _ h1) Emb.same hap gz_X3_readNumber qML_RX3_439 qIM_yX3_readNumber qSE_yX3_readNumber ⟨(Nat.le_of_ble_eq_true rfl), (Nat.le_of_ble_eq_true rfl)⟩ (q0 := 0) rfl (by decide) rfl rfl rfl rfl hl.1 rfl (Nat.le_of_ble_eq_true rfl) dX3_readTurn_3 ⟨Nat.le_refl _, Nat.le_refl _⟩ (fun H locs hP => ?_)
  refine lv_istore_n (lv' := [(1, .int x2), (0, .ref (ad 0))]) hx hb dX3_readTurn_6 rfl hl (by decide) rfl (fun ls hl => ?_)
  refine lv_iload_n hx hb dX3_readTurn_7 rfl (lv_at hl 0 rfl) ?_
  refine lv_iconst (v := (-1)) hx hb dX3_readTurn_8 (by decide) ?_
  refine lv_icmp_ne (tgt := 14) hx hb dX3_readTurn_9 (by decide) (fun c9 => ?_) (fun c9 => ?_)
  · have h := k_nf c9 h
    refine lv_aload_n hx hb dX3_readTurn_14 rfl (lv_at hl 1 rfl) ?_
    refine r_get C hP (ci := 3) rfl uin_X3 1 (by decide) 0 (by decide) rfl qFL_RX3_16 rfl rfl dX3_readTurn_15 ?_
    refine lv_iload_n hx hb dX3_readTurn_18 rfl (lv_at hl 0 rfl) ?_
    obtain ⟨σ3, eσ3, h⟩ := k_ltx h
    refine pt_X2_X0_turn C hP hap hAA eσ3 qFL_RX3_156 dX3_readTurn_19 (fun H locs hP => ?_)
    refine lv_iconst (v := 1) hx hb dX3_readTurn_22 (by decide) ?_
    exact e_zret C hend hP (k_some2 h).1 (congrArg (xw ev ad) (k_some2 h).2) dX3_readTurn_23 rfl
  · have h := k_if c9 h
    refine lv_iconst (v := 0) hx hb dX3_readTurn_12 (by decide) ?_
    exact e_zret C hend hP (k_some2 h).1 (congrArg (xw ev ad) (k_some2 h).2) dX3_readTurn_13 rfl
def f_X3_readMove_b27  (x3 : Int32) (σ4 : XX) : Option (Bool × XX) :=
  if x3 = (-1) then some (false, σ4) else if (f_X0_isOpen (x_thought σ4) x3) = true then ob (f_X0_make (x_thought σ4) x3) (fun σ5 => lt (x_thought' σ4 σ5) (fun σ6 => some (true, σ6))) else some (false, σ4)
def f_X3_readMove (σ : XX) (a1 : Int32) : Option (Bool × XX) :=
  ob2 (f_X3_readNumber σ 0 99) (fun x2 σ1 => if x2 = (-1) then f_X3_readMove_b27 (-1) σ1 else f_X3_readMove_b27 ((f_X0_slotOf (x_thought σ1) (a1 + x2))) σ1)
set_option maxHeartbeats 4000000 in
set_option maxRecDepth 100000 in
theorem c_X3_readMove (l : Launch) (ev : EV) (ad : Nat → Nat) (σ : XX) (a1 : Int32)   (r : Bool) (σ' : XX) (h : f_X3_readMove σ a1 = some (r, σ')) : Ct l yX3_readMove prog_1_method_93_code 4 (Option.some Jvm.ClassFile.FieldType.boolean) (rmk 4 88) ev 26 ad (xw ev ad σ) (xw ev ad σ') [.ref (ad 0), .int a1] (some (.int (bi r))) := by
  refine Ct.of (by decide +kernel) (Nat.le_of_ble_eq_true rfl) ?_
  intro p e s m args below meth c Qc C hap hP hend ls hl
  have hAA : ∀ j, j < 26 → inA ad 26 (ad j) := fun j hj => ⟨j, hj, rfl⟩
  have hx := C.1
  have hb := C.2.1
  have hl : lv_has ls 4 [(0, .ref (ad 0)), (1, .int a1)] := hl
  have h := (f_X3_readMove.eq_1 _ _ ).symm.trans h
  have hB27 : ∀ (x3 : Int32) (σ4 : XX) (H : Heap) (locs : List Loc) (ls : Array Slot), f_X3_readMove_b27  x3 σ4 = some (r, σ') → PS ev 26 ad (xw ev ad σ4) (inA ad 26) s H locs → lv_has ls 4 [(0, .ref (ad 0))] → WW ev p l e (rmk 4 88) s m args below meth c Qc ad 26 H locs 27 ls [.int x3] := by
    intro x3 σ4 H locs ls h hP hl
    have h := (f_X3_readMove_b27.eq_1 _ _ ).symm.trans h
    refine lv_istore_n (lv' := [(3, .int x3), (0, .ref (ad 0))]) hx hb dX3_readMove_27 rfl hl (by decide) rfl (fun ls hl => ?_)
    refine lv_iload_n hx hb dX3_readMove_28 rfl (lv_at hl 0 rfl) ?_
    refine lv_iconst (v := (-1)) hx hb dX3_readMove_29 (by decide) ?_
    refine lv_icmp_eq (tgt := 44) hx hb dX3_readMove_30 (by decide) (fun c30 => ?_) (fun c30 => ?_)
    · have h := k_if c30 h
      refine lv_iconst (v := 0) hx hb dX3_readMove_44 (by decide) ?_
      exact e_zret C hend hP (k_some2 h).1 (congrArg (xw ev ad) (k_some2 h).2) dX3_readMove_45 rfl
    · have h := k_nf c30 h
      refine lv_aload_n hx hb dX3_readMove_33 rfl (lv_at hl 1 rfl) ?_
      refine r_get C hP (ci := 3) rfl uin_X3 1 (by decide) 0 (by decide) rfl qFL_RX3_16 rfl rfl dX3_readMove_34 ?_
      refine lv_iload_n hx hb dX3_readMove_37 rfl (lv_at hl 0 rfl) ?_
      refine k_callVi C hP hap hAA (c_X0_isOpen l ev (fun j => ad (j + 2)) (x_thought σ4) x3   _ rfl) (em_G2r) (apart_1 _) gz_X0_isOpen qML_RX3_242 qIM_yX0_isOpen qSE_yX0_isOpen ⟨(Nat.le_of_ble_eq_true rfl), (Nat.le_of_ble_eq_true rfl)⟩ (q0 := 2) rfl (by decide) rfl rfl rfl rfl hl.1 rfl (Nat.le_of_ble_eq_true rfl) dX3_readMove_38 ⟨Nat.le_refl _, Nat.le_refl _⟩ (fun H locs hP => ?_)
      refine r_ifz_ne (tgt := 46) hx hb dX3_readMove_41 (by decide) (fun c41 => ?_) (fun c41 => ?_)
      · have h := k_if c41 h
        refine lv_aload_n hx hb dX3_readMove_46 rfl (lv_at hl 1 rfl) ?_
        refine r_get C hP (ci := 3) rfl uin_X3 1 (by decide) 0 (by decide) rfl qFL_RX3_16 rfl rfl dX3_readMove_47 ?_
        refine lv_iload_n hx hb dX3_readMove_50 rfl (lv_at hl 0 rfl) ?_
        obtain ⟨σ5, h1, h⟩ := k_ob h
        refine k_callVv C hP hap hAA (c_X0_make l ev (fun j => ad (j + 2)) (x_thought σ4) x3   _ h1) (em_G2) (apart_1 _) gz_X0_make qML_RX3_311 qIM_yX0_make qSE_yX0_make ⟨(Nat.le_of_ble_eq_true rfl), (Nat.le_of_ble_eq_true rfl)⟩ (q0 := 2) rfl (by decide) rfl rfl rfl rfl hl.1 rfl (Nat.le_of_ble_eq_true rfl) dX3_readMove_51 ⟨Nat.le_refl _, Nat.le_refl _⟩ (fun H locs hP => ?_)
        obtain ⟨σ6, eσ6, h⟩ := k_ltx h
        rw [← eσ6] at hP
        refine lv_iconst (v := 1) hx hb dX3_readMove_54 (by decide) ?_
        exact e_zret C hend hP (k_some2 h).1 (congrArg (xw ev ad) (k_some2 h).2) dX3_readMove_55 rfl
      · have h := k_nf c41 h
        refine lv_iconst (v := 0) hx hb dX3_readMove_44 (by decide) ?_
        exact e_zret C hend hP (k_some2 h).1 (congrArg (xw ev ad) (k_some2 h).2) dX3_readMove_45 rfl
  refine lv_aload_n hx hb dX3_readMove_0 rfl (lv_at hl 0 rfl) ?_
  refine lv_iconst (v := 0) hx hb dX3_readMove_1 (by decide) ?_
  refine lv_bipush (v := 99) hx hb dX3_readMove_2 (by decide) ?_
  obtain ⟨x2, σ1, h1, h⟩ := k_ob2 h
  refine k_callVi C hP hap hAA (c_X3_readNumber l ev ad σ 0 99   _ _ h1) Emb.same hap gz_X3_readNumber qML_RX3_439 qIM_yX3_readNumber qSE_yX3_readNumber ⟨(Nat.le_of_ble_eq_true rfl), (Nat.le_of_ble_eq_true rfl)⟩ (q0 := 0) rfl (by decide) rfl rfl rfl rfl hl.1 rfl (Nat.le_of_ble_eq_true rfl) dX3_readMove_4 ⟨Nat.le_refl _, Nat.le_refl _⟩ (fun H locs hP => ?_)
  refine lv_istore_n (lv' := [(2, .int x2), (0, .ref (ad 0)), (1, .int a1)]) hx hb dX3_readMove_7 rfl hl (by decide) rfl (fun ls hl => ?_)
  refine lv_iload_n hx hb dX3_readMove_8 rfl (lv_at hl 0 rfl) ?_
  refine lv_iconst (v := (-1)) hx hb dX3_readMove_9 (by decide) ?_
  refine lv_icmp_ne (tgt := 17) hx hb dX3_readMove_10 (by decide) (fun c10 => ?_) (fun c10 => ?_)
  · have h := k_nf c10 h
    refine lv_aload_n hx hb dX3_readMove_17 rfl (lv_at hl 1 rfl) ?_
    refine r_get C hP (ci := 3) rfl uin_X3 1 (by decide) 0 (by decide) rfl qFL_RX3_16 rfl rfl dX3_readMove_18 ?_
    refine lv_iload_n hx hb dX3_readMove_21 rfl (lv_at hl 2 rfl) ?_
    refine lv_iload_n hx hb dX3_readMove_22 rfl (lv_at hl 0 rfl) ?_
    refine lv_iadd hx hb dX3_readMove_23 ?_
    refine k_callVi C hP hap hAA (c_X0_slotOf l ev (fun j => ad (j + 2)) (x_thought σ1) (a1 + x2)   _ rfl) (em_G2r) (apart_1 _) gz_X0_slotOf qML_RX3_239 qIM_yX0_slotOf qSE_yX0_slotOf ⟨(Nat.le_of_ble_eq_true rfl), (Nat.le_of_ble_eq_true rfl)⟩ (q0 := 2) rfl (by decide) rfl rfl rfl rfl hl.1 rfl (Nat.le_of_ble_eq_true rfl) dX3_readMove_24 ⟨Nat.le_refl _, Nat.le_refl _⟩ (fun H locs hP => ?_)
    exact hB27 _ _ _ _ _ h hP (lv_sub hl [1] rfl)
  · have h := k_if c10 h
    refine lv_iconst (v := (-1)) hx hb dX3_readMove_13 (by decide) ?_
    refine lv_goto (tgt := 27) hx hb dX3_readMove_14 (by decide) ?_
    exact hB27 _ _ _ _ _ h hP (lv_sub hl [1] rfl)
def f_X3_readSize (σ : XX) : Option (Bool × XX) :=
  ob2 (f_X3_readNumber σ 1 4) (fun x2 σ1 => if x2 = (-1) then some (false, σ1) else ob2 (f_X3_readNumber σ1 1 4) (fun x4 σ3 => if x4 = (-1) then some (false, σ3) else ob (f_X0_lay (x_thought σ3) x2 x4) (fun σ5 => lt (x_thought' σ3 σ5) (fun σ6 => some (true, σ6)))))
set_option maxHeartbeats 4000000 in
set_option maxRecDepth 100000 in
theorem c_X3_readSize (l : Launch) (ev : EV) (ad : Nat → Nat) (σ : XX)   (r : Bool) (σ' : XX) (h : f_X3_readSize σ = some (r, σ')) : Ct l yX3_readSize prog_1_method_92_code 3 (Option.some Jvm.ClassFile.FieldType.boolean) (rmk 4 88) ev 26 ad (xw ev ad σ) (xw ev ad σ') [.ref (ad 0)] (some (.int (bi r))) := by
  refine Ct.of (by decide +kernel) (Nat.le_of_ble_eq_true rfl) ?_
  intro p e s m args below meth c Qc C hap hP hend ls hl
  have hAA : ∀ j, j < 26 → inA ad 26 (ad j) := fun j hj => ⟨j, hj, rfl⟩
  have hx := C.1
  have hb := C.2.1
  have hl : lv_has ls 3 [(0, .ref (ad 0))] := hl
  have h := (f_X3_readSize.eq_1 _ ).symm.trans h
  refine lv_aload_n hx hb dX3_readSize_0 rfl (lv_at hl 0 rfl) ?_
  refine lv_iconst (v := 1) hx hb dX3_readSize_1 (by decide) ?_
  refine lv_iconst (v := 4) hx hb dX3_readSize_2 (by decide) ?_
  obtain ⟨x2, σ1, h1, h⟩ := k_ob2 h
  refine k_callVi C hP hap hAA (c_X3_readNumber l ev ad σ 1 4   _ _ h1) Emb.same hap gz_X3_readNumber qML_RX3_439 qIM_yX3_readNumber qSE_yX3_readNumber ⟨(Nat.le_of_ble_eq_true rfl), (Nat.le_of_ble_eq_true rfl)⟩ (q0 := 0) rfl (by decide) rfl rfl rfl rfl hl.1 rfl (Nat.le_of_ble_eq_true rfl) dX3_readSize_3 ⟨Nat.le_refl _, Nat.le_refl _⟩ (fun H locs hP => ?_)
  refine lv_istore_n (lv' := [(1, .int x2), (0, .ref (ad 0))]) hx hb dX3_readSize_6 rfl hl (by decide) rfl (fun ls hl => ?_)
  refine lv_iload_n hx hb dX3_readSize_7 rfl (lv_at hl 0 rfl) ?_
  refine lv_iconst (v := (-1)) hx hb dX3_readSize_8 (by decide) ?_
  refine lv_icmp_ne (tgt := 14) hx hb dX3_readSize_9 (by decide) (fun c9 => ?_) (fun c9 => ?_)
  · have h := k_nf c9 h
    refine lv_aload_n hx hb dX3_readSize_14 rfl (lv_at hl 1 rfl) ?_
    refine lv_iconst (v := 1) hx hb dX3_readSize_15 (by decide) ?_
    refine lv_iconst (v := 4) hx hb dX3_readSize_16 (by decide) ?_
    obtain ⟨x4, σ3, h1, h⟩ := k_ob2 h
    refine k_callVi C hP hap hAA (c_X3_readNumber l ev ad σ1 1 4   _ _ h1) Emb.same hap gz_X3_readNumber qML_RX3_439 qIM_yX3_readNumber qSE_yX3_readNumber ⟨(Nat.le_of_ble_eq_true rfl), (Nat.le_of_ble_eq_true rfl)⟩ (q0 := 0) rfl (by decide) rfl rfl rfl rfl hl.1 rfl (Nat.le_of_ble_eq_true rfl) dX3_readSize_17 ⟨Nat.le_refl _, Nat.le_refl _⟩ (fun H locs hP => ?_)
    refine lv_istore_n (lv' := [(2, .int x4), (1, .int x2), (0, .ref (ad 0))]) hx hb dX3_readSize_20 rfl hl (by decide) rfl (fun ls hl => ?_)
    refine lv_iload_n hx hb dX3_readSize_21 rfl (lv_at hl 0 rfl) ?_
    refine lv_iconst (v := (-1)) hx hb dX3_readSize_22 (by decide) ?_
    refine lv_icmp_ne (tgt := 28) hx hb dX3_readSize_23 (by decide) (fun c23 => ?_) (fun c23 => ?_)
    · have h := k_nf c23 h
      refine lv_aload_n hx hb dX3_readSize_28 rfl (lv_at hl 2 rfl) ?_
      refine r_get C hP (ci := 3) rfl uin_X3 1 (by decide) 0 (by decide) rfl qFL_RX3_16 rfl rfl dX3_readSize_29 ?_
      refine lv_iload_n hx hb dX3_readSize_32 rfl (lv_at hl 1 rfl) ?_
      refine lv_iload_n hx hb dX3_readSize_33 rfl (lv_at hl 0 rfl) ?_
      obtain ⟨σ5, h1, h⟩ := k_ob h
      refine k_callVv C hP hap hAA (c_X0_lay l ev (fun j => ad (j + 2)) (x_thought σ3) x2 x4   _ h1) (em_G2) (apart_1 _) gz_X0_lay qML_RX3_143 qIM_yX0_lay qSE_yX0_lay ⟨(Nat.le_of_ble_eq_true rfl), (Nat.le_of_ble_eq_true rfl)⟩ (q0 := 2) rfl (by decide) rfl rfl rfl rfl hl.1 rfl (Nat.le_of_ble_eq_true rfl) dX3_readSize_34 ⟨Nat.le_refl _, Nat.le_refl _⟩ (fun H locs hP => ?_)
      obtain ⟨σ6, eσ6, h⟩ := k_ltx h
      rw [← eσ6] at hP
      refine lv_iconst (v := 1) hx hb dX3_readSize_37 (by decide) ?_
      exact e_zret C hend hP (k_some2 h).1 (congrArg (xw ev ad) (k_some2 h).2) dX3_readSize_38 rfl
    · have h := k_if c23 h
      refine lv_iconst (v := 0) hx hb dX3_readSize_26 (by decide) ?_
      exact e_zret C hend hP (k_some2 h).1 (congrArg (xw ev ad) (k_some2 h).2) dX3_readSize_27 rfl
  · have h := k_if c9 h
    refine lv_iconst (v := 0) hx hb dX3_readSize_12 (by decide) ?_
    exact e_zret C hend hP (k_some2 h).1 (congrArg (xw ev ad) (k_some2 h).2) dX3_readSize_13 rfl
def f_X3_readStatement (σ : XX) : Option (Bool × XX) :=
  ob (f_X2_step (x_tape σ)) (fun σ1 => lt (x_tape' σ σ1) (fun σ2 => ob (f_X2_isWord_w0 (x_tape σ2)) (fun b3 => if b3 = true then ob2 (f_X3_readSize σ2) (fun b17 σ16 => some (b17, σ16)) else ob (f_X2_isWord_w1 (x_tape σ2)) (fun b4 => if b4 = true then ob2 (f_X3_readMove σ2 0) (fun b15 σ14 => some (b15, σ14)) else ob (f_X2_isWord_w2 (x_tape σ2)) (fun b5 => if b5 = true then ob2 (f_X3_readMove σ2 100) (fun b13 σ12 => some (b13, σ12)) else ob (f_X2_isWord_w3 (x_tape σ2)) (fun b6 => if b6 = true then ob2 (f_X3_readTurn σ2) (fun b11 σ10 => some (b11, σ10)) else ob (f_X2_isWord_w4 (x_tape σ2)) (fun b7 => if b7 = true then if 6 ≤ (x_crewRead σ2) then some (false, σ2) else ob2 (f_X3_readPlayer σ2) (fun b9 σ8 => if b9 = true then some (true, σ8) else some (false, σ8)) else some (false, σ2))))))))
set_option maxHeartbeats 4000000 in
set_option maxRecDepth 100000 in
theorem c_X3_readStatement (l : Launch) (ev : EV) (ad : Nat → Nat) (σ : XX)   (r : Bool) (σ' : XX) (h : f_X3_readStatement σ = some (r, σ')) : Ct l yX3_readStatement prog_1_method_90_code 1 (Option.some Jvm.ClassFile.FieldType.boolean) (rmk 9 323) ev 26 ad (xw ev ad σ) (xw ev ad σ') [.ref (ad 0)] (some (.int (bi r))) := by
  refine Ct.of (by decide +kernel) (Nat.le_of_ble_eq_true rfl) ?_
  intro p e s m args below meth c Qc C hap hP hend ls hl
  have hAA : ∀ j, j < 26 → inA ad 26 (ad j) := fun j hj => ⟨j, hj, rfl⟩
  have hx := C.1
  have hb := C.2.1
  have hl : lv_has ls 1 [(0, .ref (ad 0))] := hl
  have h := (f_X3_readStatement.eq_1 _ ).symm.trans h
  refine lv_aload_n hx hb dX3_readStatement_0 rfl (lv_at hl 0 rfl) ?_
  refine r_get C hP (ci := 3) rfl uin_X3 9 (by decide) 0 (by decide) rfl qFL_RX3_48 rfl rfl dX3_readStatement_1 ?_
  obtain ⟨σ1, h1, h⟩ := k_ob h
  refine k_callVv C hP hap hAA (c_X2_step l ev (fun j => ad (j + 8)) (x_tape σ)   _ h1) (em_T) (apart_T hap) gz_X2_step qML_RX3_402 qIM_yX2_step qSE_yX2_step ⟨(Nat.le_of_ble_eq_true rfl), (Nat.le_of_ble_eq_true rfl)⟩ (q0 := 8) rfl (by decide) rfl rfl rfl rfl hl.1 rfl (Nat.le_of_ble_eq_true rfl) dX3_readStatement_4 ⟨Nat.le_refl _, Nat.le_refl _⟩ (fun H locs hP => ?_)
  obtain ⟨σ2, eσ2, h⟩ := k_ltx h
  rw [← eσ2] at hP
  refine lv_aload_n hx hb dX3_readStatement_7 rfl (lv_at hl 0 rfl) ?_
  refine r_get C hP (ci := 3) rfl uin_X3 9 (by decide) 0 (by decide) rfl qFL_RX3_48 rfl rfl dX3_readStatement_8 ?_
  refine va_ldcSw hx hb C.2.2.2.2.2.1 C.2.2.2.2.2.2.2.2.2.2.2.2.2.1.1 dX3_readStatement_11 ?_
  obtain ⟨b3, h1, h⟩ := k_ob h
  refine k_callVi C hP hap hAA (c_X2_isWord_w0 l ev (fun j => ad (j + 8)) (x_tape σ2)   _ h1) (em_Tr) (apart_T hap) gz_X2_isWord qML_RX3_413 qIM_yX2_isWord qSE_yX2_isWord ⟨(Nat.le_of_ble_eq_true rfl), (Nat.le_of_ble_eq_true rfl)⟩ (q0 := 8) rfl (by decide) rfl rfl rfl rfl hl.1 rfl (Nat.le_of_ble_eq_true rfl) dX3_readStatement_14 ⟨Nat.le_refl _, Nat.le_refl _⟩ (fun H locs hP => ?_)
  refine r_ifz_eq (tgt := 25) hx hb dX3_readStatement_17 (by decide) (fun c17 => ?_) (fun c17 => ?_)
  · have h := k_nf c17 h
    refine lv_aload_n hx hb dX3_readStatement_25 rfl (lv_at hl 0 rfl) ?_
    refine r_get C hP (ci := 3) rfl uin_X3 9 (by decide) 0 (by decide) rfl qFL_RX3_48 rfl rfl dX3_readStatement_26 ?_
    refine va_ldcSw hx hb C.2.2.2.2.2.1 C.2.2.2.2.2.2.2.2.2.2.2.2.2.1.2.1 dX3_readStatement_29 ?_
    obtain ⟨b4, h1, h⟩ := k_ob h
    refine k_callVi C hP hap hAA (c_X2_isWord_w1 l ev (fun j => ad (j + 8)) (x_tape σ2)   _ h1) (em_Tr) (apart_T hap) gz_X2_isWord qML_RX3_413 qIM_yX2_isWord qSE_yX2_isWord ⟨(Nat.le_of_ble_eq_true rfl), (Nat.le_of_ble_eq_true rfl)⟩ (q0 := 8) rfl (by decide) rfl rfl rfl rfl hl.1 rfl (Nat.le_of_ble_eq_true rfl) dX3_readStatement_32 ⟨Nat.le_refl _, Nat.le_refl _⟩ (fun H locs hP => ?_)
    refine r_ifz_eq (tgt := 44) hx hb dX3_readStatement_35 (by decide) (fun c35 => ?_) (fun c35 => ?_)
    · have h := k_nf c35 h
      refine lv_aload_n hx hb dX3_readStatement_44 rfl (lv_at hl 0 rfl) ?_
      refine r_get C hP (ci := 3) rfl uin_X3 9 (by decide) 0 (by decide) rfl qFL_RX3_48 rfl rfl dX3_readStatement_45 ?_
      refine va_ldcSw hx hb C.2.2.2.2.2.1 C.2.2.2.2.2.2.2.2.2.2.2.2.2.1.2.2.1 dX3_readStatement_48 ?_
      obtain ⟨b5, h1, h⟩ := k_ob h
      refine k_callVi C hP hap hAA (c_X2_isWord_w2 l ev (fun j => ad (j + 8)) (x_tape σ2)   _ h1) (em_Tr) (apart_T hap) gz_X2_isWord qML_RX3_413 qIM_yX2_isWord qSE_yX2_isWord ⟨(Nat.le_of_ble_eq_true rfl), (Nat.le_of_ble_eq_true rfl)⟩ (q0 := 8) rfl (by decide) rfl rfl rfl rfl hl.1 rfl (Nat.le_of_ble_eq_true rfl) dX3_readStatement_51 ⟨Nat.le_refl _, Nat.le_refl _⟩ (fun H locs hP => ?_)
      refine r_ifz_eq (tgt := 64) hx hb dX3_readStatement_54 (by decide) (fun c54 => ?_) (fun c54 => ?_)
      · have h := k_nf c54 h
        refine lv_aload_n hx hb dX3_readStatement_64 rfl (lv_at hl 0 rfl) ?_
        refine r_get C hP (ci := 3) rfl uin_X3 9 (by decide) 0 (by decide) rfl qFL_RX3_48 rfl rfl dX3_readStatement_65 ?_
        refine va_ldcSw hx hb C.2.2.2.2.2.1 C.2.2.2.2.2.2.2.2.2.2.2.2.2.1.2.2.2.1 dX3_readStatement_68 ?_
        obtain ⟨b6, h1, h⟩ := k_ob h
        refine k_callVi C hP hap hAA (c_X2_isWord_w3 l ev (fun j => ad (j + 8)) (x_tape σ2)   _ h1) (em_Tr) (apart_T hap) gz_X2_isWord qML_RX3_413 qIM_yX2_isWord qSE_yX2_isWord ⟨(Nat.le_of_ble_eq_true rfl), (Nat.le_of_ble_eq_true rfl)⟩ (q0 := 8) rfl (by decide) rfl rfl rfl rfl hl.1 rfl (Nat.le_of_ble_eq_true rfl) dX3_readStatement_71 ⟨Nat.le_refl _, Nat.le_refl _⟩ (fun H locs hP => ?_)
        refine r_ifz_eq (tgt := 82) hx hb dX3_readStatement_74 (by decide) (fun c74 => ?_) (fun c74 => ?_)
        · have h := k_nf c74 h
          refine lv_aload_n hx hb dX3_readStatement_82 rfl (lv_at hl 0 rfl) ?_
          refine r_get C hP (ci := 3) rfl uin_X3 9 (by decide) 0 (by decide) rfl qFL_RX3_48 rfl rfl dX3_readStatement_83 ?_
          refine va_ldcSw hx hb C.2.2.2.2.2.1 C.2.2.2.2.2.2.2.2.2.2.2.2.2.1.2.2.2.2 dX3_readStatement_86 ?_
          obtain ⟨b7, h1, h⟩ := k_ob h
          refine k_callVi C hP hap hAA (c_X2_isWord_w4 l ev (fun j => ad (j + 8)) (x_tape σ2)   _ h1) (em_Tr) (apart_T hap) gz_X2_isWord qML_RX3_413 qIM_yX2_isWord qSE_yX2_isWord ⟨(Nat.le_of_ble_eq_true rfl), (Nat.le_of_ble_eq_true rfl)⟩ (q0 := 8) rfl (by decide) rfl rfl rfl rfl hl.1 rfl (Nat.le_of_ble_eq_true rfl) dX3_readStatement_89 ⟨Nat.le_refl _, Nat.le_refl _⟩ (fun H locs hP => ?_)
          refine r_ifz_eq (tgt := 115) hx hb dX3_readStatement_92 (by decide) (fun c92 => ?_) (fun c92 => ?_)
          · have h := k_nf c92 h
            refine lv_iconst (v := 0) hx hb dX3_readStatement_115 (by decide) ?_
            exact e_zret C hend hP (k_some2 h).1 (congrArg (xw ev ad) (k_some2 h).2) dX3_readStatement_116 rfl
          · have h := k_if c92 h
            refine lv_aload_n hx hb dX3_readStatement_95 rfl (lv_at hl 0 rfl) ?_
            refine r_get C hP (ci := 3) rfl uin_X3 7 (by decide) 0 (by decide) rfl qFL_RX3_36 rfl rfl dX3_readStatement_96 ?_
            refine lv_bipush (v := 6) hx hb dX3_readStatement_99 (by decide) ?_
            refine lv_icmp_ge (tgt := 115) hx hb dX3_readStatement_101 (by decide) (fun c101 => ?_) (fun c101 => ?_)
            · have h := k_if c101 h
              refine lv_iconst (v := 0) hx hb dX3_readStatement_115 (by decide) ?_
              exact e_zret C hend hP (k_some2 h).1 (congrArg (xw ev ad) (k_some2 h).2) dX3_readStatement_116 rfl
            · have h := k_nf c101 h
              refine lv_aload_n hx hb dX3_readStatement_104 rfl (lv_at hl 0 rfl) ?_
              obtain ⟨b9, σ8, h1, h⟩ := k_ob2 h
              refine k_callVi C hP hap hAA (c_X3_readPlayer l ev ad σ2   _ _ h1) Emb.same hap gz_X3_readPlayer qML_RX3_433 qIM_yX3_readPlayer qSE_yX3_readPlayer ⟨(Nat.le_of_ble_eq_true rfl), (Nat.le_of_ble_eq_true rfl)⟩ (q0 := 0) rfl (by decide) rfl rfl rfl rfl hl.1 rfl (Nat.le_of_ble_eq_true rfl) dX3_readStatement_105 ⟨Nat.le_refl _, Nat.le_refl _⟩ (fun H locs hP => ?_)
              refine r_ifz_eq (tgt := 115) hx hb dX3_readStatement_108 (by decide) (fun c108 => ?_) (fun c108 => ?_)
              · have h := k_nf c108 h
                refine lv_iconst (v := 0) hx hb dX3_readStatement_115 (by decide) ?_
                exact e_zret C hend hP (k_some2 h).1 (congrArg (xw ev ad) (k_some2 h).2) dX3_readStatement_116 rfl
              · have h := k_if c108 h
                refine lv_iconst (v := 1) hx hb dX3_readStatement_111 (by decide) ?_
                refine lv_goto (tgt := 116) hx hb dX3_readStatement_112 (by decide) ?_
                exact e_zret C hend hP (k_some2 h).1 (congrArg (xw ev ad) (k_some2 h).2) dX3_readStatement_116 rfl
        · have h := k_if c74 h
          refine lv_aload_n hx hb dX3_readStatement_77 rfl (lv_at hl 0 rfl) ?_
          obtain ⟨b11, σ10, h1, h⟩ := k_ob2 h
          refine k_callVi C hP hap hAA (c_X3_readTurn l ev ad σ2   _ _ h1) Emb.same hap gz_X3_readTurn qML_RX3_428 qIM_yX3_readTurn qSE_yX3_readTurn ⟨(Nat.le_of_ble_eq_true rfl), (Nat.le_of_ble_eq_true rfl)⟩ (q0 := 0) rfl (by decide) rfl rfl rfl rfl hl.1 rfl (Nat.le_of_ble_eq_true rfl) dX3_readStatement_78 ⟨Nat.le_refl _, Nat.le_refl _⟩ (fun H locs hP => ?_)
          exact e_zret C hend hP (k_some2 h).1 (congrArg (xw ev ad) (k_some2 h).2) dX3_readStatement_81 rfl
      · have h := k_if c54 h
        refine lv_aload_n hx hb dX3_readStatement_57 rfl (lv_at hl 0 rfl) ?_
        refine lv_bipush (v := 100) hx hb dX3_readStatement_58 (by decide) ?_
        obtain ⟨b13, σ12, h1, h⟩ := k_ob2 h
        refine k_callVi C hP hap hAA (c_X3_readMove l ev ad σ2 100   _ _ h1) Emb.same hap gz_X3_readMove qML_RX3_422 qIM_yX3_readMove qSE_yX3_readMove ⟨(Nat.le_of_ble_eq_true rfl), (Nat.le_of_ble_eq_true rfl)⟩ (q0 := 0) rfl (by decide) rfl rfl rfl rfl hl.1 rfl (Nat.le_of_ble_eq_true rfl) dX3_readStatement_60 ⟨Nat.le_refl _, Nat.le_refl _⟩ (fun H locs hP => ?_)
        exact e_zret C hend hP (k_some2 h).1 (congrArg (xw ev ad) (k_some2 h).2) dX3_readStatement_63 rfl
    · have h := k_if c35 h
      refine lv_aload_n hx hb dX3_readStatement_38 rfl (lv_at hl 0 rfl) ?_
      refine lv_iconst (v := 0) hx hb dX3_readStatement_39 (by decide) ?_
      obtain ⟨b15, σ14, h1, h⟩ := k_ob2 h
      refine k_callVi C hP hap hAA (c_X3_readMove l ev ad σ2 0   _ _ h1) Emb.same hap gz_X3_readMove qML_RX3_422 qIM_yX3_readMove qSE_yX3_readMove ⟨(Nat.le_of_ble_eq_true rfl), (Nat.le_of_ble_eq_true rfl)⟩ (q0 := 0) rfl (by decide) rfl rfl rfl rfl hl.1 rfl (Nat.le_of_ble_eq_true rfl) dX3_readStatement_40 ⟨Nat.le_refl _, Nat.le_refl _⟩ (fun H locs hP => ?_)
      exact e_zret C hend hP (k_some2 h).1 (congrArg (xw ev ad) (k_some2 h).2) dX3_readStatement_43 rfl
  · have h := k_if c17 h
    refine lv_aload_n hx hb dX3_readStatement_20 rfl (lv_at hl 0 rfl) ?_
    obtain ⟨b17, σ16, h1, h⟩ := k_ob2 h
    refine k_callVi C hP hap hAA (c_X3_readSize l ev ad σ2   _ _ h1) Emb.same hap gz_X3_readSize qML_RX3_417 qIM_yX3_readSize qSE_yX3_readSize ⟨(Nat.le_of_ble_eq_true rfl), (Nat.le_of_ble_eq_true rfl)⟩ (q0 := 0) rfl (by decide) rfl rfl rfl rfl hl.1 rfl (Nat.le_of_ble_eq_true rfl) dX3_readStatement_21 ⟨Nat.le_refl _, Nat.le_refl _⟩ (fun H locs hP => ?_)
    exact e_zret C hend hP (k_some2 h).1 (congrArg (xw ev ad) (k_some2 h).2) dX3_readStatement_24 rfl
def f_X3_readStatements_L2_b   (rec2 : Int32 → XX → Option (Int32 × XX)) (x1 : Int32) (σ2 : XX) : Option (Int32 × XX) :=
  if 250 < x1 then some ((-1), σ2) else ob2 (f_X3_readStatement σ2) (fun b4 σ3 => if b4 = true then ob (f_X2_step (x_tape σ3)) (fun σ5 => lt (x_tape' σ3 σ5) (fun σ6 => if (f_X2_isAtEnd (x_tape σ6)) = true then some (x1, σ6) else ob (f_X2_isSign (x_tape σ6)) (fun b7 => if b7 = true then lt (x1 + 1) (fun x8 => rec2 x8 σ6) else some ((-1), σ6)))) else some ((-1), σ3))
def f_X3_readStatements_L2   (x1 : Int32) (σ2 : XX) : Option (Int32 × XX) :=
  lp (fun _ _ => none) (f_X3_readStatements_L2_b  ) FU x1 σ2
def f_X3_readStatements (σ : XX) : Option (Int32 × XX) :=
  f_X3_readStatements_L2 1 σ
set_option maxHeartbeats 4000000 in
set_option maxRecDepth 100000 in
theorem c_X3_readStatements (l : Launch) (ev : EV) (ad : Nat → Nat) (σ : XX)   (r : Int32) (σ' : XX) (h : f_X3_readStatements σ = some (r, σ')) : Ct l yX3_readStatements prog_1_method_89_code 2 (Option.some Jvm.ClassFile.FieldType.int) (rmk 10 343) ev 26 ad (xw ev ad σ) (xw ev ad σ') [.ref (ad 0)] (some (.int r)) := by
  refine Ct.of (by decide +kernel) (Nat.le_of_ble_eq_true rfl) ?_
  intro p e s m args below meth c Qc C hap hP hend ls hl
  have hAA : ∀ j, j < 26 → inA ad 26 (ad j) := fun j hj => ⟨j, hj, rfl⟩
  have hx := C.1
  have hb := C.2.1
  have hl : lv_has ls 2 [(0, .ref (ad 0))] := hl
  have h := (f_X3_readStatements.eq_1 _ ).symm.trans h
  refine lv_iconst (v := 1) hx hb dX3_readStatements_0 (by decide) ?_
  refine lv_istore_n (lv' := [(1, .int 1), (0, .ref (ad 0))]) hx hb dX3_readStatements_1 rfl hl (by decide) rfl (fun ls hl => ?_)
  have hL2 : ∀ (n : Nat) (x1 : Int32) (σ2 : XX) (H : Heap) (locs : List Loc) (ls : Array Slot), lp (fun _ _ => none) (f_X3_readStatements_L2_b  ) n x1 σ2 = some (r, σ') → PS ev 26 ad (xw ev ad σ2) (inA ad 26) s H locs → lv_has ls 2 [(0, .ref (ad 0)), (1, .int x1)] → WW ev p l e (rmk 10 343) s m args below meth c Qc ad 26 H locs 2 ls [] := by
    intro n
    induction n with
    | zero =>
      intro x1 σ2 H locs ls h; exact k_none h
    | succ n ih =>
      intro x1 σ2 H locs ls h hP hl
      have h : f_X3_readStatements_L2_b   (lp (fun _ _ => none) (f_X3_readStatements_L2_b  ) n) x1 σ2 = some (r, σ') := h
      have h := (f_X3_readStatements_L2_b.eq_1 _ _ _ ).symm.trans h
      refine lv_iload_n hx hb dX3_readStatements_2 rfl (lv_at hl 1 rfl) ?_
      refine lv_sipush (v := 250) hx hb dX3_readStatements_3 (by decide) ?_
      refine lv_icmp_gt (tgt := 55) hx hb dX3_readStatements_6 (by decide) (fun c6 => ?_) (fun c6 => ?_)
      · have h := k_if c6 h
        refine lv_iconst (v := (-1)) hx hb dX3_readStatements_55 (by decide) ?_
        exact e_iret C hend hP (k_some2 h).1 (congrArg (xw ev ad) (k_some2 h).2) dX3_readStatements_56
      · have h := k_nf c6 h
        refine lv_aload_n hx hb dX3_readStatements_9 rfl (lv_at hl 0 rfl) ?_
        obtain ⟨b4, σ3, h1, h⟩ := k_ob2 h
        refine k_callVi C hP hap hAA (c_X3_readStatement l ev ad σ2   _ _ h1) Emb.same hap gz_X3_readStatement qML_RX3_399 qIM_yX3_readStatement qSE_yX3_readStatement ⟨(Nat.le_of_ble_eq_true rfl), (Nat.le_of_ble_eq_true rfl)⟩ (q0 := 0) rfl (by decide) rfl rfl rfl rfl hl.1 rfl (Nat.le_of_ble_eq_true rfl) dX3_readStatements_10 ⟨Nat.le_refl _, Nat.le_refl _⟩ (fun H locs hP => ?_)
        refine r_ifz_ne (tgt := 18) hx hb dX3_readStatements_13 (by decide) (fun c13 => ?_) (fun c13 => ?_)
        · have h := k_if c13 h
          refine lv_aload_n hx hb dX3_readStatements_18 rfl (lv_at hl 0 rfl) ?_
          refine r_get C hP (ci := 3) rfl uin_X3 9 (by decide) 0 (by decide) rfl qFL_RX3_48 rfl rfl dX3_readStatements_19 ?_
          obtain ⟨σ5, h1, h⟩ := k_ob h
          refine k_callVv C hP hap hAA (c_X2_step l ev (fun j => ad (j + 8)) (x_tape σ3)   _ h1) (em_T) (apart_T hap) gz_X2_step qML_RX3_402 qIM_yX2_step qSE_yX2_step ⟨(Nat.le_of_ble_eq_true rfl), (Nat.le_of_ble_eq_true rfl)⟩ (q0 := 8) rfl (by decide) rfl rfl rfl rfl hl.1 rfl (Nat.le_of_ble_eq_true rfl) dX3_readStatements_22 ⟨Nat.le_refl _, Nat.le_refl _⟩ (fun H locs hP => ?_)
          obtain ⟨σ6, eσ6, h⟩ := k_ltx h
          rw [← eσ6] at hP
          refine lv_aload_n hx hb dX3_readStatements_25 rfl (lv_at hl 0 rfl) ?_
          refine r_get C hP (ci := 3) rfl uin_X3 9 (by decide) 0 (by decide) rfl qFL_RX3_48 rfl rfl dX3_readStatements_26 ?_
          refine k_callVi C hP hap hAA (c_X2_isAtEnd l ev (fun j => ad (j + 8)) (x_tape σ6)   _ rfl) (em_Tr) (apart_T hap) gz_X2_isAtEnd qML_RX3_405 qIM_yX2_isAtEnd qSE_yX2_isAtEnd ⟨(Nat.le_of_ble_eq_true rfl), (Nat.le_of_ble_eq_true rfl)⟩ (q0 := 8) rfl (by decide) rfl rfl rfl rfl hl.1 rfl (Nat.le_of_ble_eq_true rfl) dX3_readStatements_29 ⟨Nat.le_refl _, Nat.le_refl _⟩ (fun H locs hP => ?_)
          refine r_ifz_eq (tgt := 37) hx hb dX3_readStatements_32 (by decide) (fun c32 => ?_) (fun c32 => ?_)
          · have h := k_nf c32 h
            refine lv_aload_n hx hb dX3_readStatements_37 rfl (lv_at hl 0 rfl) ?_
            refine r_get C hP (ci := 3) rfl uin_X3 9 (by decide) 0 (by decide) rfl qFL_RX3_48 rfl rfl dX3_readStatements_38 ?_
            obtain ⟨b7, h1, h⟩ := k_ob h
            refine k_callVi C hP hap hAA (c_X2_isSign l ev (fun j => ad (j + 8)) (x_tape σ6)   _ h1) (em_Tr) (apart_T hap) gz_X2_isSign qML_RX3_408 qIM_yX2_isSign qSE_yX2_isSign ⟨(Nat.le_of_ble_eq_true rfl), (Nat.le_of_ble_eq_true rfl)⟩ (q0 := 8) rfl (by decide) rfl rfl rfl rfl hl.1 rfl (Nat.le_of_ble_eq_true rfl) dX3_readStatements_41 ⟨Nat.le_refl _, Nat.le_refl _⟩ (fun H locs hP => ?_)
            refine r_ifz_ne (tgt := 49) hx hb dX3_readStatements_44 (by decide) (fun c44 => ?_) (fun c44 => ?_)
            · have h := k_if c44 h
              obtain ⟨x8, ex8, h⟩ := k_ltx h
              refine lv_iinc (v := x8) (lv' := [(1, .int x8), (0, .ref (ad 0))]) hx hb dX3_readStatements_49 hl (k := 1) rfl (by rw [ex8]; rfl) (by decide) rfl (fun ls hl => ?_)
              refine lv_goto (tgt := 2) hx hb dX3_readStatements_52 (by decide) ?_
              exact ih _ _ _ _ _ h hP (lv_sub hl [1, 0] rfl)
            · have h := k_nf c44 h
              refine lv_iconst (v := (-1)) hx hb dX3_readStatements_47 (by decide) ?_
              exact e_iret C hend hP (k_some2 h).1 (congrArg (xw ev ad) (k_some2 h).2) dX3_readStatements_48
          · have h := k_if c32 h
            refine lv_iload_n hx hb dX3_readStatements_35 rfl (lv_at hl 1 rfl) ?_
            exact e_iret C hend hP (k_some2 h).1 (congrArg (xw ev ad) (k_some2 h).2) dX3_readStatements_36
        · have h := k_nf c13 h
          refine lv_iconst (v := (-1)) hx hb dX3_readStatements_16 (by decide) ?_
          exact e_iret C hend hP (k_some2 h).1 (congrArg (xw ev ad) (k_some2 h).2) dX3_readStatements_17
  exact hL2 FU _ _ _ _ _ h hP (lv_sub hl [1, 0] rfl)
