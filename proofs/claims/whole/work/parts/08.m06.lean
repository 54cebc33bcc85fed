/-! functions read off, and their contracts: by program (wip/whole/gen2.py) -/
def f_X3_readNumber (σ : XX) (a1 : Int32) (a2 : Int32) : Option (Int32 × XX) :=
  ob (f_X2_step (x_tape σ)) (fun σ1 => lt (x_tape' σ σ1) (fun σ2 => ob (f_X2_numberHere (x_tape σ2)) (fun x3 => if x3 < a1 then some ((-1), σ2) else if a2 < x3 then some ((-1), σ2) else some (x3, σ2))))
set_option maxHeartbeats 4000000 in
set_option maxRecDepth 100000 in
theorem c_X3_readNumber (l : Launch) (ev : EV) (ad : Nat → Nat) (σ : XX) (a1 : Int32) (a2 : Int32)   (r : Int32) (σ' : XX) (h : f_X3_readNumber σ a1 a2 = some (r, σ')) : Ct l yX3_readNumber prog_1_method_91_code 4 (Option.some Jvm.ClassFile.FieldType.int) (rmk 3 65) ev 26 ad (xw ev ad σ) (xw ev ad σ') [.ref (ad 0), .int a1, .int a2] (some (.int r)) := by
  refine Ct.of (by decide +kernel) (Nat.le_of_ble_eq_true rfl) ?_
  intro p e s m args below meth c Qc C hap hP hend ls hl
  have hAA : ∀ j, j < 26 → inA ad 26 (ad j) := fun j hj => ⟨j, hj, rfl⟩
  have hx := C.1
  have hb := C.2.1
  have hl : lv_has ls 4 [(0, .ref (ad 0)), (1, .int a1), (2, .int a2)] := hl
  have h := (f_X3_readNumber.eq_1 _ _ _ ).symm.trans h
  refine lv_aload_n hx hb dX3_readNumber_0 rfl (lv_at hl 0 rfl) ?_
  refine r_get C hP (ci := 3) rfl uin_X3 9 (by decide) 0 (by decide) rfl qFL_RX3_48 rfl rfl dX3_readNumber_1 ?_
  obtain ⟨σ1, h1, h⟩ := k_ob h
  refine k_callVv C hP hap hAA (c_X2_step l ev (fun j => ad (j + 8)) (x_tape σ)   _ h1) (em_T) (apart_T hap) gz_X2_step qML_RX3_402 qIM_yX2_step qSE_yX2_step ⟨(Nat.le_of_ble_eq_true rfl), (Nat.le_of_ble_eq_true rfl)⟩ (q0 := 8) rfl (by decide) rfl rfl rfl rfl hl.1 rfl (Nat.le_of_ble_eq_true rfl) dX3_readNumber_4 ⟨Nat.le_refl _, Nat.le_refl _⟩ (fun H locs hP => ?_)
  obtain ⟨σ2, eσ2, h⟩ := k_ltx h
  rw [← eσ2] at hP
  refine lv_aload_n hx hb dX3_readNumber_7 rfl (lv_at hl 0 rfl) ?_
  refine r_get C hP (ci := 3) rfl uin_X3 9 (by decide) 0 (by decide) rfl qFL_RX3_48 rfl rfl dX3_readNumber_8 ?_
  obtain ⟨x3, h1, h⟩ := k_ob h
  refine k_callVi C hP hap hAA (c_X2_numberHere l ev (fun j => ad (j + 8)) (x_tape σ2)   _ h1) (em_Tr) (apart_T hap) gz_X2_numberHere qML_RX3_436 qIM_yX2_numberHere qSE_yX2_numberHere ⟨(Nat.le_of_ble_eq_true rfl), (Nat.le_of_ble_eq_true rfl)⟩ (q0 := 8) rfl (by decide) rfl rfl rfl rfl hl.1 rfl (Nat.le_of_ble_eq_true rfl) dX3_readNumber_11 ⟨Nat.le_refl _, Nat.le_refl _⟩ (fun H locs hP => ?_)
  refine lv_istore_n (lv' := [(3, .int x3), (0, .ref (ad 0)), (1, .int a1), (2, .int a2)]) hx hb dX3_readNumber_14 rfl hl (by decide) rfl (fun ls hl => ?_)
  refine lv_iload_n hx hb dX3_readNumber_15 rfl (lv_at hl 0 rfl) ?_
  refine lv_iload_n hx hb dX3_readNumber_16 rfl (lv_at hl 2 rfl) ?_
  refine lv_icmp_lt (tgt := 29) hx hb dX3_readNumber_17 (by decide) (fun c17 => ?_) (fun c17 => ?_)
  · have h := k_if c17 h
    refine lv_iconst (v := (-1)) hx hb dX3_readNumber_29 (by decide) ?_
    exact e_iret C hend hP (k_some2 h).1 (congrArg (xw ev ad) (k_some2 h).2) dX3_readNumber_30
  · have h := k_nf c17 h
    refine lv_iload_n hx hb dX3_readNumber_20 rfl (lv_at hl 0 rfl) ?_
    refine lv_iload_n hx hb dX3_readNumber_21 rfl (lv_at hl 3 rfl) ?_
    refine lv_icmp_gt (tgt := 29) hx hb dX3_readNumber_22 (by decide) (fun c22 => ?_) (fun c22 => ?_)
    · have h := k_if c22 h
      refine lv_iconst (v := (-1)) hx hb dX3_readNumber_29 (by decide) ?_
      exact e_iret C hend hP (k_some2 h).1 (congrArg (xw ev ad) (k_some2 h).2) dX3_readNumber_30
    · have h := k_nf c22 h
      refine lv_iload_n hx hb dX3_readNumber_25 rfl (lv_at hl 0 rfl) ?_
      refine lv_goto (tgt := 30) hx hb dX3_readNumber_26 (by decide) ?_
      exact e_iret C hend hP (k_some2 h).1 (congrArg (xw ev ad) (k_some2 h).2) dX3_readNumber_30
def f_X3_readPlayer (σ : XX) : Option (Bool × XX) :=
  ob2 (f_X3_readNumber σ 0 5) (fun x2 σ1 => if x2 = (-1) then some (false, σ1) else ob2 (f_X3_readNumber σ1 0 9) (fun x4 σ3 => if x4 = (-1) then some (false, σ3) else ob (f_X3_enlist σ3 (x_crewRead σ3) x2 x4) (fun σ5 => lt (x_crewRead' σ5 ((x_crewRead σ5) + 1)) (fun σ6 => some (true, σ6)))))
set_option maxHeartbeats 4000000 in
set_option maxRecDepth 100000 in
theorem c_X3_readPlayer (l : Launch) (ev : EV) (ad : Nat → Nat) (σ : XX)   (r : Bool) (σ' : XX) (h : f_X3_readPlayer σ = some (r, σ')) : Ct l yX3_readPlayer prog_1_method_95_code 3 (Option.some Jvm.ClassFile.FieldType.boolean) (rmk 4 88) ev 26 ad (xw ev ad σ) (xw ev ad σ') [.ref (ad 0)] (some (.int (bi r))) := by
  refine Ct.of (by decide +kernel) (Nat.le_of_ble_eq_true rfl) ?_
  intro p e s m args below meth c Qc C hap hP hend ls hl
  have hAA : ∀ j, j < 26 → inA ad 26 (ad j) := fun j hj => ⟨j, hj, rfl⟩
  have hx := C.1
  have hb := C.2.1
  have hl : lv_has ls 3 [(0, .ref (ad 0))] := hl
  have h := (f_X3_readPlayer.eq_1 _ ).symm.trans h
  refine lv_aload_n hx hb dX3_readPlayer_0 rfl (lv_at hl 0 rfl) ?_
  refine lv_iconst (v := 0) hx hb dX3_readPlayer_1 (by decide) ?_
  refine lv_iconst (v := 5) hx hb dX3_readPlayer_2 (by decide) ?_
  obtain ⟨x2, σ1, h1, h⟩ := k_ob2 h
  refine k_callVi C hP hap hAA (c_X3_readNumber l ev ad σ 0 5   _ _ h1) Emb.same hap gz_X3_readNumber qML_RX3_439 qIM_yX3_readNumber qSE_yX3_readNumber ⟨(Nat.le_of_ble_eq_true rfl), (Nat.le_of_ble_eq_true rfl)⟩ (q0 := 0) rfl (by decide) rfl rfl rfl rfl hl.1 rfl (Nat.le_of_ble_eq_true rfl) dX3_readPlayer_3 ⟨Nat.le_refl _, Nat.le_refl _⟩ (fun H locs hP => ?_)
  refine lv_istore_n (lv' := [(1, .int x2), (0, .ref (ad 0))]) hx hb dX3_readPlayer_6 rfl hl (by decide) rfl (fun ls hl => ?_)
  refine lv_iload_n hx hb dX3_readPlayer_7 rfl (lv_at hl 0 rfl) ?_
  refine lv_iconst (v := (-1)) hx hb dX3_readPlayer_8 (by decide) ?_
  refine lv_icmp_ne (tgt := 14) hx hb dX3_readPlayer_9 (by decide) (fun c9 => ?_) (fun c9 => ?_)
  · have h := k_nf c9 h
    refine lv_aload_n hx hb dX3_readPlayer_14 rfl (lv_at hl 1 rfl) ?_
    refine lv_iconst (v := 0) hx hb dX3_readPlayer_15 (by decide) ?_
    refine lv_bipush (v := 9) hx hb dX3_readPlayer_16 (by decide) ?_
    obtain ⟨x4, σ3, h1, h⟩ := k_ob2 h
    refine k_callVi C hP hap hAA (c_X3_readNumber l ev ad σ1 0 9   _ _ h1) Emb.same hap gz_X3_readNumber qML_RX3_439 qIM_yX3_readNumber qSE_yX3_readNumber ⟨(Nat.le_of_ble_eq_true rfl), (Nat.le_of_ble_eq_true rfl)⟩ (q0 := 0) rfl (by decide) rfl rfl rfl rfl hl.1 rfl (Nat.le_of_ble_eq_true rfl) dX3_readPlayer_18 ⟨Nat.le_refl _, Nat.le_refl _⟩ (fun H locs hP => ?_)
    refine lv_istore_n (lv' := [(2, .int x4), (1, .int x2), (0, .ref (ad 0))]) hx hb dX3_readPlayer_21 rfl hl (by decide) rfl (fun ls hl => ?_)
    refine lv_iload_n hx hb dX3_readPlayer_22 rfl (lv_at hl 0 rfl) ?_
    refine lv_iconst (v := (-1)) hx hb dX3_readPlayer_23 (by decide) ?_
    refine lv_icmp_ne (tgt := 29) hx hb dX3_readPlayer_24 (by decide) (fun c24 => ?_) (fun c24 => ?_)
    · have h := k_nf c24 h
      refine lv_aload_n hx hb dX3_readPlayer_29 rfl (lv_at hl 2 rfl) ?_
      refine lv_aload_n hx hb dX3_readPlayer_30 rfl (lv_at hl 2 rfl) ?_
      refine r_get C hP (ci := 3) rfl uin_X3 7 (by decide) 0 (by decide) rfl qFL_RX3_36 rfl rfl dX3_readPlayer_31 ?_
      refine lv_iload_n hx hb dX3_readPlayer_34 rfl (lv_at hl 1 rfl) ?_
      refine lv_iload_n hx hb dX3_readPlayer_35 rfl (lv_at hl 0 rfl) ?_
      obtain ⟨σ5, h1, h⟩ := k_ob h
      refine k_callVv C hP hap hAA (c_X3_enlist l ev ad σ3 (x_crewRead σ3) x2 x4   _ h1) Emb.same hap gz_X3_enlist qML_RX3_149 qIM_yX3_enlist qSE_yX3_enlist ⟨(Nat.le_of_ble_eq_true rfl), (Nat.le_of_ble_eq_true rfl)⟩ (q0 := 0) rfl (by decide) rfl rfl rfl rfl hl.1 rfl (Nat.le_of_ble_eq_true rfl) dX3_readPlayer_36 ⟨Nat.le_refl _, Nat.le_refl _⟩ (fun H locs hP => ?_)
      refine lv_aload_n hx hb dX3_readPlayer_39 rfl (lv_at hl 2 rfl) ?_
      refine lv_dup hx hb dX3_readPlayer_40 rfl ?_
      refine r_get C hP (ci := 3) rfl uin_X3 7 (by decide) 0 (by decide) rfl qFL_RX3_36 rfl rfl dX3_readPlayer_41 ?_
      refine lv_iconst (v := 1) hx hb dX3_readPlayer_44 (by decide) ?_
      refine lv_iadd hx hb dX3_readPlayer_45 ?_
      obtain ⟨σ6, eσ6, h⟩ := k_ltx h
      refine pt_X_X3_crewRead C hP hap hAA eσ6 qFL_RX3_36 dX3_readPlayer_46 (fun H locs hP => ?_)
      refine lv_iconst (v := 1) hx hb dX3_readPlayer_49 (by decide) ?_
      exact e_zret C hend hP (k_some2 h).1 (congrArg (xw ev ad) (k_some2 h).2) dX3_readPlayer_50 rfl
    · have h := k_if c24 h
      refine lv_iconst (v := 0) hx hb dX3_readPlayer_27 (by decide) ?_
      exact e_zret C hend hP (k_some2 h).1 (congrArg (xw ev ad) (k_some2 h).2) dX3_readPlayer_28 rfl
  · have h := k_if c9 h
    refine lv_iconst (v := 0) hx hb dX3_readPlayer_12 (by decide) ?_
    exact e_zret C hend hP (k_some2 h).1 (congrArg (xw ev ad) (k_some2 h).2) dX3_readPlayer_13 rfl
def f_X3_readTurn (σ : XX) : Option (Bool × XX) :=
  ob2 (f_X3_readNumber σ 0 1) (fun x2 σ1 => if x2 = (-1) then some (false, σ1) else lt (x_thought' σ1 (g_turn' (x_thought σ1) x2)) (fun σ3 => some (true, σ3)))
set_option maxHeartbeats 4000000 in
set_option maxRecDepth 100000 in
theorem c_X3_readTurn (l : Launch) (ev : EV) (ad : Nat → Nat) (σ : XX)   (r : Bool) (σ' : XX) (h : f_X3_readTurn σ = some (r, σ')) : Ct l yX3_readTurn prog_1_method_94_code 2 (Option.some Jvm.ClassFile.FieldType.boolean) (rmk 4 88) ev 26 ad (xw ev ad σ) (xw ev ad σ') [.ref (ad 0)] (some (.int (bi r))) := by
  refine Ct.of (by decide +kernel) (Nat.le_of_ble_eq_true rfl) ?_
  intro p e s m args below meth c Qc C hap hP hend ls hl
  have hAA : ∀ j, j < 26 → inA ad 26 (ad j) := fun j hj => ⟨j, hj, rfl⟩
  have hx := C.1
  have hb := C.2.1
  have hl : lv_has ls 2 [(0, .ref (ad 0))] := hl
  have h := (f_X3_readTurn.eq_1 _ ).symm.trans h
  refine lv_aload_n hx hb dX3_readTurn_0 rfl (lv_at hl 0 rfl) ?_
  refine lv_iconst (v := 0) hx hb dX3_readTurn_1 (by decide) ?_
  refine lv_iconst (v := 1) hx hb dX3_readTurn_2 (by decide) ?_
  obtain ⟨x2, σ1, h1, h⟩ := k_ob2 h
  refine k_callVi C hP hap hAA (c_X3_readNumber l ev ad σ 0 1   _ _ h1) Emb.same hap gz_X3_readNumber qML_RX3_439 qIM_yX3_readNumber qSE_yX3_readNumber ⟨(Nat.le_of_ble_eq_true rfl), (Nat.le_of_ble_eq_true rfl)⟩ (q0 := 0) rfl (by decide) rfl rfl rfl rfl hl.1 rfl (Nat.le_of_ble_eq_true rfl) dX3_readTurn_3 ⟨Nat.le_refl _, Nat.le_refl _⟩ (fun H locs hP => ?_)
  refine lv_istore_n (lv' := [(1, .int x2), (0, .ref (ad 0))]) hx hb dX3_readTurn_6 rfl hl (by decide) rfl (fun ls hl => ?_)
  refine lv_iload_n hx hb dX3_readTurn_7 rfl (lv_at hl 0 rfl) ?_
  refine lv_iconst (v := (-1)) hx hb dX3_readTurn_8 (by decide) ?_
  refine lv_icmp_ne (tgt := 14) hx hb dX3_readTurn_9 (by decide) (fun c9 => ?_) (fun c9 => ?_)
  · have h := k_nf c9 h
    refine lv_aload_n hx hb dX3_readTurn_14 rfl (lv_at hl 1 rfl) ?_
    refine r_get C hP (ci := 3) rfl uin_X3 1 (by decide) 0 (by decide) rfl qFL_RX3_16 rfl rfl dX3_readTurn_15 ?_
    refine lv_iload_n hx hb dX3_readTurn_18 rfl (lv_at hl 0 rfl) ?_
    obtain ⟨σ3, eσ3, h⟩ := k_ltx h
    refine pt_X2_X0_turn C hP hap hAA eσ3 qFL_RX3_156 dX3_readTurn_19 (fun H locs hP => ?_)
    refine lv_iconst (v := 1) hx hb dX3_readTurn_22 (by decide) ?_
    exact e_zret C hend hP (k_some2 h).1 (congrArg (xw ev ad) (k_some2 h).2) dX3_readTurn_23 rfl
  · have h := k_if c9 h
    refine lv_iconst (v := 0) hx hb dX3_readTurn_12 (by decide) ?_
    exact e_zret C hend hP (k_some2 h).1 (congrArg (xw ev ad) (k_some2 h).2) dX3_readTurn_13 rfl
def f_X3_readMove_b27  (x3 : Int32) (σ4 : XX) : Option (Bool × XX) :=
  if x3 = (-1) then some (false, σ4) else if (f_X0_isOpen (x_thought σ4) x3) = true then ob (f_X0_make (x_thought σ4) x3) (fun σ5 => lt (x_thought' σ4 σ5) (fun σ6 => some (true, σ6))) else some (false, σ4)
def f_X3_readMove (σ : XX) (a1 : Int32) : Option (Bool × XX) :=
  ob2 (f_X3_readNumber σ 0 99) (fun x2 σ1 => if x2 = (-1) then f_X3_readMove_b27 (-1) σ1 else f_X3_readMove_b27 ((f_X0_slotOf (x_thought σ1) (a1 + x2))) σ1)
set_option maxHeartbeats 4000000 in
set_option maxRecDepth 100000 in
theorem c_X3_readMove (l : Launch) (ev : EV) (ad : Nat → Nat) (σ : XX) (a1 : Int32)   (r : Bool) (σ' : XX) (h : f_X3_readMove σ a1 = some (r, σ')) : Ct l yX3_readMove prog_1_method_93_code 4 (Option.some Jvm.ClassFile.FieldType.boolean) (rmk 4 88) ev 26 ad (xw ev ad σ) (xw ev ad σ') [.ref (ad 0), .int a1] (some (.int (bi r))) := by
  refine Ct.of (by decide +kernel) (Nat.le_of_ble_eq_true rfl) ?_
  intro p e s m args below meth c Qc C hap hP hend ls hl
  have hAA : ∀ j, j < 26 → inA ad 26 (ad j) := fun j hj => ⟨j, hj, rfl⟩
  have hx := C.1
  have hb := C.2.1
  have hl : lv_has ls 4 [(0, .ref (ad 0)), (1, .int a1)] := hl
  have h := (f_X3_readMove.eq_1 _ _ ).symm.trans h
  have hB27 : ∀ (x3 : Int32) (σ4 : XX) (H : Heap) (locs : List Loc) (ls : Array Slot), f_X3_readMove_b27  x3 σ4 = some (r, σ') → PS ev 26 ad (xw ev ad σ4) (inA ad 26) s H locs → lv_has ls 4 [(0, .ref (ad 0))] → WW ev p l e (rmk 4 88) s m args below meth c Qc ad 26 H locs 27 ls [.int x3] := by
    intro x3 σ4 H locs ls h hP hl
    have h := (f_X3_readMove_b27.eq_1 _ _ ).symm.trans h
    refine lv_istore_n (lv' := [(3, .int x3), (0, .ref (ad 0))]) hx hb dX3_readMove_27 rfl hl (by decide) rfl (fun ls hl => ?_)
    refine lv_iload_n hx hb dX3_readMove_28 rfl (lv_at hl 0 rfl) ?_
    refine lv_iconst (v := (-1)) hx hb dX3_readMove_29 (by decide) ?_
    refine lv_icmp_eq (tgt := 44) hx hb dX3_readMove_30 (by decide) (fun c30 => ?_) (fun c30 => ?_)
    · have h := k_if c30 h
      refine lv_iconst (v := 0) hx hb dX3_readMove_44 (by decide) ?_
      exact e_zret C hend hP (k_some2 h).1 (congrArg (xw ev ad) (k_some2 h).2) dX3_readMove_45 rfl
    · have h := k_nf c30 h
      refine lv_aload_n hx hb dX3_readMove_33 rfl (lv_at hl 1 rfl) ?_
      refine r_get C hP (ci := 3) rfl uin_X3 1 (by decide) 0 (by decide) rfl qFL_RX3_16 rfl rfl dX3_readMove_34 ?_
      refine lv_iload_n hx hb dX3_readMove_37 rfl (lv_at hl 0 rfl) ?_
      refine k_callVi C hP hap hAA (c_X0_isOpen l ev (fun j => ad (j + 2)) (x_thought σ4) x3   _ rfl) (em_G2r) (apart_1 _) gz_X0_isOpen qML_RX3_242 qIM_yX0_isOpen qSE_yX0_isOpen ⟨(Nat.le_of_ble_eq_true rfl), (Nat.le_of_ble_eq_true rfl)⟩ (q0 := 2) rfl (by decide) rfl rfl rfl rfl hl.1 rfl (Nat.le_of_ble_eq_true rfl) dX3_readMove_38 ⟨Nat.le_refl _, Nat.le_refl _⟩ (fun H locs hP => ?_)
      refine r_ifz_ne (tgt := 46) hx hb dX3_readMove_41 (by decide) (fun c41 => ?_) (fun c41 => ?_)
      · have h := k_if c41 h
        refine lv_aload_n hx hb dX3_readMove_46 rfl (lv_at hl 1 rfl) ?_
        refine r_get C hP (ci := 3) rfl uin_X3 1 (by decide) 0 (by decide) rfl qFL_RX3_16 rfl rfl dX3_readMove_47 ?_
        refine lv_iload_n hx hb dX3_readMove_50 rfl (lv_at hl 0 rfl) ?_
        obtain ⟨σ5, h1, h⟩ := k_ob h
        refine k_callVv C hP hap hAA (c_X0_make l ev (fun j => ad (j + 2)) (x_thought σ4) x3   _ h1) (em_G2) (apart_1 _) gz_X0_make qML_RX3_311 qIM_yX0_make qSE_yX0_make ⟨(Nat.le_of_ble_eq_true rfl), (Nat.le_of_ble_eq_true rfl)⟩ (q0 := 2) rfl (by decide) rfl rfl rfl rfl hl.1 rfl (Nat.le_of_ble_eq_true rfl) dX3_readMove_51 ⟨Nat.le_refl _, Nat.le_refl _⟩ (fun H locs hP => ?_)
        obtain ⟨σ6, eσ6, h⟩ := k_ltx h
        rw [← eσ6] at hP
        refine lv_iconst (v := 1) hx hb dX3_readMove_54 (by decide) ?_
        exact e_zret C hend hP (k_some2 h).1 (congrArg (xw ev ad) (k_some2 h).2) dX3_readMove_55 rfl
      · have h := k_nf c41 h
        refine lv_iconst (v := 0) hx hb dX3_readMove_44 (by decide) ?_
        exact e_zret C hend hP (k_some2 h).1 (congrArg (xw ev ad) (k_some2 h).2) dX3_readMove_45 rfl
  refine lv_aload_n hx hb dX3_readMove_0 rfl (lv_at hl 0 rfl) ?_
  refine lv_iconst (v := 0) hx hb dX3_readMove_1 (by decide) ?_
  refine lv_bipush (v := 99) hx hb dX3_readMove_2 (by decide) ?_
  obtain ⟨x2, σ1, h1, h⟩ := k_ob2 h
  refine k_callVi C hP hap hAA (c_X3_readNumber l ev ad σ 0 99   _ _ h1) Emb.same hap gz_X3_readNumber qML_RX3_439 qIM_yX3_readNumber qSE_yX3_readNumber ⟨(Nat.le_of_ble_eq_true rfl), (Nat.le_of_ble_eq_true rfl)⟩ (q0 := 0) rfl (by decide) rfl rfl rfl rfl hl.1 rfl (Nat.le_of_ble_eq_true rfl) dX3_readMove_4 ⟨Nat.le_refl _, Nat.le_refl _⟩ (fun H locs hP => ?_)
  refine lv_istore_n (lv' := [(2, .int x2), (0, .ref (ad 0)), (1, .int a1)]) hx hb dX3_readMove_7 rfl hl (by decide) rfl (fun ls hl => ?_)
  refine lv_iload_n hx hb dX3_readMove_8 rfl (lv_at hl 0 rfl) ?_
  refine lv_iconst (v := (-1)) hx hb dX3_readMove_9 (by decide) ?_
  refine lv_icmp_ne (tgt := 17) hx hb dX3_readMove_10 (by decide) (fun c10 => ?_) (fun c10 => ?_)
  · have h := k_nf c10 h
    refine lv_aload_n hx hb dX3_readMove_17 rfl (lv_at hl 1 rfl) ?_
    refine r_get C hP (ci := 3) rfl uin_X3 1 (by decide) 0 (by decide) rfl qFL_RX3_16 rfl rfl dX3_readMove_18 ?_
    refine lv_iload_n hx hb dX3_readMove_21 rfl (lv_at hl 2 rfl) ?_
    refine lv_iload_n hx hb dX3_readMove_22 rfl (lv_at hl 0 rfl) ?_
    refine lv_iadd hx hb dX3_readMove_23 ?_
    refine k_callVi C hP hap hAA (c_X0_slotOf l ev (fun j => ad (j + 2)) (x_thought σ1) (a1 + x2)   _ rfl) (em_G2r) (apart_1 _) gz_X0_slotOf qML_RX3_239 qIM_yX0_slotOf qSE_yX0_slotOf ⟨(Nat.le_of_ble_eq_true rfl), (Nat.le_of_ble_eq_true rfl)⟩ (q0 := 2) rfl (by decide) rfl rfl rfl rfl hl.1 rfl (Nat.le_of_ble_eq_true rfl) dX3_readMove_24 ⟨Nat.le_refl _, Nat.le_refl _⟩ (fun H locs hP => ?_)
    exact hB27 _ _ _ _ _ h hP (lv_sub hl [1] rfl)
  · have h := k_if c10 h
    refine lv_iconst (v := (-1)) hx hb dX3_readMove_13 (by decide) ?_
    refine lv_goto (tgt := 27) hx hb dX3_readMove_14 (by decide) ?_
    exact hB27 _ _ _ _ _ h hP (lv_sub hl [1] rfl)
def f_X3_readSize (σ : XX) : Option (Bool × XX) :=
  ob2 (f_X3_readNumber σ 1 4) (fun x2 σ1 => if x2 = (-1) then some (false, σ1) else ob2 (f_X3_readNumber σ1 1 4) (fun x4 σ3 => if x4 = (-1) then some (false, σ3) else ob (f_X0_lay (x_thought σ3) x2 x4) (fun σ5 => lt (x_thought' σ3 σ5) (fun σ6 => some (true, σ6)))))
set_option maxHeartbeats 4000000 in
set_option maxRecDepth 100000 in
theorem c_X3_readSize (l : Launch) (ev : EV) (ad : Nat → Nat) (σ : XX)   (r : Bool) (σ' : XX) (h : f_X3_readSize σ = some (r, σ')) : Ct l yX3_readSize prog_1_method_92_code 3 (Option.some Jvm.ClassFile.FieldType.boolean) (rmk 4 88) ev 26 ad (xw ev ad σ) (xw ev ad σ') [.ref (ad 0)] (some (.int (bi r))) := by
  refine Ct.of (by decide +kernel) (Nat.le_of_ble_eq_true rfl) ?_
  intro p e s m args below meth c Qc C hap hP hend ls hl
  have hAA : ∀ j, j < 26 → inA ad 26 (ad j) := fun j hj => ⟨j, hj, rfl⟩
  have hx := C.1
  have hb := C.2.1
  have hl : lv_has ls 3 [(0, .ref (ad 0))] := hl
  have h := (f_X3_readSize.eq_1 _ ).symm.trans h
  refine lv_aload_n hx hb dX3_readSize_0 rfl (lv_at hl 0 rfl) ?_
  refine lv_iconst (v := 1) hx hb dX3_readSize_1 (by decide) ?_
  refine lv_iconst (v := 4) hx hb dX3_readSize_2 (by decide) ?_
  obtain ⟨x2, σ1, h1, h⟩ := k_ob2 h
  refine k_callVi C hP hap hAA (c_X3_readNumber l ev ad σ 1 4   _ _ h1) Emb.same hap gz_X3_readNumber qML_RX3_439 qIM_yX3_readNumber qSE_yX3_readNumber ⟨(Nat.le_of_ble_eq_true rfl), (Nat.le_of_ble_eq_true rfl)⟩ (q0 := 0) rfl (by decide) rfl rfl rfl rfl hl.1 rfl (Nat.le_of_ble_eq_true rfl) dX3_readSize_3 ⟨Nat.le_refl _, Nat.le_refl _⟩ (fun H locs hP => ?_)
  refine lv_istore_n (lv' := [(1, .int x2), (0, .ref (ad 0))]) hx hb dX3_readSize_6 rfl hl (by decide) rfl (fun ls hl => ?_)
  refine lv_iload_n hx hb dX3_readSize_7 rfl (lv_at hl 0 rfl) ?_
  refine lv_iconst (v := (-1)) hx hb dX3_readSize_8 (by decide) ?_
  refine lv_icmp_ne (tgt := 14) hx hb dX3_readSize_9 (by decide) (fun c9 => ?_) (fun c9 => ?_)
  · have h := k_nf c9 h
    refine lv_aload_n hx hb dX3_readSize_14 rfl (lv_at hl 1 rfl) ?_
    refine lv_iconst (v := 1) hx hb dX3_readSize_15 (by decide) ?_
    refine lv_iconst (v := 4) hx hb dX3_readSize_16 (by decide) ?_
    obtain ⟨x4, σ3, h1, h⟩ := k_ob2 h
    refine k_callVi C hP hap hAA (c_X3_readNumber l ev ad σ1 1 4   _ _ h1) Emb.same hap gz_X3_readNumber qML_RX3_439 qIM_yX3_readNumber qSE_yX3_readNumber ⟨(Nat.le_of_ble_eq_true rfl), (Nat.le_of_ble_eq_true rfl)⟩ (q0 := 0) rfl (by decide) rfl rfl rfl rfl hl.1 rfl (Nat.le_of_ble_eq_true rfl) dX3_readSize_17 ⟨Nat.le_refl _, Nat.le_refl _⟩ (fun H locs hP => ?_)
    refine lv_istore_n (lv' := [(2, .int x4), (1, .int x2), (0, .ref (ad 0))]) hx hb dX3_readSize_20 rfl hl (by decide) rfl (fun ls hl => ?_)
    refine lv_iload_n hx hb dX3_readSize_21 rfl (lv_at hl 0 rfl) ?_
    refine lv_iconst (v := (-1)) hx hb dX3_readSize_22 (by decide) ?_
    refine lv_icmp_ne (tgt := 28) hx hb dX3_readSize_23 (by decide) (fun c23 => ?_) (fun c23 => ?_)
    · have h := k_nf c23 h
      refine lv_aload_n hx hb dX3_readSize_28 rfl (lv_at hl 2 rfl) ?_
      refine r_get C hP (ci := 3) rfl uin_X3 1 (by decide) 0 (by decide) rfl qFL_RX3_16 rfl rfl dX3_readSize_29 ?_
      refine lv_iload_n hx hb dX3_readSize_32 rfl (lv_at hl 1 rfl) ?_
      refine lv_iload_n hx hb dX3_readSize_33 rfl (lv_at hl 0 rfl) ?_
      obtain ⟨σ5, h1, h⟩ := k_ob h
      refine k_callVv C hP hap hAA (c_X0_lay l ev (fun j => ad (j + 2)) (x_thought σ3) x2 x4   _ h1) (em_G2) (apart_1 _) gz_X0_lay qML_RX3_143 qIM_yX0_lay qSE_yX0_lay ⟨(Nat.le_of_ble_eq_true rfl), (Nat.le_of_ble_eq_true rfl)⟩ (q0 := 2) rfl (by decide) rfl rfl rfl rfl hl.1 rfl (Nat.le_of_ble_eq_true rfl) dX3_readSize_34 ⟨Nat.le_refl _, Nat.le_refl _⟩ (fun H locs hP => ?_)
      obtain ⟨σ6, eσ6, h⟩ := k_ltx h
      rw [← eσ6] at hP
      refine lv_iconst (v := 1) hx hb dX3_readSize_37 (by decide) ?_
      exact e_zret C hend hP (k_some2 h).1 (congrArg (xw ev ad) (k_some2 h).2) dX3_readSize_38 rfl
    · have h := k_if c23 h
      refine lv_iconst (v := 0) hx hb dX3_readSize_26 (by decide) ?_
      exact e_zret C hend hP (k_some2 h).1 (congrArg (xw ev ad) (k_some2 h).2) dX3_readSize_27 rfl
  · have h := k_if c9 h
    refine lv_iconst (v := 0) hx hb dX3_readSize_12 (by decide) ?_
    exact e_zret C hend hP (k_some2 h).1 (congrArg (xw ev ad) (k_some2 h).2) dX3_readSize_13 rfl
def f_X3_readStatement (σ : XX) : Option (Bool × XX) :=
  ob (f_X2_step (x_tape σ)) (fun σ1 => lt (x_tape' σ σ1) (fun σ2 => ob (f_X2_isWord_w0 (x_tape σ2)) (fun b3 => if b3 = true then ob2 (f_X3_readSize σ2) (fun b17 σ16 => some (b17, σ16)) else ob (f_X2_isWord_w1 (x_tape σ2)) (fun b4 => if b4 = true then ob2 (f_X3_readMove σ2 0) (fun b15 σ14 => some (b15, σ14)) else ob (f_X2_isWord_w2 (x_tape σ2)) (fun b5 => if b5 = true then ob2 (f_X3_readMove σ2 100) (fun b13 σ12 => some (b13, σ12)) else ob (f_X2_isWord_w3 (x_tape σ2)) (fun b6 => if b6 = true then ob2 (f_X3_readTurn σ2) (fun b11 σ10 => some (b11, σ10)) else ob (f_X2_isWord_w4 (x_tape σ2)) (fun b7 => if b7 = true then if 6 ≤ (x_crewRead σ2) then some (false, σ2) else ob2 (f_X3_readPlayer σ2) (fun b9 σ8 => if b9 = true then some (true, σ8) else some (false, σ8)) else some (false, σ2))))))))
set_option maxHeartbeats 4000000 in
set_option maxRecDepth 100000 in
theorem c_X3_readStatement (l : Launch) (ev : EV) (ad : Nat → Nat) (σ : XX)   (r : Bool) (σ' : XX) (h : f_X3_readStatement σ = some (r, σ')) : Ct l yX3_readStatement prog_1_method_90_code 1 (Option.some Jvm.ClassFile.FieldType.boolean) (rmk 9 323) ev 26 ad (xw ev ad σ) (xw ev ad σ') [.ref (ad 0)] (some (.int (bi r))) := by
  refine Ct.of (by decide +kernel) (Nat.le_of_ble_eq_true rfl) ?_
  intro p e s m args below meth c Qc C hap hP hend ls hl
  have hAA : ∀ j, j < 26 → inA ad 26 (ad j) := fun j hj => ⟨j, hj, rfl⟩
  have hx := C.1
  have hb := C.2.1
  have hl : lv_has ls 1 [(0, .ref (ad 0))] := hl
  have h := (f_X3_readStatement.eq_1 _ ).symm.trans h
  refine lv_aload_n hx hb dX3_readStatement_0 rfl (lv_at hl 0 rfl) ?_
  refine r_get C hP (ci := 3) rfl uin_X3 9 (by decide) 0 (by decide) rfl qFL_RX3_48 rfl rfl dX3_readStatement_1 ?_
  obtain ⟨σ1, h1, h⟩ := k_ob h
  refine k_callVv C hP hap hAA (c_X2_step l ev (fun j => ad (j + 8)) (x_tape σ)   _ h1) (em_T) (apart_T hap) gz_X2_step qML_RX3_402 qIM_yX2_step qSE_yX2_step ⟨(Nat.le_of_ble_eq_true rfl), (Nat.le_of_ble_eq_true rfl)⟩ (q0 := 8) rfl (by decide) rfl rfl rfl rfl hl.1 rfl (Nat.le_of_ble_eq_true rfl) dX3_readStatement_4 ⟨Nat.le_refl _, Nat.le_refl _⟩ (fun H locs hP => ?_)
  obtain ⟨σ2, eσ2, h⟩ := k_ltx h
  rw [← eσ2] at hP
  refine lv_aload_n hx hb dX3_readStatement_7 rfl (lv_at hl 0 rfl) ?_
  refine r_get C hP (ci := 3) rfl uin_X3 9 (by decide) 0 (by decide) rfl qFL_RX3_48 rfl rfl dX3_readStatement_8 ?_
  refine va_ldcSw hx hb C.2.2.2.2.2.1 C.2.2.2.2.2.2.2.2.2.2.2.2.2.1.1 dX3_readStatement_11 ?_
  obtain ⟨b3, h1, h⟩ := k_ob h
  refine k_callVi C hP hap hAA (c_X2_isWord_w0 l ev (fun j => ad (j + 8)) (x_tape σ2)   _ h1) (em_Tr) (apart_T hap) gz_X2_isWord qML_RX3_413 qIM_yX2_isWord qSE_yX2_isWord ⟨(Nat.le_of_ble_eq_true rfl), (Nat.le_of_ble_eq_true rfl)⟩ (q0 := 8) rfl (by decide) rfl rfl rfl rfl hl.1 rfl (Nat.le_of_ble_eq_true rfl) dX3_readStatement_14 ⟨Nat.le_refl _, Nat.le_refl _⟩ (fun H locs hP => ?_)
  refine r_ifz_eq (tgt := 25) hx hb dX3_readStatement_17 (by decide) (fun c17 => ?_) (fun c17 => ?_)
  · have h := k_nf c17 h
    refine lv_aload_n hx hb dX3_readStatement_25 rfl (lv_at hl 0 rfl) ?_
    refine r_get C hP (ci := 3) rfl uin_X3 9 (by decide) 0 (by decide) rfl qFL_RX3_48 rfl rfl dX3_readStatement_26 ?_
    refine va_ldcSw hx hb C.2.2.2.2.2.1 C.2.2.2.2.2.2.2.2.2.2.2.2.2.1.2.1 dX3_readStatement_29 ?_
    obtain ⟨b4, h1, h⟩ := k_ob h
    refine k_callVi C hP hap hAA (c_X2_isWord_w1 l ev (fun j => ad (j + 8)) (x_tape σ2)   _ h1) (em_Tr) (apart_T hap) gz_X2_isWord qML_RX3_413 qIM_yX2_isWord qSE_yX2_isWord ⟨(Nat.le_of_ble_eq_true rfl), (Nat.le_of_ble_eq_true rfl)⟩ (q0 := 8) rfl (by decide) rfl rfl rfl rfl hl.1 rfl (Nat.le_of_ble_eq_true rfl) dX3_readStatement_32 ⟨Nat.le_refl _, Nat.le_refl _⟩ (fun H locs hP => ?_)
    refine r_ifz_eq (tgt := 44) hx hb dX3_readStatement_35 (by decide) (fun c35 => ?_) (fun c35 => ?_)
    · have h := k_nf c35 h
      refine lv_aload_n hx hb dX3_readStatement_44 rfl (lv_at hl 0 rfl) ?_
      refine r_get C hP (ci := 3) rfl uin_X3 9 (by decide) 0 (by decide) rfl qFL_RX3_48 rfl rfl dX3_readStatement_45 ?_
      refine va_ldcSw hx hb C.2.2.2.2.2.1 C.2.2.2.2.2.2.2.2.2.2.2.2.2.1.2.2.1 dX3_readStatement_48 ?_
      obtain ⟨b5, h1, h⟩ := k_ob h
      refine k_callVi C hP hap hAA (c_X2_isWord_w2 l ev (fun j => ad (j + 8)) (x_tape σ2)   _ h1) (em_Tr) (apart_T hap) gz_X2_isWord qML_RX3_413 qIM_yX2_isWord qSE_yX2_isWord ⟨(Nat.le_of_ble_eq_true rfl), (Nat.le_of_ble_eq_true rfl)⟩ (q0 := 8) rfl (by decide) rfl rfl rfl rfl hl.1 rfl (Nat.le_of_ble_eq_true rfl) dX3_readStatement_51 ⟨Nat.le_refl _, Nat.le_refl _⟩ (fun H locs hP => ?_)
      refine r_ifz_eq (tgt := 64) hx hb dX3_readStatement_54 (by decide) (fun c54 => ?_) (fun c54 => ?_)
      · have h := k_nf c54 h
        refine lv_aload_n hx hb dX3_readStatement_64 rfl (lv_at hl 0 rfl) ?_
        refine r_get C hP (ci := 3) rfl uin_X3 9 (by decide) 0 (by decide) rfl qFL_RX3_48 rfl rfl dX3_readStatement_65 ?_
        refine va_ldcSw hx hb C.2.2.2.2.2.1 C.2.2.2.2.2.2.2.2.2.2.2.2.2.1.2.2.2.1 dX3_readStatement_68 ?_
        obtain ⟨b6, h1, h⟩ := k_ob h
        refine k_callVi C hP hap hAA (c_X2_isWord_w3 l ev (fun j => ad (j + 8)) (x_tape σ2)   _ h1) (em_Tr) (apart_T hap) gz_X2_isWord qML_RX3_413 qIM_yX2_isWord qSE_yX2_isWord ⟨(Nat.le_of_ble_eq_true rfl), (Nat.le_of_ble_eq_true rfl)⟩ (q0 := 8) rfl (by decide) rfl rfl rfl rfl hl.1 rfl (Nat.le_of_ble_eq_true rfl) dX3_readStatement_71 ⟨Nat.le_refl _, Nat.le_refl _⟩ (fun H locs hP => ?_)
        refine r_ifz_eq (tgt := 82) hx hb dX3_readStatement_74 (by decide) (fun c74 => ?_) (fun c74 => ?_)
        · have h := k_nf c74 h
          refine lv_aload_n hx hb dX3_readStatement_82 rfl (lv_at hl 0 rfl) ?_
          refine r_get C hP (ci := 3) rfl uin_X3 9 (by decide) 0 (by decide) rfl qFL_RX3_48 rfl rfl dX3_readStatement_83 ?_
          refine va_ldcSw hx hb C.2.2.2.2.2.1 C.2.2.2.2.2.2.2.2.2.2.2.2.2.1.2.2.2.2 dX3_readStatement_86 ?_
          obtain ⟨b7, h1, h⟩ := k_ob h
          refine k_callVi C hP hap hAA (c_X2_isWord_w4 l ev (fun j => ad (j + 8)) (x_tape σ2)   _ h1) (em_Tr) (apart_T hap) gz_X2_isWord qML_RX3_413 qIM_yX2_isWord qSE_yX2_isWord ⟨(Nat.le_of_ble_eq_true rfl), (Nat.le_of_ble_eq_true rfl)⟩ (q0 := 8) rfl (by decide) rfl rfl rfl rfl hl.1 rfl (Nat.le_of_ble_eq_true rfl) dX3_readStatement_89 ⟨Nat.le_refl _, Nat.le_refl _⟩ (fun H locs hP => ?_)
          refine r_ifz_eq (tgt := 115) hx hb dX3_readStatement_92 (by decide) (fun c92 => ?_) (fun c92 => ?_)
          · have h := k_nf c92 h
            refine lv_iconst (v := 0) hx hb dX3_readStatement_115 (by decide) ?_
            exact e_zret C hend hP (k_some2 h).1 (congrArg (xw ev ad) (k_some2 h).2) dX3_readStatement_116 rfl
          · have h := k_if c92 h
            refine lv_aload_n hx hb dX3_readStatement_95 rfl (lv_at hl 0 rfl) ?_
            refine r_get C hP (ci := 3) rfl uin_X3 7 (by decide) 0 (by decide) rfl qFL_RX3_36 rfl rfl dX3_readStatement_96 ?_
            refine lv_bipush (v := 6) hx hb dX3_readStatement_99 (by decide) ?_
            refine lv_icmp_ge (tgt := 115) hx hb dX3_readStatement_101 (by decide) (fun c101 => ?_) (fun c101 => ?_)
            · have h := k_if c101 h
              refine lv_iconst (v := 0) hx hb dX3_readStatement_115 (by decide) ?_
              exact e_zret C hend hP (k_some2 h).1 (congrArg (xw ev ad) (k_some2 h).2) dX3_readStatement_116 rfl
            · have h := k_nf c101 h
              refine lv_aload_n hx hb dX3_readStatement_104 rfl (lv_at hl 0 rfl) ?_
              obtain ⟨b9, σ8, h1, h⟩ := k_ob2 h
              refine k_callVi C hP hap hAA (c_X3_readPlayer l ev ad σ2   _ _ h1) Emb.same hap gz_X3_readPlayer qML_RX3_433 qIM_yX3_readPlayer qSE_yX3_readPlayer ⟨(Nat.le_of_ble_eq_true rfl), (Nat.le_of_ble_eq_true rfl)⟩ (q0 := 0) rfl (by decide) rfl rfl rfl rfl hl.1 rfl (Nat.le_of_ble_eq_true rfl) dX3_readStatement_105 ⟨Nat.le_refl _, Nat.le_refl _⟩ (fun H locs hP => ?_)
              refine r_ifz_eq (tgt := 115) hx hb dX3_readStatement_108 (by decide) (fun c108 => ?_) (fun c108 => ?_)
              · have h := k_nf c108 h
                refine lv_iconst (v := 0) hx hb dX3_readStatement_115 (by decide) ?_
                exact e_zret C hend hP (k_some2 h).1 (congrArg (xw ev ad) (k_some2 h).2) dX3_readStatement_116 rfl
              · have h := k_if c108 h
                refine lv_iconst (v := 1) hx hb dX3_readStatement_111 (by decide) ?_
                refine lv_goto (tgt := 116) hx hb dX3_readStatement_112 (by decide) ?_
                exact e_zret C hend hP (k_some2 h).1 (congrArg (xw ev ad) (k_some2 h).2) dX3_readStatement_116 rfl
        · have h := k_if c74 h
          refine lv_aload_n hx hb dX3_readStatement_77 rfl (lv_at hl 0 rfl) ?_
          obtain ⟨b11, σ10, h1, h⟩ := k_ob2 h
          refine k_callVi C hP hap hAA (c_X3_readTurn l ev ad σ2   _ _ h1) Emb.same hap gz_X3_readTurn qML_RX3_428 qIM_yX3_readTurn qSE_yX3_readTurn ⟨(Nat.le_of_ble_eq_true rfl), (Nat.le_of_ble_eq_true rfl)⟩ (q0 := 0) rfl (by decide) rfl rfl rfl rfl hl.1 rfl (Nat.le_of_ble_eq_true rfl) dX3_readStatement_78 ⟨Nat.le_refl _, Nat.le_refl _⟩ (fun H locs hP => ?_)
          exact e_zret C hend hP (k_some2 h).1 (congrArg (xw ev ad) (k_some2 h).2) dX3_readStatement_81 rfl
      · have h := k_if c54 h
        refine lv_aload_n hx hb dX3_readStatement_57 rfl (lv_at hl 0 rfl) ?_
        refine lv_bipush (v := 100) hx hb dX3_readStatement_58 (by decide) ?_
        obtain ⟨b13, σ12, h1, h⟩ := k_ob2 h
        refine k_callVi C hP hap hAA (c_X3_readMove l ev ad σ2 100   _ _ h1) Emb.same hap gz_X3_readMove qML_RX3_422 qIM_yX3_readMove qSE_yX3_readMove ⟨(Nat.le_of_ble_eq_true rfl), (Nat.le_of_ble_eq_true rfl)⟩ (q0 := 0) rfl (by decide) rfl rfl rfl rfl hl.1 rfl (Nat.le_of_ble_eq_true rfl) dX3_readStatement_60 ⟨Nat.le_refl _, Nat.le_refl _⟩ (fun H locs hP => ?_)
        exact e_zret C hend hP (k_some2 h).1 (congrArg (xw ev ad) (k_some2 h).2) dX3_readStatement_63 rfl
    · have h := k_if c35 h
      refine lv_aload_n hx hb dX3_readStatement_38 rfl (lv_at hl 0 rfl) ?_
      refine lv_iconst (v := 0) hx hb dX3_readStatement_39 (by decide) ?_
      obtain ⟨b15, σ14, h1, h⟩ := k_ob2 h
      refine k_callVi C hP hap hAA (c_X3_readMove l ev ad σ2 0   _ _ h1) Emb.same hap gz_X3_readMove qML_RX3_422 qIM_yX3_readMove qSE_yX3_readMove ⟨(Nat.le_of_ble_eq_true rfl), (Nat.le_of_ble_eq_true rfl)⟩ (q0 := 0) rfl (by decide) rfl rfl rfl rfl hl.1 rfl (Nat.le_of_ble_eq_true rfl) dX3_readStatement_40 ⟨Nat.le_refl _, Nat.le_refl _⟩ (fun H locs hP => ?_)
      exact e_zret C hend hP (k_some2 h).1 (congrArg (xw ev ad) (k_some2 h).2) dX3_readStatement_43 rfl
  · have h := k_if c17 h
    refine lv_aload_n hx hb dX3_readStatement_20 rfl (lv_at hl 0 rfl) ?_
    obtain ⟨b17, σ16, h1, h⟩ := k_ob2 h
    refine k_callVi C hP hap hAA (c_X3_readSize l ev ad σ2   _ _ h1) Emb.same hap gz_X3_readSize qML_RX3_417 qIM_yX3_readSize qSE_yX3_readSize ⟨(Nat.le_of_ble_eq_true rfl), (Nat.le_of_ble_eq_true rfl)⟩ (q0 := 0) rfl (by decide) rfl rfl rfl rfl hl.1 rfl (Nat.le_of_ble_eq_true rfl) dX3_readStatement_21 ⟨Nat.le_refl _, Nat.le_refl _⟩ (fun H locs hP => ?_)
    exact e_zret C hend hP (k_some2 h).1 (congrArg (xw ev ad) (k_some2 h).2) dX3_readStatement_24 rfl
def f_X3_readStatements_L2_b   (rec2 : Int32 → XX → Option (Int32 × XX)) (x1 : Int32) (σ2 : XX) : Option (Int32 × XX) :=
  if 250 < x1 then some ((-1), σ2) else ob2 (f_X3_readStatement σ2) (fun b4 σ3 => if b4 = true then ob (f_X2_step (x_tape σ3)) (fun σ5 => lt (x_tape' σ3 σ5) (fun σ6 => if (f_X2_isAtEnd (x_tape σ6)) = true then some (x1, σ6) else ob (f_X2_isSign (x_tape σ6)) (fun b7 => if b7 = true then lt (x1 + 1) (fun x8 => rec2 x8 σ6) else some ((-1), σ6)))) else some ((-1), σ3))
def f_X3_readStatements_L2   (x1 : Int32) (σ2 : XX) : Option (Int32 × XX) :=
  lp (fun _ _ => none) (f_X3_readStatements_L2_b  ) FU x1 σ2
def f_X3_readStatements (σ : XX) : Option (Int32 × XX) :=
  f_X3_readStatements_L2 1 σ
set_option maxHeartbeats 4000000 in
set_option maxRecDepth 100000 in
theorem c_X3_readStatements (l : Launch) (ev : EV) (ad : Nat → Nat) (σ : XX)   (r : Int32) (σ' : XX) (h : f_X3_readStatements σ = some (r, σ')) : Ct l yX3_readStatements prog_1_method_89_code 2 (Option.some Jvm.ClassFile.FieldType.int) (rmk 10 343) ev 26 ad (xw ev ad σ) (xw ev ad σ') [.ref (ad 0)] (some (.int r)) := by
  refine Ct.of (by decide +kernel) (Nat.le_of_ble_eq_true rfl) ?_
  intro p e s m args below meth c Qc C hap hP hend ls hl
  have hAA : ∀ j, j < 26 → inA ad 26 (ad j) := fun j hj => ⟨j, hj, rfl⟩
  have hx := C.1
  have hb := C.2.1
  have hl : lv_has ls 2 [(0, .ref (ad 0))] := hl
  have h := (f_X3_readStatements.eq_1 _ ).symm.trans h
  refine lv_iconst (v := 1) hx hb dX3_readStatements_0 (by decide) ?_
  refine lv_istore_n (lv' := [(1, .int 1), (0, .ref (ad 0))]) hx hb dX3_readStatements_1 rfl hl (by decide) rfl (fun ls hl => ?_)
  have hL2 : ∀ (n : Nat) (x1 : Int32) (σ2 : XX) (H : Heap) (locs : List Loc) (ls : Array Slot), lp (fun _ _ => none) (f_X3_readStatements_L2_b  ) n x1 σ2 = some (r, σ') → PS ev 26 ad (xw ev ad σ2) (inA ad 26) s H locs → lv_has ls 2 [(0, .ref (ad 0)), (1, .int x1)] → WW ev p l e (rmk 10 343) s m args below meth c Qc ad 26 H locs 2 ls [] := by
    intro n
    induction n with
    | zero =>
      intro x1 σ2 H locs ls h; exact k_none h
    | succ n ih =>
      intro x1 σ2 H locs ls h hP hl
      have h : f_X3_readStatements_L2_b   (lp (fun _ _ => none) (f_X3_readStatements_L2_b  ) n) x1 σ2 = some (r, σ') := h
      have h := (f_X3_readStatements_L2_b.eq_1 _ _ _ ).symm.trans h
      refine lv_iload_n hx hb dX3_readStatements_2 rfl (lv_at hl 1 rfl) ?_
      refine lv_sipush (v := 250) hx hb dX3_readStatements_3 (by decide) ?_
      refine lv_icmp_gt (tgt := 55) hx hb dX3_readStatements_6 (by decide) (fun c6 => ?_) (fun c6 => ?_)
      · have h := k_if c6 h
        refine lv_iconst (v := (-1)) hx hb dX3_readStatements_55 (by decide) ?_
        exact e_iret C hend hP (k_some2 h).1 (congrArg (xw ev ad) (k_some2 h).2) dX3_readStatements_56
      · have h := k_nf c6 h
        refine lv_aload_n hx hb dX3_readStatements_9 rfl (lv_at hl 0 rfl) ?_
        obtain ⟨b4, σ3, h1, h⟩ := k_ob2 h
        refine k_callVi C hP hap hAA (c_X3_readStatement l ev ad σ2   _ _ h1) Emb.same hap gz_X3_readStatement qML_RX3_399 qIM_yX3_readStatement qSE_yX3_readStatement ⟨(Nat.le_of_ble_eq_true rfl), (Nat.le_of_ble_eq_true rfl)⟩ (q0 := 0) rfl (by decide) rfl rfl rfl rfl hl.1 rfl (Nat.le_of_ble_eq_true rfl) dX3_readStatements_10 ⟨Nat.le_refl _, Nat.le_refl _⟩ (fun H locs hP => ?_)
        refine r_ifz_ne (tgt := 18) hx hb dX3_readStatements_13 (by decide) (fun c13 => ?_) (fun c13 => ?_)
        · have h := k_if c13 h
          refine lv_aload_n hx hb dX3_readStatements_18 rfl (lv_at hl 0 rfl) ?_
          refine r_get C hP (ci := 3) rfl uin_X3 9 (by decide) 0 (by decide) rfl qFL_RX3_48 rfl rfl dX3_readStatements_19 ?_
          obtain ⟨σ5, h1, h⟩ := k_ob h
          refine k_callVv C hP hap hAA (c_X2_step l ev (fun j => ad (j + 8)) (x_tape σ3)   _ h1) (em_T) (apart_T hap) gz_X2_step qML_RX3_402 qIM_yX2_step qSE_yX2_step ⟨(Nat.le_of_ble_eq_true rfl), (Nat.le_of_ble_eq_true rfl)⟩ (q0 := 8) rfl (by decide) rfl rfl rfl rfl hl.1 rfl (Nat.le_of_ble_eq_true rfl) dX3_readStatements_22 ⟨Nat.le_refl _, Nat.le_refl _⟩ (fun H locs hP => ?_)
          obtain ⟨σ6, eσ6, h⟩ := k_ltx h
          rw [← eσ6] at hP
          refine lv_aload_n hx hb dX3_readStatements_25 rfl (lv_at hl 0 rfl) ?_
          refine r_get C hP (ci := 3) rfl uin_X3 9 (by decide) 0 (by decide) rfl qFL_RX3_48 rfl rfl dX3_readStatements_26 ?_
          refine k_callVi C hP hap hAA (c_X2_isAtEnd l ev (fun j => ad (j + 8)) (x_tape σ6)   _ rfl) (em_Tr) (apart_T hap) gz_X2_isAtEnd qML_RX3_405 qIM_yX2_isAtEnd qSE_yX2_isAtEnd ⟨(Nat.le_of_ble_eq_true rfl), (Nat.le_of_ble_eq_true rfl)⟩ (q0 := 8) rfl (by decide) rfl rfl rfl rfl hl.1 rfl (Nat.le_of_ble_eq_true rfl) dX3_readStatements_29 ⟨Nat.le_refl _, Nat.le_refl _⟩ (fun H locs hP => ?_)
          refine r_ifz_eq (tgt := 37) hx hb dX3_readStatements_32 (by decide) (fun c32 => ?_) (fun c32 => ?_)
          · have h := k_nf c32 h
            refine lv_aload_n hx hb dX3_readStatements_37 rfl (lv_at hl 0 rfl) ?_
            refine r_get C hP (ci := 3) rfl uin_X3 9 (by decide) 0 (by decide) rfl qFL_RX3_48 rfl rfl dX3_readStatements_38 ?_
            obtain ⟨b7, h1, h⟩ := k_ob h
            refine k_callVi C hP hap hAA (c_X2_isSign l ev (fun j => ad (j + 8)) (x_tape σ6)   _ h1) (em_Tr) (apart_T hap) gz_X2_isSign qML_RX3_408 qIM_yX2_isSign qSE_yX2_isSign ⟨(Nat.le_of_ble_eq_true rfl), (Nat.le_of_ble_eq_true rfl)⟩ (q0 := 8) rfl (by decide) rfl rfl rfl rfl hl.1 rfl (Nat.le_of_ble_eq_true rfl) dX3_readStatements_41 ⟨Nat.le_refl _, Nat.le_refl _⟩ (fun H locs hP => ?_)
            refine r_ifz_ne (tgt := 49) hx hb dX3_readStatements_44 (by decide) (fun c44 => ?_) (fun c44 => ?_)
            · have h := k_if c44 h
              obtain ⟨x8, ex8, h⟩ := k_ltx h
              refine lv_iinc (v := x8) (lv' := [(1, .int x8), (0, .ref (ad 0))]) hx hb dX3_readStatements_49 hl (k := 1) rfl (by rw [ex8]; rfl) (by decide) rfl (fun ls hl => ?_)
              refine lv_goto (tgt := 2) hx hb dX3_readStatements_52 (by decide) ?_
              exact ih _ _ _ _ _ h hP (lv_sub hl [1, 0] rfl)
            · have h := k_nf c44 h
              refine lv_iconst (v := (-1)) hx hb dX3_readStatements_47 (by decide) ?_
              exact e_iret C hend hP (k_some2 h).1 (congrArg (xw ev ad) (k_some2 h).2) dX3_readStatements_48
          · have h := k_if c32 h
            refine lv_iload_n hx hb dX3_readStatements_35 rfl (lv_at hl 1 rfl) ?_
            exact e_iret C hend hP (k_some2 h).1 (congrArg (xw ev ad) (k_some2 h).2) dX3_readStatements_36
        · have h := k_nf c13 h
          refine lv_iconst (v := (-1)) hx hb dX3_readStatements_16 (by decide) ?_
          exact e_iret C hend hP (k_some2 h).1 (congrArg (xw ev ad) (k_some2 h).2) dX3_readStatements_17
  exact hL2 FU _ _ _ _ _ h hP (lv_sub hl [1, 0] rfl)
def f_X3_board (σ : XX) : Option (Int32 × XX) :=
  ob (f_X0_become (x_thought σ) (x_now σ)) (fun σ1 => lt (x_thought' σ σ1) (fun σ2 => lt (x_crewRead' σ2 (x_crew σ2)) (fun σ3 => ob (f_X2_rewind (x_tape σ3)) (fun σ4 => lt (x_tape' σ3 σ4) (fun σ5 => ob2 (f_X3_readStatements σ5) (fun x7 σ6 => lt (t_from (x_tape σ6)) (fun x8 => lt (x_tape' σ6 (t_length' (x_tape σ6) 0)) (fun σ9 => if x7 = (-1) then ob2 (f_X3_refuse σ9 (-2)) (fun x14 σ13 => some (((-20) - x8), σ13)) else ob (f_X0_become (x_now σ9) (x_thought σ9)) (fun σ10 => lt (x_now' σ9 σ10) (fun σ11 => lt (x_crew' σ11 (x_crewRead σ11)) (fun σ12 => some (x7, σ12))))))))))))
set_option maxHeartbeats 4000000 in
set_option maxRecDepth 100000 in
theorem c_X3_board (l : Launch) (ev : EV) (ad : Nat → Nat) (σ : XX)   (r : Int32) (σ' : XX) (h : f_X3_board σ = some (r, σ')) : Ct l yX3_board prog_1_method_14_code 3 (Option.some Jvm.ClassFile.FieldType.int) (rmk 11 364) ev 26 ad (xw ev ad σ) (xw ev ad σ') [.ref (ad 0)] (some (.int r)) := by
  refine Ct.of (by decide +kernel) (Nat.le_of_ble_eq_true rfl) ?_
  intro p e s m args below meth c Qc C hap hP hend ls hl
  have hAA : ∀ j, j < 26 → inA ad 26 (ad j) := fun j hj => ⟨j, hj, rfl⟩
  have hx := C.1
  have hb := C.2.1
  have hl : lv_has ls 3 [(0, .ref (ad 0))] := hl
  have h := (f_X3_board.eq_1 _ ).symm.trans h
  refine lv_aload_n hx hb dX3_board_0 rfl (lv_at hl 0 rfl) ?_
  refine r_get C hP (ci := 3) rfl uin_X3 1 (by decide) 0 (by decide) rfl qFL_RX3_16 rfl rfl dX3_board_1 ?_
  refine lv_aload_n hx hb dX3_board_4 rfl (lv_at hl 0 rfl) ?_
  refine r_get C hP (ci := 3) rfl uin_X3 0 (by decide) 0 (by decide) rfl qFL_RX3_10 rfl rfl dX3_board_5 ?_
  obtain ⟨σ1, h1, h⟩ := k_ob h
  refine k_callVv C hP hap hAA (c_X0_become l ev (fun j => if j = 0 then ad 2 else ad 1) (x_thought σ) (x_now σ)   _ h1) (em_GG21) (apart_GG hap (by decide) (by decide) (by decide)) gz_X0_become qML_RX3_165 qIM_yX0_become qSE_yX0_become ⟨(Nat.le_of_ble_eq_true rfl), (Nat.le_of_ble_eq_true rfl)⟩ (q0 := 2) rfl (by decide) rfl rfl rfl rfl hl.1 rfl (Nat.le_of_ble_eq_true rfl) dX3_board_8 ⟨Nat.le_refl _, Nat.le_refl _⟩ (fun H locs hP => ?_)
  obtain ⟨σ2, eσ2, h⟩ := k_ltx h
  rw [← eσ2] at hP
  refine lv_aload_n hx hb dX3_board_11 rfl (lv_at hl 0 rfl) ?_
  refine lv_aload_n hx hb dX3_board_12 rfl (lv_at hl 0 rfl) ?_
  refine r_get C hP (ci := 3) rfl uin_X3 6 (by decide) 0 (by decide) rfl qFL_RX3_33 rfl rfl dX3_board_13 ?_
  obtain ⟨σ3, eσ3, h⟩ := k_ltx h
  refine pt_X_X3_crewRead C hP hap hAA eσ3 qFL_RX3_36 dX3_board_16 (fun H locs hP => ?_)
  refine lv_aload_n hx hb dX3_board_19 rfl (lv_at hl 0 rfl) ?_
  refine r_get C hP (ci := 3) rfl uin_X3 9 (by decide) 0 (by decide) rfl qFL_RX3_48 rfl rfl dX3_board_20 ?_
  obtain ⟨σ4, h1, h⟩ := k_ob h
  refine k_callVv C hP hap hAA (c_X2_rewind l ev (fun j => ad (j + 8)) (x_tape σ3)   _ h1) (em_T) (apart_T hap) gz_X2_rewind qML_RX3_169 qIM_yX2_rewind qSE_yX2_rewind ⟨(Nat.le_of_ble_eq_true rfl), (Nat.le_of_ble_eq_true rfl)⟩ (q0 := 8) rfl (by decide) rfl rfl rfl rfl hl.1 rfl (Nat.le_of_ble_eq_true rfl) dX3_board_23 ⟨Nat.le_refl _, Nat.le_refl _⟩ (fun H locs hP => ?_)
  obtain ⟨σ5, eσ5, h⟩ := k_ltx h
  rw [← eσ5] at hP
  refine lv_aload_n hx hb dX3_board_26 rfl (lv_at hl 0 rfl) ?_
  obtain ⟨x7, σ6, h1, h⟩ := k_ob2 h
  refine k_callVi C hP hap hAA (c_X3_readStatements l ev ad σ5   _ _ h1) Emb.same hap gz_X3_readStatements qML_RX3_172 qIM_yX3_readStatements qSE_yX3_readStatements ⟨(Nat.le_of_ble_eq_true rfl), (Nat.le_of_ble_eq_true rfl)⟩ (q0 := 0) rfl (by decide) rfl rfl rfl rfl hl.1 rfl (Nat.le_of_ble_eq_true rfl) dX3_board_27 ⟨Nat.le_refl _, Nat.le_refl _⟩ (fun H locs hP => ?_)
  refine lv_istore_n (lv' := [(1, .int x7), (0, .ref (ad 0))]) hx hb dX3_board_30 rfl hl (by decide) rfl (fun ls hl => ?_)
  refine lv_aload_n hx hb dX3_board_31 rfl (lv_at hl 1 rfl) ?_
  refine r_get C hP (ci := 3) rfl uin_X3 9 (by decide) 0 (by decide) rfl qFL_RX3_48 rfl rfl dX3_board_32 ?_
  refine r_get C hP (ci := 2) rfl uin_X2 2 (by decide) 8 (by decide) rfl qFL_RX3_176 rfl rfl dX3_board_35 ?_
  refine lv_topi (fun x8 ex8 => ?_)
  have h := k_lt ex8 h
  refine lv_istore_n (lv' := [(2, .int x8), (1, .int x7), (0, .ref (ad 0))]) hx hb dX3_board_38 rfl hl (by decide) rfl (fun ls hl => ?_)
  refine lv_aload_n hx hb dX3_board_39 rfl (lv_at hl 2 rfl) ?_
  refine r_get C hP (ci := 3) rfl uin_X3 9 (by decide) 0 (by decide) rfl qFL_RX3_48 rfl rfl dX3_board_40 ?_
  refine lv_iconst (v := 0) hx hb dX3_board_43 (by decide) ?_
  obtain ⟨σ9, eσ9, h⟩ := k_ltx h
  refine pt_X8_X2_length C hP hap hAA eσ9 qFL_RX3_159 dX3_board_44 (fun H locs hP => ?_)
  refine lv_iload_n hx hb dX3_board_47 rfl (lv_at hl 1 rfl) ?_
  refine lv_iconst (v := (-1)) hx hb dX3_board_48 (by decide) ?_
  refine lv_icmp_ne (tgt := 64) hx hb dX3_board_49 (by decide) (fun c49 => ?_) (fun c49 => ?_)
  · have h := k_nf c49 h
    refine lv_aload_n hx hb dX3_board_64 rfl (lv_at hl 2 rfl) ?_
    refine r_get C hP (ci := 3) rfl uin_X3 0 (by decide) 0 (by decide) rfl qFL_RX3_10 rfl rfl dX3_board_65 ?_
    refine lv_aload_n hx hb dX3_board_68 rfl (lv_at hl 2 rfl) ?_
    refine r_get C hP (ci := 3) rfl uin_X3 1 (by decide) 0 (by decide) rfl qFL_RX3_16 rfl rfl dX3_board_69 ?_
    obtain ⟨σ10, h1, h⟩ := k_ob h
    refine k_callVv C hP hap hAA (c_X0_become l ev (fun j => if j = 0 then ad 1 else ad 2) (x_now σ9) (x_thought σ9)   _ h1) (em_GG12) (apart_GG hap (by decide) (by decide) (by decide)) gz_X0_become qML_RX3_165 qIM_yX0_become qSE_yX0_become ⟨(Nat.le_of_ble_eq_true rfl), (Nat.le_of_ble_eq_true rfl)⟩ (q0 := 1) rfl (by decide) rfl rfl rfl rfl hl.1 rfl (Nat.le_of_ble_eq_true rfl) dX3_board_72 ⟨Nat.le_refl _, Nat.le_refl _⟩ (fun H locs hP => ?_)
    obtain ⟨σ11, eσ11, h⟩ := k_ltx h
    rw [← eσ11] at hP
    refine lv_aload_n hx hb dX3_board_75 rfl (lv_at hl 2 rfl) ?_
    refine lv_aload_n hx hb dX3_board_76 rfl (lv_at hl 2 rfl) ?_
    refine r_get C hP (ci := 3) rfl uin_X3 7 (by decide) 0 (by decide) rfl qFL_RX3_36 rfl rfl dX3_board_77 ?_
    obtain ⟨σ12, eσ12, h⟩ := k_ltx h
    refine pt_X_X3_crew C hP hap hAA eσ12 qFL_RX3_33 dX3_board_80 (fun H locs hP => ?_)
    refine lv_iload_n hx hb dX3_board_83 rfl (lv_at hl 1 rfl) ?_
    exact e_iret C hend hP (k_some2 h).1 (congrArg (xw ev ad) (k_some2 h).2) dX3_board_84
  · have h := k_if c49 h
    refine lv_aload_n hx hb dX3_board_52 rfl (lv_at hl 2 rfl) ?_
    refine lv_bipush (v := (-2)) hx hb dX3_board_53 (by decide) ?_
    obtain ⟨x14, σ13, h1, h⟩ := k_ob2 h
    refine k_callVi C hP hap hAA (c_X3_refuse l ev ad σ9 (-2)   _ _ h1) Emb.same hap gz_X3_refuse qML_RX3_60 qIM_yX3_refuse qSE_yX3_refuse ⟨(Nat.le_of_ble_eq_true rfl), (Nat.le_of_ble_eq_true rfl)⟩ (q0 := 0) rfl (by decide) rfl rfl rfl rfl hl.1 rfl (Nat.le_of_ble_eq_true rfl) dX3_board_55 ⟨Nat.le_refl _, Nat.le_refl _⟩ (fun H locs hP => ?_)
    refine lv_pop hx hb dX3_board_58 rfl ?_
    refine lv_bipush (v := (-20)) hx hb dX3_board_59 (by decide) ?_
    refine lv_iload_n hx hb dX3_board_61 rfl (lv_at hl 0 rfl) ?_
    refine lv_isub hx hb dX3_board_62 ?_
    exact e_iret C hend hP (k_some2 h).1 (congrArg (xw ev ad) (k_some2 h).2) dX3_board_63
def f_X3_seatOf (a1 : Int32) (a2 : Int32) (a3 : Int32) : Int32 :=
  if (a2 &&& a1) = 0 then if (a3 &&& a1) = 0 then (-1) else 1 else 0
set_option maxHeartbeats 4000000 in
set_option maxRecDepth 100000 in
theorem c_X3_seatOf (l : Launch) (ev : EV) (ad : Nat → Nat) (a1 : Int32) (a2 : Int32) (a3 : Int32)   (r : Int32)  (h : f_X3_seatOf a1 a2 a3 = r) : Ct l yX3_seatOf prog_1_method_66_code 3 (Option.some Jvm.ClassFile.FieldType.int) (rmk 0 0) ev 0 ad w00 w00 [.int a1, .int a2, .int a3] (some (.int r)) := by
  refine Ct.of (by decide +kernel) (Nat.le_of_ble_eq_true rfl) ?_
  intro p e s m args below meth c Qc C hap hP hend ls hl
  have hAA : ∀ j, j < 0 → inA ad 0 (ad j) := fun j hj => ⟨j, hj, rfl⟩
  have hx := C.1
  have hb := C.2.1
  have hl : lv_has ls 3 [(0, .int a1), (1, .int a2), (2, .int a3)] := hl
  have h := (f_X3_seatOf.eq_1 _ _ _ ).symm.trans h
  refine lv_iload_n hx hb dX3_seatOf_0 rfl (lv_at hl 1 rfl) ?_
  refine lv_iload_n hx hb dX3_seatOf_1 rfl (lv_at hl 0 rfl) ?_
  refine lv_iand hx hb dX3_seatOf_2 ?_
  refine lv_if_eq (tgt := 8) hx hb dX3_seatOf_3 (by decide) (fun c3 => ?_) (fun c3 => ?_)
  · have h := k_if c3 h
    refine lv_iload_n hx hb dX3_seatOf_8 rfl (lv_at hl 2 rfl) ?_
    refine lv_iload_n hx hb dX3_seatOf_9 rfl (lv_at hl 0 rfl) ?_
    refine lv_iand hx hb dX3_seatOf_10 ?_
    refine lv_if_eq (tgt := 18) hx hb dX3_seatOf_11 (by decide) (fun c11 => ?_) (fun c11 => ?_)
    · have h := k_if c11 h
      refine lv_iconst (v := (-1)) hx hb dX3_seatOf_18 (by decide) ?_
      exact e_iret C hend hP h rfl dX3_seatOf_19
    · have h := k_nf c11 h
      refine lv_iconst (v := 1) hx hb dX3_seatOf_14 (by decide) ?_
      refine lv_goto (tgt := 19) hx hb dX3_seatOf_15 (by decide) ?_
      exact e_iret C hend hP h rfl dX3_seatOf_19
  · have h := k_nf c3 h
    refine lv_iconst (v := 0) hx hb dX3_seatOf_6 (by decide) ?_
    exact e_iret C hend hP h rfl dX3_seatOf_7
def f_X3_fieldOf (σ : XX) (a1 : Int32) (a2 : Int32) : Option (Int32 × XX) :=
  if (f_X0_isField (x_now σ) a1) = true then lt (ishl 1 a1) (fun x1 => if a2 = 0 then ob (f_X0_around (x_now σ) x1) (fun y2 => some ((f_J13_bitCount_95d88 (y2 &&& (g_hedges (x_now σ)))), σ)) else if a2 = 1 then if ((g_dug (x_now σ)) &&& x1) = 0 then some ((f_X3_truth 0), σ) else some ((f_X3_truth 1), σ) else if a2 = 2 then some ((f_X3_seatOf x1 (g_ownedBy0 (x_now σ)) (g_ownedBy1 (x_now σ))), σ) else if a2 = 3 then ob (f_X0_tinted (x_now σ) 0) (fun x3 => ob (f_X0_tinted (x_now σ) 1) (fun x4 => some ((f_X3_seatOf x1 x3 x4), σ))) else if a2 = 4 then some ((f_X0_edgeAbove (x_now σ) a1), σ) else if a2 = 5 then some ((f_X0_edgeBelow (x_now σ) a1), σ) else if a2 = 6 then ob (f_X0_edgeLeft (x_now σ) a1) (fun x5 => some (x5, σ)) else if a2 = 7 then ob (f_X0_edgeRight (x_now σ) a1) (fun x6 => some (x6, σ)) else if a2 = 8 then ob (f_X0_touched (x_now σ) (g_rimEdges (x_now σ))) (fun x7 => if (x7 &&& x1) = 0 then some ((f_X3_truth 0), σ) else some ((f_X3_truth 1), σ)) else ob2 (f_X3_refuse σ (-2)) (fun x9 σ8 => some (x9, σ8))) else ob2 (f_X3_refuse σ (-2)) (fun x11 σ10 => some (x11, σ10))
set_option maxHeartbeats 4000000 in
set_option maxRecDepth 100000 in
theorem c_X3_fieldOf (l : Launch) (ev : EV) (ad : Nat → Nat) (σ : XX) (a1 : Int32) (a2 : Int32)   (r : Int32) (σ' : XX) (h : f_X3_fieldOf σ a1 a2 = some (r, σ')) : Ct l yX3_fieldOf prog_1_method_15_code 4 (Option.some Jvm.ClassFile.FieldType.int) (rmk 6 142) ev 26 ad (xw ev ad σ) (xw ev ad σ') [.ref (ad 0), .int a1, .int a2] (some (.int r)) := by
  refine Ct.of (by decide +kernel) (Nat.le_of_ble_eq_true rfl) ?_
  intro p e s m args below meth c Qc C hap hP hend ls hl
  have hAA : ∀ j, j < 26 → inA ad 26 (ad j) := fun j hj => ⟨j, hj, rfl⟩
  have hx := C.1
  have hb := C.2.1
  have hl : lv_has ls 4 [(0, .ref (ad 0)), (1, .int a1), (2, .int a2)] := hl
  have h := (f_X3_fieldOf.eq_1 _ _ _ ).symm.trans h
  refine lv_aload_n hx hb dX3_fieldOf_0 rfl (lv_at hl 0 rfl) ?_
  refine r_get C hP (ci := 3) rfl uin_X3 0 (by decide) 0 (by decide) rfl qFL_RX3_10 rfl rfl dX3_fieldOf_1 ?_
  refine lv_iload_n hx hb dX3_fieldOf_4 rfl (lv_at hl 1 rfl) ?_
  refine k_callVi C hP hap hAA (c_X0_isField l ev (fun j => ad (j + 1)) (x_now σ) a1   _ rfl) (em_G1r) (apart_1 _) gz_X0_isField qML_RX3_179 qIM_yX0_isField qSE_yX0_isField ⟨(Nat.le_of_ble_eq_true rfl), (Nat.le_of_ble_eq_true rfl)⟩ (q0 := 1) rfl (by decide) rfl rfl rfl rfl hl.1 rfl (Nat.le_of_ble_eq_true rfl) dX3_fieldOf_5 ⟨Nat.le_refl _, Nat.le_refl _⟩ (fun H locs hP => ?_)
  refine r_ifz_ne (tgt := 18) hx hb dX3_fieldOf_8 (by decide) (fun c8 => ?_) (fun c8 => ?_)
  · have h := k_if c8 h
    refine lv_iconst (v := 1) hx hb dX3_fieldOf_18 (by decide) ?_
    refine lv_iload_n hx hb dX3_fieldOf_19 rfl (lv_at hl 1 rfl) ?_
    refine r_ishl hx hb dX3_fieldOf_20 ?_
    refine lv_topi (fun x1 ex1 => ?_)
    have h := k_lt ex1 h
    refine lv_istore_n (lv' := [(3, .int x1), (0, .ref (ad 0)), (1, .int a1), (2, .int a2)]) hx hb dX3_fieldOf_21 rfl hl (by decide) rfl (fun ls hl => ?_)
    refine lv_iload_n hx hb dX3_fieldOf_22 rfl (lv_at hl 3 rfl) ?_
    by_cases cs0 : a2 = 0
    · have h := k_if cs0 h
      refine r_tabIn (tgt := 72) (off := 49) (i := 0) hx hb dX3_fieldOf_23 cs0 (by decide) (by decide) (by decide) (by decide) ?_
      refine lv_aload_n hx hb dX3_fieldOf_72 rfl (lv_at hl 1 rfl) ?_
      refine r_get C hP (ci := 3) rfl uin_X3 0 (by decide) 0 (by decide) rfl qFL_RX3_10 rfl rfl dX3_fieldOf_73 ?_
      refine lv_iload_n hx hb dX3_fieldOf_76 rfl (lv_at hl 0 rfl) ?_
      obtain ⟨y2, h1, h⟩ := k_ob h
      refine k_callVl C hP hap hAA (c_X0_around l ev (fun j => ad (j + 1)) (x_now σ) x1   _ h1) (em_G1r) (apart_1 _) gz_X0_around qML_RX3_182 qIM_yX0_around qSE_yX0_around ⟨(Nat.le_of_ble_eq_true rfl), (Nat.le_of_ble_eq_true rfl)⟩ (q0 := 1) rfl (by decide) rfl rfl rfl rfl hl.1 rfl (Nat.le_of_ble_eq_true rfl) dX3_fieldOf_77 ⟨Nat.le_refl _, Nat.le_refl _⟩ (fun H locs hP => ?_)
      refine lv_aload_n hx hb dX3_fieldOf_80 rfl (lv_at hl 1 rfl) ?_
      refine r_get C hP (ci := 3) rfl uin_X3 0 (by decide) 0 (by decide) rfl qFL_RX3_10 rfl rfl dX3_fieldOf_81 ?_
      refine r_get C hP (ci := 0) rfl uin_X0 9 (by decide) 1 (by decide) rfl qFL_RX3_185 rfl rfl dX3_fieldOf_84 ?_
      refine lv_land hx hb dX3_fieldOf_87 ?_
      refine k_callSi C hP hap hAA (c_J13_bitCount_95d88 l ev ad (y2 &&& (g_hedges (x_now σ)))   _ rfl) Emb.none (apart_0 _) gz_J13_bitCount_95d88 qML_RX3_131 qSM_yJ13_bitCount_95d88 ⟨(Nat.le_of_ble_eq_true rfl), (Nat.le_of_ble_eq_true rfl)⟩ rfl hl.1 rfl (Nat.le_of_ble_eq_true rfl) dX3_fieldOf_88 ⟨Nat.le_refl _, Nat.le_refl _⟩ (fun H locs hP => ?_)
      exact e_iret C hend hP (k_some2 h).1 (congrArg (xw ev ad) (k_some2 h).2) dX3_fieldOf_91
    · have h := k_nf cs0 h
      by_cases cs1 : a2 = 1
      · have h := k_if cs1 h
        refine r_tabIn (tgt := 92) (off := 69) (i := 1) hx hb dX3_fieldOf_23 cs1 (by decide) (by decide) (by decide) (by decide) ?_
        refine lv_aload_n hx hb dX3_fieldOf_92 rfl (lv_at hl 1 rfl) ?_
        refine r_get C hP (ci := 3) rfl uin_X3 0 (by decide) 0 (by decide) rfl qFL_RX3_10 rfl rfl dX3_fieldOf_93 ?_
        refine r_get C hP (ci := 0) rfl uin_X0 10 (by decide) 1 (by decide) rfl qFL_RX3_189 rfl rfl dX3_fieldOf_96 ?_
        refine lv_iload_n hx hb dX3_fieldOf_99 rfl (lv_at hl 0 rfl) ?_
        refine lv_iand hx hb dX3_fieldOf_100 ?_
        refine lv_if_eq (tgt := 108) hx hb dX3_fieldOf_101 (by decide) (fun c101 => ?_) (fun c101 => ?_)
        · have h := k_if c101 h
          refine lv_iconst (v := 0) hx hb dX3_fieldOf_108 (by decide) ?_
          refine k_callSi C hP hap hAA (c_X3_truth l ev ad 0   _ rfl) Emb.none (apart_0 _) gz_X3_truth qML_RX3_192 qSM_yX3_truth ⟨(Nat.le_of_ble_eq_true rfl), (Nat.le_of_ble_eq_true rfl)⟩ rfl hl.1 rfl (Nat.le_of_ble_eq_true rfl) dX3_fieldOf_109 ⟨Nat.le_refl _, Nat.le_refl _⟩ (fun H locs hP => ?_)
          exact e_iret C hend hP (k_some2 h).1 (congrArg (xw ev ad) (k_some2 h).2) dX3_fieldOf_112
        · have h := k_nf c101 h
          refine lv_iconst (v := 1) hx hb dX3_fieldOf_104 (by decide) ?_
          refine lv_goto (tgt := 109) hx hb dX3_fieldOf_105 (by decide) ?_
          refine k_callSi C hP hap hAA (c_X3_truth l ev ad 1   _ rfl) Emb.none (apart_0 _) gz_X3_truth qML_RX3_192 qSM_yX3_truth ⟨(Nat.le_of_ble_eq_true rfl), (Nat.le_of_ble_eq_true rfl)⟩ rfl hl.1 rfl (Nat.le_of_ble_eq_true rfl) dX3_fieldOf_109 ⟨Nat.le_refl _, Nat.le_refl _⟩ (fun H locs hP => ?_)
          exact e_iret C hend hP (k_some2 h).1 (congrArg (xw ev ad) (k_some2 h).2) dX3_fieldOf_112
      · have h := k_nf cs1 h
        by_cases cs2 : a2 = 2
        · have h := k_if cs2 h
          refine r_tabIn (tgt := 113) (off := 90) (i := 2) hx hb dX3_fieldOf_23 cs2 (by decide) (by decide) (by decide) (by decide) ?_
          refine lv_iload_n hx hb dX3_fieldOf_113 rfl (lv_at hl 0 rfl) ?_
          refine lv_aload_n hx hb dX3_fieldOf_114 rfl (lv_at hl 1 rfl) ?_
          refine r_get C hP (ci := 3) rfl uin_X3 0 (by decide) 0 (by decide) rfl qFL_RX3_10 rfl rfl dX3_fieldOf_115 ?_
          refine r_get C hP (ci := 0) rfl uin_X0 11 (by decide) 1 (by decide) rfl qFL_RX3_196 rfl rfl dX3_fieldOf_118 ?_
          refine lv_aload_n hx hb dX3_fieldOf_121 rfl (lv_at hl 1 rfl) ?_
          refine r_get C hP (ci := 3) rfl uin_X3 0 (by decide) 0 (by decide) rfl qFL_RX3_10 rfl rfl dX3_fieldOf_122 ?_
          refine r_get C hP (ci := 0) rfl uin_X0 12 (by decide) 1 (by decide) rfl qFL_RX3_199 rfl rfl dX3_fieldOf_125 ?_
          refine k_callSi C hP hap hAA (c_X3_seatOf l ev ad x1 (g_ownedBy0 (x_now σ)) (g_ownedBy1 (x_now σ))   _ rfl) Emb.none (apart_0 _) gz_X3_seatOf qML_RX3_202 qSM_yX3_seatOf ⟨(Nat.le_of_ble_eq_true rfl), (Nat.le_of_ble_eq_true rfl)⟩ rfl hl.1 rfl (Nat.le_of_ble_eq_true rfl) dX3_fieldOf_128 ⟨Nat.le_refl _, Nat.le_refl _⟩ (fun H locs hP => ?_)
          exact e_iret C hend hP (k_some2 h).1 (congrArg (xw ev ad) (k_some2 h).2) dX3_fieldOf_131
        · have h := k_nf cs2 h
          by_cases cs3 : a2 = 3
          · have h := k_if cs3 h
            refine r_tabIn (tgt := 132) (off := 109) (i := 3) hx hb dX3_fieldOf_23 cs3 (by decide) (by decide) (by decide) (by decide) ?_
            refine lv_iload_n hx hb dX3_fieldOf_132 rfl (lv_at hl 0 rfl) ?_
            refine lv_aload_n hx hb dX3_fieldOf_133 rfl (lv_at hl 1 rfl) ?_
            refine r_get C hP (ci := 3) rfl uin_X3 0 (by decide) 0 (by decide) rfl qFL_RX3_10 rfl rfl dX3_fieldOf_134 ?_
            refine lv_iconst (v := 0) hx hb dX3_fieldOf_137 (by decide) ?_
            obtain ⟨x3, h1, h⟩ := k_ob h
            refine k_callVi C hP hap hAA (c_X0_tinted l ev (fun j => ad (j + 1)) (x_now σ) 0   _ h1) (em_G1r) (apart_1 _) gz_X0_tinted qML_RX3_206 qIM_yX0_tinted qSE_yX0_tinted ⟨(Nat.le_of_ble_eq_true rfl), (Nat.le_of_ble_eq_true rfl)⟩ (q0 := 1) rfl (by decide) rfl rfl rfl rfl hl.1 rfl (Nat.le_of_ble_eq_true rfl) dX3_fieldOf_138 ⟨Nat.le_refl _, Nat.le_refl _⟩ (fun H locs hP => ?_)
            refine lv_aload_n hx hb dX3_fieldOf_141 rfl (lv_at hl 1 rfl) ?_
            refine r_get C hP (ci := 3) rfl uin_X3 0 (by decide) 0 (by decide) rfl qFL_RX3_10 rfl rfl dX3_fieldOf_142 ?_
            refine lv_iconst (v := 1) hx hb dX3_fieldOf_145 (by decide) ?_
            obtain ⟨x4, h1, h⟩ := k_ob h
            refine k_callVi C hP hap hAA (c_X0_tinted l ev (fun j => ad (j + 1)) (x_now σ) 1   _ h1) (em_G1r) (apart_1 _) gz_X0_tinted qML_RX3_206 qIM_yX0_tinted qSE_yX0_tinted ⟨(Nat.le_of_ble_eq_true rfl), (Nat.le_of_ble_eq_true rfl)⟩ (q0 := 1) rfl (by decide) rfl rfl rfl rfl hl.1 rfl (Nat.le_of_ble_eq_true rfl) dX3_fieldOf_146 ⟨Nat.le_refl _, Nat.le_refl _⟩ (fun H locs hP => ?_)
            refine k_callSi C hP hap hAA (c_X3_seatOf l ev ad x1 x3 x4   _ rfl) Emb.none (apart_0 _) gz_X3_seatOf qML_RX3_202 qSM_yX3_seatOf ⟨(Nat.le_of_ble_eq_true rfl), (Nat.le_of_ble_eq_true rfl)⟩ rfl hl.1 rfl (Nat.le_of_ble_eq_true rfl) dX3_fieldOf_149 ⟨Nat.le_refl _, Nat.le_refl _⟩ (fun H locs hP => ?_)
            exact e_iret C hend hP (k_some2 h).1 (congrArg (xw ev ad) (k_some2 h).2) dX3_fieldOf_152
          · have h := k_nf cs3 h
            by_cases cs4 : a2 = 4
            · have h := k_if cs4 h
              refine r_tabIn (tgt := 153) (off := 130) (i := 4) hx hb dX3_fieldOf_23 cs4 (by decide) (by decide) (by decide) (by decide) ?_
              refine lv_aload_n hx hb dX3_fieldOf_153 rfl (lv_at hl 1 rfl) ?_
              refine r_get C hP (ci := 3) rfl uin_X3 0 (by decide) 0 (by decide) rfl qFL_RX3_10 rfl rfl dX3_fieldOf_154 ?_
              refine lv_iload_n hx hb dX3_fieldOf_157 rfl (lv_at hl 2 rfl) ?_
              refine k_callVi C hP hap hAA (c_X0_edgeAbove l ev (fun j => ad (j + 1)) (x_now σ) a1   _ rfl) (em_G1r) (apart_1 _) gz_X0_edgeAbove qML_RX3_209 qIM_yX0_edgeAbove qSE_yX0_edgeAbove ⟨(Nat.le_of_ble_eq_true rfl), (Nat.le_of_ble_eq_true rfl)⟩ (q0 := 1) rfl (by decide) rfl rfl rfl rfl hl.1 rfl (Nat.le_of_ble_eq_true rfl) dX3_fieldOf_158 ⟨Nat.le_refl _, Nat.le_refl _⟩ (fun H locs hP => ?_)
              exact e_iret C hend hP (k_some2 h).1 (congrArg (xw ev ad) (k_some2 h).2) dX3_fieldOf_161
            · have h := k_nf cs4 h
              by_cases cs5 : a2 = 5
              · have h := k_if cs5 h
                refine r_tabIn (tgt := 162) (off := 139) (i := 5) hx hb dX3_fieldOf_23 cs5 (by decide) (by decide) (by decide) (by decide) ?_
                refine lv_aload_n hx hb dX3_fieldOf_162 rfl (lv_at hl 1 rfl) ?_
                refine r_get C hP (ci := 3) rfl uin_X3 0 (by decide) 0 (by decide) rfl qFL_RX3_10 rfl rfl dX3_fieldOf_163 ?_
                refine lv_iload_n hx hb dX3_fieldOf_166 rfl (lv_at hl 2 rfl) ?_
                refine k_callVi C hP hap hAA (c_X0_edgeBelow l ev (fun j => ad (j + 1)) (x_now σ) a1   _ rfl) (em_G1r) (apart_1 _) gz_X0_edgeBelow qML_RX3_212 qIM_yX0_edgeBelow qSE_yX0_edgeBelow ⟨(Nat.le_of_ble_eq_true rfl), (Nat.le_of_ble_eq_true rfl)⟩ (q0 := 1) rfl (by decide) rfl rfl rfl rfl hl.1 rfl (Nat.le_of_ble_eq_true rfl) dX3_fieldOf_167 ⟨Nat.le_refl _, Nat.le_refl _⟩ (fun H locs hP => ?_)
                exact e_iret C hend hP (k_some2 h).1 (congrArg (xw ev ad) (k_some2 h).2) dX3_fieldOf_170
              · have h := k_nf cs5 h
                by_cases cs6 : a2 = 6
                · have h := k_if cs6 h
                  refine r_tabIn (tgt := 171) (off := 148) (i := 6) hx hb dX3_fieldOf_23 cs6 (by decide) (by decide) (by decide) (by decide) ?_
                  refine lv_aload_n hx hb dX3_fieldOf_171 rfl (lv_at hl 1 rfl) ?_
                  refine r_get C hP (ci := 3) rfl uin_X3 0 (by decide) 0 (by decide) rfl qFL_RX3_10 rfl rfl dX3_fieldOf_172 ?_
                  refine lv_iload_n hx hb dX3_fieldOf_175 rfl (lv_at hl 2 rfl) ?_
                  obtain ⟨x5, h1, h⟩ := k_ob h
                  refine k_callVi C hP hap hAA (c_X0_edgeLeft l ev (fun j => ad (j + 1)) (x_now σ) a1   _ h1) (em_G1r) (apart_1 _) gz_X0_edgeLeft qML_RX3_215 qIM_yX0_edgeLeft qSE_yX0_edgeLeft ⟨(Nat.le_of_ble_eq_true rfl), (Nat.le_of_ble_eq_true rfl)⟩ (q0 := 1) rfl (by decide) rfl rfl rfl rfl hl.1 rfl (Nat.le_of_ble_eq_true rfl) dX3_fieldOf_176 ⟨Nat.le_refl _, Nat.le_refl _⟩ (fun H locs hP => ?_)
                  exact e_iret C hend hP (k_some2 h).1 (congrArg (xw ev ad) (k_some2 h).2) dX3_fieldOf_179
                · have h := k_nf cs6 h
                  by_cases cs7 : a2 = 7
                  · have h := k_if cs7 h
                    refine r_tabIn (tgt := 180) (off := 157) (i := 7) hx hb dX3_fieldOf_23 cs7 (by decide) (by decide) (by decide) (by decide) ?_
                    refine lv_aload_n hx hb dX3_fieldOf_180 rfl (lv_at hl 1 rfl) ?_
                    refine r_get C hP (ci := 3) rfl uin_X3 0 (by decide) 0 (by decide) rfl qFL_RX3_10 rfl rfl dX3_fieldOf_181 ?_
                    refine lv_iload_n hx hb dX3_fieldOf_184 rfl (lv_at hl 2 rfl) ?_
                    obtain ⟨x6, h1, h⟩ := k_ob h
                    refine k_callVi C hP hap hAA (c_X0_edgeRight l ev (fun j => ad (j + 1)) (x_now σ) a1   _ h1) (em_G1r) (apart_1 _) gz_X0_edgeRight qML_RX3_218 qIM_yX0_edgeRight qSE_yX0_edgeRight ⟨(Nat.le_of_ble_eq_true rfl), (Nat.le_of_ble_eq_true rfl)⟩ (q0 := 1) rfl (by decide) rfl rfl rfl rfl hl.1 rfl (Nat.le_of_ble_eq_true rfl) dX3_fieldOf_185 ⟨Nat.le_refl _, Nat.le_refl _⟩ (fun H locs hP => ?_)
                    exact e_iret C hend hP (k_some2 h).1 (congrArg (xw ev ad) (k_some2 h).2) dX3_fieldOf_188
                  · have h := k_nf cs7 h
                    by_cases cs8 : a2 = 8
                    · have h := k_if cs8 h
                      refine r_tabIn (tgt := 189) (off := 166) (i := 8) hx hb dX3_fieldOf_23 cs8 (by decide) (by decide) (by decide) (by decide) ?_
                      refine lv_aload_n hx hb dX3_fieldOf_189 rfl (lv_at hl 1 rfl) ?_
                      refine r_get C hP (ci := 3) rfl uin_X3 0 (by decide) 0 (by decide) rfl qFL_RX3_10 rfl rfl dX3_fieldOf_190 ?_
                      refine lv_aload_n hx hb dX3_fieldOf_193 rfl (lv_at hl 1 rfl) ?_
                      refine r_get C hP (ci := 3) rfl uin_X3 0 (by decide) 0 (by decide) rfl qFL_RX3_10 rfl rfl dX3_fieldOf_194 ?_
                      refine r_get C hP (ci := 0) rfl uin_X0 8 (by decide) 1 (by decide) rfl qFL_RX3_221 rfl rfl dX3_fieldOf_197 ?_
                      obtain ⟨x7, h1, h⟩ := k_ob h
                      refine k_callVi C hP hap hAA (c_X0_touched l ev (fun j => ad (j + 1)) (x_now σ) (g_rimEdges (x_now σ))   _ h1) (em_G1r) (apart_1 _) gz_X0_touched qML_RX3_224 qIM_yX0_touched qSE_yX0_touched ⟨(Nat.le_of_ble_eq_true rfl), (Nat.le_of_ble_eq_true rfl)⟩ (q0 := 1) rfl (by decide) rfl rfl rfl rfl hl.1 rfl (Nat.le_of_ble_eq_true rfl) dX3_fieldOf_200 ⟨Nat.le_refl _, Nat.le_refl _⟩ (fun H locs hP => ?_)
                      refine lv_iload_n hx hb dX3_fieldOf_203 rfl (lv_at hl 0 rfl) ?_
                      refine lv_iand hx hb dX3_fieldOf_204 ?_
                      refine lv_if_eq (tgt := 212) hx hb dX3_fieldOf_205 (by decide) (fun c205 => ?_) (fun c205 => ?_)
                      · have h := k_if c205 h
                        refine lv_iconst (v := 0) hx hb dX3_fieldOf_212 (by decide) ?_
                        refine k_callSi C hP hap hAA (c_X3_truth l ev ad 0   _ rfl) Emb.none (apart_0 _) gz_X3_truth qML_RX3_192 qSM_yX3_truth ⟨(Nat.le_of_ble_eq_true rfl), (Nat.le_of_ble_eq_true rfl)⟩ rfl hl.1 rfl (Nat.le_of_ble_eq_true rfl) dX3_fieldOf_213 ⟨Nat.le_refl _, Nat.le_refl _⟩ (fun H locs hP => ?_)
                        exact e_iret C hend hP (k_some2 h).1 (congrArg (xw ev ad) (k_some2 h).2) dX3_fieldOf_216
                      · have h := k_nf c205 h
                        refine lv_iconst (v := 1) hx hb dX3_fieldOf_208 (by decide) ?_
                        refine lv_goto (tgt := 213) hx hb dX3_fieldOf_209 (by decide) ?_
                        refine k_callSi C hP hap hAA (c_X3_truth l ev ad 1   _ rfl) Emb.none (apart_0 _) gz_X3_truth qML_RX3_192 qSM_yX3_truth ⟨(Nat.le_of_ble_eq_true rfl), (Nat.le_of_ble_eq_true rfl)⟩ rfl hl.1 rfl (Nat.le_of_ble_eq_true rfl) dX3_fieldOf_213 ⟨Nat.le_refl _, Nat.le_refl _⟩ (fun H locs hP => ?_)
                        exact e_iret C hend hP (k_some2 h).1 (congrArg (xw ev ad) (k_some2 h).2) dX3_fieldOf_216
                    · have h := k_nf cs8 h
                      refine r_tabOut (tgt := 217) hx hb dX3_fieldOf_23 (fun i h1 h2 => by
                        have h3 : i = 0 ∨ i = 1 ∨ i = 2 ∨ i = 3 ∨ i = 4 ∨ i = 5 ∨ i = 6 ∨ i = 7 ∨ i = 8 := by omega
                        rcases h3 with rfl | rfl | rfl | rfl | rfl | rfl | rfl | rfl | rfl
                        · exact cs0
                        · exact cs1
                        · exact cs2
                        · exact cs3
                        · exact cs4
                        · exact cs5
                        · exact cs6
                        · exact cs7
                        · exact cs8
                        ) (by decide) ?_
                      refine lv_aload_n hx hb dX3_fieldOf_217 rfl (lv_at hl 1 rfl) ?_
                      refine lv_bipush (v := (-2)) hx hb dX3_fieldOf_218 (by decide) ?_
                      obtain ⟨x9, σ8, h1, h⟩ := k_ob2 h
                      refine k_callVi C hP hap hAA (c_X3_refuse l ev ad σ (-2)   _ _ h1) Emb.same hap gz_X3_refuse qML_RX3_60 qIM_yX3_refuse qSE_yX3_refuse ⟨(Nat.le_of_ble_eq_true rfl), (Nat.le_of_ble_eq_true rfl)⟩ (q0 := 0) rfl (by decide) rfl rfl rfl rfl hl.1 rfl (Nat.le_of_ble_eq_true rfl) dX3_fieldOf_220 ⟨Nat.le_refl _, Nat.le_refl _⟩ (fun H locs hP => ?_)
                      exact e_iret C hend hP (k_some2 h).1 (congrArg (xw ev ad) (k_some2 h).2) dX3_fieldOf_223
  · have h := k_nf c8 h
    refine lv_aload_n hx hb dX3_fieldOf_11 rfl (lv_at hl 0 rfl) ?_
    refine lv_bipush (v := (-2)) hx hb dX3_fieldOf_12 (by decide) ?_
    obtain ⟨x11, σ10, h1, h⟩ := k_ob2 h
    refine k_callVi C hP hap hAA (c_X3_refuse l ev ad σ (-2)   _ _ h1) Emb.same hap gz_X3_refuse qML_RX3_60 qIM_yX3_refuse qSE_yX3_refuse ⟨(Nat.le_of_ble_eq_true rfl), (Nat.le_of_ble_eq_true rfl)⟩ (q0 := 0) rfl (by decide) rfl rfl rfl rfl hl.1 rfl (Nat.le_of_ble_eq_true rfl) dX3_fieldOf_14 ⟨Nat.le_refl _, Nat.le_refl _⟩ (fun H locs hP => ?_)
    exact e_iret C hend hP (k_some2 h).1 (congrArg (xw ev ad) (k_some2 h).2) dX3_fieldOf_17
def f_X3_edgeOf (σ : XX) (a1 : Int32) (a2 : Int32) : Option (Int32 × XX) :=
  if (f_X0_isEdge (x_now σ) a1) = true then if a2 = 0 then some ((f_X3_truth (bi (f_X0_isHedged (x_now σ) a1))), σ) else if a2 = 1 then ob (f_X0_fieldAhead (x_now σ) a1) (fun x1 => some (x1, σ)) else if a2 = 2 then ob (f_X0_fieldBeyond (x_now σ) a1) (fun x2 => some (x2, σ)) else ob2 (f_X3_refuse σ (-2)) (fun x4 σ3 => some (x4, σ3)) else ob2 (f_X3_refuse σ (-2)) (fun x6 σ5 => some (x6, σ5))
set_option maxHeartbeats 4000000 in
set_option maxRecDepth 100000 in
theorem c_X3_edgeOf (l : Launch) (ev : EV) (ad : Nat → Nat) (σ : XX) (a1 : Int32) (a2 : Int32)   (r : Int32) (σ' : XX) (h : f_X3_edgeOf σ a1 a2 = some (r, σ')) : Ct l yX3_edgeOf prog_1_method_16_code 3 (Option.some Jvm.ClassFile.FieldType.int) (rmk 2 45) ev 26 ad (xw ev ad σ) (xw ev ad σ') [.ref (ad 0), .int a1, .int a2] (some (.int r)) := by
  refine Ct.of (by decide +kernel) (Nat.le_of_ble_eq_true rfl) ?_
  intro p e s m args below meth c Qc C hap hP hend ls hl
  have hAA : ∀ j, j < 26 → inA ad 26 (ad j) := fun j hj => ⟨j, hj, rfl⟩
  have hx := C.1
  have hb := C.2.1
  have hl : lv_has ls 3 [(0, .ref (ad 0)), (1, .int a1), (2, .int a2)] := hl
  have h := (f_X3_edgeOf.eq_1 _ _ _ ).symm.trans h
  refine lv_aload_n hx hb dX3_edgeOf_0 rfl (lv_at hl 0 rfl) ?_
  refine r_get C hP (ci := 3) rfl uin_X3 0 (by decide) 0 (by decide) rfl qFL_RX3_10 rfl rfl dX3_edgeOf_1 ?_
  refine lv_iload_n hx hb dX3_edgeOf_4 rfl (lv_at hl 1 rfl) ?_
  refine k_callVi C hP hap hAA (c_X0_isEdge l ev (fun j => ad (j + 1)) (x_now σ) a1   _ rfl) (em_G1r) (apart_1 _) gz_X0_isEdge qML_RX3_227 qIM_yX0_isEdge qSE_yX0_isEdge ⟨(Nat.le_of_ble_eq_true rfl), (Nat.le_of_ble_eq_true rfl)⟩ (q0 := 1) rfl (by decide) rfl rfl rfl rfl hl.1 rfl (Nat.le_of_ble_eq_true rfl) dX3_edgeOf_5 ⟨Nat.le_refl _, Nat.le_refl _⟩ (fun H locs hP => ?_)
  refine r_ifz_ne (tgt := 18) hx hb dX3_edgeOf_8 (by decide) (fun c8 => ?_) (fun c8 => ?_)
  · have h := k_if c8 h
    refine lv_iload_n hx hb dX3_edgeOf_18 rfl (lv_at hl 2 rfl) ?_
    by_cases cs0 : a2 = 0
    · have h := k_if cs0 h
      refine r_tabIn (tgt := 44) (off := 25) (i := 0) hx hb dX3_edgeOf_19 cs0 (by decide) (by decide) (by decide) (by decide) ?_
      refine lv_aload_n hx hb dX3_edgeOf_44 rfl (lv_at hl 0 rfl) ?_
      refine r_get C hP (ci := 3) rfl uin_X3 0 (by decide) 0 (by decide) rfl qFL_RX3_10 rfl rfl dX3_edgeOf_45 ?_
      refine lv_iload_n hx hb dX3_edgeOf_48 rfl (lv_at hl 1 rfl) ?_
      refine k_callVi C hP hap hAA (c_X0_isHedged l ev (fun j => ad (j + 1)) (x_now σ) a1   _ rfl) (em_G1r) (apart_1 _) gz_X0_isHedged qML_RX3_230 qIM_yX0_isHedged qSE_yX0_isHedged ⟨(Nat.le_of_ble_eq_true rfl), (Nat.le_of_ble_eq_true rfl)⟩ (q0 := 1) rfl (by decide) rfl rfl rfl rfl hl.1 rfl (Nat.le_of_ble_eq_true rfl) dX3_edgeOf_49 ⟨Nat.le_refl _, Nat.le_refl _⟩ (fun H locs hP => ?_)
      refine k_callSi C hP hap hAA (c_X3_truth l ev ad (bi (f_X0_isHedged (x_now σ) a1))   _ rfl) Emb.none (apart_0 _) gz_X3_truth qML_RX3_192 qSM_yX3_truth ⟨(Nat.le_of_ble_eq_true rfl), (Nat.le_of_ble_eq_true rfl)⟩ rfl hl.1 rfl (Nat.le_of_ble_eq_true rfl) dX3_edgeOf_52 ⟨Nat.le_refl _, Nat.le_refl _⟩ (fun H locs hP => ?_)
      exact e_iret C hend hP (k_some2 h).1 (congrArg (xw ev ad) (k_some2 h).2) dX3_edgeOf_55
    · have h := k_nf cs0 h
      by_cases cs1 : a2 = 1
      · have h := k_if cs1 h
        refine r_tabIn (tgt := 56) (off := 37) (i := 1) hx hb dX3_edgeOf_19 cs1 (by decide) (by decide) (by decide) (by decide) ?_
        refine lv_aload_n hx hb dX3_edgeOf_56 rfl (lv_at hl 0 rfl) ?_
        refine r_get C hP (ci := 3) rfl uin_X3 0 (by decide) 0 (by decide) rfl qFL_RX3_10 rfl rfl dX3_edgeOf_57 ?_
        refine lv_iload_n hx hb dX3_edgeOf_60 rfl (lv_at hl 1 rfl) ?_
        obtain ⟨x1, h1, h⟩ := k_ob h
        refine k_callVi C hP hap hAA (c_X0_fieldAhead l ev (fun j => ad (j + 1)) (x_now σ) a1   _ h1) (em_G1r) (apart_1 _) gz_X0_fieldAhead qML_RX3_233 qIM_yX0_fieldAhead qSE_yX0_fieldAhead ⟨(Nat.le_of_ble_eq_true rfl), (Nat.le_of_ble_eq_true rfl)⟩ (q0 := 1) rfl (by decide) rfl rfl rfl rfl hl.1 rfl (Nat.le_of_ble_eq_true rfl) dX3_edgeOf_61 ⟨Nat.le_refl _, Nat.le_refl _⟩ (fun H locs hP => ?_)
        exact e_iret C hend hP (k_some2 h).1 (congrArg (xw ev ad) (k_some2 h).2) dX3_edgeOf_64
      · have h := k_nf cs1 h
        by_cases cs2 : a2 = 2
        · have h := k_if cs2 h
          refine r_tabIn (tgt := 65) (off := 46) (i := 2) hx hb dX3_edgeOf_19 cs2 (by decide) (by decide) (by decide) (by decide) ?_
          refine lv_aload_n hx hb dX3_edgeOf_65 rfl (lv_at hl 0 rfl) ?_
          refine r_get C hP (ci := 3) rfl uin_X3 0 (by decide) 0 (by decide) rfl qFL_RX3_10 rfl rfl dX3_edgeOf_66 ?_
          refine lv_iload_n hx hb dX3_edgeOf_69 rfl (lv_at hl 1 rfl) ?_
          obtain ⟨x2, h1, h⟩ := k_ob h
          refine k_callVi C hP hap hAA (c_X0_fieldBeyond l ev (fun j => ad (j + 1)) (x_now σ) a1   _ h1) (em_G1r) (apart_1 _) gz_X0_fieldBeyond qML_RX3_236 qIM_yX0_fieldBeyond qSE_yX0_fieldBeyond ⟨(Nat.le_of_ble_eq_true rfl), (Nat.le_of_ble_eq_true rfl)⟩ (q0 := 1) rfl (by decide) rfl rfl rfl rfl hl.1 rfl (Nat.le_of_ble_eq_true rfl) dX3_edgeOf_70 ⟨Nat.le_refl _, Nat.le_refl _⟩ (fun H locs hP => ?_)
          exact e_iret C hend hP (k_some2 h).1 (congrArg (xw ev ad) (k_some2 h).2) dX3_edgeOf_73
        · have h := k_nf cs2 h
          refine r_tabOut (tgt := 74) hx hb dX3_edgeOf_19 (fun i h1 h2 => by
            have h3 : i = 0 ∨ i = 1 ∨ i = 2 := by omega
            rcases h3 with rfl | rfl | rfl
            · exact cs0
            · exact cs1
            · exact cs2
            ) (by decide) ?_
          refine lv_aload_n hx hb dX3_edgeOf_74 rfl (lv_at hl 0 rfl) ?_
          refine lv_bipush (v := (-2)) hx hb dX3_edgeOf_75 (by decide) ?_
          obtain ⟨x4, σ3, h1, h⟩ := k_ob2 h
          refine k_callVi C hP hap hAA (c_X3_refuse l ev ad σ (-2)   _ _ h1) Emb.same hap gz_X3_refuse qML_RX3_60 qIM_yX3_refuse qSE_yX3_refuse ⟨(Nat.le_of_ble_eq_true rfl), (Nat.le_of_ble_eq_true rfl)⟩ (q0 := 0) rfl (by decide) rfl rfl rfl rfl hl.1 rfl (Nat.le_of_ble_eq_true rfl) dX3_edgeOf_77 ⟨Nat.le_refl _, Nat.le_refl _⟩ (fun H locs hP => ?_)
          exact e_iret C hend hP (k_some2 h).1 (congrArg (xw ev ad) (k_some2 h).2) dX3_edgeOf_80
  · have h := k_nf c8 h
    refine lv_aload_n hx hb dX3_edgeOf_11 rfl (lv_at hl 0 rfl) ?_
    refine lv_bipush (v := (-2)) hx hb dX3_edgeOf_12 (by decide) ?_
    obtain ⟨x6, σ5, h1, h⟩ := k_ob2 h
    refine k_callVi C hP hap hAA (c_X3_refuse l ev ad σ (-2)   _ _ h1) Emb.same hap gz_X3_refuse qML_RX3_60 qIM_yX3_refuse qSE_yX3_refuse ⟨(Nat.le_of_ble_eq_true rfl), (Nat.le_of_ble_eq_true rfl)⟩ (q0 := 0) rfl (by decide) rfl rfl rfl rfl hl.1 rfl (Nat.le_of_ble_eq_true rfl) dX3_edgeOf_14 ⟨Nat.le_refl _, Nat.le_refl _⟩ (fun H locs hP => ?_)
    exact e_iret C hend hP (k_some2 h).1 (congrArg (xw ev ad) (k_some2 h).2) dX3_edgeOf_17
def f_X3_playerOf (σ : XX) (a1 : Int32) (a2 : Int32) : Option (Int32 × XX) :=
  if (f_X3_isPlayer σ a1) = true then if a2 = 0 then ob (f_X3_kindOf σ a1) (fun x1 => some (x1, σ)) else if a2 = 1 then ob (f_X3_amountOf σ a1) (fun x2 => some (x2, σ)) else ob2 (f_X3_refuse σ (-2)) (fun x4 σ3 => some (x4, σ3)) else ob2 (f_X3_refuse σ (-2)) (fun x6 σ5 => some (x6, σ5))
set_option maxHeartbeats 4000000 in
set_option maxRecDepth 100000 in
theorem c_X3_playerOf (l : Launch) (ev : EV) (ad : Nat → Nat) (σ : XX) (a1 : Int32) (a2 : Int32)   (r : Int32) (σ' : XX) (h : f_X3_playerOf σ a1 a2 = some (r, σ')) : Ct l yX3_playerOf prog_1_method_17_code 3 (Option.some Jvm.ClassFile.FieldType.int) (rmk 1 22) ev 26 ad (xw ev ad σ) (xw ev ad σ') [.ref (ad 0), .int a1, .int a2] (some (.int r)) := by
  refine Ct.of (by decide +kernel) (Nat.le_of_ble_eq_true rfl) ?_
  intro p e s m args below meth c Qc C hap hP hend ls hl
  have hAA : ∀ j, j < 26 → inA ad 26 (ad j) := fun j hj => ⟨j, hj, rfl⟩
  have hx := C.1
  have hb := C.2.1
  have hl : lv_has ls 3 [(0, .ref (ad 0)), (1, .int a1), (2, .int a2)] := hl
  have h := (f_X3_playerOf.eq_1 _ _ _ ).symm.trans h
  refine lv_aload_n hx hb dX3_playerOf_0 rfl (lv_at hl 0 rfl) ?_
  refine lv_iload_n hx hb dX3_playerOf_1 rfl (lv_at hl 1 rfl) ?_
  refine k_callVi C hP hap hAA (c_X3_isPlayer l ev ad σ a1   _ rfl) Emb.same hap gz_X3_isPlayer qML_RX3_108 qIM_yX3_isPlayer qSE_yX3_isPlayer ⟨(Nat.le_of_ble_eq_true rfl), (Nat.le_of_ble_eq_true rfl)⟩ (q0 := 0) rfl (by decide) rfl rfl rfl rfl hl.1 rfl (Nat.le_of_ble_eq_true rfl) dX3_playerOf_2 ⟨Nat.le_refl _, Nat.le_refl _⟩ (fun H locs hP => ?_)
  refine r_ifz_ne (tgt := 15) hx hb dX3_playerOf_5 (by decide) (fun c5 => ?_) (fun c5 => ?_)
  · have h := k_if c5 h
    refine lv_iload_n hx hb dX3_playerOf_15 rfl (lv_at hl 2 rfl) ?_
    by_cases cs0 : a2 = 0
    · have h := k_if cs0 h
      refine r_lookIn (tgt := 44) (off := 28) (i := 0) hx hb dX3_playerOf_16 cs0 (by decide) (by decide) (by decide) ?_
      refine lv_aload_n hx hb dX3_playerOf_44 rfl (lv_at hl 0 rfl) ?_
      refine lv_iload_n hx hb dX3_playerOf_45 rfl (lv_at hl 1 rfl) ?_
      obtain ⟨x1, h1, h⟩ := k_ob h
      refine k_callVi C hP hap hAA (c_X3_kindOf l ev ad σ a1   _ h1) Emb.same hap gz_X3_kindOf qML_RX3_118 qIM_yX3_kindOf qSE_yX3_kindOf ⟨(Nat.le_of_ble_eq_true rfl), (Nat.le_of_ble_eq_true rfl)⟩ (q0 := 0) rfl (by decide) rfl rfl rfl rfl hl.1 rfl (Nat.le_of_ble_eq_true rfl) dX3_playerOf_46 ⟨Nat.le_refl _, Nat.le_refl _⟩ (fun H locs hP => ?_)
      exact e_iret C hend hP (k_some2 h).1 (congrArg (xw ev ad) (k_some2 h).2) dX3_playerOf_49
    · have h := k_nf cs0 h
      by_cases cs1 : a2 = 1
      · have h := k_if cs1 h
        refine r_lookIn (tgt := 50) (off := 34) (i := 1) hx hb dX3_playerOf_16 cs1 (by decide) (by decide) (by decide) ?_
        refine lv_aload_n hx hb dX3_playerOf_50 rfl (lv_at hl 0 rfl) ?_
        refine lv_iload_n hx hb dX3_playerOf_51 rfl (lv_at hl 1 rfl) ?_
        obtain ⟨x2, h1, h⟩ := k_ob h
        refine k_callVi C hP hap hAA (c_X3_amountOf l ev ad σ a1   _ h1) Emb.same hap gz_X3_amountOf qML_RX3_124 qIM_yX3_amountOf qSE_yX3_amountOf ⟨(Nat.le_of_ble_eq_true rfl), (Nat.le_of_ble_eq_true rfl)⟩ (q0 := 0) rfl (by decide) rfl rfl rfl rfl hl.1 rfl (Nat.le_of_ble_eq_true rfl) dX3_playerOf_52 ⟨Nat.le_refl _, Nat.le_refl _⟩ (fun H locs hP => ?_)
        exact e_iret C hend hP (k_some2 h).1 (congrArg (xw ev ad) (k_some2 h).2) dX3_playerOf_55
      · have h := k_nf cs1 h
        refine r_lookOut (tgt := 56) hx hb dX3_playerOf_16 (by decide) (fun q hq => by
          have hq : q ∈ [(0, 28), (1, 34)] := hq
          simp only [List.mem_cons, List.not_mem_nil, or_false] at hq
          rcases hq with rfl | rfl
          · exact cs0
          · exact cs1
          ) (by decide) ?_
        refine lv_aload_n hx hb dX3_playerOf_56 rfl (lv_at hl 0 rfl) ?_
        refine lv_bipush (v := (-2)) hx hb dX3_playerOf_57 (by decide) ?_
        obtain ⟨x4, σ3, h1, h⟩ := k_ob2 h
        refine k_callVi C hP hap hAA (c_X3_refuse l ev ad σ (-2)   _ _ h1) Emb.same hap gz_X3_refuse qML_RX3_60 qIM_yX3_refuse qSE_yX3_refuse ⟨(Nat.le_of_ble_eq_true rfl), (Nat.le_of_ble_eq_true rfl)⟩ (q0 := 0) rfl (by decide) rfl rfl rfl rfl hl.1 rfl (Nat.le_of_ble_eq_true rfl) dX3_playerOf_59 ⟨Nat.le_refl _, Nat.le_refl _⟩ (fun H locs hP => ?_)
        exact e_iret C hend hP (k_some2 h).1 (congrArg (xw ev ad) (k_some2 h).2) dX3_playerOf_62
  · have h := k_nf c5 h
    refine lv_aload_n hx hb dX3_playerOf_8 rfl (lv_at hl 0 rfl) ?_
    refine lv_bipush (v := (-2)) hx hb dX3_playerOf_9 (by decide) ?_
    obtain ⟨x6, σ5, h1, h⟩ := k_ob2 h
    refine k_callVi C hP hap hAA (c_X3_refuse l ev ad σ (-2)   _ _ h1) Emb.same hap gz_X3_refuse qML_RX3_60 qIM_yX3_refuse qSE_yX3_refuse ⟨(Nat.le_of_ble_eq_true rfl), (Nat.le_of_ble_eq_true rfl)⟩ (q0 := 0) rfl (by decide) rfl rfl rfl rfl hl.1 rfl (Nat.le_of_ble_eq_true rfl) dX3_playerOf_11 ⟨Nat.le_refl _, Nat.le_refl _⟩ (fun H locs hP => ?_)
    exact e_iret C hend hP (k_some2 h).1 (congrArg (xw ev ad) (k_some2 h).2) dX3_playerOf_14
def f_X3_may (σ : XX) (a1 : Int32) : Option (Int32 × XX) :=
  lt (f_X0_slotOf (x_now σ) a1) (fun x1 => if x1 = (-1) then ob2 (f_X3_refuse σ (-2)) (fun x3 σ2 => some (x3, σ2)) else some ((f_X3_truth (bi (f_X0_isOpen (x_now σ) x1))), σ))
set_option maxHeartbeats 4000000 in
set_option maxRecDepth 100000 in
theorem c_X3_may (l : Launch) (ev : EV) (ad : Nat → Nat) (σ : XX) (a1 : Int32)   (r : Int32) (σ' : XX) (h : f_X3_may σ a1 = some (r, σ')) : Ct l yX3_may prog_1_method_18_code 3 (Option.some Jvm.ClassFile.FieldType.int) (rmk 4 81) ev 26 ad (xw ev ad σ) (xw ev ad σ') [.ref (ad 0), .int a1] (some (.int r)) := by
  refine Ct.of (by decide +kernel) (Nat.le_of_ble_eq_true rfl) ?_
  intro p e s m args below meth c Qc C hap hP hend ls hl
  have hAA : ∀ j, j < 26 → inA ad 26 (ad j) := fun j hj => ⟨j, hj, rfl⟩
  have hx := C.1
  have hb := C.2.1
  have hl : lv_has ls 3 [(0, .ref (ad 0)), (1, .int a1)] := hl
  have h := (f_X3_may.eq_1 _ _ ).symm.trans h
  refine lv_aload_n hx hb dX3_may_0 rfl (lv_at hl 0 rfl) ?_
  refine r_get C hP (ci := 3) rfl uin_X3 0 (by decide) 0 (by decide) rfl qFL_RX3_10 rfl rfl dX3_may_1 ?_
  refine lv_iload_n hx hb dX3_may_4 rfl (lv_at hl 1 rfl) ?_
  refine k_callVi C hP hap hAA (c_X0_slotOf l ev (fun j => ad (j + 1)) (x_now σ) a1   _ rfl) (em_G1r) (apart_1 _) gz_X0_slotOf qML_RX3_239 qIM_yX0_slotOf qSE_yX0_slotOf ⟨(Nat.le_of_ble_eq_true rfl), (Nat.le_of_ble_eq_true rfl)⟩ (q0 := 1) rfl (by decide) rfl rfl rfl rfl hl.1 rfl (Nat.le_of_ble_eq_true rfl) dX3_may_5 ⟨Nat.le_refl _, Nat.le_refl _⟩ (fun H locs hP => ?_)
  refine lv_topi (fun x1 ex1 => ?_)
  have h := k_lt ex1 h
  refine lv_istore_n (lv' := [(2, .int x1), (0, .ref (ad 0)), (1, .int a1)]) hx hb dX3_may_8 rfl hl (by decide) rfl (fun ls hl => ?_)
  refine lv_iload_n hx hb dX3_may_9 rfl (lv_at hl 0 rfl) ?_
  refine lv_iconst (v := (-1)) hx hb dX3_may_10 (by decide) ?_
  refine lv_icmp_ne (tgt := 23) hx hb dX3_may_11 (by decide) (fun c11 => ?_) (fun c11 => ?_)
  · have h := k_nf c11 h
    refine lv_aload_n hx hb dX3_may_23 rfl (lv_at hl 1 rfl) ?_
    refine r_get C hP (ci := 3) rfl uin_X3 0 (by decide) 0 (by decide) rfl qFL_RX3_10 rfl rfl dX3_may_24 ?_
    refine lv_iload_n hx hb dX3_may_27 rfl (lv_at hl 0 rfl) ?_
    refine k_callVi C hP hap hAA (c_X0_isOpen l ev (fun j => ad (j + 1)) (x_now σ) x1   _ rfl) (em_G1r) (apart_1 _) gz_X0_isOpen qML_RX3_242 qIM_yX0_isOpen qSE_yX0_isOpen ⟨(Nat.le_of_ble_eq_true rfl), (Nat.le_of_ble_eq_true rfl)⟩ (q0 := 1) rfl (by decide) rfl rfl rfl rfl hl.1 rfl (Nat.le_of_ble_eq_true rfl) dX3_may_28 ⟨Nat.le_refl _, Nat.le_refl _⟩ (fun H locs hP => ?_)
    refine k_callSi C hP hap hAA (c_X3_truth l ev ad (bi (f_X0_isOpen (x_now σ) x1))   _ rfl) Emb.none (apart_0 _) gz_X3_truth qML_RX3_192 qSM_yX3_truth ⟨(Nat.le_of_ble_eq_true rfl), (Nat.le_of_ble_eq_true rfl)⟩ rfl hl.1 rfl (Nat.le_of_ble_eq_true rfl) dX3_may_31 ⟨Nat.le_refl _, Nat.le_refl _⟩ (fun H locs hP => ?_)
    exact e_iret C hend hP (k_some2 h).1 (congrArg (xw ev ad) (k_some2 h).2) dX3_may_34
  · have h := k_if c11 h
    refine lv_aload_n hx hb dX3_may_14 rfl (lv_at hl 1 rfl) ?_
    refine lv_bipush (v := (-2)) hx hb dX3_may_15 (by decide) ?_
    obtain ⟨x3, σ2, h1, h⟩ := k_ob2 h
    refine k_callVi C hP hap hAA (c_X3_refuse l ev ad σ (-2)   _ _ h1) Emb.same hap gz_X3_refuse qML_RX3_60 qIM_yX3_refuse qSE_yX3_refuse ⟨(Nat.le_of_ble_eq_true rfl), (Nat.le_of_ble_eq_true rfl)⟩ (q0 := 0) rfl (by decide) rfl rfl rfl rfl hl.1 rfl (Nat.le_of_ble_eq_true rfl) dX3_may_17 ⟨Nat.le_refl _, Nat.le_refl _⟩ (fun H locs hP => ?_)
    refine lv_goto (tgt := 34) hx hb dX3_may_20 (by decide) ?_
    exact e_iret C hend hP (k_some2 h).1 (congrArg (xw ev ad) (k_some2 h).2) dX3_may_34
def f_X3_moves (σ : XX) (a1 : Int32) : Option (Int32 × XX) :=
  lt (f_X0_openSlots (x_now σ)) (fun y1 => if (-1) ≤ a1 then if a1 = (-1) then some ((f_J13_bitCount_95d88 y1), σ) else if a1 < (f_J13_bitCount_95d88 y1) then ob (f_X3_slotAt y1 a1) (fun x2 => some ((f_X3_moveOf x2), σ)) else ob2 (f_X3_refuse σ (-5)) (fun x4 σ3 => some (x4, σ3)) else ob2 (f_X3_refuse σ (-2)) (fun x6 σ5 => some (x6, σ5)))
set_option maxHeartbeats 4000000 in
set_option maxRecDepth 100000 in
theorem c_X3_moves (l : Launch) (ev : EV) (ad : Nat → Nat) (σ : XX) (a1 : Int32)   (r : Int32) (σ' : XX) (h : f_X3_moves σ a1 = some (r, σ')) : Ct l yX3_moves prog_1_method_19_code 4 (Option.some Jvm.ClassFile.FieldType.int) (rmk 3 67) ev 26 ad (xw ev ad σ) (xw ev ad σ') [.ref (ad 0), .int a1] (some (.int r)) := by
  refine Ct.of (by decide +kernel) (Nat.le_of_ble_eq_true rfl) ?_
  intro p e s m args below meth c Qc C hap hP hend ls hl
  have hAA : ∀ j, j < 26 → inA ad 26 (ad j) := fun j hj => ⟨j, hj, rfl⟩
  have hx := C.1
  have hb := C.2.1
  have hl : lv_has ls 4 [(0, .ref (ad 0)), (1, .int a1)] := hl
  have h := (f_X3_moves.eq_1 _ _ ).symm.trans h
  refine lv_aload_n hx hb dX3_moves_0 rfl (lv_at hl 0 rfl) ?_
  refine r_get C hP (ci := 3) rfl uin_X3 0 (by decide) 0 (by decide) rfl qFL_RX3_10 rfl rfl dX3_moves_1 ?_
  refine k_callVl C hP hap hAA (c_X0_openSlots l ev (fun j => ad (j + 1)) (x_now σ)   _ rfl) (em_G1r) (apart_1 _) gz_X0_openSlots qML_RX3_127 qIM_yX0_openSlots qSE_yX0_openSlots ⟨(Nat.le_of_ble_eq_true rfl), (Nat.le_of_ble_eq_true rfl)⟩ (q0 := 1) rfl (by decide) rfl rfl rfl rfl hl.1 rfl (Nat.le_of_ble_eq_true rfl) dX3_moves_4 ⟨Nat.le_refl _, Nat.le_refl _⟩ (fun H locs hP => ?_)
  refine lv_topl (fun y1 ey1 => ?_)
  have h := k_lt ey1 h
  refine lv_lstore_n (lv' := [(2, .long y1), (0, .ref (ad 0)), (1, .int a1)]) hx hb dX3_moves_7 rfl hl (by decide) rfl (fun ls hl => ?_)
  refine lv_iload_n hx hb dX3_moves_8 rfl (lv_at hl 2 rfl) ?_
  refine lv_iconst (v := (-1)) hx hb dX3_moves_9 (by decide) ?_
  refine lv_icmp_ge (tgt := 20) hx hb dX3_moves_10 (by decide) (fun c10 => ?_) (fun c10 => ?_)
  · have h := k_if c10 h
    refine lv_iload_n hx hb dX3_moves_20 rfl (lv_at hl 2 rfl) ?_
    refine lv_iconst (v := (-1)) hx hb dX3_moves_21 (by decide) ?_
    refine lv_icmp_ne (tgt := 30) hx hb dX3_moves_22 (by decide) (fun c22 => ?_) (fun c22 => ?_)
    · have h := k_nf c22 h
      refine lv_iload_n hx hb dX3_moves_30 rfl (lv_at hl 2 rfl) ?_
      refine lv_lload_n hx hb dX3_moves_31 rfl (lv_at hl 0 rfl) ?_
      refine k_callSi C hP hap hAA (c_J13_bitCount_95d88 l ev ad y1   _ rfl) Emb.none (apart_0 _) gz_J13_bitCount_95d88 qML_RX3_131 qSM_yJ13_bitCount_95d88 ⟨(Nat.le_of_ble_eq_true rfl), (Nat.le_of_ble_eq_true rfl)⟩ rfl hl.1 rfl (Nat.le_of_ble_eq_true rfl) dX3_moves_32 ⟨Nat.le_refl _, Nat.le_refl _⟩ (fun H locs hP => ?_)
      refine lv_icmp_lt (tgt := 47) hx hb dX3_moves_35 (by decide) (fun c35 => ?_) (fun c35 => ?_)
      · have h := k_if c35 h
        refine lv_lload_n hx hb dX3_moves_47 rfl (lv_at hl 0 rfl) ?_
        refine lv_iload_n hx hb dX3_moves_48 rfl (lv_at hl 2 rfl) ?_
        obtain ⟨x2, h1, h⟩ := k_ob h
        refine k_callSi C hP hap hAA (c_X3_slotAt l ev ad y1 a1   _ h1) Emb.none (apart_0 _) gz_X3_slotAt qML_RX3_245 qSM_yX3_slotAt ⟨(Nat.le_of_ble_eq_true rfl), (Nat.le_of_ble_eq_true rfl)⟩ rfl hl.1 rfl (Nat.le_of_ble_eq_true rfl) dX3_moves_49 ⟨Nat.le_refl _, Nat.le_refl _⟩ (fun H locs hP => ?_)
        refine k_callSi C hP hap hAA (c_X3_moveOf l ev ad x2   _ rfl) Emb.none (apart_0 _) gz_X3_moveOf qML_RX3_249 qSM_yX3_moveOf ⟨(Nat.le_of_ble_eq_true rfl), (Nat.le_of_ble_eq_true rfl)⟩ rfl hl.1 rfl (Nat.le_of_ble_eq_true rfl) dX3_moves_52 ⟨Nat.le_refl _, Nat.le_refl _⟩ (fun H locs hP => ?_)
        exact e_iret C hend hP (k_some2 h).1 (congrArg (xw ev ad) (k_some2 h).2) dX3_moves_55
      · have h := k_nf c35 h
        refine lv_aload_n hx hb dX3_moves_38 rfl (lv_at hl 1 rfl) ?_
        refine lv_bipush (v := (-5)) hx hb dX3_moves_39 (by decide) ?_
        obtain ⟨x4, σ3, h1, h⟩ := k_ob2 h
        refine k_callVi C hP hap hAA (c_X3_refuse l ev ad σ (-5)   _ _ h1) Emb.same hap gz_X3_refuse qML_RX3_60 qIM_yX3_refuse qSE_yX3_refuse ⟨(Nat.le_of_ble_eq_true rfl), (Nat.le_of_ble_eq_true rfl)⟩ (q0 := 0) rfl (by decide) rfl rfl rfl rfl hl.1 rfl (Nat.le_of_ble_eq_true rfl) dX3_moves_41 ⟨Nat.le_refl _, Nat.le_refl _⟩ (fun H locs hP => ?_)
        refine lv_goto (tgt := 55) hx hb dX3_moves_44 (by decide) ?_
        exact e_iret C hend hP (k_some2 h).1 (congrArg (xw ev ad) (k_some2 h).2) dX3_moves_55
    · have h := k_if c22 h
      refine lv_lload_n hx hb dX3_moves_25 rfl (lv_at hl 0 rfl) ?_
      refine k_callSi C hP hap hAA (c_J13_bitCount_95d88 l ev ad y1   _ rfl) Emb.none (apart_0 _) gz_J13_bitCount_95d88 qML_RX3_131 qSM_yJ13_bitCount_95d88 ⟨(Nat.le_of_ble_eq_true rfl), (Nat.le_of_ble_eq_true rfl)⟩ rfl hl.1 rfl (Nat.le_of_ble_eq_true rfl) dX3_moves_26 ⟨Nat.le_refl _, Nat.le_refl _⟩ (fun H locs hP => ?_)
      exact e_iret C hend hP (k_some2 h).1 (congrArg (xw ev ad) (k_some2 h).2) dX3_moves_29
  · have h := k_nf c10 h
    refine lv_aload_n hx hb dX3_moves_13 rfl (lv_at hl 1 rfl) ?_
    refine lv_bipush (v := (-2)) hx hb dX3_moves_14 (by decide) ?_
    obtain ⟨x6, σ5, h1, h⟩ := k_ob2 h
    refine k_callVi C hP hap hAA (c_X3_refuse l ev ad σ (-2)   _ _ h1) Emb.same hap gz_X3_refuse qML_RX3_60 qIM_yX3_refuse qSE_yX3_refuse ⟨(Nat.le_of_ble_eq_true rfl), (Nat.le_of_ble_eq_true rfl)⟩ (q0 := 0) rfl (by decide) rfl rfl rfl rfl hl.1 rfl (Nat.le_of_ble_eq_true rfl) dX3_moves_16 ⟨Nat.le_refl _, Nat.le_refl _⟩ (fun H locs hP => ?_)
    exact e_iret C hend hP (k_some2 h).1 (congrArg (xw ev ad) (k_some2 h).2) dX3_moves_19
def f_X3_score (σ : XX) (a1 : Int32) : Option (Int32 × XX) :=
  if (f_X3_isSeat a1) = true then ob (f_X0_scoreOf (x_now σ) a1) (fun x3 => some (x3, σ)) else ob2 (f_X3_refuse σ (-2)) (fun x2 σ1 => some (x2, σ1))
set_option maxHeartbeats 4000000 in
set_option maxRecDepth 100000 in
theorem c_X3_score (l : Launch) (ev : EV) (ad : Nat → Nat) (σ : XX) (a1 : Int32)   (r : Int32) (σ' : XX) (h : f_X3_score σ a1 = some (r, σ')) : Ct l yX3_score prog_1_method_20_code 2 (Option.some Jvm.ClassFile.FieldType.int) (rmk 7 163) ev 26 ad (xw ev ad σ) (xw ev ad σ') [.ref (ad 0), .int a1] (some (.int r)) := by
  refine Ct.of (by decide +kernel) (Nat.le_of_ble_eq_true rfl) ?_
  intro p e s m args below meth c Qc C hap hP hend ls hl
  have hAA : ∀ j, j < 26 → inA ad 26 (ad j) := fun j hj => ⟨j, hj, rfl⟩
  have hx := C.1
  have hb := C.2.1
  have hl : lv_has ls 2 [(0, .ref (ad 0)), (1, .int a1)] := hl
  have h := (f_X3_score.eq_1 _ _ ).symm.trans h
  refine lv_iload_n hx hb dX3_score_0 rfl (lv_at hl 1 rfl) ?_
  refine k_callSi C hP hap hAA (c_X3_isSeat l ev ad a1   _ rfl) Emb.none (apart_0 _) gz_X3_isSeat qML_RX3_153 qSM_yX3_isSeat ⟨(Nat.le_of_ble_eq_true rfl), (Nat.le_of_ble_eq_true rfl)⟩ rfl hl.1 rfl (Nat.le_of_ble_eq_true rfl) dX3_score_1 ⟨Nat.le_refl _, Nat.le_refl _⟩ (fun H locs hP => ?_)
  refine r_ifz_eq (tgt := 18) hx hb dX3_score_4 (by decide) (fun c4 => ?_) (fun c4 => ?_)
  · have h := k_nf c4 h
    refine lv_aload_n hx hb dX3_score_18 rfl (lv_at hl 0 rfl) ?_
    refine lv_bipush (v := (-2)) hx hb dX3_score_19 (by decide) ?_
    obtain ⟨x2, σ1, h1, h⟩ := k_ob2 h
    refine k_callVi C hP hap hAA (c_X3_refuse l ev ad σ (-2)   _ _ h1) Emb.same hap gz_X3_refuse qML_RX3_60 qIM_yX3_refuse qSE_yX3_refuse ⟨(Nat.le_of_ble_eq_true rfl), (Nat.le_of_ble_eq_true rfl)⟩ (q0 := 0) rfl (by decide) rfl rfl rfl rfl hl.1 rfl (Nat.le_of_ble_eq_true rfl) dX3_score_21 ⟨Nat.le_refl _, Nat.le_refl _⟩ (fun H locs hP => ?_)
    exact e_iret C hend hP (k_some2 h).1 (congrArg (xw ev ad) (k_some2 h).2) dX3_score_24
  · have h := k_if c4 h
    refine lv_aload_n hx hb dX3_score_7 rfl (lv_at hl 0 rfl) ?_
    refine r_get C hP (ci := 3) rfl uin_X3 0 (by decide) 0 (by decide) rfl qFL_RX3_10 rfl rfl dX3_score_8 ?_
    refine lv_iload_n hx hb dX3_score_11 rfl (lv_at hl 1 rfl) ?_
    obtain ⟨x3, h1, h⟩ := k_ob h
    refine k_callVi C hP hap hAA (c_X0_scoreOf l ev (fun j => ad (j + 1)) (x_now σ) a1   _ h1) (em_G1r) (apart_1 _) gz_X0_scoreOf qML_RX3_252 qIM_yX0_scoreOf qSE_yX0_scoreOf ⟨(Nat.le_of_ble_eq_true rfl), (Nat.le_of_ble_eq_true rfl)⟩ (q0 := 1) rfl (by decide) rfl rfl rfl rfl hl.1 rfl (Nat.le_of_ble_eq_true rfl) dX3_score_12 ⟨Nat.le_refl _, Nat.le_refl _⟩ (fun H locs hP => ?_)
    refine lv_goto (tgt := 24) hx hb dX3_score_15 (by decide) ?_
    exact e_iret C hend hP (k_some2 h).1 (congrArg (xw ev ad) (k_some2 h).2) dX3_score_24
