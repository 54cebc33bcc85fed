/-! functions read off, and their contracts: by program (wip/whole/gen2.py) -/
def f_X4_turn (σ : MM) (a1 : Int32) : Option (Int32 × MM) :=
  if (f_X4_within a1 0 1) = true then lt (m_turn σ) (fun x1 => lt (m_turn' σ a1) (fun σ2 => some (x1, σ2))) else ob2 (f_X4_no σ (-2)) (fun x4 σ3 => some (x4, σ3))
set_option maxHeartbeats 4000000 in
set_option maxRecDepth 100000 in
theorem c_X4_turn (l : Launch) (ev : EV) (ad : Nat → Nat) (σ : MM) (a1 : Int32)   (r : Int32) (σ' : MM) (h : f_X4_turn σ a1 = some (r, σ')) : Ct l yX4_turn prog_6_method_25_code 3 (Option.some Jvm.ClassFile.FieldType.int) (rmk 1 22) ev 13 ad (mw ev ad σ) (mw ev ad σ') [.ref (ad 0), .int a1] (some (.int r)) := by
  refine Ct.of (by decide +kernel) (Nat.le_of_ble_eq_true rfl) ?_
  intro p e s m args below meth c Qc C hap hP hend ls hl
  have hAA : ∀ j, j < 13 → inA ad 13 (ad j) := fun j hj => ⟨j, hj, rfl⟩
  have hx := C.1
  have hb := C.2.1
  have hl : lv_has ls 3 [(0, .ref (ad 0)), (1, .int a1)] := hl
  have h := (f_X4_turn.eq_1 _ _ ).symm.trans h
  refine lv_iload_n hx hb dX4_turn_0 rfl (lv_at hl 1 rfl) ?_
  refine lv_iconst (v := 0) hx hb dX4_turn_1 (by decide) ?_
  refine lv_iconst (v := 1) hx hb dX4_turn_2 (by decide) ?_
  refine k_callSi C hP hap hAA (c_X4_within l ev ad a1 0 1   _ rfl) Emb.none (apart_0 _) gz_X4_within qML_RX4_63 qSM_yX4_within ⟨(Nat.le_of_ble_eq_true rfl), (Nat.le_of_ble_eq_true rfl)⟩ rfl hl.1 rfl (Nat.le_of_ble_eq_true rfl) dX4_turn_3 ⟨Nat.le_refl _, Nat.le_refl _⟩ (fun H locs hP => ?_)
  refine r_ifz_ne (tgt := 16) hx hb dX4_turn_6 (by decide) (fun c6 => ?_) (fun c6 => ?_)
  · have h := k_if c6 h
    refine lv_aload_n hx hb dX4_turn_16 rfl (lv_at hl 0 rfl) ?_
    refine r_get C hP (ci := 4) rfl uin_X4 5 (by decide) 0 (by decide) rfl qFL_RX4_101 rfl rfl dX4_turn_17 ?_
    refine lv_topi (fun x1 ex1 => ?_)
    have h := k_lt ex1 h
    refine lv_istore_n (lv' := [(2, .int x1), (0, .ref (ad 0)), (1, .int a1)]) hx hb dX4_turn_20 rfl hl (by decide) rfl (fun ls hl => ?_)
    refine lv_aload_n hx hb dX4_turn_21 rfl (lv_at hl 1 rfl) ?_
    refine lv_iload_n hx hb dX4_turn_22 rfl (lv_at hl 2 rfl) ?_
    obtain ⟨σ2, eσ2, h⟩ := k_ltx h
    refine pt_M_X4_turn C hP hap hAA eσ2 qFL_RX4_101 dX4_turn_23 (fun H locs hP => ?_)
    refine lv_iload_n hx hb dX4_turn_26 rfl (lv_at hl 0 rfl) ?_
    exact e_iret C hend hP (k_some2 h).1 (congrArg (mw ev ad) (k_some2 h).2) dX4_turn_27
  · have h := k_nf c6 h
    refine lv_aload_n hx hb dX4_turn_9 rfl (lv_at hl 0 rfl) ?_
    refine lv_bipush (v := (-2)) hx hb dX4_turn_10 (by decide) ?_
    obtain ⟨x4, σ3, h1, h⟩ := k_ob2 h
    refine k_callVi C hP hap hAA (c_X4_no l ev ad σ (-2)   _ _ h1) Emb.same hap gz_X4_no qML_RX4_56 qIM_yX4_no qSE_yX4_no ⟨(Nat.le_of_ble_eq_true rfl), (Nat.le_of_ble_eq_true rfl)⟩ (q0 := 0) rfl (by decide) rfl rfl rfl rfl hl.1 rfl (Nat.le_of_ble_eq_true rfl) dX4_turn_12 ⟨Nat.le_refl _, Nat.le_refl _⟩ (fun H locs hP => ?_)
    exact e_iret C hend hP (k_some2 h).1 (congrArg (mw ev ad) (k_some2 h).2) dX4_turn_15
def f_X4_beside (σ : MM) (a1 : Int32) (a2 : Int32) : Option (Int32) :=
  ob (f_X4_edge σ a1 a2) (fun x1 => gd (nz 2) (ob (f_X4_field σ x1 (irem a2 2)) (fun x2 => some x2)))
set_option maxHeartbeats 4000000 in
set_option maxRecDepth 100000 in
theorem c_X4_beside (l : Launch) (ev : EV) (ad : Nat → Nat) (σ : MM) (a1 : Int32) (a2 : Int32)   (r : Int32)  (h : f_X4_beside σ a1 a2 = some r) : Ct l yX4_beside prog_6_method_30_code 3 (Option.some Jvm.ClassFile.FieldType.int) (rmk 3 67) ev 13 ad (mw ev ad σ) (mw ev ad σ) [.ref (ad 0), .int a1, .int a2] (some (.int r)) := by
  refine Ct.of (by decide +kernel) (Nat.le_of_ble_eq_true rfl) ?_
  intro p e s m args below meth c Qc C hap hP hend ls hl
  have hAA : ∀ j, j < 13 → inA ad 13 (ad j) := fun j hj => ⟨j, hj, rfl⟩
  have hx := C.1
  have hb := C.2.1
  have hl : lv_has ls 3 [(0, .ref (ad 0)), (1, .int a1), (2, .int a2)] := hl
  have h := (f_X4_beside.eq_1 _ _ _ ).symm.trans h
  refine lv_aload_n hx hb dX4_beside_0 rfl (lv_at hl 0 rfl) ?_
  refine lv_aload_n hx hb dX4_beside_1 rfl (lv_at hl 0 rfl) ?_
  refine lv_iload_n hx hb dX4_beside_2 rfl (lv_at hl 1 rfl) ?_
  refine lv_iload_n hx hb dX4_beside_3 rfl (lv_at hl 2 rfl) ?_
  obtain ⟨x1, h1, h⟩ := k_ob h
  refine k_callVi C hP hap hAA (c_X4_edge l ev ad σ a1 a2   _ h1) Emb.same hap gz_X4_edge qML_RX4_122 qIM_yX4_edge qSE_yX4_edge ⟨(Nat.le_of_ble_eq_true rfl), (Nat.le_of_ble_eq_true rfl)⟩ (q0 := 0) rfl (by decide) rfl rfl rfl rfl hl.1 rfl (Nat.le_of_ble_eq_true rfl) dX4_beside_4 ⟨Nat.le_refl _, Nat.le_refl _⟩ (fun H locs hP => ?_)
  refine lv_iload_n hx hb dX4_beside_7 rfl (lv_at hl 2 rfl) ?_
  refine lv_iconst (v := 2) hx hb dX4_beside_8 (by decide) ?_
  obtain ⟨hg, h⟩ := k_gd h
  refine r_irem hx hb dX4_beside_9 (nz_ne hg) ?_
  obtain ⟨x2, h1, h⟩ := k_ob h
  refine k_callVi C hP hap hAA (c_X4_field l ev ad σ x1 (irem a2 2)   _ h1) Emb.same hap gz_X4_field qML_RX4_119 qIM_yX4_field qSE_yX4_field ⟨(Nat.le_of_ble_eq_true rfl), (Nat.le_of_ble_eq_true rfl)⟩ (q0 := 0) rfl (by decide) rfl rfl rfl rfl hl.1 rfl (Nat.le_of_ble_eq_true rfl) dX4_beside_10 ⟨Nat.le_refl _, Nat.le_refl _⟩ (fun H locs hP => ?_)
  exact e_iret C hend hP (k_some h) rfl dX4_beside_13
def f_X4_feed (σ : MM) (a1 : Int32) : Option (Int32 × MM) :=
  if (f_X4_within a1 0 255) = true then if (m_taped σ) = 250 then ob2 (f_X4_no σ (-6)) (fun x5 σ4 => some (x5, σ4)) else lt (m_taped σ) (fun x1 => lt (m_taped' σ (x1 + 1)) (fun σ2 => gd (inb x1 250) (lt (m_tape' σ2 (upd (m_tape σ2) (Int32.toNatClampNeg x1) a1)) (fun σ3 => some ((m_taped σ3), σ3))))) else ob2 (f_X4_no σ (-2)) (fun x7 σ6 => some (x7, σ6))
set_option maxHeartbeats 4000000 in
set_option maxRecDepth 100000 in
theorem c_X4_feed (l : Launch) (ev : EV) (ad : Nat → Nat) (σ : MM) (a1 : Int32)   (r : Int32) (σ' : MM) (h : f_X4_feed σ a1 = some (r, σ')) : Ct l yX4_feed prog_6_method_32_code 2 (Option.some Jvm.ClassFile.FieldType.int) (rmk 1 22) ev 13 ad (mw ev ad σ) (mw ev ad σ') [.ref (ad 0), .int a1] (some (.int r)) := by
  refine Ct.of (by decide +kernel) (Nat.le_of_ble_eq_true rfl) ?_
  intro p e s m args below meth c Qc C hap hP hend ls hl
  have hAA : ∀ j, j < 13 → inA ad 13 (ad j) := fun j hj => ⟨j, hj, rfl⟩
  have hx := C.1
  have hb := C.2.1
  have hl : lv_has ls 2 [(0, .ref (ad 0)), (1, .int a1)] := hl
  have h := (f_X4_feed.eq_1 _ _ ).symm.trans h
  refine lv_iload_n hx hb dX4_feed_0 rfl (lv_at hl 1 rfl) ?_
  refine lv_iconst (v := 0) hx hb dX4_feed_1 (by decide) ?_
  refine lv_sipush (v := 255) hx hb dX4_feed_2 (by decide) ?_
  refine k_callSi C hP hap hAA (c_X4_within l ev ad a1 0 255   _ rfl) Emb.none (apart_0 _) gz_X4_within qML_RX4_63 qSM_yX4_within ⟨(Nat.le_of_ble_eq_true rfl), (Nat.le_of_ble_eq_true rfl)⟩ rfl hl.1 rfl (Nat.le_of_ble_eq_true rfl) dX4_feed_5 ⟨Nat.le_refl _, Nat.le_refl _⟩ (fun H locs hP => ?_)
  refine r_ifz_ne (tgt := 18) hx hb dX4_feed_8 (by decide) (fun c8 => ?_) (fun c8 => ?_)
  · have h := k_if c8 h
    refine lv_aload_n hx hb dX4_feed_18 rfl (lv_at hl 0 rfl) ?_
    refine r_get C hP (ci := 4) rfl uin_X4 11 (by decide) 0 (by decide) rfl qFL_RX4_128 rfl rfl dX4_feed_19 ?_
    refine lv_sipush (v := 250) hx hb dX4_feed_22 (by decide) ?_
    refine lv_icmp_ne (tgt := 35) hx hb dX4_feed_25 (by decide) (fun c25 => ?_) (fun c25 => ?_)
    · have h := k_nf c25 h
      refine lv_aload_n hx hb dX4_feed_35 rfl (lv_at hl 0 rfl) ?_
      refine r_get C hP (ci := 4) rfl uin_X4 12 (by decide) 0 (by decide) rfl qFL_RX4_26 rfl rfl dX4_feed_36 ?_
      refine lv_aload_n hx hb dX4_feed_39 rfl (lv_at hl 0 rfl) ?_
      refine lv_dup hx hb dX4_feed_40 rfl ?_
      refine r_get C hP (ci := 4) rfl uin_X4 11 (by decide) 0 (by decide) rfl qFL_RX4_128 rfl rfl dX4_feed_41 ?_
      refine lv_topi (fun x1 ex1 => ?_)
      have h := k_lt ex1 h
      refine lv_dup_x1 hx hb dX4_feed_44 rfl rfl ?_
      refine lv_iconst (v := 1) hx hb dX4_feed_45 (by decide) ?_
      refine lv_iadd hx hb dX4_feed_46 ?_
      obtain ⟨σ2, eσ2, h⟩ := k_ltx h
      refine pt_M_X4_taped C hP hap hAA eσ2 qFL_RX4_128 dX4_feed_47 (fun H locs hP => ?_)
      refine lv_iload_n hx hb dX4_feed_50 rfl (lv_at hl 1 rfl) ?_
      obtain ⟨hg, h⟩ := k_gd h
      obtain ⟨σ3, eσ3, h⟩ := k_ltx h
      refine st_M_tape C hP hap hAA eσ3 hg dX4_feed_51 (fun H locs hP => ?_)
      refine lv_aload_n hx hb dX4_feed_52 rfl (lv_at hl 0 rfl) ?_
      refine r_get C hP (ci := 4) rfl uin_X4 11 (by decide) 0 (by decide) rfl qFL_RX4_128 rfl rfl dX4_feed_53 ?_
      exact e_iret C hend hP (k_some2 h).1 (congrArg (mw ev ad) (k_some2 h).2) dX4_feed_56
    · have h := k_if c25 h
      refine lv_aload_n hx hb dX4_feed_28 rfl (lv_at hl 0 rfl) ?_
      refine lv_bipush (v := (-6)) hx hb dX4_feed_29 (by decide) ?_
      obtain ⟨x5, σ4, h1, h⟩ := k_ob2 h
      refine k_callVi C hP hap hAA (c_X4_no l ev ad σ (-6)   _ _ h1) Emb.same hap gz_X4_no qML_RX4_56 qIM_yX4_no qSE_yX4_no ⟨(Nat.le_of_ble_eq_true rfl), (Nat.le_of_ble_eq_true rfl)⟩ (q0 := 0) rfl (by decide) rfl rfl rfl rfl hl.1 rfl (Nat.le_of_ble_eq_true rfl) dX4_feed_31 ⟨Nat.le_refl _, Nat.le_refl _⟩ (fun H locs hP => ?_)
      exact e_iret C hend hP (k_some2 h).1 (congrArg (mw ev ad) (k_some2 h).2) dX4_feed_34
  · have h := k_nf c8 h
    refine lv_aload_n hx hb dX4_feed_11 rfl (lv_at hl 0 rfl) ?_
    refine lv_bipush (v := (-2)) hx hb dX4_feed_12 (by decide) ?_
    obtain ⟨x7, σ6, h1, h⟩ := k_ob2 h
    refine k_callVi C hP hap hAA (c_X4_no l ev ad σ (-2)   _ _ h1) Emb.same hap gz_X4_no qML_RX4_56 qIM_yX4_no qSE_yX4_no ⟨(Nat.le_of_ble_eq_true rfl), (Nat.le_of_ble_eq_true rfl)⟩ (q0 := 0) rfl (by decide) rfl rfl rfl rfl hl.1 rfl (Nat.le_of_ble_eq_true rfl) dX4_feed_14 ⟨Nat.le_refl _, Nat.le_refl _⟩ (fun H locs hP => ?_)
    exact e_iret C hend hP (k_some2 h).1 (congrArg (mw ev ad) (k_some2 h).2) dX4_feed_17
def f_X4_wipe (σ : MM) : Option (Int32 × MM) :=
  lt (m_taped σ) (fun x1 => lt (m_taped' σ 0) (fun σ2 => some (x1, σ2)))
set_option maxHeartbeats 4000000 in
set_option maxRecDepth 100000 in
theorem c_X4_wipe (l : Launch) (ev : EV) (ad : Nat → Nat) (σ : MM)   (r : Int32) (σ' : MM) (h : f_X4_wipe σ = some (r, σ')) : Ct l yX4_wipe prog_6_method_33_code 2 (Option.some Jvm.ClassFile.FieldType.int) (rmk 0 0) ev 13 ad (mw ev ad σ) (mw ev ad σ') [.ref (ad 0)] (some (.int r)) := by
  refine Ct.of (by decide +kernel) (Nat.le_of_ble_eq_true rfl) ?_
  intro p e s m args below meth c Qc C hap hP hend ls hl
  have hAA : ∀ j, j < 13 → inA ad 13 (ad j) := fun j hj => ⟨j, hj, rfl⟩
  have hx := C.1
  have hb := C.2.1
  have hl : lv_has ls 2 [(0, .ref (ad 0))] := hl
  have h := (f_X4_wipe.eq_1 _ ).symm.trans h
  refine lv_aload_n hx hb dX4_wipe_0 rfl (lv_at hl 0 rfl) ?_
  refine r_get C hP (ci := 4) rfl uin_X4 11 (by decide) 0 (by decide) rfl qFL_RX4_128 rfl rfl dX4_wipe_1 ?_
  refine lv_topi (fun x1 ex1 => ?_)
  have h := k_lt ex1 h
  refine lv_istore_n (lv' := [(1, .int x1), (0, .ref (ad 0))]) hx hb dX4_wipe_4 rfl hl (by decide) rfl (fun ls hl => ?_)
  refine lv_aload_n hx hb dX4_wipe_5 rfl (lv_at hl 1 rfl) ?_
  refine lv_iconst (v := 0) hx hb dX4_wipe_6 (by decide) ?_
  obtain ⟨σ2, eσ2, h⟩ := k_ltx h
  refine pt_M_X4_taped C hP hap hAA eσ2 qFL_RX4_128 dX4_wipe_7 (fun H locs hP => ?_)
  refine lv_iload_n hx hb dX4_wipe_10 rfl (lv_at hl 0 rfl) ?_
  exact e_iret C hend hP (k_some2 h).1 (congrArg (mw ev ad) (k_some2 h).2) dX4_wipe_11
def f_X4_isLetter (a1 : Int32) : Bool :=
  if a1 < 97 then false else if 122 < a1 then false else true
set_option maxHeartbeats 4000000 in
set_option maxRecDepth 100000 in
theorem c_X4_isLetter (l : Launch) (ev : EV) (ad : Nat → Nat) (a1 : Int32)   (r : Bool)  (h : f_X4_isLetter a1 = r) : Ct l yX4_isLetter prog_6_method_34_code 1 (Option.some Jvm.ClassFile.FieldType.boolean) (rmk 0 0) ev 0 ad w00 w00 [.int a1] (some (.int (bi r))) := by
  refine Ct.of (by decide +kernel) (Nat.le_of_ble_eq_true rfl) ?_
  intro p e s m args below meth c Qc C hap hP hend ls hl
  have hAA : ∀ j, j < 0 → inA ad 0 (ad j) := fun j hj => ⟨j, hj, rfl⟩
  have hx := C.1
  have hb := C.2.1
  have hl : lv_has ls 1 [(0, .int a1)] := hl
  have h := (f_X4_isLetter.eq_1 _ ).symm.trans h
  refine lv_iload_n hx hb dX4_isLetter_0 rfl (lv_at hl 0 rfl) ?_
  refine lv_bipush (v := 97) hx hb dX4_isLetter_1 (by decide) ?_
  refine lv_icmp_lt (tgt := 16) hx hb dX4_isLetter_3 (by decide) (fun c3 => ?_) (fun c3 => ?_)
  · have h := k_if c3 h
    refine lv_iconst (v := 0) hx hb dX4_isLetter_16 (by decide) ?_
    exact e_zret C hend hP h rfl dX4_isLetter_17 rfl
  · have h := k_nf c3 h
    refine lv_iload_n hx hb dX4_isLetter_6 rfl (lv_at hl 0 rfl) ?_
    refine lv_bipush (v := 122) hx hb dX4_isLetter_7 (by decide) ?_
    refine lv_icmp_gt (tgt := 16) hx hb dX4_isLetter_9 (by decide) (fun c9 => ?_) (fun c9 => ?_)
    · have h := k_if c9 h
      refine lv_iconst (v := 0) hx hb dX4_isLetter_16 (by decide) ?_
      exact e_zret C hend hP h rfl dX4_isLetter_17 rfl
    · have h := k_nf c9 h
      refine lv_iconst (v := 1) hx hb dX4_isLetter_12 (by decide) ?_
      refine lv_goto (tgt := 17) hx hb dX4_isLetter_13 (by decide) ?_
      exact e_zret C hend hP h rfl dX4_isLetter_17 rfl
def f_X4_isDigit (a1 : Int32) : Bool :=
  if a1 < 48 then false else if 57 < a1 then false else true
set_option maxHeartbeats 4000000 in
set_option maxRecDepth 100000 in
theorem c_X4_isDigit (l : Launch) (ev : EV) (ad : Nat → Nat) (a1 : Int32)   (r : Bool)  (h : f_X4_isDigit a1 = r) : Ct l yX4_isDigit prog_6_method_35_code 1 (Option.some Jvm.ClassFile.FieldType.boolean) (rmk 0 0) ev 0 ad w00 w00 [.int a1] (some (.int (bi r))) := by
  refine Ct.of (by decide +kernel) (Nat.le_of_ble_eq_true rfl) ?_
  intro p e s m args below meth c Qc C hap hP hend ls hl
  have hAA : ∀ j, j < 0 → inA ad 0 (ad j) := fun j hj => ⟨j, hj, rfl⟩
  have hx := C.1
  have hb := C.2.1
  have hl : lv_has ls 1 [(0, .int a1)] := hl
  have h := (f_X4_isDigit.eq_1 _ ).symm.trans h
  refine lv_iload_n hx hb dX4_isDigit_0 rfl (lv_at hl 0 rfl) ?_
  refine lv_bipush (v := 48) hx hb dX4_isDigit_1 (by decide) ?_
  refine lv_icmp_lt (tgt := 16) hx hb dX4_isDigit_3 (by decide) (fun c3 => ?_) (fun c3 => ?_)
  · have h := k_if c3 h
    refine lv_iconst (v := 0) hx hb dX4_isDigit_16 (by decide) ?_
    exact e_zret C hend hP h rfl dX4_isDigit_17 rfl
  · have h := k_nf c3 h
    refine lv_iload_n hx hb dX4_isDigit_6 rfl (lv_at hl 0 rfl) ?_
    refine lv_bipush (v := 57) hx hb dX4_isDigit_7 (by decide) ?_
    refine lv_icmp_gt (tgt := 16) hx hb dX4_isDigit_9 (by decide) (fun c9 => ?_) (fun c9 => ?_)
    · have h := k_if c9 h
      refine lv_iconst (v := 0) hx hb dX4_isDigit_16 (by decide) ?_
      exact e_zret C hend hP h rfl dX4_isDigit_17 rfl
    · have h := k_nf c9 h
      refine lv_iconst (v := 1) hx hb dX4_isDigit_12 (by decide) ?_
      refine lv_goto (tgt := 17) hx hb dX4_isDigit_13 (by decide) ?_
      exact e_zret C hend hP h rfl dX4_isDigit_17 rfl
def f_X4_next_L8_b  (k46 : MM → Option MM) (rec8 : MM → Option MM) (σ2 : MM) : Option MM :=
  if (m_taped σ2) ≤ (m_from σ2) then k46 σ2 else gd (inb (m_from σ2) 250) (if ((m_tape σ2) (Int32.toNatClampNeg (m_from σ2))) = 32 then lt (m_from' σ2 ((m_from σ2) + 1)) (fun σ3 => rec8 σ3) else k46 σ2)
def f_X4_next_L8  (k46 : MM → Option MM) (σ2 : MM) : Option MM :=
  lp (fun _ => none) (f_X4_next_L8_b  k46) FU σ2
def f_X4_next_L159_b  (k235 : MM → Option MM) (rec159 : MM → Option MM) (σ13 : MM) : Option MM :=
  if (m_taped σ13) ≤ (m_to σ13) then k235 σ13 else gd (inb (m_to σ13) 250) (if (f_X4_isDigit ((m_tape σ13) (Int32.toNatClampNeg (m_to σ13)))) = true then if 2 ≤ ((m_to σ13) - (m_from σ13)) then lt (m_to' σ13 ((m_to σ13) + 1)) (fun σ14 => rec159 σ14) else gd (inb (m_to σ13) 250) (lt (m_value' σ13 (((10 * (m_value σ13)) + ((m_tape σ13) (Int32.toNatClampNeg (m_to σ13)))) - 48)) (fun σ15 => lt (m_to' σ15 ((m_to σ15) + 1)) (fun σ16 => rec159 σ16))) else k235 σ13)
def f_X4_next_L159  (k235 : MM → Option MM) (σ13 : MM) : Option MM :=
  lp (fun _ => none) (f_X4_next_L159_b  k235) FU σ13
def f_X4_next_b235  (σ18 : MM) : Option MM :=
  if ((m_to σ18) - (m_from σ18)) ≤ 2 then lt (m_token' σ18 48) (fun σ19 => some σ19) else lt (m_token' σ18 120) (fun σ20 => some σ20)
def f_X4_next_L96_b  (k135 : MM → Option MM) (rec96 : MM → Option MM) (σ21 : MM) : Option MM :=
  if (m_taped σ21) ≤ (m_to σ21) then k135 σ21 else gd (inb (m_to σ21) 250) (if (f_X4_isLetter ((m_tape σ21) (Int32.toNatClampNeg (m_to σ21)))) = true then lt (m_to' σ21 ((m_to σ21) + 1)) (fun σ22 => rec96 σ22) else k135 σ21)
def f_X4_next_L96  (k135 : MM → Option MM) (σ21 : MM) : Option MM :=
  lp (fun _ => none) (f_X4_next_L96_b  k135) FU σ21
def f_X4_next_b46  (σ5 : MM) : Option MM :=
  lt (m_to' σ5 (m_from σ5)) (fun σ6 => if (m_from σ6) = (m_taped σ6) then lt (m_token' σ6 101) (fun σ25 => some σ25) else lt (m_to σ6) (fun x7 => lt (m_to' σ6 (x7 + 1)) (fun σ8 => gd (inb x7 250) (lt ((m_tape σ8) (Int32.toNatClampNeg x7)) (fun x9 => if (f_X4_isLetter x9) = true then f_X4_next_L96 (fun σ23 => lt (m_token' σ23 119) (fun σ24 => some σ24)) σ8 else if (f_X4_isDigit x9) = true then lt (m_value' σ8 (x9 - 48)) (fun σ12 => f_X4_next_L159 (fun σ17 => f_X4_next_b235 σ17) σ12) else if x9 = 59 then lt (m_token' σ8 59) (fun σ11 => some σ11) else lt (m_token' σ8 120) (fun σ10 => some σ10))))))
def f_X4_next (σ : MM) : Option MM :=
  lt (m_from' σ (m_to σ)) (fun σ1 => f_X4_next_L8 (fun σ4 => f_X4_next_b46 σ4) σ1)
set_option maxHeartbeats 4000000 in
set_option maxRecDepth 100000 in
theorem c_X4_next (l : Launch) (ev : EV) (ad : Nat → Nat) (σ : MM)    (σ' : MM) (h : f_X4_next σ = some σ') : Ct l yX4_next prog_6_method_36_code 2 (Option.none : Option Jvm.ClassFile.FieldType) (rmk 1 20) ev 13 ad (mw ev ad σ) (mw ev ad σ') [.ref (ad 0)] none := by
  refine Ct.of (by decide +kernel) (Nat.le_of_ble_eq_true rfl) ?_
  intro p e s m args below meth c Qc C hap hP hend ls hl
  have hAA : ∀ j, j < 13 → inA ad 13 (ad j) := fun j hj => ⟨j, hj, rfl⟩
  have hx := C.1
  have hb := C.2.1
  have hl : lv_has ls 2 [(0, .ref (ad 0))] := hl
  have h := (f_X4_next.eq_1 _ ).symm.trans h
  have hB235 : ∀ (σ18 : MM) (H : Heap) (locs : List Loc) (ls : Array Slot), f_X4_next_b235  σ18 = some σ' → PS ev 13 ad (mw ev ad σ18) (inA ad 13) s H locs → lv_has ls 2 [(0, .ref (ad 0))] → WW ev p l e (rmk 1 20) s m args below meth c Qc ad 13 H locs 235 ls [] := by
    intro σ18 H locs ls h hP hl
    have h := (f_X4_next_b235.eq_1 _ ).symm.trans h
    refine lv_aload_n hx hb dX4_next_235 rfl (lv_at hl 0 rfl) ?_
    refine lv_aload_n hx hb dX4_next_236 rfl (lv_at hl 0 rfl) ?_
    refine r_get C hP (ci := 4) rfl uin_X4 14 (by decide) 0 (by decide) rfl qFL_RX4_131 rfl rfl dX4_next_237 ?_
    refine lv_aload_n hx hb dX4_next_240 rfl (lv_at hl 0 rfl) ?_
    refine r_get C hP (ci := 4) rfl uin_X4 13 (by decide) 0 (by decide) rfl qFL_RX4_134 rfl rfl dX4_next_241 ?_
    refine lv_isub hx hb dX4_next_244 ?_
    refine lv_iconst (v := 2) hx hb dX4_next_245 (by decide) ?_
    refine lv_icmp_le (tgt := 254) hx hb dX4_next_246 (by decide) (fun c246 => ?_) (fun c246 => ?_)
    · have h := k_if c246 h
      refine lv_bipush (v := 48) hx hb dX4_next_254 (by decide) ?_
      obtain ⟨σ19, eσ19, h⟩ := k_ltx h
      refine pt_M_X4_token C hP hap hAA eσ19 qFL_RX4_137 dX4_next_256 (fun H locs hP => ?_)
      refine lv_goto (tgt := 279) hx hb dX4_next_259 (by decide) ?_
      exact e_vret C hend hP (congrArg (mw ev ad) (k_some h)) dX4_next_279
    · have h := k_nf c246 h
      refine lv_bipush (v := 120) hx hb dX4_next_249 (by decide) ?_
      refine lv_goto (tgt := 256) hx hb dX4_next_251 (by decide) ?_
      obtain ⟨σ20, eσ20, h⟩ := k_ltx h
      refine pt_M_X4_token C hP hap hAA eσ20 qFL_RX4_137 dX4_next_256 (fun H locs hP => ?_)
      refine lv_goto (tgt := 279) hx hb dX4_next_259 (by decide) ?_
      exact e_vret C hend hP (congrArg (mw ev ad) (k_some h)) dX4_next_279
  have hB46 : ∀ (σ5 : MM) (H : Heap) (locs : List Loc) (ls : Array Slot), f_X4_next_b46  σ5 = some σ' → PS ev 13 ad (mw ev ad σ5) (inA ad 13) s H locs → lv_has ls 2 [(0, .ref (ad 0))] → WW ev p l e (rmk 1 20) s m args below meth c Qc ad 13 H locs 46 ls [] := by
    intro σ5 H locs ls h hP hl
    have h := (f_X4_next_b46.eq_1 _ ).symm.trans h
    refine lv_aload_n hx hb dX4_next_46 rfl (lv_at hl 0 rfl) ?_
    refine lv_aload_n hx hb dX4_next_47 rfl (lv_at hl 0 rfl) ?_
    refine r_get C hP (ci := 4) rfl uin_X4 13 (by decide) 0 (by decide) rfl qFL_RX4_134 rfl rfl dX4_next_48 ?_
    obtain ⟨σ6, eσ6, h⟩ := k_ltx h
    refine pt_M_X4_to C hP hap hAA eσ6 qFL_RX4_131 dX4_next_51 (fun H locs hP => ?_)
    refine lv_aload_n hx hb dX4_next_54 rfl (lv_at hl 0 rfl) ?_
    refine r_get C hP (ci := 4) rfl uin_X4 13 (by decide) 0 (by decide) rfl qFL_RX4_134 rfl rfl dX4_next_55 ?_
    refine lv_aload_n hx hb dX4_next_58 rfl (lv_at hl 0 rfl) ?_
    refine r_get C hP (ci := 4) rfl uin_X4 11 (by decide) 0 (by decide) rfl qFL_RX4_128 rfl rfl dX4_next_59 ?_
    refine lv_icmp_ne (tgt := 72) hx hb dX4_next_62 (by decide) (fun c62 => ?_) (fun c62 => ?_)
    · have h := k_nf c62 h
      refine lv_aload_n hx hb dX4_next_72 rfl (lv_at hl 0 rfl) ?_
      refine r_get C hP (ci := 4) rfl uin_X4 12 (by decide) 0 (by decide) rfl qFL_RX4_26 rfl rfl dX4_next_73 ?_
      refine lv_aload_n hx hb dX4_next_76 rfl (lv_at hl 0 rfl) ?_
      refine lv_dup hx hb dX4_next_77 rfl ?_
      refine r_get C hP (ci := 4) rfl uin_X4 14 (by decide) 0 (by decide) rfl qFL_RX4_131 rfl rfl dX4_next_78 ?_
      refine lv_topi (fun x7 ex7 => ?_)
      have h := k_lt ex7 h
      refine lv_dup_x1 hx hb dX4_next_81 rfl rfl ?_
      refine lv_iconst (v := 1) hx hb dX4_next_82 (by decide) ?_
      refine lv_iadd hx hb dX4_next_83 ?_
      obtain ⟨σ8, eσ8, h⟩ := k_ltx h
      refine pt_M_X4_to C hP hap hAA eσ8 qFL_RX4_131 dX4_next_84 (fun H locs hP => ?_)
      obtain ⟨hg, h⟩ := k_gd h
      refine r_iald C hP 6 (by decide) rfl hg dX4_next_87 ?_
      refine lv_topi (fun x9 ex9 => ?_)
      have h := k_lt ex9 h
      refine lv_istore_n (lv' := [(1, .int x9), (0, .ref (ad 0))]) hx hb dX4_next_88 rfl hl (by decide) rfl (fun ls hl => ?_)
      refine lv_iload_n hx hb dX4_next_89 rfl (lv_at hl 0 rfl) ?_
      refine k_callSi C hP hap hAA (c_X4_isLetter l ev ad x9   _ rfl) Emb.none (apart_0 _) gz_X4_isLetter qML_RX4_140 qSM_yX4_isLetter ⟨(Nat.le_of_ble_eq_true rfl), (Nat.le_of_ble_eq_true rfl)⟩ rfl hl.1 rfl (Nat.le_of_ble_eq_true rfl) dX4_next_90 ⟨Nat.le_refl _, Nat.le_refl _⟩ (fun H locs hP => ?_)
      refine r_ifz_eq (tgt := 144) hx hb dX4_next_93 (by decide) (fun c93 => ?_) (fun c93 => ?_)
      · have h := k_nf c93 h
        refine lv_iload_n hx hb dX4_next_144 rfl (lv_at hl 0 rfl) ?_
        refine k_callSi C hP hap hAA (c_X4_isDigit l ev ad x9   _ rfl) Emb.none (apart_0 _) gz_X4_isDigit qML_RX4_143 qSM_yX4_isDigit ⟨(Nat.le_of_ble_eq_true rfl), (Nat.le_of_ble_eq_true rfl)⟩ rfl hl.1 rfl (Nat.le_of_ble_eq_true rfl) dX4_next_145 ⟨Nat.le_refl _, Nat.le_refl _⟩ (fun H locs hP => ?_)
        refine r_ifz_eq (tgt := 262) hx hb dX4_next_148 (by decide) (fun c148 => ?_) (fun c148 => ?_)
        · have h := k_nf c148 h
          refine lv_aload_n hx hb dX4_next_262 rfl (lv_at hl 1 rfl) ?_
          refine lv_iload_n hx hb dX4_next_263 rfl (lv_at hl 0 rfl) ?_
          refine lv_bipush (v := 59) hx hb dX4_next_264 (by decide) ?_
          refine lv_icmp_ne (tgt := 274) hx hb dX4_next_266 (by decide) (fun c266 => ?_) (fun c266 => ?_)
          · have h := k_nf c266 h
            refine lv_bipush (v := 120) hx hb dX4_next_274 (by decide) ?_
            obtain ⟨σ10, eσ10, h⟩ := k_ltx h
            refine pt_M_X4_token C hP hap hAA eσ10 qFL_RX4_137 dX4_next_276 (fun H locs hP => ?_)
            exact e_vret C hend hP (congrArg (mw ev ad) (k_some h)) dX4_next_279
          · have h := k_if c266 h
            refine lv_bipush (v := 59) hx hb dX4_next_269 (by decide) ?_
            refine lv_goto (tgt := 276) hx hb dX4_next_271 (by decide) ?_
            obtain ⟨σ11, eσ11, h⟩ := k_ltx h
            refine pt_M_X4_token C hP hap hAA eσ11 qFL_RX4_137 dX4_next_276 (fun H locs hP => ?_)
            exact e_vret C hend hP (congrArg (mw ev ad) (k_some h)) dX4_next_279
        · have h := k_if c148 h
          refine lv_aload_n hx hb dX4_next_151 rfl (lv_at hl 1 rfl) ?_
          refine lv_iload_n hx hb dX4_next_152 rfl (lv_at hl 0 rfl) ?_
          refine lv_bipush (v := 48) hx hb dX4_next_153 (by decide) ?_
          refine lv_isub hx hb dX4_next_155 ?_
          obtain ⟨σ12, eσ12, h⟩ := k_ltx h
          refine pt_M_X4_value C hP hap hAA eσ12 qFL_RX4_146 dX4_next_156 (fun H locs hP => ?_)
          have hL159 : ∀ (k235 : MM → Option MM) (hk235 : ∀  (σk : MM) (H : Heap) (locs : List Loc) (ls : Array Slot), k235  σk = some σ' → PS ev 13 ad (mw ev ad σk) (inA ad 13) s H locs → lv_has ls 2 [(0, .ref (ad 0))] → WW ev p l e (rmk 1 20) s m args below meth c Qc ad 13 H locs 235 ls []) (n : Nat) (σ13 : MM) (H : Heap) (locs : List Loc) (ls : Array Slot), lp (fun _ => none) (f_X4_next_L159_b  k235) n σ13 = some σ' → PS ev 13 ad (mw ev ad σ13) (inA ad 13) s H locs → lv_has ls 2 [(0, .ref (ad 0))] → WW ev p l e (rmk 1 20) s m args below meth c Qc ad 13 H locs 159 ls [] := by
            intro k235 hk235 n
            induction n with
            | zero =>
              intro σ13 H locs ls h; exact k_none h
            | succ n ih =>
              intro σ13 H locs ls h hP hl
              have h : f_X4_next_L159_b  k235 (lp (fun _ => none) (f_X4_next_L159_b  k235) n) σ13 = some σ' := h
              have h := (f_X4_next_L159_b.eq_1 _ _ _ ).symm.trans h
              refine lv_aload_n hx hb dX4_next_159 rfl (lv_at hl 0 rfl) ?_
              refine r_get C hP (ci := 4) rfl uin_X4 14 (by decide) 0 (by decide) rfl qFL_RX4_131 rfl rfl dX4_next_160 ?_
              refine lv_aload_n hx hb dX4_next_163 rfl (lv_at hl 0 rfl) ?_
              refine r_get C hP (ci := 4) rfl uin_X4 11 (by decide) 0 (by decide) rfl qFL_RX4_128 rfl rfl dX4_next_164 ?_
              refine lv_icmp_ge (tgt := 235) hx hb dX4_next_167 (by decide) (fun c167 => ?_) (fun c167 => ?_)
              · have h := k_if c167 h
                exact hk235 _ _ _ _ h hP (lv_sub hl [0] rfl)
              · have h := k_nf c167 h
                refine lv_aload_n hx hb dX4_next_170 rfl (lv_at hl 0 rfl) ?_
                refine r_get C hP (ci := 4) rfl uin_X4 12 (by decide) 0 (by decide) rfl qFL_RX4_26 rfl rfl dX4_next_171 ?_
                refine lv_aload_n hx hb dX4_next_174 rfl (lv_at hl 0 rfl) ?_
                refine r_get C hP (ci := 4) rfl uin_X4 14 (by decide) 0 (by decide) rfl qFL_RX4_131 rfl rfl dX4_next_175 ?_
                obtain ⟨hg, h⟩ := k_gd h
                refine r_iald C hP 6 (by decide) rfl hg dX4_next_178 ?_
                refine k_callSi C hP hap hAA (c_X4_isDigit l ev ad ((m_tape σ13) (Int32.toNatClampNeg (m_to σ13)))   _ rfl) Emb.none (apart_0 _) gz_X4_isDigit qML_RX4_143 qSM_yX4_isDigit ⟨(Nat.le_of_ble_eq_true rfl), (Nat.le_of_ble_eq_true rfl)⟩ rfl hl.1 rfl (Nat.le_of_ble_eq_true rfl) dX4_next_179 ⟨Nat.le_refl _, Nat.le_refl _⟩ (fun H locs hP => ?_)
                refine r_ifz_eq (tgt := 235) hx hb dX4_next_182 (by decide) (fun c182 => ?_) (fun c182 => ?_)
                · have h := k_nf c182 h
                  exact hk235 _ _ _ _ h hP (lv_sub hl [0] rfl)
                · have h := k_if c182 h
                  refine lv_aload_n hx hb dX4_next_185 rfl (lv_at hl 0 rfl) ?_
                  refine r_get C hP (ci := 4) rfl uin_X4 14 (by decide) 0 (by decide) rfl qFL_RX4_131 rfl rfl dX4_next_186 ?_
                  refine lv_aload_n hx hb dX4_next_189 rfl (lv_at hl 0 rfl) ?_
                  refine r_get C hP (ci := 4) rfl uin_X4 13 (by decide) 0 (by decide) rfl qFL_RX4_134 rfl rfl dX4_next_190 ?_
                  refine lv_isub hx hb dX4_next_193 ?_
                  refine lv_iconst (v := 2) hx hb dX4_next_194 (by decide) ?_
                  refine lv_icmp_ge (tgt := 222) hx hb dX4_next_195 (by decide) (fun c195 => ?_) (fun c195 => ?_)
                  · have h := k_if c195 h
                    refine lv_aload_n hx hb dX4_next_222 rfl (lv_at hl 0 rfl) ?_
                    refine lv_dup hx hb dX4_next_223 rfl ?_
                    refine r_get C hP (ci := 4) rfl uin_X4 14 (by decide) 0 (by decide) rfl qFL_RX4_131 rfl rfl dX4_next_224 ?_
                    refine lv_iconst (v := 1) hx hb dX4_next_227 (by decide) ?_
                    refine lv_iadd hx hb dX4_next_228 ?_
                    obtain ⟨σ14, eσ14, h⟩ := k_ltx h
                    refine pt_M_X4_to C hP hap hAA eσ14 qFL_RX4_131 dX4_next_229 (fun H locs hP => ?_)
                    refine lv_goto (tgt := 159) hx hb dX4_next_232 (by decide) ?_
                    exact ih _ _ _ _ h hP (lv_sub hl [0] rfl)
                  · have h := k_nf c195 h
                    refine lv_aload_n hx hb dX4_next_198 rfl (lv_at hl 0 rfl) ?_
                    refine lv_bipush (v := 10) hx hb dX4_next_199 (by decide) ?_
                    refine lv_aload_n hx hb dX4_next_201 rfl (lv_at hl 0 rfl) ?_
                    refine r_get C hP (ci := 4) rfl uin_X4 16 (by decide) 0 (by decide) rfl qFL_RX4_146 rfl rfl dX4_next_202 ?_
                    refine lv_imul hx hb dX4_next_205 ?_
                    refine lv_aload_n hx hb dX4_next_206 rfl (lv_at hl 0 rfl) ?_
                    refine r_get C hP (ci := 4) rfl uin_X4 12 (by decide) 0 (by decide) rfl qFL_RX4_26 rfl rfl dX4_next_207 ?_
                    refine lv_aload_n hx hb dX4_next_210 rfl (lv_at hl 0 rfl) ?_
                    refine r_get C hP (ci := 4) rfl uin_X4 14 (by decide) 0 (by decide) rfl qFL_RX4_131 rfl rfl dX4_next_211 ?_
                    obtain ⟨hg, h⟩ := k_gd h
                    refine r_iald C hP 6 (by decide) rfl hg dX4_next_214 ?_
                    refine lv_iadd hx hb dX4_next_215 ?_
                    refine lv_bipush (v := 48) hx hb dX4_next_216 (by decide) ?_
                    refine lv_isub hx hb dX4_next_218 ?_
                    obtain ⟨σ15, eσ15, h⟩ := k_ltx h
                    refine pt_M_X4_value C hP hap hAA eσ15 qFL_RX4_146 dX4_next_219 (fun H locs hP => ?_)
                    refine lv_aload_n hx hb dX4_next_222 rfl (lv_at hl 0 rfl) ?_
                    refine lv_dup hx hb dX4_next_223 rfl ?_
                    refine r_get C hP (ci := 4) rfl uin_X4 14 (by decide) 0 (by decide) rfl qFL_RX4_131 rfl rfl dX4_next_224 ?_
                    refine lv_iconst (v := 1) hx hb dX4_next_227 (by decide) ?_
                    refine lv_iadd hx hb dX4_next_228 ?_
                    obtain ⟨σ16, eσ16, h⟩ := k_ltx h
                    refine pt_M_X4_to C hP hap hAA eσ16 qFL_RX4_131 dX4_next_229 (fun H locs hP => ?_)
                    refine lv_goto (tgt := 159) hx hb dX4_next_232 (by decide) ?_
                    exact ih _ _ _ _ h hP (lv_sub hl [0] rfl)
          refine hL159 _ (fun σ17 H locs ls h hP hl => ?_) FU _ _ _ _ h hP (lv_sub hl [1] rfl)
          exact hB235 _ _ _ _ h hP (lv_sub hl [0] rfl)
      · have h := k_if c93 h
        have hL96 : ∀ (k135 : MM → Option MM) (hk135 : ∀  (σk : MM) (H : Heap) (locs : List Loc) (ls : Array Slot), k135  σk = some σ' → PS ev 13 ad (mw ev ad σk) (inA ad 13) s H locs → lv_has ls 2 [(0, .ref (ad 0))] → WW ev p l e (rmk 1 20) s m args below meth c Qc ad 13 H locs 135 ls []) (n : Nat) (σ21 : MM) (H : Heap) (locs : List Loc) (ls : Array Slot), lp (fun _ => none) (f_X4_next_L96_b  k135) n σ21 = some σ' → PS ev 13 ad (mw ev ad σ21) (inA ad 13) s H locs → lv_has ls 2 [(0, .ref (ad 0))] → WW ev p l e (rmk 1 20) s m args below meth c Qc ad 13 H locs 96 ls [] := by
          intro k135 hk135 n
          induction n with
          | zero =>
            intro σ21 H locs ls h; exact k_none h
          | succ n ih =>
            intro σ21 H locs ls h hP hl
            have h : f_X4_next_L96_b  k135 (lp (fun _ => none) (f_X4_next_L96_b  k135) n) σ21 = some σ' := h
            have h := (f_X4_next_L96_b.eq_1 _ _ _ ).symm.trans h
            refine lv_aload_n hx hb dX4_next_96 rfl (lv_at hl 0 rfl) ?_
            refine r_get C hP (ci := 4) rfl uin_X4 14 (by decide) 0 (by decide) rfl qFL_RX4_131 rfl rfl dX4_next_97 ?_
            refine lv_aload_n hx hb dX4_next_100 rfl (lv_at hl 0 rfl) ?_
            refine r_get C hP (ci := 4) rfl uin_X4 11 (by decide) 0 (by decide) rfl qFL_RX4_128 rfl rfl dX4_next_101 ?_
            refine lv_icmp_ge (tgt := 135) hx hb dX4_next_104 (by decide) (fun c104 => ?_) (fun c104 => ?_)
            · have h := k_if c104 h
              exact hk135 _ _ _ _ h hP (lv_sub hl [0] rfl)
            · have h := k_nf c104 h
              refine lv_aload_n hx hb dX4_next_107 rfl (lv_at hl 0 rfl) ?_
              refine r_get C hP (ci := 4) rfl uin_X4 12 (by decide) 0 (by decide) rfl qFL_RX4_26 rfl rfl dX4_next_108 ?_
              refine lv_aload_n hx hb dX4_next_111 rfl (lv_at hl 0 rfl) ?_
              refine r_get C hP (ci := 4) rfl uin_X4 14 (by decide) 0 (by decide) rfl qFL_RX4_131 rfl rfl dX4_next_112 ?_
              obtain ⟨hg, h⟩ := k_gd h
              refine r_iald C hP 6 (by decide) rfl hg dX4_next_115 ?_
              refine k_callSi C hP hap hAA (c_X4_isLetter l ev ad ((m_tape σ21) (Int32.toNatClampNeg (m_to σ21)))   _ rfl) Emb.none (apart_0 _) gz_X4_isLetter qML_RX4_140 qSM_yX4_isLetter ⟨(Nat.le_of_ble_eq_true rfl), (Nat.le_of_ble_eq_true rfl)⟩ rfl hl.1 rfl (Nat.le_of_ble_eq_true rfl) dX4_next_116 ⟨Nat.le_refl _, Nat.le_refl _⟩ (fun H locs hP => ?_)
              refine r_ifz_eq (tgt := 135) hx hb dX4_next_119 (by decide) (fun c119 => ?_) (fun c119 => ?_)
              · have h := k_nf c119 h
                exact hk135 _ _ _ _ h hP (lv_sub hl [0] rfl)
              · have h := k_if c119 h
                refine lv_aload_n hx hb dX4_next_122 rfl (lv_at hl 0 rfl) ?_
                refine lv_dup hx hb dX4_next_123 rfl ?_
                refine r_get C hP (ci := 4) rfl uin_X4 14 (by decide) 0 (by decide) rfl qFL_RX4_131 rfl rfl dX4_next_124 ?_
                refine lv_iconst (v := 1) hx hb dX4_next_127 (by decide) ?_
                refine lv_iadd hx hb dX4_next_128 ?_
                obtain ⟨σ22, eσ22, h⟩ := k_ltx h
                refine pt_M_X4_to C hP hap hAA eσ22 qFL_RX4_131 dX4_next_129 (fun H locs hP => ?_)
                refine lv_goto (tgt := 96) hx hb dX4_next_132 (by decide) ?_
                exact ih _ _ _ _ h hP (lv_sub hl [0] rfl)
        refine hL96 _ (fun σ23 H locs ls h hP hl => ?_) FU _ _ _ _ h hP (lv_sub hl [1] rfl)
        refine lv_aload_n hx hb dX4_next_135 rfl (lv_at hl 0 rfl) ?_
        refine lv_bipush (v := 119) hx hb dX4_next_136 (by decide) ?_
        obtain ⟨σ24, eσ24, h⟩ := k_ltx h
        refine pt_M_X4_token C hP hap hAA eσ24 qFL_RX4_137 dX4_next_138 (fun H locs hP => ?_)
        refine lv_goto (tgt := 279) hx hb dX4_next_141 (by decide) ?_
        exact e_vret C hend hP (congrArg (mw ev ad) (k_some h)) dX4_next_279
    · have h := k_if c62 h
      refine lv_aload_n hx hb dX4_next_65 rfl (lv_at hl 0 rfl) ?_
      refine lv_bipush (v := 101) hx hb dX4_next_66 (by decide) ?_
      obtain ⟨σ25, eσ25, h⟩ := k_ltx h
      refine pt_M_X4_token C hP hap hAA eσ25 qFL_RX4_137 dX4_next_68 (fun H locs hP => ?_)
      exact e_vret C hend hP (congrArg (mw ev ad) (k_some h)) dX4_next_71
  refine lv_aload_n hx hb dX4_next_0 rfl (lv_at hl 0 rfl) ?_
  refine lv_aload_n hx hb dX4_next_1 rfl (lv_at hl 0 rfl) ?_
  refine r_get C hP (ci := 4) rfl uin_X4 14 (by decide) 0 (by decide) rfl qFL_RX4_131 rfl rfl dX4_next_2 ?_
  obtain ⟨σ1, eσ1, h⟩ := k_ltx h
  refine pt_M_X4_from C hP hap hAA eσ1 qFL_RX4_134 dX4_next_5 (fun H locs hP => ?_)
  have hL8 : ∀ (k46 : MM → Option MM) (hk46 : ∀  (σk : MM) (H : Heap) (locs : List Loc) (ls : Array Slot), k46  σk = some σ' → PS ev 13 ad (mw ev ad σk) (inA ad 13) s H locs → lv_has ls 2 [(0, .ref (ad 0))] → WW ev p l e (rmk 1 20) s m args below meth c Qc ad 13 H locs 46 ls []) (n : Nat) (σ2 : MM) (H : Heap) (locs : List Loc) (ls : Array Slot), lp (fun _ => none) (f_X4_next_L8_b  k46) n σ2 = some σ' → PS ev 13 ad (mw ev ad σ2) (inA ad 13) s H locs → lv_has ls 2 [(0, .ref (ad 0))] → WW ev p l e (rmk 1 20) s m args below meth c Qc ad 13 H locs 8 ls [] := by
    intro k46 hk46 n
    induction n with
    | zero =>
      intro σ2 H locs ls h; exact k_none h
    | succ n ih =>
      intro σ2 H locs ls h hP hl
      have h : f_X4_next_L8_b  k46 (lp (fun _ => none) (f_X4_next_L8_b  k46) n) σ2 = some σ' := h
      have h := (f_X4_next_L8_b.eq_1 _ _ _ ).symm.trans h
      refine lv_aload_n hx hb dX4_next_8 rfl (lv_at hl 0 rfl) ?_
      refine r_get C hP (ci := 4) rfl uin_X4 13 (by decide) 0 (by decide) rfl qFL_RX4_134 rfl rfl dX4_next_9 ?_
      refine lv_aload_n hx hb dX4_next_12 rfl (lv_at hl 0 rfl) ?_
      refine r_get C hP (ci := 4) rfl uin_X4 11 (by decide) 0 (by decide) rfl qFL_RX4_128 rfl rfl dX4_next_13 ?_
      refine lv_icmp_ge (tgt := 46) hx hb dX4_next_16 (by decide) (fun c16 => ?_) (fun c16 => ?_)
      · have h := k_if c16 h
        exact hk46 _ _ _ _ h hP (lv_sub hl [0] rfl)
      · have h := k_nf c16 h
        refine lv_aload_n hx hb dX4_next_19 rfl (lv_at hl 0 rfl) ?_
        refine r_get C hP (ci := 4) rfl uin_X4 12 (by decide) 0 (by decide) rfl qFL_RX4_26 rfl rfl dX4_next_20 ?_
        refine lv_aload_n hx hb dX4_next_23 rfl (lv_at hl 0 rfl) ?_
        refine r_get C hP (ci := 4) rfl uin_X4 13 (by decide) 0 (by decide) rfl qFL_RX4_134 rfl rfl dX4_next_24 ?_
        obtain ⟨hg, h⟩ := k_gd h
        refine r_iald C hP 6 (by decide) rfl hg dX4_next_27 ?_
        refine lv_bipush (v := 32) hx hb dX4_next_28 (by decide) ?_
        refine lv_icmp_ne (tgt := 46) hx hb dX4_next_30 (by decide) (fun c30 => ?_) (fun c30 => ?_)
        · have h := k_nf c30 h
          exact hk46 _ _ _ _ h hP (lv_sub hl [0] rfl)
        · have h := k_if c30 h
          refine lv_aload_n hx hb dX4_next_33 rfl (lv_at hl 0 rfl) ?_
          refine lv_dup hx hb dX4_next_34 rfl ?_
          refine r_get C hP (ci := 4) rfl uin_X4 13 (by decide) 0 (by decide) rfl qFL_RX4_134 rfl rfl dX4_next_35 ?_
          refine lv_iconst (v := 1) hx hb dX4_next_38 (by decide) ?_
          refine lv_iadd hx hb dX4_next_39 ?_
          obtain ⟨σ3, eσ3, h⟩ := k_ltx h
          refine pt_M_X4_from C hP hap hAA eσ3 qFL_RX4_134 dX4_next_40 (fun H locs hP => ?_)
          refine lv_goto (tgt := 8) hx hb dX4_next_43 (by decide) ?_
          exact ih _ _ _ _ h hP (lv_sub hl [0] rfl)
  refine hL8 _ (fun σ4 H locs ls h hP hl => ?_) FU _ _ _ _ h hP (lv_sub hl [0] rfl)
  exact hB46 _ _ _ _ h hP (lv_sub hl [0] rfl)
def f_X4_isWord_w0_L29_b (σ : MM)  (rec29 : Int32 → Option (Bool)) (x1 : Int32) : Option (Bool) :=
  if 4 ≤ x1 then some true else gd (inb ((m_from σ) + x1) 250) (gd (inb x1 4) (if ((m_tape σ) (Int32.toNatClampNeg ((m_from σ) + x1))) = (sch 0 x1) then lt (x1 + 1) (fun x2 => rec29 x2) else some false))
def f_X4_isWord_w0_L29 (σ : MM)  (x1 : Int32) : Option (Bool) :=
  lp (fun _ => none) (f_X4_isWord_w0_L29_b σ ) FU x1
def f_X4_isWord_w0 (σ : MM) : Option (Bool) :=
  if (m_token σ) = 119 then if ((m_to σ) - (m_from σ)) = 4 then f_X4_isWord_w0_L29 σ 0 else some false else some false
set_option maxHeartbeats 4000000 in
set_option maxRecDepth 100000 in
theorem c_X4_isWord_w0 (l : Launch) (ev : EV) (ad : Nat → Nat) (σ : MM)   (r : Bool)  (h : f_X4_isWord_w0 σ = some r) : Ct l yX4_isWord prog_6_method_37_code 3 (Option.some Jvm.ClassFile.FieldType.boolean) (rmk 8 300) ev 13 ad (mw ev ad σ) (mw ev ad σ) [.ref (ad 0), .ref (ev.2.2.2.1 0)] (some (.int (bi r))) := by
  refine Ct.of (by decide +kernel) (Nat.le_of_ble_eq_true rfl) ?_
  intro p e s m args below meth c Qc C hap hP hend ls hl
  have hAA : ∀ j, j < 13 → inA ad 13 (ad j) := fun j hj => ⟨j, hj, rfl⟩
  have hx := C.1
  have hb := C.2.1
  have hl : lv_has ls 3 [(0, .ref (ad 0)), (1, .ref (ev.2.2.2.1 0))] := hl
  have h := (f_X4_isWord_w0.eq_1 _ ).symm.trans h
  refine lv_aload_n hx hb dX4_isWord_0 rfl (lv_at hl 0 rfl) ?_
  refine r_get C hP (ci := 4) rfl uin_X4 15 (by decide) 0 (by decide) rfl qFL_RX4_137 rfl rfl dX4_isWord_1 ?_
  refine lv_bipush (v := 119) hx hb dX4_isWord_4 (by decide) ?_
  refine lv_icmp_ne (tgt := 25) hx hb dX4_isWord_6 (by decide) (fun c6 => ?_) (fun c6 => ?_)
  · have h := k_nf c6 h
    refine lv_iconst (v := 0) hx hb dX4_isWord_25 (by decide) ?_
    exact e_zret C hend hP (k_some h) rfl dX4_isWord_26 rfl
  · have h := k_if c6 h
    refine lv_aload_n hx hb dX4_isWord_9 rfl (lv_at hl 0 rfl) ?_
    refine r_get C hP (ci := 4) rfl uin_X4 14 (by decide) 0 (by decide) rfl qFL_RX4_131 rfl rfl dX4_isWord_10 ?_
    refine lv_aload_n hx hb dX4_isWord_13 rfl (lv_at hl 0 rfl) ?_
    refine r_get C hP (ci := 4) rfl uin_X4 13 (by decide) 0 (by decide) rfl qFL_RX4_134 rfl rfl dX4_isWord_14 ?_
    refine lv_isub hx hb dX4_isWord_17 ?_
    refine lv_aload_n hx hb dX4_isWord_18 rfl (lv_at hl 1 rfl) ?_
    refine r_slen C hP hap hAA 0 (by decide) qML_RX4_149 ⟨(Nat.le_of_ble_eq_true rfl), (Nat.le_of_ble_eq_true rfl)⟩ hl.1 (by exact (Nat.le_of_ble_eq_true rfl)) dX4_isWord_19 ⟨Nat.le_refl _, Nat.le_refl _⟩ (v := 4) rfl (fun H locs hP => ?_)
    refine lv_icmp_eq (tgt := 27) hx hb dX4_isWord_22 (by decide) (fun c22 => ?_) (fun c22 => ?_)
    · have h := k_if c22 h
      refine lv_iconst (v := 0) hx hb dX4_isWord_27 (by decide) ?_
      refine lv_istore_n (lv' := [(2, .int 0), (0, .ref (ad 0)), (1, .ref (ev.2.2.2.1 0))]) hx hb dX4_isWord_28 rfl hl (by decide) rfl (fun ls hl => ?_)
      have hL29 : ∀ (n : Nat) (x1 : Int32) (H : Heap) (locs : List Loc) (ls : Array Slot), lp (fun _ => none) (f_X4_isWord_w0_L29_b σ ) n x1 = some r → PS ev 13 ad (mw ev ad σ) (inA ad 13) s H locs → lv_has ls 3 [(0, .ref (ad 0)), (1, .ref (ev.2.2.2.1 0)), (2, .int x1)] → WW ev p l e (rmk 8 300) s m args below meth c Qc ad 13 H locs 29 ls [] := by
        intro n
        induction n with
        | zero =>
          intro x1 H locs ls h; exact k_none h
        | succ n ih =>
          intro x1 H locs ls h hP hl
          have h : f_X4_isWord_w0_L29_b σ  (lp (fun _ => none) (f_X4_isWord_w0_L29_b σ ) n) x1 = some r := h
          have h := (f_X4_isWord_w0_L29_b.eq_1 _ _ _ ).symm.trans h
          refine lv_iload_n hx hb dX4_isWord_29 rfl (lv_at hl 2 rfl) ?_
          refine lv_aload_n hx hb dX4_isWord_30 rfl (lv_at hl 1 rfl) ?_
          refine r_slen C hP hap hAA 0 (by decide) qML_RX4_149 ⟨(Nat.le_of_ble_eq_true rfl), (Nat.le_of_ble_eq_true rfl)⟩ hl.1 (by exact (Nat.le_of_ble_eq_true rfl)) dX4_isWord_31 ⟨Nat.le_refl _, Nat.le_refl _⟩ (v := 4) rfl (fun H locs hP => ?_)
          refine lv_icmp_ge (tgt := 64) hx hb dX4_isWord_34 (by decide) (fun c34 => ?_) (fun c34 => ?_)
          · have h := k_if c34 h
            refine lv_iconst (v := 1) hx hb dX4_isWord_64 (by decide) ?_
            exact e_zret C hend hP (k_some h) rfl dX4_isWord_65 rfl
          · have h := k_nf c34 h
            refine lv_aload_n hx hb dX4_isWord_37 rfl (lv_at hl 0 rfl) ?_
            refine r_get C hP (ci := 4) rfl uin_X4 12 (by decide) 0 (by decide) rfl qFL_RX4_26 rfl rfl dX4_isWord_38 ?_
            refine lv_aload_n hx hb dX4_isWord_41 rfl (lv_at hl 0 rfl) ?_
            refine r_get C hP (ci := 4) rfl uin_X4 13 (by decide) 0 (by decide) rfl qFL_RX4_134 rfl rfl dX4_isWord_42 ?_
            refine lv_iload_n hx hb dX4_isWord_45 rfl (lv_at hl 2 rfl) ?_
            refine lv_iadd hx hb dX4_isWord_46 ?_
            obtain ⟨hg, h⟩ := k_gd h
            refine r_iald C hP 6 (by decide) rfl hg dX4_isWord_47 ?_
            refine lv_aload_n hx hb dX4_isWord_48 rfl (lv_at hl 1 rfl) ?_
            refine lv_iload_n hx hb dX4_isWord_49 rfl (lv_at hl 2 rfl) ?_
            obtain ⟨hg, h⟩ := k_gd h
            refine r_schar C hP hap hAA 0 (by decide) hg qML_RX4_154 ⟨(Nat.le_of_ble_eq_true rfl), (Nat.le_of_ble_eq_true rfl)⟩ hl.1 (by exact (Nat.le_of_ble_eq_true rfl)) dX4_isWord_50 ⟨Nat.le_refl _, Nat.le_refl _⟩ rfl (fun H locs hP => ?_)
            refine lv_icmp_eq (tgt := 58) hx hb dX4_isWord_53 (by decide) (fun c53 => ?_) (fun c53 => ?_)
            · have h := k_if c53 h
              obtain ⟨x2, ex2, h⟩ := k_ltx h
              refine lv_iinc (v := x2) (lv' := [(2, .int x2), (0, .ref (ad 0)), (1, .ref (ev.2.2.2.1 0))]) hx hb dX4_isWord_58 hl (k := 2) rfl (by rw [ex2]; rfl) (by decide) rfl (fun ls hl => ?_)
              refine lv_goto (tgt := 29) hx hb dX4_isWord_61 (by decide) ?_
              exact ih _ _ _ _ h hP (lv_sub hl [1, 2, 0] rfl)
            · have h := k_nf c53 h
              refine lv_iconst (v := 0) hx hb dX4_isWord_56 (by decide) ?_
              exact e_zret C hend hP (k_some h) rfl dX4_isWord_57 rfl
      exact hL29 FU _ _ _ _ h hP (lv_sub hl [1, 2, 0] rfl)
    · have h := k_nf c22 h
      refine lv_iconst (v := 0) hx hb dX4_isWord_25 (by decide) ?_
      exact e_zret C hend hP (k_some h) rfl dX4_isWord_26 rfl
def f_X4_number (σ : MM) (a1 : Int32) (a2 : Int32) : Option (Int32 × MM) :=
  ob (f_X4_next σ) (fun σ1 => if (m_token σ1) = 48 then if (f_X4_within (m_value σ1) a1 a2) = true then some ((m_value σ1), σ1) else some ((-1), σ1) else some ((-1), σ1))
set_option maxHeartbeats 4000000 in
set_option maxRecDepth 100000 in
theorem c_X4_number (l : Launch) (ev : EV) (ad : Nat → Nat) (σ : MM) (a1 : Int32) (a2 : Int32)   (r : Int32) (σ' : MM) (h : f_X4_number σ a1 a2 = some (r, σ')) : Ct l yX4_number prog_6_method_38_code 3 (Option.some Jvm.ClassFile.FieldType.int) (rmk 2 41) ev 13 ad (mw ev ad σ) (mw ev ad σ') [.ref (ad 0), .int a1, .int a2] (some (.int r)) := by
  refine Ct.of (by decide +kernel) (Nat.le_of_ble_eq_true rfl) ?_
  intro p e s m args below meth c Qc C hap hP hend ls hl
  have hAA : ∀ j, j < 13 → inA ad 13 (ad j) := fun j hj => ⟨j, hj, rfl⟩
  have hx := C.1
  have hb := C.2.1
  have hl : lv_has ls 3 [(0, .ref (ad 0)), (1, .int a1), (2, .int a2)] := hl
  have h := (f_X4_number.eq_1 _ _ _ ).symm.trans h
  refine lv_aload_n hx hb dX4_number_0 rfl (lv_at hl 0 rfl) ?_
  obtain ⟨σ1, h1, h⟩ := k_ob h
  refine k_callVv C hP hap hAA (c_X4_next l ev ad σ   _ h1) Emb.same hap gz_X4_next qML_RX4_158 qIM_yX4_next qSE_yX4_next ⟨(Nat.le_of_ble_eq_true rfl), (Nat.le_of_ble_eq_true rfl)⟩ (q0 := 0) rfl (by decide) rfl rfl rfl rfl hl.1 rfl (Nat.le_of_ble_eq_true rfl) dX4_number_1 ⟨Nat.le_refl _, Nat.le_refl _⟩ (fun H locs hP => ?_)
  refine lv_aload_n hx hb dX4_number_4 rfl (lv_at hl 0 rfl) ?_
  refine r_get C hP (ci := 4) rfl uin_X4 15 (by decide) 0 (by decide) rfl qFL_RX4_137 rfl rfl dX4_number_5 ?_
  refine lv_bipush (v := 48) hx hb dX4_number_8 (by decide) ?_
  refine lv_icmp_ne (tgt := 32) hx hb dX4_number_10 (by decide) (fun c10 => ?_) (fun c10 => ?_)
  · have h := k_nf c10 h
    refine lv_iconst (v := (-1)) hx hb dX4_number_32 (by decide) ?_
    exact e_iret C hend hP (k_some2 h).1 (congrArg (mw ev ad) (k_some2 h).2) dX4_number_33
  · have h := k_if c10 h
    refine lv_aload_n hx hb dX4_number_13 rfl (lv_at hl 0 rfl) ?_
    refine r_get C hP (ci := 4) rfl uin_X4 16 (by decide) 0 (by decide) rfl qFL_RX4_146 rfl rfl dX4_number_14 ?_
    refine lv_iload_n hx hb dX4_number_17 rfl (lv_at hl 1 rfl) ?_
    refine lv_iload_n hx hb dX4_number_18 rfl (lv_at hl 2 rfl) ?_
    refine k_callSi C hP hap hAA (c_X4_within l ev ad (m_value σ1) a1 a2   _ rfl) Emb.none (apart_0 _) gz_X4_within qML_RX4_63 qSM_yX4_within ⟨(Nat.le_of_ble_eq_true rfl), (Nat.le_of_ble_eq_true rfl)⟩ rfl hl.1 rfl (Nat.le_of_ble_eq_true rfl) dX4_number_19 ⟨Nat.le_refl _, Nat.le_refl _⟩ (fun H locs hP => ?_)
    refine r_ifz_eq (tgt := 32) hx hb dX4_number_22 (by decide) (fun c22 => ?_) (fun c22 => ?_)
    · have h := k_nf c22 h
      refine lv_iconst (v := (-1)) hx hb dX4_number_32 (by decide) ?_
      exact e_iret C hend hP (k_some2 h).1 (congrArg (mw ev ad) (k_some2 h).2) dX4_number_33
    · have h := k_if c22 h
      refine lv_aload_n hx hb dX4_number_25 rfl (lv_at hl 0 rfl) ?_
      refine r_get C hP (ci := 4) rfl uin_X4 16 (by decide) 0 (by decide) rfl qFL_RX4_146 rfl rfl dX4_number_26 ?_
      refine lv_goto (tgt := 33) hx hb dX4_number_29 (by decide) ?_
      exact e_iret C hend hP (k_some2 h).1 (congrArg (mw ev ad) (k_some2 h).2) dX4_number_33
def f_X4_isWord_w1_L29_b (σ : MM)  (rec29 : Int32 → Option (Bool)) (x1 : Int32) : Option (Bool) :=
  if 5 ≤ x1 then some true else gd (inb ((m_from σ) + x1) 250) (gd (inb x1 5) (if ((m_tape σ) (Int32.toNatClampNeg ((m_from σ) + x1))) = (sch 1 x1) then lt (x1 + 1) (fun x2 => rec29 x2) else some false))
def f_X4_isWord_w1_L29 (σ : MM)  (x1 : Int32) : Option (Bool) :=
  lp (fun _ => none) (f_X4_isWord_w1_L29_b σ ) FU x1
def f_X4_isWord_w1 (σ : MM) : Option (Bool) :=
  if (m_token σ) = 119 then if ((m_to σ) - (m_from σ)) = 5 then f_X4_isWord_w1_L29 σ 0 else some false else some false
set_option maxHeartbeats 4000000 in
set_option maxRecDepth 100000 in
theorem c_X4_isWord_w1 (l : Launch) (ev : EV) (ad : Nat → Nat) (σ : MM)   (r : Bool)  (h : f_X4_isWord_w1 σ = some r) : Ct l yX4_isWord prog_6_method_37_code 3 (Option.some Jvm.ClassFile.FieldType.boolean) (rmk 8 300) ev 13 ad (mw ev ad σ) (mw ev ad σ) [.ref (ad 0), .ref (ev.2.2.2.1 1)] (some (.int (bi r))) := by
  refine Ct.of (by decide +kernel) (Nat.le_of_ble_eq_true rfl) ?_
  intro p e s m args below meth c Qc C hap hP hend ls hl
  have hAA : ∀ j, j < 13 → inA ad 13 (ad j) := fun j hj => ⟨j, hj, rfl⟩
  have hx := C.1
  have hb := C.2.1
  have hl : lv_has ls 3 [(0, .ref (ad 0)), (1, .ref (ev.2.2.2.1 1))] := hl
  have h := (f_X4_isWord_w1.eq_1 _ ).symm.trans h
  refine lv_aload_n hx hb dX4_isWord_0 rfl (lv_at hl 0 rfl) ?_
  refine r_get C hP (ci := 4) rfl uin_X4 15 (by decide) 0 (by decide) rfl qFL_RX4_137 rfl rfl dX4_isWord_1 ?_
  refine lv_bipush (v := 119) hx hb dX4_isWord_4 (by decide) ?_
  refine lv_icmp_ne (tgt := 25) hx hb dX4_isWord_6 (by decide) (fun c6 => ?_) (fun c6 => ?_)
  · have h := k_nf c6 h
    refine lv_iconst (v := 0) hx hb dX4_isWord_25 (by decide) ?_
    exact e_zret C hend hP (k_some h) rfl dX4_isWord_26 rfl
  · have h := k_if c6 h
    refine lv_aload_n hx hb dX4_isWord_9 rfl (lv_at hl 0 rfl) ?_
    refine r_get C hP (ci := 4) rfl uin_X4 14 (by decide) 0 (by decide) rfl qFL_RX4_131 rfl rfl dX4_isWord_10 ?_
    refine lv_aload_n hx hb dX4_isWord_13 rfl (lv_at hl 0 rfl) ?_
    refine r_get C hP (ci := 4) rfl uin_X4 13 (by decide) 0 (by decide) rfl qFL_RX4_134 rfl rfl dX4_isWord_14 ?_
    refine lv_isub hx hb dX4_isWord_17 ?_
    refine lv_aload_n hx hb dX4_isWord_18 rfl (lv_at hl 1 rfl) ?_
    refine r_slen C hP hap hAA 1 (by decide) qML_RX4_149 ⟨(Nat.le_of_ble_eq_true rfl), (Nat.le_of_ble_eq_true rfl)⟩ hl.1 (by exact (Nat.le_of_ble_eq_true rfl)) dX4_isWord_19 ⟨Nat.le_refl _, Nat.le_refl _⟩ (v := 5) rfl (fun H locs hP => ?_)
    refine lv_icmp_eq (tgt := 27) hx hb dX4_isWord_22 (by decide) (fun c22 => ?_) (fun c22 => ?_)
    · have h := k_if c22 h
      refine lv_iconst (v := 0) hx hb dX4_isWord_27 (by decide) ?_
      refine lv_istore_n (lv' := [(2, .int 0), (0, .ref (ad 0)), (1, .ref (ev.2.2.2.1 1))]) hx hb dX4_isWord_28 rfl hl (by decide) rfl (fun ls hl => ?_)
      have hL29 : ∀ (n : Nat) (x1 : Int32) (H : Heap) (locs : List Loc) (ls : Array Slot), lp (fun _ => none) (f_X4_isWord_w1_L29_b σ ) n x1 = some r → PS ev 13 ad (mw ev ad σ) (inA ad 13) s H locs → lv_has ls 3 [(0, .ref (ad 0)), (1, .ref (ev.2.2.2.1 1)), (2, .int x1)] → WW ev p l e (rmk 8 300) s m args below meth c Qc ad 13 H locs 29 ls [] := by
        intro n
        induction n with
        | zero =>
          intro x1 H locs ls h; exact k_none h
        | succ n ih =>
          intro x1 H locs ls h hP hl
          have h : f_X4_isWord_w1_L29_b σ  (lp (fun _ => none) (f_X4_isWord_w1_L29_b σ ) n) x1 = some r := h
          have h := (f_X4_isWord_w1_L29_b.eq_1 _ _ _ ).symm.trans h
          refine lv_iload_n hx hb dX4_isWord_29 rfl (lv_at hl 2 rfl) ?_
          refine lv_aload_n hx hb dX4_isWord_30 rfl (lv_at hl 1 rfl) ?_
          refine r_slen C hP hap hAA 1 (by decide) qML_RX4_149 ⟨(Nat.le_of_ble_eq_true rfl), (Nat.le_of_ble_eq_true rfl)⟩ hl.1 (by exact (Nat.le_of_ble_eq_true rfl)) dX4_isWord_31 ⟨Nat.le_refl _, Nat.le_refl _⟩ (v := 5) rfl (fun H locs hP => ?_)
          refine lv_icmp_ge (tgt := 64) hx hb dX4_isWord_34 (by decide) (fun c34 => ?_) (fun c34 => ?_)
          · have h := k_if c34 h
            refine lv_iconst (v := 1) hx hb dX4_isWord_64 (by decide) ?_
            exact e_zret C hend hP (k_some h) rfl dX4_isWord_65 rfl
          · have h := k_nf c34 h
            refine lv_aload_n hx hb dX4_isWord_37 rfl (lv_at hl 0 rfl) ?_
            refine r_get C hP (ci := 4) rfl uin_X4 12 (by decide) 0 (by decide) rfl qFL_RX4_26 rfl rfl dX4_isWord_38 ?_
            refine lv_aload_n hx hb dX4_isWord_41 rfl (lv_at hl 0 rfl) ?_
            refine r_get C hP (ci := 4) rfl uin_X4 13 (by decide) 0 (by decide) rfl qFL_RX4_134 rfl rfl dX4_isWord_42 ?_
            refine lv_iload_n hx hb dX4_isWord_45 rfl (lv_at hl 2 rfl) ?_
            refine lv_iadd hx hb dX4_isWord_46 ?_
            obtain ⟨hg, h⟩ := k_gd h
            refine r_iald C hP 6 (by decide) rfl hg dX4_isWord_47 ?_
            refine lv_aload_n hx hb dX4_isWord_48 rfl (lv_at hl 1 rfl) ?_
            refine lv_iload_n hx hb dX4_isWord_49 rfl (lv_at hl 2 rfl) ?_
            obtain ⟨hg, h⟩ := k_gd h
            refine r_schar C hP hap hAA 1 (by decide) hg qML_RX4_154 ⟨(Nat.le_of_ble_eq_true rfl), (Nat.le_of_ble_eq_true rfl)⟩ hl.1 (by exact (Nat.le_of_ble_eq_true rfl)) dX4_isWord_50 ⟨Nat.le_refl _, Nat.le_refl _⟩ rfl (fun H locs hP => ?_)
            refine lv_icmp_eq (tgt := 58) hx hb dX4_isWord_53 (by decide) (fun c53 => ?_) (fun c53 => ?_)
            · have h := k_if c53 h
              obtain ⟨x2, ex2, h⟩ := k_ltx h
              refine lv_iinc (v := x2) (lv' := [(2, .int x2), (0, .ref (ad 0)), (1, .ref (ev.2.2.2.1 1))]) hx hb dX4_isWord_58 hl (k := 2) rfl (by rw [ex2]; rfl) (by decide) rfl (fun ls hl => ?_)
              refine lv_goto (tgt := 29) hx hb dX4_isWord_61 (by decide) ?_
              exact ih _ _ _ _ h hP (lv_sub hl [1, 2, 0] rfl)
            · have h := k_nf c53 h
              refine lv_iconst (v := 0) hx hb dX4_isWord_56 (by decide) ?_
              exact e_zret C hend hP (k_some h) rfl dX4_isWord_57 rfl
      exact hL29 FU _ _ _ _ h hP (lv_sub hl [1, 2, 0] rfl)
    · have h := k_nf c22 h
      refine lv_iconst (v := 0) hx hb dX4_isWord_25 (by decide) ?_
      exact e_zret C hend hP (k_some h) rfl dX4_isWord_26 rfl
def f_X4_isWord_w2_L29_b (σ : MM)  (rec29 : Int32 → Option (Bool)) (x1 : Int32) : Option (Bool) :=
  if 3 ≤ x1 then some true else gd (inb ((m_from σ) + x1) 250) (gd (inb x1 3) (if ((m_tape σ) (Int32.toNatClampNeg ((m_from σ) + x1))) = (sch 2 x1) then lt (x1 + 1) (fun x2 => rec29 x2) else some false))
def f_X4_isWord_w2_L29 (σ : MM)  (x1 : Int32) : Option (Bool) :=
  lp (fun _ => none) (f_X4_isWord_w2_L29_b σ ) FU x1
def f_X4_isWord_w2 (σ : MM) : Option (Bool) :=
  if (m_token σ) = 119 then if ((m_to σ) - (m_from σ)) = 3 then f_X4_isWord_w2_L29 σ 0 else some false else some false
set_option maxHeartbeats 4000000 in
set_option maxRecDepth 100000 in
theorem c_X4_isWord_w2 (l : Launch) (ev : EV) (ad : Nat → Nat) (σ : MM)   (r : Bool)  (h : f_X4_isWord_w2 σ = some r) : Ct l yX4_isWord prog_6_method_37_code 3 (Option.some Jvm.ClassFile.FieldType.boolean) (rmk 8 300) ev 13 ad (mw ev ad σ) (mw ev ad σ) [.ref (ad 0), .ref (ev.2.2.2.1 2)] (some (.int (bi r))) := by
  refine Ct.of (by decide +kernel) (Nat.le_of_ble_eq_true rfl) ?_
  intro p e s m args below meth c Qc C hap hP hend ls hl
  have hAA : ∀ j, j < 13 → inA ad 13 (ad j) := fun j hj => ⟨j, hj, rfl⟩
  have hx := C.1
  have hb := C.2.1
  have hl : lv_has ls 3 [(0, .ref (ad 0)), (1, .ref (ev.2.2.2.1 2))] := hl
  have h := (f_X4_isWord_w2.eq_1 _ ).symm.trans h
  refine lv_aload_n hx hb dX4_isWord_0 rfl (lv_at hl 0 rfl) ?_
  refine r_get C hP (ci := 4) rfl uin_X4 15 (by decide) 0 (by decide) rfl qFL_RX4_137 rfl rfl dX4_isWord_1 ?_
  refine lv_bipush (v := 119) hx hb dX4_isWord_4 (by decide) ?_
  refine lv_icmp_ne (tgt := 25) hx hb dX4_isWord_6 (by decide) (fun c6 => ?_) (fun c6 => ?_)
  · have h := k_nf c6 h
    refine lv_iconst (v := 0) hx hb dX4_isWord_25 (by decide) ?_
    exact e_zret C hend hP (k_some h) rfl dX4_isWord_26 rfl
  · have h := k_if c6 h
    refine lv_aload_n hx hb dX4_isWord_9 rfl (lv_at hl 0 rfl) ?_
    refine r_get C hP (ci := 4) rfl uin_X4 14 (by decide) 0 (by decide) rfl qFL_RX4_131 rfl rfl dX4_isWord_10 ?_
    refine lv_aload_n hx hb dX4_isWord_13 rfl (lv_at hl 0 rfl) ?_
    refine r_get C hP (ci := 4) rfl uin_X4 13 (by decide) 0 (by decide) rfl qFL_RX4_134 rfl rfl dX4_isWord_14 ?_
    refine lv_isub hx hb dX4_isWord_17 ?_
    refine lv_aload_n hx hb dX4_isWord_18 rfl (lv_at hl 1 rfl) ?_
    refine r_slen C hP hap hAA 2 (by decide) qML_RX4_149 ⟨(Nat.le_of_ble_eq_true rfl), (Nat.le_of_ble_eq_true rfl)⟩ hl.1 (by exact (Nat.le_of_ble_eq_true rfl)) dX4_isWord_19 ⟨Nat.le_refl _, Nat.le_refl _⟩ (v := 3) rfl (fun H locs hP => ?_)
    refine lv_icmp_eq (tgt := 27) hx hb dX4_isWord_22 (by decide) (fun c22 => ?_) (fun c22 => ?_)
    · have h := k_if c22 h
      refine lv_iconst (v := 0) hx hb dX4_isWord_27 (by decide) ?_
      refine lv_istore_n (lv' := [(2, .int 0), (0, .ref (ad 0)), (1, .ref (ev.2.2.2.1 2))]) hx hb dX4_isWord_28 rfl hl (by decide) rfl (fun ls hl => ?_)
      have hL29 : ∀ (n : Nat) (x1 : Int32) (H : Heap) (locs : List Loc) (ls : Array Slot), lp (fun _ => none) (f_X4_isWord_w2_L29_b σ ) n x1 = some r → PS ev 13 ad (mw ev ad σ) (inA ad 13) s H locs → lv_has ls 3 [(0, .ref (ad 0)), (1, .ref (ev.2.2.2.1 2)), (2, .int x1)] → WW ev p l e (rmk 8 300) s m args below meth c Qc ad 13 H locs 29 ls [] := by
        intro n
        induction n with
        | zero =>
          intro x1 H locs ls h; exact k_none h
        | succ n ih =>
          intro x1 H locs ls h hP hl
          have h : f_X4_isWord_w2_L29_b σ  (lp (fun _ => none) (f_X4_isWord_w2_L29_b σ ) n) x1 = some r := h
          have h := (f_X4_isWord_w2_L29_b.eq_1 _ _ _ ).symm.trans h
          refine lv_iload_n hx hb dX4_isWord_29 rfl (lv_at hl 2 rfl) ?_
          refine lv_aload_n hx hb dX4_isWord_30 rfl (lv_at hl 1 rfl) ?_
          refine r_slen C hP hap hAA 2 (by decide) qML_RX4_149 ⟨(Nat.le_of_ble_eq_true rfl), (Nat.le_of_ble_eq_true rfl)⟩ hl.1 (by exact (Nat.le_of_ble_eq_true rfl)) dX4_isWord_31 ⟨Nat.le_refl _, Nat.le_refl _⟩ (v := 3) rfl (fun H locs hP => ?_)
          refine lv_icmp_ge (tgt := 64) hx hb dX4_isWord_34 (by decide) (fun c34 => ?_) (fun c34 => ?_)
          · have h := k_if c34 h
            refine lv_iconst (v := 1) hx hb dX4_isWord_64 (by decide) ?_
            exact e_zret C hend hP (k_some h) rfl dX4_isWord_65 rfl
          · have h := k_nf c34 h
            refine lv_aload_n hx hb dX4_isWord_37 rfl (lv_at hl 0 rfl) ?_
            refine r_get C hP (ci := 4) rfl uin_X4 12 (by decide) 0 (by decide) rfl qFL_RX4_26 rfl rfl dX4_isWord_38 ?_
            refine lv_aload_n hx hb dX4_isWord_41 rfl (lv_at hl 0 rfl) ?_
            refine r_get C hP (ci := 4) rfl uin_X4 13 (by decide) 0 (by decide) rfl qFL_RX4_134 rfl rfl dX4_isWord_42 ?_
            refine lv_iload_n hx hb dX4_isWord_45 rfl (lv_at hl 2 rfl) ?_
            refine lv_iadd hx hb dX4_isWord_46 ?_
            obtain ⟨hg, h⟩ := k_gd h
            refine r_iald C hP 6 (by decide) rfl hg dX4_isWord_47 ?_
            refine lv_aload_n hx hb dX4_isWord_48 rfl (lv_at hl 1 rfl) ?_
            refine lv_iload_n hx hb dX4_isWord_49 rfl (lv_at hl 2 rfl) ?_
            obtain ⟨hg, h⟩ := k_gd h
            refine r_schar C hP hap hAA 2 (by decide) hg qML_RX4_154 ⟨(Nat.le_of_ble_eq_true rfl), (Nat.le_of_ble_eq_true rfl)⟩ hl.1 (by exact (Nat.le_of_ble_eq_true rfl)) dX4_isWord_50 ⟨Nat.le_refl _, Nat.le_refl _⟩ rfl (fun H locs hP => ?_)
            refine lv_icmp_eq (tgt := 58) hx hb dX4_isWord_53 (by decide) (fun c53 => ?_) (fun c53 => ?_)
            · have h := k_if c53 h
              obtain ⟨x2, ex2, h⟩ := k_ltx h
              refine lv_iinc (v := x2) (lv' := [(2, .int x2), (0, .ref (ad 0)), (1, .ref (ev.2.2.2.1 2))]) hx hb dX4_isWord_58 hl (k := 2) rfl (by rw [ex2]; rfl) (by decide) rfl (fun ls hl => ?_)
              refine lv_goto (tgt := 29) hx hb dX4_isWord_61 (by decide) ?_
              exact ih _ _ _ _ h hP (lv_sub hl [1, 2, 0] rfl)
            · have h := k_nf c53 h
              refine lv_iconst (v := 0) hx hb dX4_isWord_56 (by decide) ?_
              exact e_zret C hend hP (k_some h) rfl dX4_isWord_57 rfl
      exact hL29 FU _ _ _ _ h hP (lv_sub hl [1, 2, 0] rfl)
    · have h := k_nf c22 h
      refine lv_iconst (v := 0) hx hb dX4_isWord_25 (by decide) ?_
      exact e_zret C hend hP (k_some h) rfl dX4_isWord_26 rfl
def f_X4_makes_b82  (x2 : Int32) (σ3 : MM) : Option (Int32 × MM) :=
  lt (m_turn' σ3 (1 - (m_turn σ3))) (fun σ4 => lt (m_made' σ4 ((m_made σ4) + 1)) (fun σ5 => some (x2, σ5)))
def f_X4_makes_L17_b (a1 : Int32) (k69 : Int32 → MM → Option (Int32 × MM)) (rec17 : Int32 → Int32 → MM → Option (Int32 × MM)) (x7 : Int32) (x8 : Int32) (σ9 : MM) : Option (Int32 × MM) :=
  if 2 ≤ x8 then k69 x7 σ9 else ob (f_X4_field σ9 a1 x8) (fun x10 => if x10 = (-1) then lt (x8 + 1) (fun x11 => rec17 x7 x11 σ9) else ob (f_X4_hedges σ9 x10) (fun x12 => if 4 ≤ x12 then gd (inb x10 16) (lt (m_owner' σ9 (upd (m_owner σ9) (Int32.toNatClampNeg x10) (m_turn σ9))) (fun σ13 => lt (x7 + 1) (fun x14 => lt (x8 + 1) (fun x15 => rec17 x14 x15 σ13)))) else lt (x8 + 1) (fun x16 => rec17 x7 x16 σ9)))
def f_X4_makes_L17 (a1 : Int32) (k69 : Int32 → MM → Option (Int32 × MM)) (x7 : Int32) (x8 : Int32) (σ9 : MM) : Option (Int32 × MM) :=
  lp (fun _ _ _ => none) (f_X4_makes_L17_b a1 k69) FU x7 x8 σ9
def f_X4_makes (σ : MM) (a1 : Int32) : Option (Int32 × MM) :=
  if 100 ≤ a1 then gd (inb (a1 - 100) 16) (lt (m_dug' σ (upd (m_dug σ) (Int32.toNatClampNeg (a1 - 100)) (vp_nar .boolean 1))) (fun σ1 => f_X4_makes_b82 0 σ1)) else gd (inb a1 40) (lt (m_hedge' σ (upd (m_hedge σ) (Int32.toNatClampNeg a1) (vp_nar .boolean 1))) (fun σ6 => f_X4_makes_L17 a1 (fun x18 σ19 => f_X4_makes_b82 x18 σ19) 0 0 σ6))
set_option maxHeartbeats 4000000 in
set_option maxRecDepth 100000 in
theorem c_X4_makes (l : Launch) (ev : EV) (ad : Nat → Nat) (σ : MM) (a1 : Int32)   (r : Int32) (σ' : MM) (h : f_X4_makes σ a1 = some (r, σ')) : Ct l yX4_makes prog_6_method_43_code 5 (Option.some Jvm.ClassFile.FieldType.int) (rmk 3 67) ev 13 ad (mw ev ad σ) (mw ev ad σ') [.ref (ad 0), .int a1] (some (.int r)) := by
  refine Ct.of (by decide +kernel) (Nat.le_of_ble_eq_true rfl) ?_
  intro p e s m args below meth c Qc C hap hP hend ls hl
  have hAA : ∀ j, j < 13 → inA ad 13 (ad j) := fun j hj => ⟨j, hj, rfl⟩
  have hx := C.1
  have hb := C.2.1
  have hl : lv_has ls 5 [(0, .ref (ad 0)), (1, .int a1)] := hl
  have h := (f_X4_makes.eq_1 _ _ ).symm.trans h
  have hB82 : ∀ (x2 : Int32) (σ3 : MM) (H : Heap) (locs : List Loc) (ls : Array Slot), f_X4_makes_b82  x2 σ3 = some (r, σ') → PS ev 13 ad (mw ev ad σ3) (inA ad 13) s H locs → lv_has ls 5 [(0, .ref (ad 0)), (2, .int x2)] → WW ev p l e (rmk 3 67) s m args below meth c Qc ad 13 H locs 82 ls [] := by
    intro x2 σ3 H locs ls h hP hl
    have h := (f_X4_makes_b82.eq_1 _ _ ).symm.trans h
    refine lv_aload_n hx hb dX4_makes_82 rfl (lv_at hl 0 rfl) ?_
    refine lv_iconst (v := 1) hx hb dX4_makes_83 (by decide) ?_
    refine lv_aload_n hx hb dX4_makes_84 rfl (lv_at hl 0 rfl) ?_
    refine r_get C hP (ci := 4) rfl uin_X4 5 (by decide) 0 (by decide) rfl qFL_RX4_101 rfl rfl dX4_makes_85 ?_
    refine lv_isub hx hb dX4_makes_88 ?_
    obtain ⟨σ4, eσ4, h⟩ := k_ltx h
    refine pt_M_X4_turn C hP hap hAA eσ4 qFL_RX4_101 dX4_makes_89 (fun H locs hP => ?_)
    refine lv_aload_n hx hb dX4_makes_92 rfl (lv_at hl 0 rfl) ?_
    refine lv_dup hx hb dX4_makes_93 rfl ?_
    refine r_get C hP (ci := 4) rfl uin_X4 6 (by decide) 0 (by decide) rfl qFL_RX4_104 rfl rfl dX4_makes_94 ?_
    refine lv_iconst (v := 1) hx hb dX4_makes_97 (by decide) ?_
    refine lv_iadd hx hb dX4_makes_98 ?_
    obtain ⟨σ5, eσ5, h⟩ := k_ltx h
    refine pt_M_X4_made C hP hap hAA eσ5 qFL_RX4_104 dX4_makes_99 (fun H locs hP => ?_)
    refine lv_iload_n hx hb dX4_makes_102 rfl (lv_at hl 1 rfl) ?_
    exact e_iret C hend hP (k_some2 h).1 (congrArg (mw ev ad) (k_some2 h).2) dX4_makes_103
  refine lv_iconst (v := 0) hx hb dX4_makes_0 (by decide) ?_
  refine lv_istore_n (lv' := [(2, .int 0), (0, .ref (ad 0)), (1, .int a1)]) hx hb dX4_makes_1 rfl hl (by decide) rfl (fun ls hl => ?_)
  refine lv_iload_n hx hb dX4_makes_2 rfl (lv_at hl 2 rfl) ?_
  refine lv_bipush (v := 100) hx hb dX4_makes_3 (by decide) ?_
  refine lv_icmp_ge (tgt := 72) hx hb dX4_makes_5 (by decide) (fun c5 => ?_) (fun c5 => ?_)
  · have h := k_if c5 h
    refine lv_aload_n hx hb dX4_makes_72 rfl (lv_at hl 1 rfl) ?_
    refine r_get C hP (ci := 4) rfl uin_X4 3 (by decide) 0 (by decide) rfl qFL_RX4_13 rfl rfl dX4_makes_73 ?_
    refine lv_iload_n hx hb dX4_makes_76 rfl (lv_at hl 2 rfl) ?_
    refine lv_bipush (v := 100) hx hb dX4_makes_77 (by decide) ?_
    refine lv_isub hx hb dX4_makes_79 ?_
    refine lv_iconst (v := 1) hx hb dX4_makes_80 (by decide) ?_
    obtain ⟨hg, h⟩ := k_gd h
    obtain ⟨σ1, eσ1, h⟩ := k_ltx h
    refine st_M_dug C hP hap hAA eσ1 hg dX4_makes_81 (fun H locs hP => ?_)
    exact hB82 _ _ _ _ _ h hP (lv_sub hl [1, 0] rfl)
  · have h := k_nf c5 h
    refine lv_aload_n hx hb dX4_makes_8 rfl (lv_at hl 1 rfl) ?_
    refine r_get C hP (ci := 4) rfl uin_X4 2 (by decide) 0 (by decide) rfl qFL_RX4_7 rfl rfl dX4_makes_9 ?_
    refine lv_iload_n hx hb dX4_makes_12 rfl (lv_at hl 2 rfl) ?_
    refine lv_iconst (v := 1) hx hb dX4_makes_13 (by decide) ?_
    obtain ⟨hg, h⟩ := k_gd h
    obtain ⟨σ6, eσ6, h⟩ := k_ltx h
    refine st_M_hedge C hP hap hAA eσ6 hg dX4_makes_14 (fun H locs hP => ?_)
    refine lv_iconst (v := 0) hx hb dX4_makes_15 (by decide) ?_
    refine lv_istore_n (lv' := [(3, .int 0), (2, .int 0), (0, .ref (ad 0)), (1, .int a1)]) hx hb dX4_makes_16 rfl hl (by decide) rfl (fun ls hl => ?_)
    have hL17 : ∀ (k69 : Int32 → MM → Option (Int32 × MM)) (hk69 : ∀ (z17 : Int32) (σk : MM) (H : Heap) (locs : List Loc) (ls : Array Slot), k69 z17 σk = some (r, σ') → PS ev 13 ad (mw ev ad σk) (inA ad 13) s H locs → lv_has ls 5 [(0, .ref (ad 0)), (2, .int z17)] → WW ev p l e (rmk 3 67) s m args below meth c Qc ad 13 H locs 69 ls []) (n : Nat) (x7 : Int32) (x8 : Int32) (σ9 : MM) (H : Heap) (locs : List Loc) (ls : Array Slot), lp (fun _ _ _ => none) (f_X4_makes_L17_b a1 k69) n x7 x8 σ9 = some (r, σ') → PS ev 13 ad (mw ev ad σ9) (inA ad 13) s H locs → lv_has ls 5 [(0, .ref (ad 0)), (1, .int a1), (2, .int x7), (3, .int x8)] → WW ev p l e (rmk 3 67) s m args below meth c Qc ad 13 H locs 17 ls [] := by
      intro k69 hk69 n
      induction n with
      | zero =>
        intro x7 x8 σ9 H locs ls h; exact k_none h
      | succ n ih =>
        intro x7 x8 σ9 H locs ls h hP hl
        have h : f_X4_makes_L17_b a1 k69 (lp (fun _ _ _ => none) (f_X4_makes_L17_b a1 k69) n) x7 x8 σ9 = some (r, σ') := h
        have h := (f_X4_makes_L17_b.eq_1 _ _ _ _ _ _ ).symm.trans h
        refine lv_iload_n hx hb dX4_makes_17 rfl (lv_at hl 3 rfl) ?_
        refine lv_iconst (v := 2) hx hb dX4_makes_18 (by decide) ?_
        refine lv_icmp_ge (tgt := 69) hx hb dX4_makes_19 (by decide) (fun c19 => ?_) (fun c19 => ?_)
        · have h := k_if c19 h
          exact hk69 _ _ _ _ _ h hP (lv_sub hl [0, 2] rfl)
        · have h := k_nf c19 h
          refine lv_aload_n hx hb dX4_makes_22 rfl (lv_at hl 0 rfl) ?_
          refine lv_iload_n hx hb dX4_makes_23 rfl (lv_at hl 1 rfl) ?_
          refine lv_iload_n hx hb dX4_makes_24 rfl (lv_at hl 3 rfl) ?_
          obtain ⟨x10, h1, h⟩ := k_ob h
          refine k_callVi C hP hap hAA (c_X4_field l ev ad σ9 a1 x8   _ h1) Emb.same hap gz_X4_field qML_RX4_119 qIM_yX4_field qSE_yX4_field ⟨(Nat.le_of_ble_eq_true rfl), (Nat.le_of_ble_eq_true rfl)⟩ (q0 := 0) rfl (by decide) rfl rfl rfl rfl hl.1 rfl (Nat.le_of_ble_eq_true rfl) dX4_makes_25 ⟨Nat.le_refl _, Nat.le_refl _⟩ (fun H locs hP => ?_)
          refine lv_istore (lv' := [(4, .int x10), (0, .ref (ad 0)), (1, .int a1), (2, .int x7), (3, .int x8)]) hx hb dX4_makes_28 hl (by decide) rfl (fun ls hl => ?_)
          refine lv_iload hx hb dX4_makes_30 (lv_at hl 0 rfl) ?_
          refine lv_iconst (v := (-1)) hx hb dX4_makes_32 (by decide) ?_
          refine lv_icmp_eq (tgt := 63) hx hb dX4_makes_33 (by decide) (fun c33 => ?_) (fun c33 => ?_)
          · have h := k_if c33 h
            obtain ⟨x11, ex11, h⟩ := k_ltx h
            refine lv_iinc (v := x11) (lv' := [(3, .int x11), (4, .int x10), (0, .ref (ad 0)), (1, .int a1), (2, .int x7)]) hx hb dX4_makes_63 hl (k := 4) rfl (by rw [ex11]; rfl) (by decide) rfl (fun ls hl => ?_)
            refine lv_goto (tgt := 17) hx hb dX4_makes_66 (by decide) ?_
            exact ih _ _ _ _ _ _ h hP (lv_sub hl [2, 3, 4, 0] rfl)
          · have h := k_nf c33 h
            refine lv_aload_n hx hb dX4_makes_36 rfl (lv_at hl 1 rfl) ?_
            refine lv_iload hx hb dX4_makes_37 (lv_at hl 0 rfl) ?_
            obtain ⟨x12, h1, h⟩ := k_ob h
            refine k_callVi C hP hap hAA (c_X4_hedges l ev ad σ9 x10   _ h1) Emb.same hap gz_X4_hedges qML_RX4_196 qIM_yX4_hedges qSE_yX4_hedges ⟨(Nat.le_of_ble_eq_true rfl), (Nat.le_of_ble_eq_true rfl)⟩ (q0 := 0) rfl (by decide) rfl rfl rfl rfl hl.1 rfl (Nat.le_of_ble_eq_true rfl) dX4_makes_39 ⟨Nat.le_refl _, Nat.le_refl _⟩ (fun H locs hP => ?_)
            refine lv_iconst (v := 4) hx hb dX4_makes_42 (by decide) ?_
            refine lv_icmp_ge (tgt := 49) hx hb dX4_makes_43 (by decide) (fun c43 => ?_) (fun c43 => ?_)
            · have h := k_if c43 h
              refine lv_aload_n hx hb dX4_makes_49 rfl (lv_at hl 1 rfl) ?_
              refine r_get C hP (ci := 4) rfl uin_X4 4 (by decide) 0 (by decide) rfl qFL_RX4_16 rfl rfl dX4_makes_50 ?_
              refine lv_iload hx hb dX4_makes_53 (lv_at hl 0 rfl) ?_
              refine lv_aload_n hx hb dX4_makes_55 rfl (lv_at hl 1 rfl) ?_
              refine r_get C hP (ci := 4) rfl uin_X4 5 (by decide) 0 (by decide) rfl qFL_RX4_101 rfl rfl dX4_makes_56 ?_
              obtain ⟨hg, h⟩ := k_gd h
              obtain ⟨σ13, eσ13, h⟩ := k_ltx h
              refine st_M_owner C hP hap hAA eσ13 hg dX4_makes_59 (fun H locs hP => ?_)
              obtain ⟨x14, ex14, h⟩ := k_ltx h
              refine lv_iinc (v := x14) (lv' := [(2, .int x14), (4, .int x10), (0, .ref (ad 0)), (1, .int a1), (3, .int x8)]) hx hb dX4_makes_60 hl (k := 3) rfl (by rw [ex14]; rfl) (by decide) rfl (fun ls hl => ?_)
              obtain ⟨x15, ex15, h⟩ := k_ltx h
              refine lv_iinc (v := x15) (lv' := [(3, .int x15), (2, .int x14), (4, .int x10), (0, .ref (ad 0)), (1, .int a1)]) hx hb dX4_makes_63 hl (k := 4) rfl (by rw [ex15]; rfl) (by decide) rfl (fun ls hl => ?_)
              refine lv_goto (tgt := 17) hx hb dX4_makes_66 (by decide) ?_
              exact ih _ _ _ _ _ _ h hP (lv_sub hl [3, 4, 1, 0] rfl)
            · have h := k_nf c43 h
              refine lv_goto (tgt := 63) hx hb dX4_makes_46 (by decide) ?_
              obtain ⟨x16, ex16, h⟩ := k_ltx h
              refine lv_iinc (v := x16) (lv' := [(3, .int x16), (4, .int x10), (0, .ref (ad 0)), (1, .int a1), (2, .int x7)]) hx hb dX4_makes_63 hl (k := 4) rfl (by rw [ex16]; rfl) (by decide) rfl (fun ls hl => ?_)
              refine lv_goto (tgt := 17) hx hb dX4_makes_66 (by decide) ?_
              exact ih _ _ _ _ _ _ h hP (lv_sub hl [2, 3, 4, 0] rfl)
    refine hL17 _ (fun x18 σ19 H locs ls h hP hl => ?_) FU _ _ _ _ _ _ h hP (lv_sub hl [2, 3, 1, 0] rfl)
    refine lv_goto (tgt := 82) hx hb dX4_makes_69 (by decide) ?_
    exact hB82 _ _ _ _ _ h hP (lv_sub hl [0, 1] rfl)
def f_X4_isWord_w3_L29_b (σ : MM)  (rec29 : Int32 → Option (Bool)) (x1 : Int32) : Option (Bool) :=
  if 4 ≤ x1 then some true else gd (inb ((m_from σ) + x1) 250) (gd (inb x1 4) (if ((m_tape σ) (Int32.toNatClampNeg ((m_from σ) + x1))) = (sch 3 x1) then lt (x1 + 1) (fun x2 => rec29 x2) else some false))
def f_X4_isWord_w3_L29 (σ : MM)  (x1 : Int32) : Option (Bool) :=
  lp (fun _ => none) (f_X4_isWord_w3_L29_b σ ) FU x1
def f_X4_isWord_w3 (σ : MM) : Option (Bool) :=
  if (m_token σ) = 119 then if ((m_to σ) - (m_from σ)) = 4 then f_X4_isWord_w3_L29 σ 0 else some false else some false
set_option maxHeartbeats 4000000 in
set_option maxRecDepth 100000 in
theorem c_X4_isWord_w3 (l : Launch) (ev : EV) (ad : Nat → Nat) (σ : MM)   (r : Bool)  (h : f_X4_isWord_w3 σ = some r) : Ct l yX4_isWord prog_6_method_37_code 3 (Option.some Jvm.ClassFile.FieldType.boolean) (rmk 8 300) ev 13 ad (mw ev ad σ) (mw ev ad σ) [.ref (ad 0), .ref (ev.2.2.2.1 3)] (some (.int (bi r))) := by
  refine Ct.of (by decide +kernel) (Nat.le_of_ble_eq_true rfl) ?_
  intro p e s m args below meth c Qc C hap hP hend ls hl
  have hAA : ∀ j, j < 13 → inA ad 13 (ad j) := fun j hj => ⟨j, hj, rfl⟩
  have hx := C.1
  have hb := C.2.1
  have hl : lv_has ls 3 [(0, .ref (ad 0)), (1, .ref (ev.2.2.2.1 3))] := hl
  have h := (f_X4_isWord_w3.eq_1 _ ).symm.trans h
  refine lv_aload_n hx hb dX4_isWord_0 rfl (lv_at hl 0 rfl) ?_
  refine r_get C hP (ci := 4) rfl uin_X4 15 (by decide) 0 (by decide) rfl qFL_RX4_137 rfl rfl dX4_isWord_1 ?_
  refine lv_bipush (v := 119) hx hb dX4_isWord_4 (by decide) ?_
  refine lv_icmp_ne (tgt := 25) hx hb dX4_isWord_6 (by decide) (fun c6 => ?_) (fun c6 => ?_)
  · have h := k_nf c6 h
    refine lv_iconst (v := 0) hx hb dX4_isWord_25 (by decide) ?_
    exact e_zret C hend hP (k_some h) rfl dX4_isWord_26 rfl
  · have h := k_if c6 h
    refine lv_aload_n hx hb dX4_isWord_9 rfl (lv_at hl 0 rfl) ?_
    refine r_get C hP (ci := 4) rfl uin_X4 14 (by decide) 0 (by decide) rfl qFL_RX4_131 rfl rfl dX4_isWord_10 ?_
    refine lv_aload_n hx hb dX4_isWord_13 rfl (lv_at hl 0 rfl) ?_
    refine r_get C hP (ci := 4) rfl uin_X4 13 (by decide) 0 (by decide) rfl qFL_RX4_134 rfl rfl dX4_isWord_14 ?_
    refine lv_isub hx hb dX4_isWord_17 ?_
    refine lv_aload_n hx hb dX4_isWord_18 rfl (lv_at hl 1 rfl) ?_
    refine r_slen C hP hap hAA 3 (by decide) qML_RX4_149 ⟨(Nat.le_of_ble_eq_true rfl), (Nat.le_of_ble_eq_true rfl)⟩ hl.1 (by exact (Nat.le_of_ble_eq_true rfl)) dX4_isWord_19 ⟨Nat.le_refl _, Nat.le_refl _⟩ (v := 4) rfl (fun H locs hP => ?_)
    refine lv_icmp_eq (tgt := 27) hx hb dX4_isWord_22 (by decide) (fun c22 => ?_) (fun c22 => ?_)
    · have h := k_if c22 h
      refine lv_iconst (v := 0) hx hb dX4_isWord_27 (by decide) ?_
      refine lv_istore_n (lv' := [(2, .int 0), (0, .ref (ad 0)), (1, .ref (ev.2.2.2.1 3))]) hx hb dX4_isWord_28 rfl hl (by decide) rfl (fun ls hl => ?_)
      have hL29 : ∀ (n : Nat) (x1 : Int32) (H : Heap) (locs : List Loc) (ls : Array Slot), lp (fun _ => none) (f_X4_isWord_w3_L29_b σ ) n x1 = some r → PS ev 13 ad (mw ev ad σ) (inA ad 13) s H locs → lv_has ls 3 [(0, .ref (ad 0)), (1, .ref (ev.2.2.2.1 3)), (2, .int x1)] → WW ev p l e (rmk 8 300) s m args below meth c Qc ad 13 H locs 29 ls [] := by
        intro n
        induction n with
        | zero =>
          intro x1 H locs ls h; exact k_none h
        | succ n ih =>
          intro x1 H locs ls h hP hl
          have h : f_X4_isWord_w3_L29_b σ  (lp (fun _ => none) (f_X4_isWord_w3_L29_b σ ) n) x1 = some r := h
          have h := (f_X4_isWord_w3_L29_b.eq_1 _ _ _ ).symm.trans h
          refine lv_iload_n hx hb dX4_isWord_29 rfl (lv_at hl 2 rfl) ?_
          refine lv_aload_n hx hb dX4_isWord_30 rfl (lv_at hl 1 rfl) ?_
          refine r_slen C hP hap hAA 3 (by decide) qML_RX4_149 ⟨(Nat.le_of_ble_eq_true rfl), (Nat.le_of_ble_eq_true rfl)⟩ hl.1 (by exact (Nat.le_of_ble_eq_true rfl)) dX4_isWord_31 ⟨Nat.le_refl _, Nat.le_refl _⟩ (v := 4) rfl (fun H locs hP => ?_)
          refine lv_icmp_ge (tgt := 64) hx hb dX4_isWord_34 (by decide) (fun c34 => ?_) (fun c34 => ?_)
          · have h := k_if c34 h
            refine lv_iconst (v := 1) hx hb dX4_isWord_64 (by decide) ?_
            exact e_zret C hend hP (k_some h) rfl dX4_isWord_65 rfl
          · have h := k_nf c34 h
            refine lv_aload_n hx hb dX4_isWord_37 rfl (lv_at hl 0 rfl) ?_
            refine r_get C hP (ci := 4) rfl uin_X4 12 (by decide) 0 (by decide) rfl qFL_RX4_26 rfl rfl dX4_isWord_38 ?_
            refine lv_aload_n hx hb dX4_isWord_41 rfl (lv_at hl 0 rfl) ?_
            refine r_get C hP (ci := 4) rfl uin_X4 13 (by decide) 0 (by decide) rfl qFL_RX4_134 rfl rfl dX4_isWord_42 ?_
            refine lv_iload_n hx hb dX4_isWord_45 rfl (lv_at hl 2 rfl) ?_
            refine lv_iadd hx hb dX4_isWord_46 ?_
            obtain ⟨hg, h⟩ := k_gd h
            refine r_iald C hP 6 (by decide) rfl hg dX4_isWord_47 ?_
            refine lv_aload_n hx hb dX4_isWord_48 rfl (lv_at hl 1 rfl) ?_
            refine lv_iload_n hx hb dX4_isWord_49 rfl (lv_at hl 2 rfl) ?_
            obtain ⟨hg, h⟩ := k_gd h
            refine r_schar C hP hap hAA 3 (by decide) hg qML_RX4_154 ⟨(Nat.le_of_ble_eq_true rfl), (Nat.le_of_ble_eq_true rfl)⟩ hl.1 (by exact (Nat.le_of_ble_eq_true rfl)) dX4_isWord_50 ⟨Nat.le_refl _, Nat.le_refl _⟩ rfl (fun H locs hP => ?_)
            refine lv_icmp_eq (tgt := 58) hx hb dX4_isWord_53 (by decide) (fun c53 => ?_) (fun c53 => ?_)
            · have h := k_if c53 h
              obtain ⟨x2, ex2, h⟩ := k_ltx h
              refine lv_iinc (v := x2) (lv' := [(2, .int x2), (0, .ref (ad 0)), (1, .ref (ev.2.2.2.1 3))]) hx hb dX4_isWord_58 hl (k := 2) rfl (by rw [ex2]; rfl) (by decide) rfl (fun ls hl => ?_)
              refine lv_goto (tgt := 29) hx hb dX4_isWord_61 (by decide) ?_
              exact ih _ _ _ _ h hP (lv_sub hl [1, 2, 0] rfl)
            · have h := k_nf c53 h
              refine lv_iconst (v := 0) hx hb dX4_isWord_56 (by decide) ?_
              exact e_zret C hend hP (k_some h) rfl dX4_isWord_57 rfl
      exact hL29 FU _ _ _ _ h hP (lv_sub hl [1, 2, 0] rfl)
    · have h := k_nf c22 h
      refine lv_iconst (v := 0) hx hb dX4_isWord_25 (by decide) ?_
      exact e_zret C hend hP (k_some h) rfl dX4_isWord_26 rfl
