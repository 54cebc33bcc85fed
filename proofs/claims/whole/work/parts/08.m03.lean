/-! functions read off, and their contracts: by program (wip/whole/gen2.py) -/
def f_X0_isAlike (σ : GG) (a1 : Int32) : Option (Bool) :=
  ob (f_X0_turnedEdges σ (g_hedges σ) a1) (fun y1 => if (lg_cmp y1 (g_hedges σ)) = 0 then ob (f_X0_turnedFields σ (g_dug σ) a1) (fun x2 => if x2 = (g_dug σ) then ob (f_X0_turnedFields σ (g_ownedBy0 σ) a1) (fun x3 => if x3 = (g_ownedBy0 σ) then ob (f_X0_turnedFields σ (g_ownedBy1 σ) a1) (fun x4 => if x4 = (g_ownedBy1 σ) then some true else some false) else some false) else some false) else some false)
set_option maxHeartbeats 4000000 in
set_option maxRecDepth 100000 in
theorem c_X0_isAlike (l : Launch) (ev : EV) (ad : Nat → Nat) (σ : GG) (a1 : Int32)   (r : Bool)  (h : f_X0_isAlike σ a1 = some r) : Ct l yX0_isAlike prog_2_method_48_code 2 (Option.some Jvm.ClassFile.FieldType.boolean) (rmk 3 81) ev 1 ad (gw1 σ) (gw1 σ) [.ref (ad 0), .int a1] (some (.int (bi r))) := by
  refine Ct.of (by decide +kernel) (Nat.le_of_ble_eq_true rfl) ?_
  intro p e s m args below meth c Qc C hap hP hend ls hl
  have hAA : ∀ j, j < 1 → inA ad 1 (ad j) := fun j hj => ⟨j, hj, rfl⟩
  have hx := C.1
  have hb := C.2.1
  have hl : lv_has ls 2 [(0, .ref (ad 0)), (1, .int a1)] := hl
  have h := (f_X0_isAlike.eq_1 _ _ ).symm.trans h
  refine lv_aload_n hx hb dX0_isAlike_0 rfl (lv_at hl 0 rfl) ?_
  refine lv_aload_n hx hb dX0_isAlike_1 rfl (lv_at hl 0 rfl) ?_
  refine r_get C hP (ci := 0) rfl uin_X0 9 (by decide) 0 (by decide) rfl qFL_RX0_57 rfl rfl dX0_isAlike_2 ?_
  refine lv_iload_n hx hb dX0_isAlike_5 rfl (lv_at hl 1 rfl) ?_
  obtain ⟨y1, h1, h⟩ := k_ob h
  refine k_callVl C hP hap hAA (c_X0_turnedEdges l ev ad σ (g_hedges σ) a1   _ h1) Emb.same hap gz_X0_turnedEdges qML_RX0_176 qIM_yX0_turnedEdges qSE_yX0_turnedEdges ⟨(Nat.le_of_ble_eq_true rfl), (Nat.le_of_ble_eq_true rfl)⟩ (q0 := 0) rfl (by decide) rfl rfl rfl rfl hl.1 rfl (Nat.le_of_ble_eq_true rfl) dX0_isAlike_6 ⟨Nat.le_refl _, Nat.le_refl _⟩ (fun H locs hP => ?_)
  refine lv_aload_n hx hb dX0_isAlike_9 rfl (lv_at hl 0 rfl) ?_
  refine r_get C hP (ci := 0) rfl uin_X0 9 (by decide) 0 (by decide) rfl qFL_RX0_57 rfl rfl dX0_isAlike_10 ?_
  refine W.lcmp hx hb dX0_isAlike_13 ?_
  refine lv_if_ne (tgt := 69) hx hb dX0_isAlike_14 (by decide) (fun c14 => ?_) (fun c14 => ?_)
  · have h := k_nf c14 h
    refine lv_iconst (v := 0) hx hb dX0_isAlike_69 (by decide) ?_
    exact e_zret C hend hP (k_some h) rfl dX0_isAlike_70 rfl
  · have h := k_if c14 h
    refine lv_aload_n hx hb dX0_isAlike_17 rfl (lv_at hl 0 rfl) ?_
    refine lv_aload_n hx hb dX0_isAlike_18 rfl (lv_at hl 0 rfl) ?_
    refine r_get C hP (ci := 0) rfl uin_X0 10 (by decide) 0 (by decide) rfl qFL_RX0_60 rfl rfl dX0_isAlike_19 ?_
    refine lv_iload_n hx hb dX0_isAlike_22 rfl (lv_at hl 1 rfl) ?_
    obtain ⟨x2, h1, h⟩ := k_ob h
    refine k_callVi C hP hap hAA (c_X0_turnedFields l ev ad σ (g_dug σ) a1   _ h1) Emb.same hap gz_X0_turnedFields qML_RX0_180 qIM_yX0_turnedFields qSE_yX0_turnedFields ⟨(Nat.le_of_ble_eq_true rfl), (Nat.le_of_ble_eq_true rfl)⟩ (q0 := 0) rfl (by decide) rfl rfl rfl rfl hl.1 rfl (Nat.le_of_ble_eq_true rfl) dX0_isAlike_23 ⟨Nat.le_refl _, Nat.le_refl _⟩ (fun H locs hP => ?_)
    refine lv_aload_n hx hb dX0_isAlike_26 rfl (lv_at hl 0 rfl) ?_
    refine r_get C hP (ci := 0) rfl uin_X0 10 (by decide) 0 (by decide) rfl qFL_RX0_60 rfl rfl dX0_isAlike_27 ?_
    refine lv_icmp_ne (tgt := 69) hx hb dX0_isAlike_30 (by decide) (fun c30 => ?_) (fun c30 => ?_)
    · have h := k_nf c30 h
      refine lv_iconst (v := 0) hx hb dX0_isAlike_69 (by decide) ?_
      exact e_zret C hend hP (k_some h) rfl dX0_isAlike_70 rfl
    · have h := k_if c30 h
      refine lv_aload_n hx hb dX0_isAlike_33 rfl (lv_at hl 0 rfl) ?_
      refine lv_aload_n hx hb dX0_isAlike_34 rfl (lv_at hl 0 rfl) ?_
      refine r_get C hP (ci := 0) rfl uin_X0 11 (by decide) 0 (by decide) rfl qFL_RX0_63 rfl rfl dX0_isAlike_35 ?_
      refine lv_iload_n hx hb dX0_isAlike_38 rfl (lv_at hl 1 rfl) ?_
      obtain ⟨x3, h1, h⟩ := k_ob h
      refine k_callVi C hP hap hAA (c_X0_turnedFields l ev ad σ (g_ownedBy0 σ) a1   _ h1) Emb.same hap gz_X0_turnedFields qML_RX0_180 qIM_yX0_turnedFields qSE_yX0_turnedFields ⟨(Nat.le_of_ble_eq_true rfl), (Nat.le_of_ble_eq_true rfl)⟩ (q0 := 0) rfl (by decide) rfl rfl rfl rfl hl.1 rfl (Nat.le_of_ble_eq_true rfl) dX0_isAlike_39 ⟨Nat.le_refl _, Nat.le_refl _⟩ (fun H locs hP => ?_)
      refine lv_aload_n hx hb dX0_isAlike_42 rfl (lv_at hl 0 rfl) ?_
      refine r_get C hP (ci := 0) rfl uin_X0 11 (by decide) 0 (by decide) rfl qFL_RX0_63 rfl rfl dX0_isAlike_43 ?_
      refine lv_icmp_ne (tgt := 69) hx hb dX0_isAlike_46 (by decide) (fun c46 => ?_) (fun c46 => ?_)
      · have h := k_nf c46 h
        refine lv_iconst (v := 0) hx hb dX0_isAlike_69 (by decide) ?_
        exact e_zret C hend hP (k_some h) rfl dX0_isAlike_70 rfl
      · have h := k_if c46 h
        refine lv_aload_n hx hb dX0_isAlike_49 rfl (lv_at hl 0 rfl) ?_
        refine lv_aload_n hx hb dX0_isAlike_50 rfl (lv_at hl 0 rfl) ?_
        refine r_get C hP (ci := 0) rfl uin_X0 12 (by decide) 0 (by decide) rfl qFL_RX0_66 rfl rfl dX0_isAlike_51 ?_
        refine lv_iload_n hx hb dX0_isAlike_54 rfl (lv_at hl 1 rfl) ?_
        obtain ⟨x4, h1, h⟩ := k_ob h
        refine k_callVi C hP hap hAA (c_X0_turnedFields l ev ad σ (g_ownedBy1 σ) a1   _ h1) Emb.same hap gz_X0_turnedFields qML_RX0_180 qIM_yX0_turnedFields qSE_yX0_turnedFields ⟨(Nat.le_of_ble_eq_true rfl), (Nat.le_of_ble_eq_true rfl)⟩ (q0 := 0) rfl (by decide) rfl rfl rfl rfl hl.1 rfl (Nat.le_of_ble_eq_true rfl) dX0_isAlike_55 ⟨Nat.le_refl _, Nat.le_refl _⟩ (fun H locs hP => ?_)
        refine lv_aload_n hx hb dX0_isAlike_58 rfl (lv_at hl 0 rfl) ?_
        refine r_get C hP (ci := 0) rfl uin_X0 12 (by decide) 0 (by decide) rfl qFL_RX0_66 rfl rfl dX0_isAlike_59 ?_
        refine lv_icmp_ne (tgt := 69) hx hb dX0_isAlike_62 (by decide) (fun c62 => ?_) (fun c62 => ?_)
        · have h := k_nf c62 h
          refine lv_iconst (v := 0) hx hb dX0_isAlike_69 (by decide) ?_
          exact e_zret C hend hP (k_some h) rfl dX0_isAlike_70 rfl
        · have h := k_if c62 h
          refine lv_iconst (v := 1) hx hb dX0_isAlike_65 (by decide) ?_
          refine lv_goto (tgt := 70) hx hb dX0_isAlike_66 (by decide) ?_
          exact e_zret C hend hP (k_some h) rfl dX0_isAlike_70 rfl
def f_X1_bearsRow (σ : SS) : Bool :=
  if (s_content σ) < 0 then false else if 5 ≤ (s_content σ) then false else true
set_option maxHeartbeats 4000000 in
set_option maxRecDepth 100000 in
theorem c_X1_bearsRow (l : Launch) (ev : EV) (ad : Nat → Nat) (σ : SS)   (r : Bool)  (h : f_X1_bearsRow σ = r) : Ct l yX1_bearsRow prog_3_method_2_code 1 (Option.some Jvm.ClassFile.FieldType.boolean) (rmk 0 0) ev 2 ad (sw ev ad σ) (sw ev ad σ) [.ref (ad 0)] (some (.int (bi r))) := by
  refine Ct.of (by decide +kernel) (Nat.le_of_ble_eq_true rfl) ?_
  intro p e s m args below meth c Qc C hap hP hend ls hl
  have hAA : ∀ j, j < 2 → inA ad 2 (ad j) := fun j hj => ⟨j, hj, rfl⟩
  have hx := C.1
  have hb := C.2.1
  have hl : lv_has ls 1 [(0, .ref (ad 0))] := hl
  have h := (f_X1_bearsRow.eq_1 _ ).symm.trans h
  refine lv_aload_n hx hb dX1_bearsRow_0 rfl (lv_at hl 0 rfl) ?_
  refine r_get C hP (ci := 1) rfl uin_X1 0 (by decide) 0 (by decide) rfl qFL_RX1_9 rfl rfl dX1_bearsRow_1 ?_
  refine lv_if_lt (tgt := 19) hx hb dX1_bearsRow_4 (by decide) (fun c4 => ?_) (fun c4 => ?_)
  · have h := k_if c4 h
    refine lv_iconst (v := 0) hx hb dX1_bearsRow_19 (by decide) ?_
    exact e_zret C hend hP h rfl dX1_bearsRow_20 rfl
  · have h := k_nf c4 h
    refine lv_aload_n hx hb dX1_bearsRow_7 rfl (lv_at hl 0 rfl) ?_
    refine r_get C hP (ci := 1) rfl uin_X1 0 (by decide) 0 (by decide) rfl qFL_RX1_9 rfl rfl dX1_bearsRow_8 ?_
    refine lv_iconst (v := 5) hx hb dX1_bearsRow_11 (by decide) ?_
    refine lv_icmp_ge (tgt := 19) hx hb dX1_bearsRow_12 (by decide) (fun c12 => ?_) (fun c12 => ?_)
    · have h := k_if c12 h
      refine lv_iconst (v := 0) hx hb dX1_bearsRow_19 (by decide) ?_
      exact e_zret C hend hP h rfl dX1_bearsRow_20 rfl
    · have h := k_nf c12 h
      refine lv_iconst (v := 1) hx hb dX1_bearsRow_15 (by decide) ?_
      refine lv_goto (tgt := 20) hx hb dX1_bearsRow_16 (by decide) ?_
      exact e_zret C hend hP h rfl dX1_bearsRow_20 rfl
def f_X1_bearsPlayer (σ : SS) : Bool :=
  if (s_content σ) < 10 then false else true
set_option maxHeartbeats 4000000 in
set_option maxRecDepth 100000 in
theorem c_X1_bearsPlayer (l : Launch) (ev : EV) (ad : Nat → Nat) (σ : SS)   (r : Bool)  (h : f_X1_bearsPlayer σ = r) : Ct l yX1_bearsPlayer prog_3_method_3_code 1 (Option.some Jvm.ClassFile.FieldType.boolean) (rmk 0 0) ev 2 ad (sw ev ad σ) (sw ev ad σ) [.ref (ad 0)] (some (.int (bi r))) := by
  refine Ct.of (by decide +kernel) (Nat.le_of_ble_eq_true rfl) ?_
  intro p e s m args below meth c Qc C hap hP hend ls hl
  have hAA : ∀ j, j < 2 → inA ad 2 (ad j) := fun j hj => ⟨j, hj, rfl⟩
  have hx := C.1
  have hb := C.2.1
  have hl : lv_has ls 1 [(0, .ref (ad 0))] := hl
  have h := (f_X1_bearsPlayer.eq_1 _ ).symm.trans h
  refine lv_aload_n hx hb dX1_bearsPlayer_0 rfl (lv_at hl 0 rfl) ?_
  refine r_get C hP (ci := 1) rfl uin_X1 0 (by decide) 0 (by decide) rfl qFL_RX1_9 rfl rfl dX1_bearsPlayer_1 ?_
  refine lv_bipush (v := 10) hx hb dX1_bearsPlayer_4 (by decide) ?_
  refine lv_icmp_lt (tgt := 13) hx hb dX1_bearsPlayer_6 (by decide) (fun c6 => ?_) (fun c6 => ?_)
  · have h := k_if c6 h
    refine lv_iconst (v := 0) hx hb dX1_bearsPlayer_13 (by decide) ?_
    exact e_zret C hend hP h rfl dX1_bearsPlayer_14 rfl
  · have h := k_nf c6 h
    refine lv_iconst (v := 1) hx hb dX1_bearsPlayer_9 (by decide) ?_
    refine lv_goto (tgt := 14) hx hb dX1_bearsPlayer_10 (by decide) ?_
    exact e_zret C hend hP h rfl dX1_bearsPlayer_14 rfl
def f_X1_empty (σ : SS) : Option SS :=
  lt (s_content' σ (-1)) (fun σ1 => lt (s_length' σ1 0) (fun σ2 => some σ2))
set_option maxHeartbeats 4000000 in
set_option maxRecDepth 100000 in
theorem c_X1_empty (l : Launch) (ev : EV) (ad : Nat → Nat) (σ : SS)    (σ' : SS) (h : f_X1_empty σ = some σ') : Ct l yX1_empty prog_3_method_4_code 1 (Option.none : Option Jvm.ClassFile.FieldType) (rmk 0 0) ev 2 ad (sw ev ad σ) (sw ev ad σ') [.ref (ad 0)] none := by
  refine Ct.of (by decide +kernel) (Nat.le_of_ble_eq_true rfl) ?_
  intro p e s m args below meth c Qc C hap hP hend ls hl
  have hAA : ∀ j, j < 2 → inA ad 2 (ad j) := fun j hj => ⟨j, hj, rfl⟩
  have hx := C.1
  have hb := C.2.1
  have hl : lv_has ls 1 [(0, .ref (ad 0))] := hl
  have h := (f_X1_empty.eq_1 _ ).symm.trans h
  refine lv_aload_n hx hb dX1_empty_0 rfl (lv_at hl 0 rfl) ?_
  refine lv_iconst (v := (-1)) hx hb dX1_empty_1 (by decide) ?_
  obtain ⟨σ1, eσ1, h⟩ := k_ltx h
  refine pt_S_X1_content C hP hap hAA eσ1 qFL_RX1_9 dX1_empty_2 (fun H locs hP => ?_)
  refine lv_aload_n hx hb dX1_empty_5 rfl (lv_at hl 0 rfl) ?_
  refine lv_iconst (v := 0) hx hb dX1_empty_6 (by decide) ?_
  obtain ⟨σ2, eσ2, h⟩ := k_ltx h
  refine pt_S_X1_length C hP hap hAA eσ2 qFL_RX1_15 dX1_empty_7 (fun H locs hP => ?_)
  exact e_vret C hend hP (congrArg (sw ev ad) (k_some h)) dX1_empty_10
def f_X1_bear (σ : SS) (a1 : Int32) : Option SS :=
  lt (s_content' σ (10 + a1)) (fun σ1 => lt (s_length' σ1 0) (fun σ2 => some σ2))
set_option maxHeartbeats 4000000 in
set_option maxRecDepth 100000 in
theorem c_X1_bear (l : Launch) (ev : EV) (ad : Nat → Nat) (σ : SS) (a1 : Int32)    (σ' : SS) (h : f_X1_bear σ a1 = some σ') : Ct l yX1_bear prog_3_method_5_code 2 (Option.none : Option Jvm.ClassFile.FieldType) (rmk 0 0) ev 2 ad (sw ev ad σ) (sw ev ad σ') [.ref (ad 0), .int a1] none := by
  refine Ct.of (by decide +kernel) (Nat.le_of_ble_eq_true rfl) ?_
  intro p e s m args below meth c Qc C hap hP hend ls hl
  have hAA : ∀ j, j < 2 → inA ad 2 (ad j) := fun j hj => ⟨j, hj, rfl⟩
  have hx := C.1
  have hb := C.2.1
  have hl : lv_has ls 2 [(0, .ref (ad 0)), (1, .int a1)] := hl
  have h := (f_X1_bear.eq_1 _ _ ).symm.trans h
  refine lv_aload_n hx hb dX1_bear_0 rfl (lv_at hl 0 rfl) ?_
  refine lv_bipush (v := 10) hx hb dX1_bear_1 (by decide) ?_
  refine lv_iload_n hx hb dX1_bear_3 rfl (lv_at hl 1 rfl) ?_
  refine lv_iadd hx hb dX1_bear_4 ?_
  obtain ⟨σ1, eσ1, h⟩ := k_ltx h
  refine pt_S_X1_content C hP hap hAA eσ1 qFL_RX1_9 dX1_bear_5 (fun H locs hP => ?_)
  refine lv_aload_n hx hb dX1_bear_8 rfl (lv_at hl 0 rfl) ?_
  refine lv_iconst (v := 0) hx hb dX1_bear_9 (by decide) ?_
  obtain ⟨σ2, eσ2, h⟩ := k_ltx h
  refine pt_S_X1_length C hP hap hAA eσ2 qFL_RX1_15 dX1_bear_10 (fun H locs hP => ?_)
  exact e_vret C hend hP (congrArg (sw ev ad) (k_some h)) dX1_bear_13
def f_X1_layRow_L12_b   (rec12 : Int32 → SS → Option SS) (x3 : Int32) (σ4 : SS) : Option SS :=
  if 40 ≤ x3 then some σ4 else gd (inb x3 40) (lt (s_elements' σ4 (vp_updL (s_elements σ4) (Int32.toNatClampNeg x3) 0)) (fun σ5 => lt (x3 + 1) (fun x6 => rec12 x6 σ5)))
def f_X1_layRow_L12   (x3 : Int32) (σ4 : SS) : Option SS :=
  lp (fun _ _ => none) (f_X1_layRow_L12_b  ) FU x3 σ4
def f_X1_layRow (σ : SS) (a1 : Int32) (a2 : Int32) : Option SS :=
  lt (s_content' σ a1) (fun σ1 => lt (s_length' σ1 a2) (fun σ2 => f_X1_layRow_L12 0 σ2))
set_option maxHeartbeats 4000000 in
set_option maxRecDepth 100000 in
theorem c_X1_layRow (l : Launch) (ev : EV) (ad : Nat → Nat) (σ : SS) (a1 : Int32) (a2 : Int32)    (σ' : SS) (h : f_X1_layRow σ a1 a2 = some σ') : Ct l yX1_layRow prog_3_method_6_code 4 (Option.none : Option Jvm.ClassFile.FieldType) (rmk 0 0) ev 2 ad (sw ev ad σ) (sw ev ad σ') [.ref (ad 0), .int a1, .int a2] none := by
  refine Ct.of (by decide +kernel) (Nat.le_of_ble_eq_true rfl) ?_
  intro p e s m args below meth c Qc C hap hP hend ls hl
  have hAA : ∀ j, j < 2 → inA ad 2 (ad j) := fun j hj => ⟨j, hj, rfl⟩
  have hx := C.1
  have hb := C.2.1
  have hl : lv_has ls 4 [(0, .ref (ad 0)), (1, .int a1), (2, .int a2)] := hl
  have h := (f_X1_layRow.eq_1 _ _ _ ).symm.trans h
  refine lv_aload_n hx hb dX1_layRow_0 rfl (lv_at hl 0 rfl) ?_
  refine lv_iload_n hx hb dX1_layRow_1 rfl (lv_at hl 1 rfl) ?_
  obtain ⟨σ1, eσ1, h⟩ := k_ltx h
  refine pt_S_X1_content C hP hap hAA eσ1 qFL_RX1_9 dX1_layRow_2 (fun H locs hP => ?_)
  refine lv_aload_n hx hb dX1_layRow_5 rfl (lv_at hl 0 rfl) ?_
  refine lv_iload_n hx hb dX1_layRow_6 rfl (lv_at hl 2 rfl) ?_
  obtain ⟨σ2, eσ2, h⟩ := k_ltx h
  refine pt_S_X1_length C hP hap hAA eσ2 qFL_RX1_15 dX1_layRow_7 (fun H locs hP => ?_)
  refine lv_iconst (v := 0) hx hb dX1_layRow_10 (by decide) ?_
  refine lv_istore_n (lv' := [(3, .int 0), (0, .ref (ad 0)), (1, .int a1), (2, .int a2)]) hx hb dX1_layRow_11 rfl hl (by decide) rfl (fun ls hl => ?_)
  have hL12 : ∀ (n : Nat) (x3 : Int32) (σ4 : SS) (H : Heap) (locs : List Loc) (ls : Array Slot), lp (fun _ _ => none) (f_X1_layRow_L12_b  ) n x3 σ4 = some σ' → PS ev 2 ad (sw ev ad σ4) (inA ad 2) s H locs → lv_has ls 4 [(0, .ref (ad 0)), (3, .int x3)] → WW ev p l e (rmk 0 0) s m args below meth c Qc ad 2 H locs 12 ls [] := by
    intro n
    induction n with
    | zero =>
      intro x3 σ4 H locs ls h; exact k_none h
    | succ n ih =>
      intro x3 σ4 H locs ls h hP hl
      have h : f_X1_layRow_L12_b   (lp (fun _ _ => none) (f_X1_layRow_L12_b  ) n) x3 σ4 = some σ' := h
      have h := (f_X1_layRow_L12_b.eq_1 _ _ _ ).symm.trans h
      refine lv_iload_n hx hb dX1_layRow_12 rfl (lv_at hl 1 rfl) ?_
      refine lv_aload_n hx hb dX1_layRow_13 rfl (lv_at hl 0 rfl) ?_
      refine r_get C hP (ci := 1) rfl uin_X1 2 (by decide) 0 (by decide) rfl qFL_RX1_18 rfl rfl dX1_layRow_14 ?_
      refine r_alen C hP 1 (by decide) 2 rfl rfl (v := 40) rfl dX1_layRow_17 ?_
      refine lv_icmp_ge (tgt := 34) hx hb dX1_layRow_18 (by decide) (fun c18 => ?_) (fun c18 => ?_)
      · have h := k_if c18 h
        exact e_vret C hend hP (congrArg (sw ev ad) (k_some h)) dX1_layRow_34
      · have h := k_nf c18 h
        refine lv_aload_n hx hb dX1_layRow_21 rfl (lv_at hl 0 rfl) ?_
        refine r_get C hP (ci := 1) rfl uin_X1 2 (by decide) 0 (by decide) rfl qFL_RX1_18 rfl rfl dX1_layRow_22 ?_
        refine lv_iload_n hx hb dX1_layRow_25 rfl (lv_at hl 1 rfl) ?_
        refine lv_lconst (v := 0) hx hb dX1_layRow_26 (by decide) ?_
        obtain ⟨hg, h⟩ := k_gd h
        obtain ⟨σ5, eσ5, h⟩ := k_ltx h
        refine st_S_elements C hP hap hAA eσ5 hg dX1_layRow_27 (fun H locs hP => ?_)
        obtain ⟨x6, ex6, h⟩ := k_ltx h
        refine lv_iinc (v := x6) (lv' := [(3, .int x6), (0, .ref (ad 0))]) hx hb dX1_layRow_28 hl (k := 1) rfl (by rw [ex6]; rfl) (by decide) rfl (fun ls hl => ?_)
        refine lv_goto (tgt := 12) hx hb dX1_layRow_31 (by decide) ?_
        exact ih _ _ _ _ _ h hP (lv_sub hl [1, 0] rfl)
  exact hL12 FU _ _ _ _ _ h hP (lv_sub hl [1, 0] rfl)
def f_X1_reaches (σ : SS) (a1 : Int32) : Bool :=
  if a1 < 0 then false else if (s_length σ) ≤ a1 then false else if 40 ≤ a1 then false else true
set_option maxHeartbeats 4000000 in
set_option maxRecDepth 100000 in
theorem c_X1_reaches (l : Launch) (ev : EV) (ad : Nat → Nat) (σ : SS) (a1 : Int32)   (r : Bool)  (h : f_X1_reaches σ a1 = r) : Ct l yX1_reaches prog_3_method_7_code 2 (Option.some Jvm.ClassFile.FieldType.boolean) (rmk 0 0) ev 2 ad (sw ev ad σ) (sw ev ad σ) [.ref (ad 0), .int a1] (some (.int (bi r))) := by
  refine Ct.of (by decide +kernel) (Nat.le_of_ble_eq_true rfl) ?_
  intro p e s m args below meth c Qc C hap hP hend ls hl
  have hAA : ∀ j, j < 2 → inA ad 2 (ad j) := fun j hj => ⟨j, hj, rfl⟩
  have hx := C.1
  have hb := C.2.1
  have hl : lv_has ls 2 [(0, .ref (ad 0)), (1, .int a1)] := hl
  have h := (f_X1_reaches.eq_1 _ _ ).symm.trans h
  refine lv_iload_n hx hb dX1_reaches_0 rfl (lv_at hl 1 rfl) ?_
  refine lv_if_lt (tgt := 25) hx hb dX1_reaches_1 (by decide) (fun c1 => ?_) (fun c1 => ?_)
  · have h := k_if c1 h
    refine lv_iconst (v := 0) hx hb dX1_reaches_25 (by decide) ?_
    exact e_zret C hend hP h rfl dX1_reaches_26 rfl
  · have h := k_nf c1 h
    refine lv_iload_n hx hb dX1_reaches_4 rfl (lv_at hl 1 rfl) ?_
    refine lv_aload_n hx hb dX1_reaches_5 rfl (lv_at hl 0 rfl) ?_
    refine r_get C hP (ci := 1) rfl uin_X1 1 (by decide) 0 (by decide) rfl qFL_RX1_15 rfl rfl dX1_reaches_6 ?_
    refine lv_icmp_ge (tgt := 25) hx hb dX1_reaches_9 (by decide) (fun c9 => ?_) (fun c9 => ?_)
    · have h := k_if c9 h
      refine lv_iconst (v := 0) hx hb dX1_reaches_25 (by decide) ?_
      exact e_zret C hend hP h rfl dX1_reaches_26 rfl
    · have h := k_nf c9 h
      refine lv_iload_n hx hb dX1_reaches_12 rfl (lv_at hl 1 rfl) ?_
      refine lv_aload_n hx hb dX1_reaches_13 rfl (lv_at hl 0 rfl) ?_
      refine r_get C hP (ci := 1) rfl uin_X1 2 (by decide) 0 (by decide) rfl qFL_RX1_18 rfl rfl dX1_reaches_14 ?_
      refine r_alen C hP 1 (by decide) 2 rfl rfl (v := 40) rfl dX1_reaches_17 ?_
      refine lv_icmp_ge (tgt := 25) hx hb dX1_reaches_18 (by decide) (fun c18 => ?_) (fun c18 => ?_)
      · have h := k_if c18 h
        refine lv_iconst (v := 0) hx hb dX1_reaches_25 (by decide) ?_
        exact e_zret C hend hP h rfl dX1_reaches_26 rfl
      · have h := k_nf c18 h
        refine lv_iconst (v := 1) hx hb dX1_reaches_21 (by decide) ?_
        refine lv_goto (tgt := 26) hx hb dX1_reaches_22 (by decide) ?_
        exact e_zret C hend hP h rfl dX1_reaches_26 rfl
def f_X1_reachesSpan (σ : SS) (a1 : Int32) (a2 : Int32) : Bool :=
  if a1 < 0 then false else if a2 < 0 then false else if (s_length σ) < a2 then false else if ((s_length σ) - a2) < a1 then false else if 40 < (s_length σ) then false else true
set_option maxHeartbeats 4000000 in
set_option maxRecDepth 100000 in
theorem c_X1_reachesSpan (l : Launch) (ev : EV) (ad : Nat → Nat) (σ : SS) (a1 : Int32) (a2 : Int32)   (r : Bool)  (h : f_X1_reachesSpan σ a1 a2 = r) : Ct l yX1_reachesSpan prog_3_method_8_code 3 (Option.some Jvm.ClassFile.FieldType.boolean) (rmk 0 0) ev 2 ad (sw ev ad σ) (sw ev ad σ) [.ref (ad 0), .int a1, .int a2] (some (.int (bi r))) := by
  refine Ct.of (by decide +kernel) (Nat.le_of_ble_eq_true rfl) ?_
  intro p e s m args below meth c Qc C hap hP hend ls hl
  have hAA : ∀ j, j < 2 → inA ad 2 (ad j) := fun j hj => ⟨j, hj, rfl⟩
  have hx := C.1
  have hb := C.2.1
  have hl : lv_has ls 3 [(0, .ref (ad 0)), (1, .int a1), (2, .int a2)] := hl
  have h := (f_X1_reachesSpan.eq_1 _ _ _ ).symm.trans h
  refine lv_iload_n hx hb dX1_reachesSpan_0 rfl (lv_at hl 1 rfl) ?_
  refine lv_if_lt (tgt := 42) hx hb dX1_reachesSpan_1 (by decide) (fun c1 => ?_) (fun c1 => ?_)
  · have h := k_if c1 h
    refine lv_iconst (v := 0) hx hb dX1_reachesSpan_42 (by decide) ?_
    exact e_zret C hend hP h rfl dX1_reachesSpan_43 rfl
  · have h := k_nf c1 h
    refine lv_iload_n hx hb dX1_reachesSpan_4 rfl (lv_at hl 2 rfl) ?_
    refine lv_if_lt (tgt := 42) hx hb dX1_reachesSpan_5 (by decide) (fun c5 => ?_) (fun c5 => ?_)
    · have h := k_if c5 h
      refine lv_iconst (v := 0) hx hb dX1_reachesSpan_42 (by decide) ?_
      exact e_zret C hend hP h rfl dX1_reachesSpan_43 rfl
    · have h := k_nf c5 h
      refine lv_iload_n hx hb dX1_reachesSpan_8 rfl (lv_at hl 2 rfl) ?_
      refine lv_aload_n hx hb dX1_reachesSpan_9 rfl (lv_at hl 0 rfl) ?_
      refine r_get C hP (ci := 1) rfl uin_X1 1 (by decide) 0 (by decide) rfl qFL_RX1_15 rfl rfl dX1_reachesSpan_10 ?_
      refine lv_icmp_gt (tgt := 42) hx hb dX1_reachesSpan_13 (by decide) (fun c13 => ?_) (fun c13 => ?_)
      · have h := k_if c13 h
        refine lv_iconst (v := 0) hx hb dX1_reachesSpan_42 (by decide) ?_
        exact e_zret C hend hP h rfl dX1_reachesSpan_43 rfl
      · have h := k_nf c13 h
        refine lv_iload_n hx hb dX1_reachesSpan_16 rfl (lv_at hl 1 rfl) ?_
        refine lv_aload_n hx hb dX1_reachesSpan_17 rfl (lv_at hl 0 rfl) ?_
        refine r_get C hP (ci := 1) rfl uin_X1 1 (by decide) 0 (by decide) rfl qFL_RX1_15 rfl rfl dX1_reachesSpan_18 ?_
        refine lv_iload_n hx hb dX1_reachesSpan_21 rfl (lv_at hl 2 rfl) ?_
        refine lv_isub hx hb dX1_reachesSpan_22 ?_
        refine lv_icmp_gt (tgt := 42) hx hb dX1_reachesSpan_23 (by decide) (fun c23 => ?_) (fun c23 => ?_)
        · have h := k_if c23 h
          refine lv_iconst (v := 0) hx hb dX1_reachesSpan_42 (by decide) ?_
          exact e_zret C hend hP h rfl dX1_reachesSpan_43 rfl
        · have h := k_nf c23 h
          refine lv_aload_n hx hb dX1_reachesSpan_26 rfl (lv_at hl 0 rfl) ?_
          refine r_get C hP (ci := 1) rfl uin_X1 1 (by decide) 0 (by decide) rfl qFL_RX1_15 rfl rfl dX1_reachesSpan_27 ?_
          refine lv_aload_n hx hb dX1_reachesSpan_30 rfl (lv_at hl 0 rfl) ?_
          refine r_get C hP (ci := 1) rfl uin_X1 2 (by decide) 0 (by decide) rfl qFL_RX1_18 rfl rfl dX1_reachesSpan_31 ?_
          refine r_alen C hP 1 (by decide) 2 rfl rfl (v := 40) rfl dX1_reachesSpan_34 ?_
          refine lv_icmp_gt (tgt := 42) hx hb dX1_reachesSpan_35 (by decide) (fun c35 => ?_) (fun c35 => ?_)
          · have h := k_if c35 h
            refine lv_iconst (v := 0) hx hb dX1_reachesSpan_42 (by decide) ?_
            exact e_zret C hend hP h rfl dX1_reachesSpan_43 rfl
          · have h := k_nf c35 h
            refine lv_iconst (v := 1) hx hb dX1_reachesSpan_38 (by decide) ?_
            refine lv_goto (tgt := 43) hx hb dX1_reachesSpan_39 (by decide) ?_
            exact e_zret C hend hP h rfl dX1_reachesSpan_43 rfl
def f_X1_elementAt (σ : SS) (a1 : Int32) : Option (Int64) :=
  if (f_X1_reaches σ a1) = true then gd (inb a1 40) (some ((s_elements σ) (Int32.toNatClampNeg a1))) else some 0
set_option maxHeartbeats 4000000 in
set_option maxRecDepth 100000 in
theorem c_X1_elementAt (l : Launch) (ev : EV) (ad : Nat → Nat) (σ : SS) (a1 : Int32)   (r : Int64)  (h : f_X1_elementAt σ a1 = some r) : Ct l yX1_elementAt prog_3_method_9_code 2 (Option.some Jvm.ClassFile.FieldType.long) (rmk 1 21) ev 2 ad (sw ev ad σ) (sw ev ad σ) [.ref (ad 0), .int a1] (some (.long r)) := by
  refine Ct.of (by decide +kernel) (Nat.le_of_ble_eq_true rfl) ?_
  intro p e s m args below meth c Qc C hap hP hend ls hl
  have hAA : ∀ j, j < 2 → inA ad 2 (ad j) := fun j hj => ⟨j, hj, rfl⟩
  have hx := C.1
  have hb := C.2.1
  have hl : lv_has ls 2 [(0, .ref (ad 0)), (1, .int a1)] := hl
  have h := (f_X1_elementAt.eq_1 _ _ ).symm.trans h
  refine lv_aload_n hx hb dX1_elementAt_0 rfl (lv_at hl 0 rfl) ?_
  refine lv_iload_n hx hb dX1_elementAt_1 rfl (lv_at hl 1 rfl) ?_
  refine k_callVi C hP hap hAA (c_X1_reaches l ev ad σ a1   _ rfl) Emb.same hap gz_X1_reaches qML_RX1_22 qIM_yX1_reaches qSE_yX1_reaches ⟨(Nat.le_of_ble_eq_true rfl), (Nat.le_of_ble_eq_true rfl)⟩ (q0 := 0) rfl (by decide) rfl rfl rfl rfl hl.1 rfl (Nat.le_of_ble_eq_true rfl) dX1_elementAt_2 ⟨Nat.le_refl _, Nat.le_refl _⟩ (fun H locs hP => ?_)
  refine r_ifz_eq (tgt := 17) hx hb dX1_elementAt_5 (by decide) (fun c5 => ?_) (fun c5 => ?_)
  · have h := k_nf c5 h
    refine lv_lconst (v := 0) hx hb dX1_elementAt_17 (by decide) ?_
    exact e_lret C hend hP (k_some h) rfl dX1_elementAt_18
  · have h := k_if c5 h
    refine lv_aload_n hx hb dX1_elementAt_8 rfl (lv_at hl 0 rfl) ?_
    refine r_get C hP (ci := 1) rfl uin_X1 2 (by decide) 0 (by decide) rfl qFL_RX1_18 rfl rfl dX1_elementAt_9 ?_
    refine lv_iload_n hx hb dX1_elementAt_12 rfl (lv_at hl 1 rfl) ?_
    obtain ⟨hg, h⟩ := k_gd h
    refine r_lald C hP 1 (by decide) rfl hg dX1_elementAt_13 ?_
    refine lv_goto (tgt := 18) hx hb dX1_elementAt_14 (by decide) ?_
    exact e_lret C hend hP (k_some h) rfl dX1_elementAt_18
def f_X3_truth (a1 : Int32) : Int32 :=
  if a1 = 0 then 0 else 1
set_option maxHeartbeats 4000000 in
set_option maxRecDepth 100000 in
theorem c_X3_truth (l : Launch) (ev : EV) (ad : Nat → Nat) (a1 : Int32)   (r : Int32)  (h : f_X3_truth a1 = r) : Ct l yX3_truth prog_1_method_63_code 1 (Option.some Jvm.ClassFile.FieldType.int) (rmk 0 0) ev 0 ad w00 w00 [.int a1] (some (.int r)) := by
  refine Ct.of (by decide +kernel) (Nat.le_of_ble_eq_true rfl) ?_
  intro p e s m args below meth c Qc C hap hP hend ls hl
  have hAA : ∀ j, j < 0 → inA ad 0 (ad j) := fun j hj => ⟨j, hj, rfl⟩
  have hx := C.1
  have hb := C.2.1
  have hl : lv_has ls 1 [(0, .int a1)] := hl
  have h := (f_X3_truth.eq_1 _ ).symm.trans h
  refine lv_iload_n hx hb dX3_truth_0 rfl (lv_at hl 0 rfl) ?_
  refine lv_if_eq (tgt := 8) hx hb dX3_truth_1 (by decide) (fun c1 => ?_) (fun c1 => ?_)
  · have h := k_if c1 h
    refine lv_iconst (v := 0) hx hb dX3_truth_8 (by decide) ?_
    exact e_iret C hend hP h rfl dX3_truth_9
  · have h := k_nf c1 h
    refine lv_iconst (v := 1) hx hb dX3_truth_4 (by decide) ?_
    refine lv_goto (tgt := 9) hx hb dX3_truth_5 (by decide) ?_
    exact e_iret C hend hP h rfl dX3_truth_9
def f_X1_lowestBits (σ : SS) (a1 : Int64) : Int64 :=
  if (s_content σ) = 0 then (Int32.toInt64 ((Int32.toInt8 (Int64.toInt32 a1)).toInt32)) else if (s_content σ) = 1 then (Int32.toInt64 ((Int32.toInt16 (Int64.toInt32 a1)).toInt32)) else if (s_content σ) = 2 then (Int32.toInt64 (Int64.toInt32 a1)) else if (s_content σ) = 3 then a1 else if (s_content σ) = 4 then if (lg_cmp a1 0) = 0 then (Int32.toInt64 (f_X3_truth 0)) else (Int32.toInt64 (f_X3_truth 1)) else 0
set_option maxHeartbeats 4000000 in
set_option maxRecDepth 100000 in
theorem c_X1_lowestBits (l : Launch) (ev : EV) (ad : Nat → Nat) (σ : SS) (a1 : Int64)   (r : Int64)  (h : f_X1_lowestBits σ a1 = r) : Ct l yX1_lowestBits prog_3_method_11_code 3 (Option.some Jvm.ClassFile.FieldType.long) (rmk 1 20) ev 2 ad (sw ev ad σ) (sw ev ad σ) [.ref (ad 0), .long a1] (some (.long r)) := by
  refine Ct.of (by decide +kernel) (Nat.le_of_ble_eq_true rfl) ?_
  intro p e s m args below meth c Qc C hap hP hend ls hl
  have hAA : ∀ j, j < 2 → inA ad 2 (ad j) := fun j hj => ⟨j, hj, rfl⟩
  have hx := C.1
  have hb := C.2.1
  have hl : lv_has ls 3 [(0, .ref (ad 0)), (1, .long a1)] := hl
  have h := (f_X1_lowestBits.eq_1 _ _ ).symm.trans h
  refine lv_aload_n hx hb dX1_lowestBits_0 rfl (lv_at hl 0 rfl) ?_
  refine r_get C hP (ci := 1) rfl uin_X1 0 (by decide) 0 (by decide) rfl qFL_RX1_9 rfl rfl dX1_lowestBits_1 ?_
  by_cases cs0 : (s_content σ) = 0
  · have h := k_if cs0 h
    refine r_tabIn (tgt := 40) (off := 36) (i := 0) hx hb dX1_lowestBits_4 cs0 (by decide) (by decide) (by decide) (by decide) ?_
    refine lv_lload_n hx hb dX1_lowestBits_40 rfl (lv_at hl 1 rfl) ?_
    refine lv_l2i hx hb dX1_lowestBits_41 rfl ?_
    refine lv_i2b hx hb dX1_lowestBits_42 rfl ?_
    refine lv_i2l hx hb dX1_lowestBits_43 rfl ?_
    exact e_lret C hend hP h rfl dX1_lowestBits_44
  · have h := k_nf cs0 h
    by_cases cs1 : (s_content σ) = 1
    · have h := k_if cs1 h
      refine r_tabIn (tgt := 45) (off := 41) (i := 1) hx hb dX1_lowestBits_4 cs1 (by decide) (by decide) (by decide) (by decide) ?_
      refine lv_lload_n hx hb dX1_lowestBits_45 rfl (lv_at hl 1 rfl) ?_
      refine lv_l2i hx hb dX1_lowestBits_46 rfl ?_
      refine lv_i2s hx hb dX1_lowestBits_47 rfl ?_
      refine lv_i2l hx hb dX1_lowestBits_48 rfl ?_
      exact e_lret C hend hP h rfl dX1_lowestBits_49
    · have h := k_nf cs1 h
      by_cases cs2 : (s_content σ) = 2
      · have h := k_if cs2 h
        refine r_tabIn (tgt := 50) (off := 46) (i := 2) hx hb dX1_lowestBits_4 cs2 (by decide) (by decide) (by decide) (by decide) ?_
        refine lv_lload_n hx hb dX1_lowestBits_50 rfl (lv_at hl 1 rfl) ?_
        refine lv_l2i hx hb dX1_lowestBits_51 rfl ?_
        refine lv_i2l hx hb dX1_lowestBits_52 rfl ?_
        exact e_lret C hend hP h rfl dX1_lowestBits_53
      · have h := k_nf cs2 h
        by_cases cs3 : (s_content σ) = 3
        · have h := k_if cs3 h
          refine r_tabIn (tgt := 54) (off := 50) (i := 3) hx hb dX1_lowestBits_4 cs3 (by decide) (by decide) (by decide) (by decide) ?_
          refine lv_lload_n hx hb dX1_lowestBits_54 rfl (lv_at hl 1 rfl) ?_
          exact e_lret C hend hP h rfl dX1_lowestBits_55
        · have h := k_nf cs3 h
          by_cases cs4 : (s_content σ) = 4
          · have h := k_if cs4 h
            refine r_tabIn (tgt := 56) (off := 52) (i := 4) hx hb dX1_lowestBits_4 cs4 (by decide) (by decide) (by decide) (by decide) ?_
            refine lv_lload_n hx hb dX1_lowestBits_56 rfl (lv_at hl 1 rfl) ?_
            refine lv_lconst (v := 0) hx hb dX1_lowestBits_57 (by decide) ?_
            refine W.lcmp hx hb dX1_lowestBits_58 ?_
            refine lv_if_eq (tgt := 66) hx hb dX1_lowestBits_59 (by decide) (fun c59 => ?_) (fun c59 => ?_)
            · have h := k_if c59 h
              refine lv_iconst (v := 0) hx hb dX1_lowestBits_66 (by decide) ?_
              refine k_callNi (host := "HedgesAndDitches") C hP hap hAA (c_X3_truth l ev ad 0   _ rfl) Emb.none (apart_0 _) gz_X3_truth (by decide +kernel) qSM_yX3_truth ⟨(Nat.le_of_ble_eq_true rfl), (Nat.le_of_ble_eq_true rfl)⟩ rfl hl.1 rfl (Nat.le_of_ble_eq_true rfl) dX1_lowestBits_67 ⟨Nat.le_refl _, Nat.le_refl _⟩ (fun H locs hP => ?_)
              refine lv_i2l hx hb dX1_lowestBits_70 rfl ?_
              exact e_lret C hend hP h rfl dX1_lowestBits_71
            · have h := k_nf c59 h
              refine lv_iconst (v := 1) hx hb dX1_lowestBits_62 (by decide) ?_
              refine lv_goto (tgt := 67) hx hb dX1_lowestBits_63 (by decide) ?_
              refine k_callNi (host := "HedgesAndDitches") C hP hap hAA (c_X3_truth l ev ad 1   _ rfl) Emb.none (apart_0 _) gz_X3_truth (by decide +kernel) qSM_yX3_truth ⟨(Nat.le_of_ble_eq_true rfl), (Nat.le_of_ble_eq_true rfl)⟩ rfl hl.1 rfl (Nat.le_of_ble_eq_true rfl) dX1_lowestBits_67 ⟨Nat.le_refl _, Nat.le_refl _⟩ (fun H locs hP => ?_)
              refine lv_i2l hx hb dX1_lowestBits_70 rfl ?_
              exact e_lret C hend hP h rfl dX1_lowestBits_71
          · have h := k_nf cs4 h
            refine r_tabOut (tgt := 72) hx hb dX1_lowestBits_4 (fun i h1 h2 => by
              have h3 : i = 0 ∨ i = 1 ∨ i = 2 ∨ i = 3 ∨ i = 4 := by omega
              rcases h3 with rfl | rfl | rfl | rfl | rfl
              · exact cs0
              · exact cs1
              · exact cs2
              · exact cs3
              · exact cs4
              ) (by decide) ?_
            refine lv_lconst (v := 0) hx hb dX1_lowestBits_72 (by decide) ?_
            exact e_lret C hend hP h rfl dX1_lowestBits_73
def f_X1_put (σ : SS) (a1 : Int32) (a2 : Int64) : Option SS :=
  if (f_X1_reaches σ a1) = true then gd (inb a1 40) (lt (s_elements' σ (vp_updL (s_elements σ) (Int32.toNatClampNeg a1) (f_X1_lowestBits σ a2))) (fun σ1 => some σ1)) else some σ
set_option maxHeartbeats 4000000 in
set_option maxRecDepth 100000 in
theorem c_X1_put (l : Launch) (ev : EV) (ad : Nat → Nat) (σ : SS) (a1 : Int32) (a2 : Int64)    (σ' : SS) (h : f_X1_put σ a1 a2 = some σ') : Ct l yX1_put prog_3_method_10_code 4 (Option.none : Option Jvm.ClassFile.FieldType) (rmk 2 42) ev 2 ad (sw ev ad σ) (sw ev ad σ') [.ref (ad 0), .int a1, .long a2] none := by
  refine Ct.of (by decide +kernel) (Nat.le_of_ble_eq_true rfl) ?_
  intro p e s m args below meth c Qc C hap hP hend ls hl
  have hAA : ∀ j, j < 2 → inA ad 2 (ad j) := fun j hj => ⟨j, hj, rfl⟩
  have hx := C.1
  have hb := C.2.1
  have hl : lv_has ls 4 [(0, .ref (ad 0)), (1, .int a1), (2, .long a2)] := hl
  have h := (f_X1_put.eq_1 _ _ _ ).symm.trans h
  refine lv_aload_n hx hb dX1_put_0 rfl (lv_at hl 0 rfl) ?_
  refine lv_iload_n hx hb dX1_put_1 rfl (lv_at hl 1 rfl) ?_
  refine k_callVi C hP hap hAA (c_X1_reaches l ev ad σ a1   _ rfl) Emb.same hap gz_X1_reaches qML_RX1_22 qIM_yX1_reaches qSE_yX1_reaches ⟨(Nat.le_of_ble_eq_true rfl), (Nat.le_of_ble_eq_true rfl)⟩ (q0 := 0) rfl (by decide) rfl rfl rfl rfl hl.1 rfl (Nat.le_of_ble_eq_true rfl) dX1_put_2 ⟨Nat.le_refl _, Nat.le_refl _⟩ (fun H locs hP => ?_)
  refine r_ifz_eq (tgt := 19) hx hb dX1_put_5 (by decide) (fun c5 => ?_) (fun c5 => ?_)
  · have h := k_nf c5 h
    exact e_vret C hend hP (congrArg (sw ev ad) (k_some h)) dX1_put_19
  · have h := k_if c5 h
    refine lv_aload_n hx hb dX1_put_8 rfl (lv_at hl 0 rfl) ?_
    refine r_get C hP (ci := 1) rfl uin_X1 2 (by decide) 0 (by decide) rfl qFL_RX1_18 rfl rfl dX1_put_9 ?_
    refine lv_iload_n hx hb dX1_put_12 rfl (lv_at hl 1 rfl) ?_
    refine lv_aload_n hx hb dX1_put_13 rfl (lv_at hl 0 rfl) ?_
    refine lv_lload_n hx hb dX1_put_14 rfl (lv_at hl 2 rfl) ?_
    refine k_callVl C hP hap hAA (c_X1_lowestBits l ev ad σ a2   _ rfl) Emb.same hap gz_X1_lowestBits qML_RX1_26 qIM_yX1_lowestBits qSE_yX1_lowestBits ⟨(Nat.le_of_ble_eq_true rfl), (Nat.le_of_ble_eq_true rfl)⟩ (q0 := 0) rfl (by decide) rfl rfl rfl rfl hl.1 rfl (Nat.le_of_ble_eq_true rfl) dX1_put_15 ⟨Nat.le_refl _, Nat.le_refl _⟩ (fun H locs hP => ?_)
    obtain ⟨hg, h⟩ := k_gd h
    obtain ⟨σ1, eσ1, h⟩ := k_ltx h
    refine st_S_elements C hP hap hAA eσ1 hg dX1_put_18 (fun H locs hP => ?_)
    exact e_vret C hend hP (congrArg (sw ev ad) (k_some h)) dX1_put_19
def f_X2_append (σ : TT) (a1 : Int32) : Option TT :=
  if (t_length σ) < 0 then some σ else if 250 ≤ (t_length σ) then some σ else gd (inb (t_length σ) 250) (lt (t_bytes' σ (upd (t_bytes σ) (Int32.toNatClampNeg (t_length σ)) (vp_nar .char ((Int32.toUInt32 a1 % 65536).toInt32)))) (fun σ1 => lt (t_length' σ1 ((t_length σ1) + 1)) (fun σ2 => some σ2)))
set_option maxHeartbeats 4000000 in
set_option maxRecDepth 100000 in
theorem c_X2_append (l : Launch) (ev : EV) (ad : Nat → Nat) (σ : TT) (a1 : Int32)    (σ' : TT) (h : f_X2_append σ a1 = some σ') : Ct l yX2_append prog_4_method_2_code 2 (Option.none : Option Jvm.ClassFile.FieldType) (rmk 0 0) ev 2 ad (tw ev ad σ) (tw ev ad σ') [.ref (ad 0), .int a1] none := by
  refine Ct.of (by decide +kernel) (Nat.le_of_ble_eq_true rfl) ?_
  intro p e s m args below meth c Qc C hap hP hend ls hl
  have hAA : ∀ j, j < 2 → inA ad 2 (ad j) := fun j hj => ⟨j, hj, rfl⟩
  have hx := C.1
  have hb := C.2.1
  have hl : lv_has ls 2 [(0, .ref (ad 0)), (1, .int a1)] := hl
  have h := (f_X2_append.eq_1 _ _ ).symm.trans h
  refine lv_aload_n hx hb dX2_append_0 rfl (lv_at hl 0 rfl) ?_
  refine r_get C hP (ci := 2) rfl uin_X2 1 (by decide) 0 (by decide) rfl qFL_RX2_15 rfl rfl dX2_append_1 ?_
  refine lv_if_lt (tgt := 40) hx hb dX2_append_4 (by decide) (fun c4 => ?_) (fun c4 => ?_)
  · have h := k_if c4 h
    exact e_vret C hend hP (congrArg (tw ev ad) (k_some h)) dX2_append_40
  · have h := k_nf c4 h
    refine lv_aload_n hx hb dX2_append_7 rfl (lv_at hl 0 rfl) ?_
    refine r_get C hP (ci := 2) rfl uin_X2 1 (by decide) 0 (by decide) rfl qFL_RX2_15 rfl rfl dX2_append_8 ?_
    refine lv_aload_n hx hb dX2_append_11 rfl (lv_at hl 0 rfl) ?_
    refine r_get C hP (ci := 2) rfl uin_X2 0 (by decide) 0 (by decide) rfl qFL_RX2_9 rfl rfl dX2_append_12 ?_
    refine r_alen C hP 1 (by decide) 3 rfl rfl (v := 250) rfl dX2_append_15 ?_
    refine lv_icmp_ge (tgt := 40) hx hb dX2_append_16 (by decide) (fun c16 => ?_) (fun c16 => ?_)
    · have h := k_if c16 h
      exact e_vret C hend hP (congrArg (tw ev ad) (k_some h)) dX2_append_40
    · have h := k_nf c16 h
      refine lv_aload_n hx hb dX2_append_19 rfl (lv_at hl 0 rfl) ?_
      refine r_get C hP (ci := 2) rfl uin_X2 0 (by decide) 0 (by decide) rfl qFL_RX2_9 rfl rfl dX2_append_20 ?_
      refine lv_aload_n hx hb dX2_append_23 rfl (lv_at hl 0 rfl) ?_
      refine r_get C hP (ci := 2) rfl uin_X2 1 (by decide) 0 (by decide) rfl qFL_RX2_15 rfl rfl dX2_append_24 ?_
      refine lv_iload_n hx hb dX2_append_27 rfl (lv_at hl 1 rfl) ?_
      refine lv_i2c hx hb dX2_append_28 rfl ?_
      obtain ⟨hg, h⟩ := k_gd h
      obtain ⟨σ1, eσ1, h⟩ := k_ltx h
      refine st_T_bytes C hP hap hAA eσ1 hg dX2_append_29 (fun H locs hP => ?_)
      refine lv_aload_n hx hb dX2_append_30 rfl (lv_at hl 0 rfl) ?_
      refine lv_dup hx hb dX2_append_31 rfl ?_
      refine r_get C hP (ci := 2) rfl uin_X2 1 (by decide) 0 (by decide) rfl qFL_RX2_15 rfl rfl dX2_append_32 ?_
      refine lv_iconst (v := 1) hx hb dX2_append_35 (by decide) ?_
      refine lv_iadd hx hb dX2_append_36 ?_
      obtain ⟨σ2, eσ2, h⟩ := k_ltx h
      refine pt_T_X2_length C hP hap hAA eσ2 qFL_RX2_15 dX2_append_37 (fun H locs hP => ?_)
      exact e_vret C hend hP (congrArg (tw ev ad) (k_some h)) dX2_append_40
def f_X2_rewind (σ : TT) : Option TT :=
  lt (t_from' σ 0) (fun σ1 => lt (t_upto' σ1 0) (fun σ2 => some σ2))
set_option maxHeartbeats 4000000 in
set_option maxRecDepth 100000 in
theorem c_X2_rewind (l : Launch) (ev : EV) (ad : Nat → Nat) (σ : TT)    (σ' : TT) (h : f_X2_rewind σ = some σ') : Ct l yX2_rewind prog_4_method_3_code 1 (Option.none : Option Jvm.ClassFile.FieldType) (rmk 0 0) ev 2 ad (tw ev ad σ) (tw ev ad σ') [.ref (ad 0)] none := by
  refine Ct.of (by decide +kernel) (Nat.le_of_ble_eq_true rfl) ?_
  intro p e s m args below meth c Qc C hap hP hend ls hl
  have hAA : ∀ j, j < 2 → inA ad 2 (ad j) := fun j hj => ⟨j, hj, rfl⟩
  have hx := C.1
  have hb := C.2.1
  have hl : lv_has ls 1 [(0, .ref (ad 0))] := hl
  have h := (f_X2_rewind.eq_1 _ ).symm.trans h
  refine lv_aload_n hx hb dX2_rewind_0 rfl (lv_at hl 0 rfl) ?_
  refine lv_iconst (v := 0) hx hb dX2_rewind_1 (by decide) ?_
  obtain ⟨σ1, eσ1, h⟩ := k_ltx h
  refine pt_T_X2_from C hP hap hAA eσ1 qFL_RX2_19 dX2_rewind_2 (fun H locs hP => ?_)
  refine lv_aload_n hx hb dX2_rewind_5 rfl (lv_at hl 0 rfl) ?_
  refine lv_iconst (v := 0) hx hb dX2_rewind_6 (by decide) ?_
  obtain ⟨σ2, eσ2, h⟩ := k_ltx h
  refine pt_T_X2_upto C hP hap hAA eσ2 qFL_RX2_22 dX2_rewind_7 (fun H locs hP => ?_)
  exact e_vret C hend hP (congrArg (tw ev ad) (k_some h)) dX2_rewind_10
def f_X2_byteAt (σ : TT) (a1 : Int32) : Option (Int32) :=
  if a1 < 0 then some (-1) else if (t_length σ) ≤ a1 then some (-1) else if 250 ≤ a1 then some (-1) else gd (inb a1 250) (some ((t_bytes σ) (Int32.toNatClampNeg a1)))
set_option maxHeartbeats 4000000 in
set_option maxRecDepth 100000 in
theorem c_X2_byteAt (l : Launch) (ev : EV) (ad : Nat → Nat) (σ : TT) (a1 : Int32)   (r : Int32)  (h : f_X2_byteAt σ a1 = some r) : Ct l yX2_byteAt prog_4_method_4_code 2 (Option.some Jvm.ClassFile.FieldType.int) (rmk 0 0) ev 2 ad (tw ev ad σ) (tw ev ad σ) [.ref (ad 0), .int a1] (some (.int r)) := by
  refine Ct.of (by decide +kernel) (Nat.le_of_ble_eq_true rfl) ?_
  intro p e s m args below meth c Qc C hap hP hend ls hl
  have hAA : ∀ j, j < 2 → inA ad 2 (ad j) := fun j hj => ⟨j, hj, rfl⟩
  have hx := C.1
  have hb := C.2.1
  have hl : lv_has ls 2 [(0, .ref (ad 0)), (1, .int a1)] := hl
  have h := (f_X2_byteAt.eq_1 _ _ ).symm.trans h
  refine lv_iload_n hx hb dX2_byteAt_0 rfl (lv_at hl 1 rfl) ?_
  refine lv_if_lt (tgt := 30) hx hb dX2_byteAt_1 (by decide) (fun c1 => ?_) (fun c1 => ?_)
  · have h := k_if c1 h
    refine lv_iconst (v := (-1)) hx hb dX2_byteAt_30 (by decide) ?_
    exact e_iret C hend hP (k_some h) rfl dX2_byteAt_31
  · have h := k_nf c1 h
    refine lv_iload_n hx hb dX2_byteAt_4 rfl (lv_at hl 1 rfl) ?_
    refine lv_aload_n hx hb dX2_byteAt_5 rfl (lv_at hl 0 rfl) ?_
    refine r_get C hP (ci := 2) rfl uin_X2 1 (by decide) 0 (by decide) rfl qFL_RX2_15 rfl rfl dX2_byteAt_6 ?_
    refine lv_icmp_ge (tgt := 30) hx hb dX2_byteAt_9 (by decide) (fun c9 => ?_) (fun c9 => ?_)
    · have h := k_if c9 h
      refine lv_iconst (v := (-1)) hx hb dX2_byteAt_30 (by decide) ?_
      exact e_iret C hend hP (k_some h) rfl dX2_byteAt_31
    · have h := k_nf c9 h
      refine lv_iload_n hx hb dX2_byteAt_12 rfl (lv_at hl 1 rfl) ?_
      refine lv_aload_n hx hb dX2_byteAt_13 rfl (lv_at hl 0 rfl) ?_
      refine r_get C hP (ci := 2) rfl uin_X2 0 (by decide) 0 (by decide) rfl qFL_RX2_9 rfl rfl dX2_byteAt_14 ?_
      refine r_alen C hP 1 (by decide) 3 rfl rfl (v := 250) rfl dX2_byteAt_17 ?_
      refine lv_icmp_ge (tgt := 30) hx hb dX2_byteAt_18 (by decide) (fun c18 => ?_) (fun c18 => ?_)
      · have h := k_if c18 h
        refine lv_iconst (v := (-1)) hx hb dX2_byteAt_30 (by decide) ?_
        exact e_iret C hend hP (k_some h) rfl dX2_byteAt_31
      · have h := k_nf c18 h
        refine lv_aload_n hx hb dX2_byteAt_21 rfl (lv_at hl 0 rfl) ?_
        refine r_get C hP (ci := 2) rfl uin_X2 0 (by decide) 0 (by decide) rfl qFL_RX2_9 rfl rfl dX2_byteAt_22 ?_
        refine lv_iload_n hx hb dX2_byteAt_25 rfl (lv_at hl 1 rfl) ?_
        obtain ⟨hg, h⟩ := k_gd h
        refine r_cald C hP 1 (by decide) rfl hg dX2_byteAt_26 ?_
        refine lv_goto (tgt := 31) hx hb dX2_byteAt_27 (by decide) ?_
        exact e_iret C hend hP (k_some h) rfl dX2_byteAt_31
def f_X2_sortAt (σ : TT) (a1 : Int32) : Option (Int32) :=
  ob (f_X2_byteAt σ a1) (fun x1 => if x1 < 97 then if x1 < 48 then some (-1) else if 57 < x1 then some (-1) else some 2 else if 122 < x1 then if x1 < 48 then some (-1) else if 57 < x1 then some (-1) else some 2 else some 1)
set_option maxHeartbeats 4000000 in
set_option maxRecDepth 100000 in
theorem c_X2_sortAt (l : Launch) (ev : EV) (ad : Nat → Nat) (σ : TT) (a1 : Int32)   (r : Int32)  (h : f_X2_sortAt σ a1 = some r) : Ct l yX2_sortAt prog_4_method_5_code 3 (Option.some Jvm.ClassFile.FieldType.int) (rmk 1 21) ev 2 ad (tw ev ad σ) (tw ev ad σ) [.ref (ad 0), .int a1] (some (.int r)) := by
  refine Ct.of (by decide +kernel) (Nat.le_of_ble_eq_true rfl) ?_
  intro p e s m args below meth c Qc C hap hP hend ls hl
  have hAA : ∀ j, j < 2 → inA ad 2 (ad j) := fun j hj => ⟨j, hj, rfl⟩
  have hx := C.1
  have hb := C.2.1
  have hl : lv_has ls 3 [(0, .ref (ad 0)), (1, .int a1)] := hl
  have h := (f_X2_sortAt.eq_1 _ _ ).symm.trans h
  refine lv_aload_n hx hb dX2_sortAt_0 rfl (lv_at hl 0 rfl) ?_
  refine lv_iload_n hx hb dX2_sortAt_1 rfl (lv_at hl 1 rfl) ?_
  obtain ⟨x1, h1, h⟩ := k_ob h
  refine k_callVi C hP hap hAA (c_X2_byteAt l ev ad σ a1   _ h1) Emb.same hap gz_X2_byteAt qML_RX2_25 qIM_yX2_byteAt qSE_yX2_byteAt ⟨(Nat.le_of_ble_eq_true rfl), (Nat.le_of_ble_eq_true rfl)⟩ (q0 := 0) rfl (by decide) rfl rfl rfl rfl hl.1 rfl (Nat.le_of_ble_eq_true rfl) dX2_sortAt_2 ⟨Nat.le_refl _, Nat.le_refl _⟩ (fun H locs hP => ?_)
  refine lv_istore_n (lv' := [(2, .int x1), (0, .ref (ad 0)), (1, .int a1)]) hx hb dX2_sortAt_5 rfl hl (by decide) rfl (fun ls hl => ?_)
  refine lv_iload_n hx hb dX2_sortAt_6 rfl (lv_at hl 0 rfl) ?_
  refine lv_bipush (v := 97) hx hb dX2_sortAt_7 (by decide) ?_
  refine lv_icmp_lt (tgt := 20) hx hb dX2_sortAt_9 (by decide) (fun c9 => ?_) (fun c9 => ?_)
  · have h := k_if c9 h
    refine lv_iload_n hx hb dX2_sortAt_20 rfl (lv_at hl 0 rfl) ?_
    refine lv_bipush (v := 48) hx hb dX2_sortAt_21 (by decide) ?_
    refine lv_icmp_lt (tgt := 36) hx hb dX2_sortAt_23 (by decide) (fun c23 => ?_) (fun c23 => ?_)
    · have h := k_if c23 h
      refine lv_iconst (v := (-1)) hx hb dX2_sortAt_36 (by decide) ?_
      exact e_iret C hend hP (k_some h) rfl dX2_sortAt_37
    · have h := k_nf c23 h
      refine lv_iload_n hx hb dX2_sortAt_26 rfl (lv_at hl 0 rfl) ?_
      refine lv_bipush (v := 57) hx hb dX2_sortAt_27 (by decide) ?_
      refine lv_icmp_gt (tgt := 36) hx hb dX2_sortAt_29 (by decide) (fun c29 => ?_) (fun c29 => ?_)
      · have h := k_if c29 h
        refine lv_iconst (v := (-1)) hx hb dX2_sortAt_36 (by decide) ?_
        exact e_iret C hend hP (k_some h) rfl dX2_sortAt_37
      · have h := k_nf c29 h
        refine lv_iconst (v := 2) hx hb dX2_sortAt_32 (by decide) ?_
        refine lv_goto (tgt := 37) hx hb dX2_sortAt_33 (by decide) ?_
        exact e_iret C hend hP (k_some h) rfl dX2_sortAt_37
  · have h := k_nf c9 h
    refine lv_iload_n hx hb dX2_sortAt_12 rfl (lv_at hl 0 rfl) ?_
    refine lv_bipush (v := 122) hx hb dX2_sortAt_13 (by decide) ?_
    refine lv_icmp_gt (tgt := 20) hx hb dX2_sortAt_15 (by decide) (fun c15 => ?_) (fun c15 => ?_)
    · have h := k_if c15 h
      refine lv_iload_n hx hb dX2_sortAt_20 rfl (lv_at hl 0 rfl) ?_
      refine lv_bipush (v := 48) hx hb dX2_sortAt_21 (by decide) ?_
      refine lv_icmp_lt (tgt := 36) hx hb dX2_sortAt_23 (by decide) (fun c23 => ?_) (fun c23 => ?_)
      · have h := k_if c23 h
        refine lv_iconst (v := (-1)) hx hb dX2_sortAt_36 (by decide) ?_
        exact e_iret C hend hP (k_some h) rfl dX2_sortAt_37
      · have h := k_nf c23 h
        refine lv_iload_n hx hb dX2_sortAt_26 rfl (lv_at hl 0 rfl) ?_
        refine lv_bipush (v := 57) hx hb dX2_sortAt_27 (by decide) ?_
        refine lv_icmp_gt (tgt := 36) hx hb dX2_sortAt_29 (by decide) (fun c29 => ?_) (fun c29 => ?_)
        · have h := k_if c29 h
          refine lv_iconst (v := (-1)) hx hb dX2_sortAt_36 (by decide) ?_
          exact e_iret C hend hP (k_some h) rfl dX2_sortAt_37
        · have h := k_nf c29 h
          refine lv_iconst (v := 2) hx hb dX2_sortAt_32 (by decide) ?_
          refine lv_goto (tgt := 37) hx hb dX2_sortAt_33 (by decide) ?_
          exact e_iret C hend hP (k_some h) rfl dX2_sortAt_37
    · have h := k_nf c15 h
      refine lv_iconst (v := 1) hx hb dX2_sortAt_18 (by decide) ?_
      exact e_iret C hend hP (k_some h) rfl dX2_sortAt_19
def f_X2_step_L8_b  (k45 : TT → Option TT) (rec8 : TT → Option TT) (σ2 : TT) : Option TT :=
  if (t_length σ2) ≤ (t_from σ2) then k45 σ2 else ob (f_X2_byteAt σ2 (t_from σ2)) (fun x3 => if x3 = 32 then lt (t_from' σ2 ((t_from σ2) + 1)) (fun σ4 => rec8 σ4) else k45 σ2)
def f_X2_step_L8  (k45 : TT → Option TT) (σ2 : TT) : Option TT :=
  lp (fun _ => none) (f_X2_step_L8_b  k45) FU σ2
def f_X2_step_L71_b (x7 : Int32)  (rec71 : TT → Option TT) (σ9 : TT) : Option TT :=
  if (t_length σ9) ≤ (t_upto σ9) then some σ9 else if x7 = (-1) then some σ9 else ob (f_X2_sortAt σ9 (t_upto σ9)) (fun x10 => if x10 = x7 then lt (t_upto' σ9 ((t_upto σ9) + 1)) (fun σ11 => rec71 σ11) else some σ9)
def f_X2_step_L71 (x7 : Int32)  (σ9 : TT) : Option TT :=
  lp (fun _ => none) (f_X2_step_L71_b x7 ) FU σ9
def f_X2_step_b45  (σ6 : TT) : Option TT :=
  ob (f_X2_sortAt σ6 (t_from σ6)) (fun x7 => lt (t_upto' σ6 (imin ((t_from σ6) + 1) (t_length σ6))) (fun σ8 => f_X2_step_L71 x7 σ8))
def f_X2_step (σ : TT) : Option TT :=
  lt (t_from' σ (t_upto σ)) (fun σ1 => f_X2_step_L8 (fun σ5 => f_X2_step_b45 σ5) σ1)
set_option maxHeartbeats 4000000 in
set_option maxRecDepth 100000 in
theorem c_X2_step (l : Launch) (ev : EV) (ad : Nat → Nat) (σ : TT)    (σ' : TT) (h : f_X2_step σ = some σ') : Ct l yX2_step prog_4_method_6_code 2 (Option.none : Option Jvm.ClassFile.FieldType) (rmk 2 43) ev 2 ad (tw ev ad σ) (tw ev ad σ') [.ref (ad 0)] none := by
  refine Ct.of (by decide +kernel) (Nat.le_of_ble_eq_true rfl) ?_
  intro p e s m args below meth c Qc C hap hP hend ls hl
  have hAA : ∀ j, j < 2 → inA ad 2 (ad j) := fun j hj => ⟨j, hj, rfl⟩
  have hx := C.1
  have hb := C.2.1
  have hl : lv_has ls 2 [(0, .ref (ad 0))] := hl
  have h := (f_X2_step.eq_1 _ ).symm.trans h
  have hB45 : ∀ (σ6 : TT) (H : Heap) (locs : List Loc) (ls : Array Slot), f_X2_step_b45  σ6 = some σ' → PS ev 2 ad (tw ev ad σ6) (inA ad 2) s H locs → lv_has ls 2 [(0, .ref (ad 0))] → WW ev p l e (rmk 2 43) s m args below meth c Qc ad 2 H locs 45 ls [] := by
    intro σ6 H locs ls h hP hl
    have h := (f_X2_step_b45.eq_1 _ ).symm.trans h
    refine lv_aload_n hx hb dX2_step_45 rfl (lv_at hl 0 rfl) ?_
    refine lv_aload_n hx hb dX2_step_46 rfl (lv_at hl 0 rfl) ?_
    refine r_get C hP (ci := 2) rfl uin_X2 2 (by decide) 0 (by decide) rfl qFL_RX2_19 rfl rfl dX2_step_47 ?_
    obtain ⟨x7, h1, h⟩ := k_ob h
    refine k_callVi C hP hap hAA (c_X2_sortAt l ev ad σ6 (t_from σ6)   _ h1) Emb.same hap gz_X2_sortAt qML_RX2_29 qIM_yX2_sortAt qSE_yX2_sortAt ⟨(Nat.le_of_ble_eq_true rfl), (Nat.le_of_ble_eq_true rfl)⟩ (q0 := 0) rfl (by decide) rfl rfl rfl rfl hl.1 rfl (Nat.le_of_ble_eq_true rfl) dX2_step_50 ⟨Nat.le_refl _, Nat.le_refl _⟩ (fun H locs hP => ?_)
    refine lv_istore_n (lv' := [(1, .int x7), (0, .ref (ad 0))]) hx hb dX2_step_53 rfl hl (by decide) rfl (fun ls hl => ?_)
    refine lv_aload_n hx hb dX2_step_54 rfl (lv_at hl 1 rfl) ?_
    refine lv_aload_n hx hb dX2_step_55 rfl (lv_at hl 1 rfl) ?_
    refine r_get C hP (ci := 2) rfl uin_X2 2 (by decide) 0 (by decide) rfl qFL_RX2_19 rfl rfl dX2_step_56 ?_
    refine lv_iconst (v := 1) hx hb dX2_step_59 (by decide) ?_
    refine lv_iadd hx hb dX2_step_60 ?_
    refine lv_aload_n hx hb dX2_step_61 rfl (lv_at hl 1 rfl) ?_
    refine r_get C hP (ci := 2) rfl uin_X2 1 (by decide) 0 (by decide) rfl qFL_RX2_15 rfl rfl dX2_step_62 ?_
    refine r_imin C hP qML_RX2_32 qSM_yJ9_min_7cf53 qIN_RJ9 qCO_yJ9_min_7cf53 hl.1 ⟨(Nat.le_of_ble_eq_true rfl), (Nat.le_of_ble_eq_true rfl)⟩ (by exact (Nat.le_of_ble_eq_true rfl)) dX2_step_65 ⟨Nat.le_refl _, Nat.le_refl _⟩ ?_
    obtain ⟨σ8, eσ8, h⟩ := k_ltx h
    refine pt_T_X2_upto C hP hap hAA eσ8 qFL_RX2_22 dX2_step_68 (fun H locs hP => ?_)
    have hL71 : ∀ (n : Nat) (σ9 : TT) (H : Heap) (locs : List Loc) (ls : Array Slot), lp (fun _ => none) (f_X2_step_L71_b x7 ) n σ9 = some σ' → PS ev 2 ad (tw ev ad σ9) (inA ad 2) s H locs → lv_has ls 2 [(0, .ref (ad 0)), (1, .int x7)] → WW ev p l e (rmk 2 43) s m args below meth c Qc ad 2 H locs 71 ls [] := by
      intro n
      induction n with
      | zero =>
        intro σ9 H locs ls h; exact k_none h
      | succ n ih =>
        intro σ9 H locs ls h hP hl
        have h : f_X2_step_L71_b x7  (lp (fun _ => none) (f_X2_step_L71_b x7 ) n) σ9 = some σ' := h
        have h := (f_X2_step_L71_b.eq_1 _ _ _ ).symm.trans h
        refine lv_aload_n hx hb dX2_step_71 rfl (lv_at hl 0 rfl) ?_
        refine r_get C hP (ci := 2) rfl uin_X2 3 (by decide) 0 (by decide) rfl qFL_RX2_22 rfl rfl dX2_step_72 ?_
        refine lv_aload_n hx hb dX2_step_75 rfl (lv_at hl 0 rfl) ?_
        refine r_get C hP (ci := 2) rfl uin_X2 1 (by decide) 0 (by decide) rfl qFL_RX2_15 rfl rfl dX2_step_76 ?_
        refine lv_icmp_ge (tgt := 112) hx hb dX2_step_79 (by decide) (fun c79 => ?_) (fun c79 => ?_)
        · have h := k_if c79 h
          exact e_vret C hend hP (congrArg (tw ev ad) (k_some h)) dX2_step_112
        · have h := k_nf c79 h
          refine lv_iload_n hx hb dX2_step_82 rfl (lv_at hl 1 rfl) ?_
          refine lv_iconst (v := (-1)) hx hb dX2_step_83 (by decide) ?_
          refine lv_icmp_eq (tgt := 112) hx hb dX2_step_84 (by decide) (fun c84 => ?_) (fun c84 => ?_)
          · have h := k_if c84 h
            exact e_vret C hend hP (congrArg (tw ev ad) (k_some h)) dX2_step_112
          · have h := k_nf c84 h
            refine lv_aload_n hx hb dX2_step_87 rfl (lv_at hl 0 rfl) ?_
            refine lv_aload_n hx hb dX2_step_88 rfl (lv_at hl 0 rfl) ?_
            refine r_get C hP (ci := 2) rfl uin_X2 3 (by decide) 0 (by decide) rfl qFL_RX2_22 rfl rfl dX2_step_89 ?_
            obtain ⟨x10, h1, h⟩ := k_ob h
            refine k_callVi C hP hap hAA (c_X2_sortAt l ev ad σ9 (t_upto σ9)   _ h1) Emb.same hap gz_X2_sortAt qML_RX2_29 qIM_yX2_sortAt qSE_yX2_sortAt ⟨(Nat.le_of_ble_eq_true rfl), (Nat.le_of_ble_eq_true rfl)⟩ (q0 := 0) rfl (by decide) rfl rfl rfl rfl hl.1 rfl (Nat.le_of_ble_eq_true rfl) dX2_step_92 ⟨Nat.le_refl _, Nat.le_refl _⟩ (fun H locs hP => ?_)
            refine lv_iload_n hx hb dX2_step_95 rfl (lv_at hl 1 rfl) ?_
            refine lv_icmp_ne (tgt := 112) hx hb dX2_step_96 (by decide) (fun c96 => ?_) (fun c96 => ?_)
            · have h := k_nf c96 h
              exact e_vret C hend hP (congrArg (tw ev ad) (k_some h)) dX2_step_112
            · have h := k_if c96 h
              refine lv_aload_n hx hb dX2_step_99 rfl (lv_at hl 0 rfl) ?_
              refine lv_dup hx hb dX2_step_100 rfl ?_
              refine r_get C hP (ci := 2) rfl uin_X2 3 (by decide) 0 (by decide) rfl qFL_RX2_22 rfl rfl dX2_step_101 ?_
              refine lv_iconst (v := 1) hx hb dX2_step_104 (by decide) ?_
              refine lv_iadd hx hb dX2_step_105 ?_
              obtain ⟨σ11, eσ11, h⟩ := k_ltx h
              refine pt_T_X2_upto C hP hap hAA eσ11 qFL_RX2_22 dX2_step_106 (fun H locs hP => ?_)
              refine lv_goto (tgt := 71) hx hb dX2_step_109 (by decide) ?_
              exact ih _ _ _ _ h hP (lv_sub hl [0, 1] rfl)
    exact hL71 FU _ _ _ _ h hP (lv_sub hl [1, 0] rfl)
  refine lv_aload_n hx hb dX2_step_0 rfl (lv_at hl 0 rfl) ?_
  refine lv_aload_n hx hb dX2_step_1 rfl (lv_at hl 0 rfl) ?_
  refine r_get C hP (ci := 2) rfl uin_X2 3 (by decide) 0 (by decide) rfl qFL_RX2_22 rfl rfl dX2_step_2 ?_
  obtain ⟨σ1, eσ1, h⟩ := k_ltx h
  refine pt_T_X2_from C hP hap hAA eσ1 qFL_RX2_19 dX2_step_5 (fun H locs hP => ?_)
  have hL8 : ∀ (k45 : TT → Option TT) (hk45 : ∀  (σk : TT) (H : Heap) (locs : List Loc) (ls : Array Slot), k45  σk = some σ' → PS ev 2 ad (tw ev ad σk) (inA ad 2) s H locs → lv_has ls 2 [(0, .ref (ad 0))] → WW ev p l e (rmk 2 43) s m args below meth c Qc ad 2 H locs 45 ls []) (n : Nat) (σ2 : TT) (H : Heap) (locs : List Loc) (ls : Array Slot), lp (fun _ => none) (f_X2_step_L8_b  k45) n σ2 = some σ' → PS ev 2 ad (tw ev ad σ2) (inA ad 2) s H locs → lv_has ls 2 [(0, .ref (ad 0))] → WW ev p l e (rmk 2 43) s m args below meth c Qc ad 2 H locs 8 ls [] := by
    intro k45 hk45 n
    induction n with
    | zero =>
      intro σ2 H locs ls h; exact k_none h
    | succ n ih =>
      intro σ2 H locs ls h hP hl
      have h : f_X2_step_L8_b  k45 (lp (fun _ => none) (f_X2_step_L8_b  k45) n) σ2 = some σ' := h
      have h := (f_X2_step_L8_b.eq_1 _ _ _ ).symm.trans h
      refine lv_aload_n hx hb dX2_step_8 rfl (lv_at hl 0 rfl) ?_
      refine r_get C hP (ci := 2) rfl uin_X2 2 (by decide) 0 (by decide) rfl qFL_RX2_19 rfl rfl dX2_step_9 ?_
      refine lv_aload_n hx hb dX2_step_12 rfl (lv_at hl 0 rfl) ?_
      refine r_get C hP (ci := 2) rfl uin_X2 1 (by decide) 0 (by decide) rfl qFL_RX2_15 rfl rfl dX2_step_13 ?_
      refine lv_icmp_ge (tgt := 45) hx hb dX2_step_16 (by decide) (fun c16 => ?_) (fun c16 => ?_)
      · have h := k_if c16 h
        exact hk45 _ _ _ _ h hP (lv_sub hl [0] rfl)
      · have h := k_nf c16 h
        refine lv_aload_n hx hb dX2_step_19 rfl (lv_at hl 0 rfl) ?_
        refine lv_aload_n hx hb dX2_step_20 rfl (lv_at hl 0 rfl) ?_
        refine r_get C hP (ci := 2) rfl uin_X2 2 (by decide) 0 (by decide) rfl qFL_RX2_19 rfl rfl dX2_step_21 ?_
        obtain ⟨x3, h1, h⟩ := k_ob h
        refine k_callVi C hP hap hAA (c_X2_byteAt l ev ad σ2 (t_from σ2)   _ h1) Emb.same hap gz_X2_byteAt qML_RX2_25 qIM_yX2_byteAt qSE_yX2_byteAt ⟨(Nat.le_of_ble_eq_true rfl), (Nat.le_of_ble_eq_true rfl)⟩ (q0 := 0) rfl (by decide) rfl rfl rfl rfl hl.1 rfl (Nat.le_of_ble_eq_true rfl) dX2_step_24 ⟨Nat.le_refl _, Nat.le_refl _⟩ (fun H locs hP => ?_)
        refine lv_bipush (v := 32) hx hb dX2_step_27 (by decide) ?_
        refine lv_icmp_ne (tgt := 45) hx hb dX2_step_29 (by decide) (fun c29 => ?_) (fun c29 => ?_)
        · have h := k_nf c29 h
          exact hk45 _ _ _ _ h hP (lv_sub hl [0] rfl)
        · have h := k_if c29 h
          refine lv_aload_n hx hb dX2_step_32 rfl (lv_at hl 0 rfl) ?_
          refine lv_dup hx hb dX2_step_33 rfl ?_
          refine r_get C hP (ci := 2) rfl uin_X2 2 (by decide) 0 (by decide) rfl qFL_RX2_19 rfl rfl dX2_step_34 ?_
          refine lv_iconst (v := 1) hx hb dX2_step_37 (by decide) ?_
          refine lv_iadd hx hb dX2_step_38 ?_
          obtain ⟨σ4, eσ4, h⟩ := k_ltx h
          refine pt_T_X2_from C hP hap hAA eσ4 qFL_RX2_19 dX2_step_39 (fun H locs hP => ?_)
          refine lv_goto (tgt := 8) hx hb dX2_step_42 (by decide) ?_
          exact ih _ _ _ _ h hP (lv_sub hl [0] rfl)
  refine hL8 _ (fun σ5 H locs ls h hP hl => ?_) FU _ _ _ _ h hP (lv_sub hl [0] rfl)
  exact hB45 _ _ _ _ h hP (lv_sub hl [0] rfl)
def f_X2_isAtEnd (σ : TT) : Bool :=
  if (t_from σ) < (t_length σ) then false else true
set_option maxHeartbeats 4000000 in
set_option maxRecDepth 100000 in
theorem c_X2_isAtEnd (l : Launch) (ev : EV) (ad : Nat → Nat) (σ : TT)   (r : Bool)  (h : f_X2_isAtEnd σ = r) : Ct l yX2_isAtEnd prog_4_method_7_code 1 (Option.some Jvm.ClassFile.FieldType.boolean) (rmk 0 0) ev 2 ad (tw ev ad σ) (tw ev ad σ) [.ref (ad 0)] (some (.int (bi r))) := by
  refine Ct.of (by decide +kernel) (Nat.le_of_ble_eq_true rfl) ?_
  intro p e s m args below meth c Qc C hap hP hend ls hl
  have hAA : ∀ j, j < 2 → inA ad 2 (ad j) := fun j hj => ⟨j, hj, rfl⟩
  have hx := C.1
  have hb := C.2.1
  have hl : lv_has ls 1 [(0, .ref (ad 0))] := hl
  have h := (f_X2_isAtEnd.eq_1 _ ).symm.trans h
  refine lv_aload_n hx hb dX2_isAtEnd_0 rfl (lv_at hl 0 rfl) ?_
  refine r_get C hP (ci := 2) rfl uin_X2 2 (by decide) 0 (by decide) rfl qFL_RX2_19 rfl rfl dX2_isAtEnd_1 ?_
  refine lv_aload_n hx hb dX2_isAtEnd_4 rfl (lv_at hl 0 rfl) ?_
  refine r_get C hP (ci := 2) rfl uin_X2 1 (by decide) 0 (by decide) rfl qFL_RX2_15 rfl rfl dX2_isAtEnd_5 ?_
  refine lv_icmp_lt (tgt := 15) hx hb dX2_isAtEnd_8 (by decide) (fun c8 => ?_) (fun c8 => ?_)
  · have h := k_if c8 h
    refine lv_iconst (v := 0) hx hb dX2_isAtEnd_15 (by decide) ?_
    exact e_zret C hend hP h rfl dX2_isAtEnd_16 rfl
  · have h := k_nf c8 h
    refine lv_iconst (v := 1) hx hb dX2_isAtEnd_11 (by decide) ?_
    refine lv_goto (tgt := 16) hx hb dX2_isAtEnd_12 (by decide) ?_
    exact e_zret C hend hP h rfl dX2_isAtEnd_16 rfl
def f_X2_isSign (σ : TT) : Option (Bool) :=
  ob (f_X2_byteAt σ (t_from σ)) (fun x1 => if x1 = 59 then some true else some false)
set_option maxHeartbeats 4000000 in
set_option maxRecDepth 100000 in
theorem c_X2_isSign (l : Launch) (ev : EV) (ad : Nat → Nat) (σ : TT)   (r : Bool)  (h : f_X2_isSign σ = some r) : Ct l yX2_isSign prog_4_method_8_code 1 (Option.some Jvm.ClassFile.FieldType.boolean) (rmk 1 21) ev 2 ad (tw ev ad σ) (tw ev ad σ) [.ref (ad 0)] (some (.int (bi r))) := by
  refine Ct.of (by decide +kernel) (Nat.le_of_ble_eq_true rfl) ?_
  intro p e s m args below meth c Qc C hap hP hend ls hl
  have hAA : ∀ j, j < 2 → inA ad 2 (ad j) := fun j hj => ⟨j, hj, rfl⟩
  have hx := C.1
  have hb := C.2.1
  have hl : lv_has ls 1 [(0, .ref (ad 0))] := hl
  have h := (f_X2_isSign.eq_1 _ ).symm.trans h
  refine lv_aload_n hx hb dX2_isSign_0 rfl (lv_at hl 0 rfl) ?_
  refine lv_aload_n hx hb dX2_isSign_1 rfl (lv_at hl 0 rfl) ?_
  refine r_get C hP (ci := 2) rfl uin_X2 2 (by decide) 0 (by decide) rfl qFL_RX2_19 rfl rfl dX2_isSign_2 ?_
  obtain ⟨x1, h1, h⟩ := k_ob h
  refine k_callVi C hP hap hAA (c_X2_byteAt l ev ad σ (t_from σ)   _ h1) Emb.same hap gz_X2_byteAt qML_RX2_25 qIM_yX2_byteAt qSE_yX2_byteAt ⟨(Nat.le_of_ble_eq_true rfl), (Nat.le_of_ble_eq_true rfl)⟩ (q0 := 0) rfl (by decide) rfl rfl rfl rfl hl.1 rfl (Nat.le_of_ble_eq_true rfl) dX2_isSign_5 ⟨Nat.le_refl _, Nat.le_refl _⟩ (fun H locs hP => ?_)
  refine lv_bipush (v := 59) hx hb dX2_isSign_8 (by decide) ?_
  refine lv_icmp_ne (tgt := 17) hx hb dX2_isSign_10 (by decide) (fun c10 => ?_) (fun c10 => ?_)
  · have h := k_nf c10 h
    refine lv_iconst (v := 0) hx hb dX2_isSign_17 (by decide) ?_
    exact e_zret C hend hP (k_some h) rfl dX2_isSign_18 rfl
  · have h := k_if c10 h
    refine lv_iconst (v := 1) hx hb dX2_isSign_13 (by decide) ?_
    refine lv_goto (tgt := 18) hx hb dX2_isSign_14 (by decide) ?_
    exact e_zret C hend hP (k_some h) rfl dX2_isSign_18 rfl
def f_X2_isWord_w0_L24_b (σ : TT)  (rec24 : Bool → Int32 → Option (Bool)) (b2 : Bool) (x3 : Int32) : Option (Bool) :=
  if 4 ≤ x3 then some b2 else if b2 = true then ob (f_X2_byteAt σ ((t_from σ) + x3)) (fun x4 => gd (inb x3 4) (if x4 = (sch 0 x3) then lt (x3 + 1) (fun x6 => rec24 true x6) else lt (x3 + 1) (fun x5 => rec24 false x5))) else some b2
def f_X2_isWord_w0_L24 (σ : TT)  (b2 : Bool) (x3 : Int32) : Option (Bool) :=
  lp (fun _ _ => none) (f_X2_isWord_w0_L24_b σ ) FU b2 x3
def f_X2_isWord_w0_b21 (σ : TT) (b1 : Bool) : Option (Bool) :=
  f_X2_isWord_w0_L24 σ b1 0
def f_X2_isWord_w0 (σ : TT) : Option (Bool) :=
  if ((t_upto σ) - (t_from σ)) = 4 then f_X2_isWord_w0_b21 σ true else f_X2_isWord_w0_b21 σ false
set_option maxHeartbeats 4000000 in
set_option maxRecDepth 100000 in
theorem c_X2_isWord_w0 (l : Launch) (ev : EV) (ad : Nat → Nat) (σ : TT)   (r : Bool)  (h : f_X2_isWord_w0 σ = some r) : Ct l yX2_isWord prog_4_method_9_code 4 (Option.some Jvm.ClassFile.FieldType.boolean) (rmk 8 300) ev 2 ad (tw ev ad σ) (tw ev ad σ) [.ref (ad 0), .ref (ev.2.2.2.1 0)] (some (.int (bi r))) := by
  refine Ct.of (by decide +kernel) (Nat.le_of_ble_eq_true rfl) ?_
  intro p e s m args below meth c Qc C hap hP hend ls hl
  have hAA : ∀ j, j < 2 → inA ad 2 (ad j) := fun j hj => ⟨j, hj, rfl⟩
  have hx := C.1
  have hb := C.2.1
  have hl : lv_has ls 4 [(0, .ref (ad 0)), (1, .ref (ev.2.2.2.1 0))] := hl
  have h := (f_X2_isWord_w0.eq_1 _ ).symm.trans h
  have hB21 : ∀ (b1 : Bool) (H : Heap) (locs : List Loc) (ls : Array Slot), f_X2_isWord_w0_b21 σ b1 = some r → PS ev 2 ad (tw ev ad σ) (inA ad 2) s H locs → lv_has ls 4 [(0, .ref (ad 0)), (1, .ref (ev.2.2.2.1 0))] → WW ev p l e (rmk 8 300) s m args below meth c Qc ad 2 H locs 21 ls [.int (bi b1)] := by
    intro b1 H locs ls h hP hl
    have h := (f_X2_isWord_w0_b21.eq_1 _ _ ).symm.trans h
    refine lv_istore_n (lv' := [(2, .int (bi b1)), (0, .ref (ad 0)), (1, .ref (ev.2.2.2.1 0))]) hx hb dX2_isWord_21 rfl hl (by decide) rfl (fun ls hl => ?_)
    refine lv_iconst (v := 0) hx hb dX2_isWord_22 (by decide) ?_
    refine lv_istore_n (lv' := [(3, .int 0), (2, .int (bi b1)), (0, .ref (ad 0)), (1, .ref (ev.2.2.2.1 0))]) hx hb dX2_isWord_23 rfl hl (by decide) rfl (fun ls hl => ?_)
    have hL24 : ∀ (n : Nat) (b2 : Bool) (x3 : Int32) (H : Heap) (locs : List Loc) (ls : Array Slot), lp (fun _ _ => none) (f_X2_isWord_w0_L24_b σ ) n b2 x3 = some r → PS ev 2 ad (tw ev ad σ) (inA ad 2) s H locs → lv_has ls 4 [(0, .ref (ad 0)), (1, .ref (ev.2.2.2.1 0)), (2, .int (bi b2)), (3, .int x3)] → WW ev p l e (rmk 8 300) s m args below meth c Qc ad 2 H locs 24 ls [] := by
      intro n
      induction n with
      | zero =>
        intro b2 x3 H locs ls h; exact k_none h
      | succ n ih =>
        intro b2 x3 H locs ls h hP hl
        have h : f_X2_isWord_w0_L24_b σ  (lp (fun _ _ => none) (f_X2_isWord_w0_L24_b σ ) n) b2 x3 = some r := h
        have h := (f_X2_isWord_w0_L24_b.eq_1 _ _ _ _ ).symm.trans h
        refine lv_iload_n hx hb dX2_isWord_24 rfl (lv_at hl 3 rfl) ?_
        refine lv_aload_n hx hb dX2_isWord_25 rfl (lv_at hl 1 rfl) ?_
        refine r_slen C hP hap hAA 0 (by decide) qML_RX2_38 ⟨(Nat.le_of_ble_eq_true rfl), (Nat.le_of_ble_eq_true rfl)⟩ hl.1 (by exact (Nat.le_of_ble_eq_true rfl)) dX2_isWord_26 ⟨Nat.le_refl _, Nat.le_refl _⟩ (v := 4) rfl (fun H locs hP => ?_)
        refine lv_icmp_ge (tgt := 66) hx hb dX2_isWord_29 (by decide) (fun c29 => ?_) (fun c29 => ?_)
        · have h := k_if c29 h
          refine lv_iload_n hx hb dX2_isWord_66 rfl (lv_at hl 2 rfl) ?_
          exact e_zret C hend hP (k_some h) rfl dX2_isWord_67 rfl
        · have h := k_nf c29 h
          refine lv_iload_n hx hb dX2_isWord_32 rfl (lv_at hl 2 rfl) ?_
          refine r_ifz_eq (tgt := 66) hx hb dX2_isWord_33 (by decide) (fun c33 => ?_) (fun c33 => ?_)
          · have h := k_nf c33 h
            refine lv_iload_n hx hb dX2_isWord_66 rfl (lv_at hl 2 rfl) ?_
            exact e_zret C hend hP (k_some h) rfl dX2_isWord_67 rfl
          · have h := k_if c33 h
            refine lv_aload_n hx hb dX2_isWord_36 rfl (lv_at hl 0 rfl) ?_
            refine lv_aload_n hx hb dX2_isWord_37 rfl (lv_at hl 0 rfl) ?_
            refine r_get C hP (ci := 2) rfl uin_X2 2 (by decide) 0 (by decide) rfl qFL_RX2_19 rfl rfl dX2_isWord_38 ?_
            refine lv_iload_n hx hb dX2_isWord_41 rfl (lv_at hl 3 rfl) ?_
            refine lv_iadd hx hb dX2_isWord_42 ?_
            obtain ⟨x4, h1, h⟩ := k_ob h
            refine k_callVi C hP hap hAA (c_X2_byteAt l ev ad σ ((t_from σ) + x3)   _ h1) Emb.same hap gz_X2_byteAt qML_RX2_25 qIM_yX2_byteAt qSE_yX2_byteAt ⟨(Nat.le_of_ble_eq_true rfl), (Nat.le_of_ble_eq_true rfl)⟩ (q0 := 0) rfl (by decide) rfl rfl rfl rfl hl.1 rfl (Nat.le_of_ble_eq_true rfl) dX2_isWord_43 ⟨Nat.le_refl _, Nat.le_refl _⟩ (fun H locs hP => ?_)
            refine lv_aload_n hx hb dX2_isWord_46 rfl (lv_at hl 1 rfl) ?_
            refine lv_iload_n hx hb dX2_isWord_47 rfl (lv_at hl 3 rfl) ?_
            obtain ⟨hg, h⟩ := k_gd h
            refine r_schar C hP hap hAA 0 (by decide) hg qML_RX2_43 ⟨(Nat.le_of_ble_eq_true rfl), (Nat.le_of_ble_eq_true rfl)⟩ hl.1 (by exact (Nat.le_of_ble_eq_true rfl)) dX2_isWord_48 ⟨Nat.le_refl _, Nat.le_refl _⟩ rfl (fun H locs hP => ?_)
            refine lv_icmp_ne (tgt := 58) hx hb dX2_isWord_51 (by decide) (fun c51 => ?_) (fun c51 => ?_)
            · have h := k_nf c51 h
              refine lv_iconst (v := 0) hx hb dX2_isWord_58 (by decide) ?_
              refine lv_istore_n (lv' := [(2, .int (bi false)), (0, .ref (ad 0)), (1, .ref (ev.2.2.2.1 0)), (3, .int x3)]) hx hb dX2_isWord_59 rfl hl (by decide) rfl (fun ls hl => ?_)
              obtain ⟨x5, ex5, h⟩ := k_ltx h
              refine lv_iinc (v := x5) (lv' := [(3, .int x5), (2, .int (bi false)), (0, .ref (ad 0)), (1, .ref (ev.2.2.2.1 0))]) hx hb dX2_isWord_60 hl (k := 3) rfl (by rw [ex5]; rfl) (by decide) rfl (fun ls hl => ?_)
              refine lv_goto (tgt := 24) hx hb dX2_isWord_63 (by decide) ?_
              exact ih _ _ _ _ _ h hP (lv_sub hl [2, 3, 1, 0] rfl)
            · have h := k_if c51 h
              refine lv_iconst (v := 1) hx hb dX2_isWord_54 (by decide) ?_
              refine lv_goto (tgt := 59) hx hb dX2_isWord_55 (by decide) ?_
              refine lv_istore_n (lv' := [(2, .int (bi true)), (0, .ref (ad 0)), (1, .ref (ev.2.2.2.1 0)), (3, .int x3)]) hx hb dX2_isWord_59 rfl hl (by decide) rfl (fun ls hl => ?_)
              obtain ⟨x6, ex6, h⟩ := k_ltx h
              refine lv_iinc (v := x6) (lv' := [(3, .int x6), (2, .int (bi true)), (0, .ref (ad 0)), (1, .ref (ev.2.2.2.1 0))]) hx hb dX2_isWord_60 hl (k := 3) rfl (by rw [ex6]; rfl) (by decide) rfl (fun ls hl => ?_)
              refine lv_goto (tgt := 24) hx hb dX2_isWord_63 (by decide) ?_
              exact ih _ _ _ _ _ h hP (lv_sub hl [2, 3, 1, 0] rfl)
    exact hL24 FU _ _ _ _ _ h hP (lv_sub hl [2, 3, 1, 0] rfl)
  refine lv_aload_n hx hb dX2_isWord_0 rfl (lv_at hl 0 rfl) ?_
  refine r_get C hP (ci := 2) rfl uin_X2 3 (by decide) 0 (by decide) rfl qFL_RX2_22 rfl rfl dX2_isWord_1 ?_
  refine lv_aload_n hx hb dX2_isWord_4 rfl (lv_at hl 0 rfl) ?_
  refine r_get C hP (ci := 2) rfl uin_X2 2 (by decide) 0 (by decide) rfl qFL_RX2_19 rfl rfl dX2_isWord_5 ?_
  refine lv_isub hx hb dX2_isWord_8 ?_
  refine lv_aload_n hx hb dX2_isWord_9 rfl (lv_at hl 1 rfl) ?_
  refine r_slen C hP hap hAA 0 (by decide) qML_RX2_38 ⟨(Nat.le_of_ble_eq_true rfl), (Nat.le_of_ble_eq_true rfl)⟩ hl.1 (by exact (Nat.le_of_ble_eq_true rfl)) dX2_isWord_10 ⟨Nat.le_refl _, Nat.le_refl _⟩ (v := 4) rfl (fun H locs hP => ?_)
  refine lv_icmp_ne (tgt := 20) hx hb dX2_isWord_13 (by decide) (fun c13 => ?_) (fun c13 => ?_)
  · have h := k_nf c13 h
    refine lv_iconst (v := 0) hx hb dX2_isWord_20 (by decide) ?_
    exact hB21 _ _ _ _ h hP (lv_sub hl [0, 1] rfl)
  · have h := k_if c13 h
    refine lv_iconst (v := 1) hx hb dX2_isWord_16 (by decide) ?_
    refine lv_goto (tgt := 21) hx hb dX2_isWord_17 (by decide) ?_
    exact hB21 _ _ _ _ h hP (lv_sub hl [0, 1] rfl)
