/-! functions read off, and their contracts: by program (wip/whole/gen2.py) -/
def f_X1_empty (σ : SS) : Option SS :=
  lt (s_content' σ (-1)) (fun σ1 => lt (s_length' σ1 0) (fun σ2 => some σ2))
set_option maxHeartbeats 4000000 in
set_option maxRecDepth 100000 in
theorem c_X1_empty (l : Launch) (ev : EV) (ad : Nat → Nat) (σ : SS)    (σ' : SS) (h : f_X1_empty σ = some σ') : Ct l yX1_empty prog_3_method_4_code 1 (Option.none : Option Jvm.ClassFile.FieldType) (rmk 0 0) ev 2 ad (sw ev ad σ) (sw ev ad σ') [.ref (ad 0)] none := by
  refine Ct.of (by decide +kernel) (Nat.le_of_ble_eq_true rfl) ?_
  intro p e s m args below meth c Qc C hap hP hend ls hl
  have hAA : ∀ j, j < 2 → inA ad 2 (ad j) := fun j hj => ⟨j, hj, rfl⟩
  have hx := C.1
  have hb := C.2.1
  have hl : lv_has ls 1 [(0, .ref (ad 0))] := hl
  have h := (f_X1_empty.eq_1 _ ).symm.trans h
  refine lv_aload_n hx hb dX1_empty_0 rfl (lv_at hl 0 rfl) ?_
  refine lv_iconst (v := (-1)) hx hb dX1_empty_1 (by decide) ?_
  obtain ⟨σ1, eσ1, h⟩ := k_ltx h
  refine pt_S_X1_content C hP hap hAA eσ1 qFL_RX1_9 dX1_empty_2 (fun H locs hP => ?_)
  refine lv_aload_n hx hb dX1_empty_5 rfl (lv_at hl 0 rfl) ?_
  refine lv_iconst (v := 0) hx hb dX1_empty_6 (by decide) ?_
  obtain ⟨σ2, eσ2, h⟩ := k_ltx h
  refine pt_S_X1_length C hP hap hAA eσ2 qFL_RX1_15 dX1_empty_7 (fun H locs hP => ?_)
  exact e_vret C hend hP (congrArg (sw ev ad) (k_some h)) dX1_empty_10
def f_X1_bear (σ : SS) (a1 : Int32) : Option SS :=
  lt (s_content' σ (10 + a1)) (fun σ1 => lt (s_length' σ1 0) (fun σ2 => some σ2))
set_option maxHeartbeats 4000000 in
set_option maxRecDepth 100000 in
theorem c_X1_bear (l : Launch) (ev : EV) (ad : Nat → Nat) (σ : SS) (a1 : Int32)    (σ' : SS) (h : f_X1_bear σ a1 = some σ') : Ct l yX1_bear prog_3_method_5_code 2 (Option.none : Option Jvm.ClassFile.FieldType) (rmk 0 0) ev 2 ad (sw ev ad σ) (sw ev ad σ') [.ref (ad 0), .int a1] none := by
  refine Ct.of (by decide +kernel) (Nat.le_of_ble_eq_true rfl) ?_
  intro p e s m args below meth c Qc C hap hP hend ls hl
  have hAA : ∀ j, j < 2 → inA ad 2 (ad j) := fun j hj => ⟨j, hj, rfl⟩
  have hx := C.1
  have hb := C.2.1
  have hl : lv_has ls 2 [(0, .ref (ad 0)), (1, .int a1)] := hl
  have h := (f_X1_bear.eq_1 _ _ ).symm.trans h
  refine lv_aload_n hx hb dX1_bear_0 rfl (lv_at hl 0 rfl) ?_
  refine lv_bipush (v := 10) hx hb dX1_bear_1 (by decide) ?_
  refine lv_iload_n hx hb dX1_bear_3 rfl (lv_at hl 1 rfl) ?_
  refine lv_iadd hx hb dX1_bear_4 ?_
  obtain ⟨σ1, eσ1, h⟩ := k_ltx h
  refine pt_S_X1_content C hP hap hAA eσ1 qFL_RX1_9 dX1_bear_5 (fun H locs hP => ?_)
  refine lv_aload_n hx hb dX1_bear_8 rfl (lv_at hl 0 rfl) ?_
  refine lv_iconst (v := 0) hx hb dX1_bear_9 (by decide) ?_
  obtain ⟨σ2, eσ2, h⟩ := k_ltx h
  refine pt_S_X1_length C hP hap hAA eσ2 qFL_RX1_15 dX1_bear_10 (fun H locs hP => ?_)
  exact e_vret C hend hP (congrArg (sw ev ad) (k_some h)) dX1_bear_13
def f_X1_layRow_L12_b   (rec12 : Int32 → SS → Option SS) (x3 : Int32) (σ4 : SS) : Option SS :=
  if 40 ≤ x3 then some σ4 else gd (inb x3 40) (lt (s_elements' σ4 (vp_updL (s_elements σ4) (Int32.toNatClampNeg x3) 0)) (fun σ5 => lt (x3 + 1) (fun x6 => rec12 x6 σ5)))
def f_X1_layRow_L12   (x3 : Int32) (σ4 : SS) : Option SS :=
  lp (fun _ _ => none) (f_X1_layRow_L12_b  ) FU x3 σ4
def f_X1_layRow (σ : SS) (a1 : Int32) (a2 : Int32) : Option SS :=
  lt (s_content' σ a1) (fun σ1 => lt (s_length' σ1 a2) (fun σ2 => f_X1_layRow_L12 0 σ2))
set_option maxHeartbeats 4000000 in
set_option maxRecDepth 100000 in
theorem c_X1_layRow (l : Launch) (ev : EV) (ad : Nat → Nat) (σ : SS) (a1 : Int32) (a2 : Int32)    (σ' : SS) (h : f_X1_layRow σ a1 a2 = some σ') : Ct l yX1_layRow prog_3_method_6_code 4 (Option.none : Option Jvm.ClassFile.FieldType) (rmk 0 0) ev 2 ad (sw ev ad σ) (sw ev ad σ') [.ref (ad 0), .int a1, .int a2] none := by
  refine Ct.of (by decide +kernel) (Nat.le_of_ble_eq_true rfl) ?_
  intro p e s m args below meth c Qc C hap hP hend ls hl
  have hAA : ∀ j, j < 2 → inA ad 2 (ad j) := fun j hj => ⟨j, hj, rfl⟩
  have hx := C.1
  have hb := C.2.1
  have hl : lv_has ls 4 [(0, .ref (ad 0)), (1, .int a1), (2, .int a2)] := hl
  have h := (f_X1_layRow.eq_1 _ _ _ ).symm.trans h
  refine lv_aload_n hx hb dX1_layRow_0 rfl (lv_at hl 0 rfl) ?_
  refine lv_iload_n hx hb dX1_layRow_1 rfl (lv_at hl 1 rfl) ?_
  obtain ⟨σ1, eσ1, h⟩ := k_ltx h
  refine pt_S_X1_content C hP hap hAA eσ1 qFL_RX1_9 dX1_layRow_2 (fun H locs hP => ?_)
  refine lv_aload_n hx hb dX1_layRow_5 rfl (lv_at hl 0 rfl) ?_
  refine lv_iload_n hx hb dX1_layRow_6 rfl (lv_at hl 2 rfl) ?_
  obtain ⟨σ2, eσ2, h⟩ := k_ltx h
  refine pt_S_X1_length C hP hap hAA eσ2 qFL_RX1_15 dX1_layRow_7 (fun H locs hP => ?_)
  refine lv_iconst (v := 0) hx hb dX1_layRow_10 (by decide) ?_
  refine lv_istore_n (lv' := [(3, .int 0), (0, .ref (ad 0)), (1, .int a1), (2, .int a2)]) hx hb dX1_layRow_11 rfl hl (by decide) rfl (fun ls hl => ?_)
  have hL12 : ∀ (n : Nat) (x3 : Int32) (σ4 : SS) (H : Heap) (locs : List Loc) (ls : Array Slot), lp (fun _ _ => none) (f_X1_layRow_L12_b  ) n x3 σ4 = some σ' → PS ev 2 ad (sw ev ad σ4) (inA ad 2) s H locs → lv_has ls 4 [(0, .ref (ad 0)), (3, .int x3)] → WW ev p l e (rmk 0 0) s m args below meth c Qc ad 2 H locs 12 ls [] := by
    intro n
    induction n with
    | zero =>
      intro x3 σ4 H locs ls h; exact k_none h
    | succ n ih =>
      intro x3 σ4 H locs ls h hP hl
      have h : f_X1_layRow_L12_b   (lp (fun _ _ => none) (f_X1_layRow_L12_b  ) n) x3 σ4 = some σ' := h
      have h := (f_X1_layRow_L12_b.eq_1 _ _ _ ).symm.trans h
      refine lv_iload_n hx hb dX1_layRow_12 rfl (lv_at hl 1 rfl) ?_
      refine lv_aload_n hx hb dX1_layRow_13 rfl (lv_at hl 0 rfl) ?_
      refine r_get C hP (ci := 1) rfl uin_X1 2 (by decide) 0 (by decide) rfl qFL_RX1_18 rfl rfl dX1_layRow_14 ?_
      refine r_alen C hP 1 (by decide) 2 rfl rfl (v := 40) rfl dX1_layRow_17 ?_
      refine lv_icmp_ge (tgt := 34) hx hb dX1_layRow_18 (by decide) (fun c18 => ?_) (fun c18 => ?_)
      · have h := k_if c18 h
        exact e_vret C hend hP (congrArg (sw ev ad) (k_some h)) dX1_layRow_34
      · have h := k_nf c18 h
        refine lv_aload_n hx hb dX1_layRow_21 rfl (lv_at hl 0 rfl) ?_
        refine r_get C hP (ci := 1) rfl uin_X1 2 (by decide) 0 (by decide) rfl qFL_RX1_18 rfl rfl dX1_layRow_22 ?_
        refine lv_iload_n hx hb dX1_layRow_25 rfl (lv_at hl 1 rfl) ?_
        refine lv_lconst (v := 0) hx hb dX1_layRow_26 (by decide) ?_
        obtain ⟨hg, h⟩ := k_gd h
        obtain ⟨σ5, eσ5, h⟩ := k_ltx h
        refine st_S_elements C hP hap hAA eσ5 hg dX1_layRow_27 (fun H locs hP => ?_)
        obtain ⟨x6, ex6, h⟩ := k_ltx h
        refine lv_iinc (v := x6) (lv' := [(3, .int x6), (0, .ref (ad 0))]) hx hb dX1_layRow_28 hl (k := 1) rfl (by rw [ex6]; rfl) (by decide) rfl (fun ls hl => ?_)
        refine lv_goto (tgt := 12) hx hb dX1_layRow_31 (by decide) ?_
        exact ih _ _ _ _ _ h hP (lv_sub hl [1, 0] rfl)
  exact hL12 FU _ _ _ _ _ h hP (lv_sub hl [1, 0] rfl)
def f_X1_reaches (σ : SS) (a1 : Int32) : Bool :=
  if a1 < 0 then false else if (s_length σ) ≤ a1 then false else if 40 ≤ a1 then false else true
set_option maxHeartbeats 4000000 in
set_option maxRecDepth 100000 in
theorem c_X1_reaches (l : Launch) (ev : EV) (ad : Nat → Nat) (σ : SS) (a1 : Int32)   (r : Bool)  (h : f_X1_reaches σ a1 = r) : Ct l yX1_reaches prog_3_method_7_code 2 (Option.some Jvm.ClassFile.FieldType.boolean) (rmk 0 0) ev 2 ad (sw ev ad σ) (sw ev ad σ) [.ref (ad 0), .int a1] (some (.int (bi r))) := by
  refine Ct.of (by decide +kernel) (Nat.le_of_ble_eq_true rfl) ?_
  intro p e s m args below meth c Qc C hap hP hend ls hl
  have hAA : ∀ j, j < 2 → inA ad 2 (ad j) := fun j hj => ⟨j, hj, rfl⟩
  have hx := C.1
  have hb := C.2.1
  have hl : lv_has ls 2 [(0, .ref (ad 0)), (1, .int a1)] := hl
  have h := (f_X1_reaches.eq_1 _ _ ).symm.trans h
  refine lv_iload_n hx hb dX1_reaches_0 rfl (lv_at hl 1 rfl) ?_
  refine lv_if_lt (tgt := 25) hx hb dX1_reaches_1 (by decide) (fun c1 => ?_) (fun c1 => ?_)
  · have h := k_if c1 h
    refine lv_iconst (v := 0) hx hb dX1_reaches_25 (by decide) ?_
    exact e_zret C hend hP h rfl dX1_reaches_26 rfl
  · have h := k_nf c1 h
    refine lv_iload_n hx hb dX1_reaches_4 rfl (lv_at hl 1 rfl) ?_
    refine lv_aload_n hx hb dX1_reaches_5 rfl (lv_at hl 0 rfl) ?_
    refine r_get C hP (ci := 1) rfl uin_X1 1 (by decide) 0 (by decide) rfl qFL_RX1_15 rfl rfl dX1_reaches_6 ?_
    refine lv_icmp_ge (tgt := 25) hx hb dX1_reaches_9 (by decide) (fun c9 => ?_) (fun c9 => ?_)
    · have h := k_if c9 h
      refine lv_iconst (v := 0) hx hb dX1_reaches_25 (by decide) ?_
      exact e_zret C hend hP h rfl dX1_reaches_26 rfl
    · have h := k_nf c9 h
      refine lv_iload_n hx hb dX1_reaches_12 rfl (lv_at hl 1 rfl) ?_
      refine lv_aload_n hx hb dX1_reaches_13 rfl (lv_at hl 0 rfl) ?_
      refine r_get C hP (ci := 1) rfl uin_X1 2 (by decide) 0 (by decide) rfl qFL_RX1_18 rfl rfl dX1_reaches_14 ?_
      refine r_alen C hP 1 (by decide) 2 rfl rfl (v := 40) rfl dX1_reaches_17 ?_
      refine lv_icmp_ge (tgt := 25) hx hb dX1_reaches_18 (by decide) (fun c18 => ?_) (fun c18 => ?_)
      · have h := k_if c18 h
        refine lv_iconst (v := 0) hx hb dX1_reaches_25 (by decide) ?_
        exact e_zret C hend hP h rfl dX1_reaches_26 rfl
      · have h := k_nf c18 h
        refine lv_iconst (v := 1) hx hb dX1_reaches_21 (by decide) ?_
        refine lv_goto (tgt := 26) hx hb dX1_reaches_22 (by decide) ?_
        exact e_zret C hend hP h rfl dX1_reaches_26 rfl
def f_X1_reachesSpan (σ : SS) (a1 : Int32) (a2 : Int32) : Bool :=
  if a1 < 0 then false else if a2 < 0 then false else if (s_length σ) < a2 then false else if ((s_length σ) - a2) < a1 then false else if 40 < (s_length σ) then false else true
set_option maxHeartbeats 4000000 in
set_option maxRecDepth 100000 in
theorem c_X1_reachesSpan (l : Launch) (ev : EV) (ad : Nat → Nat) (σ : SS) (a1 : Int32) (a2 : Int32)   (r : Bool)  (h : f_X1_reachesSpan σ a1 a2 = r) : Ct l yX1_reachesSpan prog_3_method_8_code 3 (Option.some Jvm.ClassFile.FieldType.boolean) (rmk 0 0) ev 2 ad (sw ev ad σ) (sw ev ad σ) [.ref (ad 0), .int a1, .int a2] (some (.int (bi r))) := by
  refine Ct.of (by decide +kernel) (Nat.le_of_ble_eq_true rfl) ?_
  intro p e s m args below meth c Qc C hap hP hend ls hl
  have hAA : ∀ j, j < 2 → inA ad 2 (ad j) := fun j hj => ⟨j, hj, rfl⟩
  have hx := C.1
  have hb := C.2.1
  have hl : lv_has ls 3 [(0, .ref (ad 0)), (1, .int a1), (2, .int a2)] := hl
  have h := (f_X1_reachesSpan.eq_1 _ _ _ ).symm.trans h
  refine lv_iload_n hx hb dX1_reachesSpan_0 rfl (lv_at hl 1 rfl) ?_
  refine lv_if_lt (tgt := 42) hx hb dX1_reachesSpan_1 (by decide) (fun c1 => ?_) (fun c1 => ?_)
  · have h := k_if c1 h
    refine lv_iconst (v := 0) hx hb dX1_reachesSpan_42 (by decide) ?_
    exact e_zret C hend hP h rfl dX1_reachesSpan_43 rfl
  · have h := k_nf c1 h
    refine lv_iload_n hx hb dX1_reachesSpan_4 rfl (lv_at hl 2 rfl) ?_
    refine lv_if_lt (tgt := 42) hx hb dX1_reachesSpan_5 (by decide) (fun c5 => ?_) (fun c5 => ?_)
    · have h := k_if c5 h
      refine lv_iconst (v := 0) hx hb dX1_reachesSpan_42 (by decide) ?_
      exact e_zret C hend hP h rfl dX1_reachesSpan_43 rfl
    · have h := k_nf c5 h
      refine lv_iload_n hx hb dX1_reachesSpan_8 rfl (lv_at hl 2 rfl) ?_
      refine lv_aload_n hx hb dX1_reachesSpan_9 rfl (lv_at hl 0 rfl) ?_
      refine r_get C hP (ci := 1) rfl uin_X1 1 (by decide) 0 (by decide) rfl qFL_RX1_15 rfl rfl dX1_reachesSpan_10 ?_
      refine lv_icmp_gt (tgt := 42) hx hb dX1_reachesSpan_13 (by decide) (fun c13 => ?_) (fun c13 => ?_)
      · have h := k_if c13 h
        refine lv_iconst (v := 0) hx hb dX1_reachesSpan_42 (by decide) ?_
        exact e_zret C hend hP h rfl dX1_reachesSpan_43 rfl
      · have h := k_nf c13 h
        refine lv_iload_n hx hb dX1_reachesSpan_16 rfl (lv_at hl 1 rfl) ?_
        refine lv_aload_n hx hb dX1_reachesSpan_17 rfl (lv_at hl 0 rfl) ?_
        refine r_get C hP (ci := 1) rfl uin_X1 1 (by decide) 0 (by decide) rfl qFL_RX1_15 rfl rfl dX1_reachesSpan_18 ?_
        refine lv_iload_n hx hb dX1_reachesSpan_21 rfl (lv_at hl 2 rfl) ?_
        refine lv_isub hx hb dX1_reachesSpan_22 ?_
        refine lv_icmp_gt (tgt := 42) hx hb dX1_reachesSpan_23 (by decide) (fun c23 => ?_) (fun c23 => ?_)
        · have h := k_if c23 h
          refine lv_iconst (v := 0) hx hb dX1_reachesSpan_42 (by decide) ?_
          exact e_zret C hend hP h rfl dX1_reachesSpan_43 rfl
        · have h := k_nf c23 h
          refine lv_aload_n hx hb dX1_reachesSpan_26 rfl (lv_at hl 0 rfl) ?_
          refine r_get C hP (ci := 1) rfl uin_X1 1 (by decide) 0 (by decide) rfl qFL_RX1_15 rfl rfl dX1_reachesSpan_27 ?_
          refine lv_aload_n hx hb dX1_reachesSpan_30 rfl (lv_at hl 0 rfl) ?_
          refine r_get C hP (ci := 1) rfl uin_X1 2 (by decide) 0 (by decide) rfl qFL_RX1_18 rfl rfl dX1_reachesSpan_31 ?_
          refine r_alen C hP 1 (by decide) 2 rfl rfl (v := 40) rfl dX1_reachesSpan_34 ?_
          refine lv_icmp_gt (tgt := 42) hx hb dX1_reachesSpan_35 (by decide) (fun c35 => ?_) (fun c35 => ?_)
          · have h := k_if c35 h
            refine lv_iconst (v := 0) hx hb dX1_reachesSpan_42 (by decide) ?_
            exact e_zret C hend hP h rfl dX1_reachesSpan_43 rfl
          · have h := k_nf c35 h
            refine lv_iconst (v := 1) hx hb dX1_reachesSpan_38 (by decide) ?_
            refine lv_goto (tgt := 43) hx hb dX1_reachesSpan_39 (by decide) ?_
            exact e_zret C hend hP h rfl dX1_reachesSpan_43 rfl
def f_X1_elementAt (σ : SS) (a1 : Int32) : Option (Int64) :=
  if (f_X1_reaches σ a1) = true then gd (inb a1 40) (some ((s_elements σ) (Int32.toNatClampNeg a1))) else some 0
set_option maxHeartbeats 4000000 in
set_option maxRecDepth 100000 in
theorem c_X1_elementAt (l : Launch) (ev : EV) (ad : Nat → Nat) (σ : SS) (a1 : Int32)   (r : Int64)  (h : f_X1_elementAt σ a1 = some r) : Ct l yX1_elementAt prog_3_method_9_code 2 (Option.some Jvm.ClassFile.FieldType.long) (rmk 1 21) ev 2 ad (sw ev ad σ) (sw ev ad σ) [.ref (ad 0), .int a1] (some (.long r)) := by
  refine Ct.of (by decide +kernel) (Nat.le_of_ble_eq_true rfl) ?_
  intro p e s m args below meth c Qc C hap hP hend ls hl
  have hAA : ∀ j, j < 2 → inA ad 2 (ad j) := fun j hj => ⟨j, hj, rfl⟩
  have hx := C.1
  have hb := C.2.1
  have hl : lv_has ls 2 [(0, .ref (ad 0)), (1, .int a1)] := hl
  have h := (f_X1_elementAt.eq_1 _ _ ).symm.trans h
  refine lv_aload_n hx hb dX1_elementAt_0 rfl (lv_at hl 0 rfl) ?_
  refine lv_iload_n hx hb dX1_elementAt_1 rfl (lv_at hl 1 rfl) ?_
  refine k_callVi C hP hap hAA (c_X1_reaches l ev ad σ a1   _ rfl) Emb.same hap gz_X1_reaches qML_RX1_22 qIM_yX1_reaches qSE_yX1_reaches ⟨(Nat.le_of_ble_eq_true rfl), (Nat.le_of_ble_eq_true rfl)⟩ (q0 := 0) rfl (by decide) rfl rfl rfl rfl hl.1 rfl (Nat.le_of_ble_eq_true rfl) dX1_elementAt_2 ⟨Nat.le_refl _, Nat.le_refl _⟩ (fun H locs hP => ?_)
  refine r_ifz_eq (tgt := 17) hx hb dX1_elementAt_5 (by decide) (fun c5 => ?_) (fun c5 => ?_)
  · have h := k_nf c5 h
    refine lv_lconst (v := 0) hx hb dX1_elementAt_17 (by decide) ?_
    exact e_lret C hend hP (k_some h) rfl dX1_elementAt_18
  · have h := k_if c5 h
    refine lv_aload_n hx hb dX1_elementAt_8 rfl (lv_at hl 0 rfl) ?_
    refine r_get C hP (ci := 1) rfl uin_X1 2 (by decide) 0 (by decide) rfl qFL_RX1_18 rfl rfl dX1_elementAt_9 ?_
    refine lv_iload_n hx hb dX1_elementAt_12 rfl (lv_at hl 1 rfl) ?_
    obtain ⟨hg, h⟩ := k_gd h
    refine r_lald C hP 1 (by decide) rfl hg dX1_elementAt_13 ?_
    refine lv_goto (tgt := 18) hx hb dX1_elementAt_14 (by decide) ?_
    exact e_lret C hend hP (k_some h) rfl dX1_elementAt_18
def f_X3_truth (a1 : Int32) : Int32 :=
  if a1 = 0 then 0 else 1
set_option maxHeartbeats 4000000 in
set_option maxRecDepth 100000 in
theorem c_X3_truth (l : Launch) (ev : EV) (ad : Nat → Nat) (a1 : Int32)   (r : Int32)  (h : f_X3_truth a1 = r) : Ct l yX3_truth prog_1_method_63_code 1 (Option.some Jvm.ClassFile.FieldType.int) (rmk 0 0) ev 0 ad w00 w00 [.int a1] (some (.int r)) := by
  refine Ct.of (by decide +kernel) (Nat.le_of_ble_eq_true rfl) ?_
  intro p e s m args below meth c Qc C hap hP hend ls hl
  have hAA : ∀ j, j < 0 → inA ad 0 (ad j) := fun j hj => ⟨j, hj, rfl⟩
  have hx := C.1
  have hb := C.2.1
  have hl : lv_has ls 1 [(0, .int a1)] := hl
  have h := (f_X3_truth.eq_1 _ ).symm.trans h
  refine lv_iload_n hx hb dX3_truth_0 rfl (lv_at hl 0 rfl) ?_
  refine lv_if_eq (tgt := 8) hx hb dX3_truth_1 (by decide) (fun c1 => ?_) (fun c1 => ?_)
  · have h := k_if c1 h
    refine lv_iconst (v := 0) hx hb dX3_truth_8 (by decide) ?_
    exact e_iret C hend hP h rfl dX3_truth_9
  · have h := k_nf c1 h
    refine lv_iconst (v := 1) hx hb dX3_truth_4 (by decide) ?_
    refine lv_goto (tgt := 9) hx hb dX3_truth_5 (by decide) ?_
    exact e_iret C hend hP h rfl dX3_truth_9
def f_X1_lowestBits (σ : SS) (a1 : Int64) : Int64 :=
  if (s_content σ) = 0 then (Int32.toInt64 ((Int32.toInt8 (Int64.toInt32 a1)).toInt32)) else if (s_content σ) = 1 then (Int32.toInt64 ((Int32.toInt16 (Int64.toInt32 a1)).toInt32)) else if (s_content σ) = 2 then (Int32.toInt64 (Int64.toInt32 a1)) else if (s_content σ) = 3 then a1 else if (s_content σ) = 4 then if (lg_cmp a1 0) = 0 then (Int32.toInt64 (f_X3_truth 0)) else (Int32.toInt64 (f_X3_truth 1)) else 0
set_option maxHeartbeats 4000000 in
set_option maxRecDepth 100000 in
theorem c_X1_lowestBits (l : Launch) (ev : EV) (ad : Nat → Nat) (σ : SS) (a1 : Int64)   (r : Int64)  (h : f_X1_lowestBits σ a1 = r) : Ct l yX1_lowestBits prog_3_method_11_code 3 (Option.some Jvm.ClassFile.FieldType.long) (rmk 1 20) ev 2 ad (sw ev ad σ) (sw ev ad σ) [.ref (ad 0), .long a1] (some (.long r)) := by
  refine Ct.of (by decide +kernel) (Nat.le_of_ble_eq_true rfl) ?_
  intro p e s m args below meth c Qc C hap hP hend ls hl
  have hAA : ∀ j, j < 2 → inA ad 2 (ad j) := fun j hj => ⟨j, hj, rfl⟩
  have hx := C.1
  have hb := C.2.1
  have hl : lv_has ls 3 [(0, .ref (ad 0)), (1, .long a1)] := hl
  have h := (f_X1_lowestBits.eq_1 _ _ ).symm.trans h
  refine lv_aload_n hx hb dX1_lowestBits_0 rfl (lv_at hl 0 rfl) ?_
  refine r_get C hP (ci := 1) rfl uin_X1 0 (by decide) 0 (by decide) rfl qFL_RX1_9 rfl rfl dX1_lowestBits_1 ?_
  by_cases cs0 : (s_content σ) = 0
  · have h := k_if cs0 h
    refine r_tabIn (tgt := 40) (off := 36) (i := 0) hx hb dX1_lowestBits_4 cs0 (by decide) (by decide) (by decide) (by decide) ?_
    refine lv_lload_n hx hb dX1_lowestBits_40 rfl (lv_at hl 1 rfl) ?_
    refine lv_l2i hx hb dX1_lowestBits_41 rfl ?_
    refine lv_i2b hx hb dX1_lowestBits_42 rfl ?_
    refine lv_i2l hx hb dX1_lowestBits_43 rfl ?_
    exact e_lret C hend hP h rfl dX1_lowestBits_44
  · have h := k_nf cs0 h
    by_cases cs1 : (s_content σ) = 1
    · have h := k_if cs1 h
      refine r_tabIn (tgt := 45) (off := 41) (i := 1) hx hb dX1_lowestBits_4 cs1 (by decide) (by decide) (by decide) (by decide) ?_
      refine lv_lload_n hx hb dX1_lowestBits_45 rfl (lv_at hl 1 rfl) ?_
      refine lv_l2i hx hb dX1_lowestBits_46 rfl ?_
      refine lv_i2s hx hb dX1_lowestBits_47 rfl ?_
      refine lv_i2l hx hb dX1_lowestBits_48 rfl ?_
      exact e_lret C hend hP h rfl dX1_lowestBits_49
    · have h := k_nf cs1 h
      by_cases cs2 : (s_content σ) = 2
      · have h := k_if cs2 h
        refine r_tabIn (tgt := 50) (off := 46) (i := 2) hx hb dX1_lowestBits_4 cs2 (by decide) (by decide) (by decide) (by decide) ?_
        refine lv_lload_n hx hb dX1_lowestBits_50 rfl (lv_at hl 1 rfl) ?_
        refine lv_l2i hx hb dX1_lowestBits_51 rfl ?_
        refine lv_i2l hx hb dX1_lowestBits_52 rfl ?_
        exact e_lret C hend hP h rfl dX1_lowestBits_53
      · have h := k_nf cs2 h
        by_cases cs3 : (s_content σ) = 3
        · have h := k_if cs3 h
          refine r_tabIn (tgt := 54) (off := 50) (i := 3) hx hb dX1_lowestBits_4 cs3 (by decide) (by decide) (by decide) (by decide) ?_
          refine lv_lload_n hx hb dX1_lowestBits_54 rfl (lv_at hl 1 rfl) ?_
          exact e_lret C hend hP h rfl dX1_lowestBits_55
        · have h := k_nf cs3 h
          by_cases cs4 : (s_content σ) = 4
          · have h := k_if cs4 h
            refine r_tabIn (tgt := 56) (off := 52) (i := 4) hx hb dX1_lowestBits_4 cs4 (by decide) (by decide) (by decide) (by decide) ?_
            refine lv_lload_n hx hb dX1_lowestBits_56 rfl (lv_at hl 1 rfl) ?_
            refine lv_lconst (v := 0) hx hb dX1_lowestBits_57 (by decide) ?_
            refine W.lcmp hx hb dX1_lowestBits_58 ?_
            refine lv_if_eq (tgt := 66) hx hb dX1_lowestBits_59 (by decide) (fun c59 => ?_) (fun c59 => ?_)
            · have h := k_if c59 h
              refine lv_iconst (v := 0) hx hb dX1_lowestBits_66 (by decide) ?_
              refine k_callNi (host := "HedgesAndDitches") C hP hap hAA (c_X3_truth l ev ad 0   _ rfl) Emb.none (apart_0 _) gz_X3_truth (by decide +kernel) qSM_yX3_truth ⟨(Nat.le_of_ble_eq_true rfl), (Nat.le_of_ble_eq_true rfl)⟩ rfl hl.1 rfl (Nat.le_of_ble_eq_true rfl) dX1_lowestBits_67 ⟨Nat.le_refl _, Nat.le_refl _⟩ (fun H locs hP => ?_)
              refine lv_i2l hx hb dX1_lowestBits_70 rfl ?_
              exact e_lret C hend hP h rfl dX1_lowestBits_71
            · have h := k_nf c59 h
              refine lv_iconst (v := 1) hx hb dX1_lowestBits_62 (by decide) ?_
              refine lv_goto (tgt := 67) hx hb dX1_lowestBits_63 (by decide) ?_
              refine k_callNi (host := "HedgesAndDitches") C hP hap hAA (c_X3_truth l ev ad 1   _ rfl) Emb.none (apart_0 _) gz_X3_truth (by decide +kernel) qSM_yX3_truth ⟨(Nat.le_of_ble_eq_true rfl), (Nat.le_of_ble_eq_true rfl)⟩ rfl hl.1 rfl (Nat.le_of_ble_eq_true rfl) dX1_lowestBits_67 ⟨Nat.le_refl _, Nat.le_refl _⟩ (fun H locs hP => ?_)
              refine lv_i2l hx hb dX1_lowestBits_70 rfl ?_
              exact e_lret C hend hP h rfl dX1_lowestBits_71
          · have h := k_nf cs4 h
            refine r_tabOut (tgt := 72) hx hb dX1_lowestBits_4 (fun i h1 h2 => by
              have h3 : i = 0 ∨ i = 1 ∨ i = 2 ∨ i = 3 ∨ i = 4 := by omega
              rcases h3 with rfl | rfl | rfl | rfl | rfl
              · exact cs0
              · exact cs1
              · exact cs2
              · exact cs3
              · exact cs4
              ) (by decide) ?_
            refine lv_lconst (v := 0) hx hb dX1_lowestBits_72 (by decide) ?_
            exact e_lret C hend hP h rfl dX1_lowestBits_73
