/-! functions read off, and their contracts: by program (wip/whole/gen2.py) -/
def f_X4_gives (σ : MM) (a1 : Int32) : Option (Int32 × MM) :=
  if (f_X4_within a1 0 ((f_X4_edges σ) - 1)) = true then gd (inb a1 40) (if ((m_hedge σ) (Int32.toNatClampNeg a1)) = 0 then ob (f_X4_withHedges σ a1 2) (fun x1 => some (x1, σ)) else ob2 (f_X4_no σ (-5)) (fun x3 σ2 => some (x3, σ2))) else ob2 (f_X4_no σ (-2)) (fun x5 σ4 => some (x5, σ4))
set_option maxHeartbeats 4000000 in
set_option maxRecDepth 100000 in
theorem c_X4_gives (l : Launch) (ev : EV) (ad : Nat → Nat) (σ : MM) (a1 : Int32)   (r : Int32) (σ' : MM) (h : f_X4_gives σ a1 = some (r, σ')) : Ct l yX4_gives prog_6_method_89_code 2 (Option.some Jvm.ClassFile.FieldType.int) (rmk 4 91) ev 13 ad (mw ev ad σ) (mw ev ad σ') [.ref (ad 0), .int a1] (some (.int r)) := by
  refine Ct.of (by decide +kernel) (Nat.le_of_ble_eq_true rfl) ?_
  intro p e s m args below meth c Qc C hap hP hend ls hl
  have hAA : ∀ j, j < 13 → inA ad 13 (ad j) := fun j hj => ⟨j, hj, rfl⟩
  have hx := C.1
  have hb := C.2.1
  have hl : lv_has ls 2 [(0, .ref (ad 0)), (1, .int a1)] := hl
  have h := (f_X4_gives.eq_1 _ _ ).symm.trans h
  refine lv_iload_n hx hb dX4_gives_0 rfl (lv_at hl 1 rfl) ?_
  refine lv_iconst (v := 0) hx hb dX4_gives_1 (by decide) ?_
  refine lv_aload_n hx hb dX4_gives_2 rfl (lv_at hl 0 rfl) ?_
  refine k_callVi C hP hap hAA (c_X4_edges l ev ad σ   _ rfl) Emb.same hap gz_X4_edges qML_RX4_107 qIM_yX4_edges qSE_yX4_edges ⟨(Nat.le_of_ble_eq_true rfl), (Nat.le_of_ble_eq_true rfl)⟩ (q0 := 0) rfl (by decide) rfl rfl rfl rfl hl.1 rfl (Nat.le_of_ble_eq_true rfl) dX4_gives_3 ⟨Nat.le_refl _, Nat.le_refl _⟩ (fun H locs hP => ?_)
  refine lv_iconst (v := 1) hx hb dX4_gives_6 (by decide) ?_
  refine lv_isub hx hb dX4_gives_7 ?_
  refine k_callSi C hP hap hAA (c_X4_within l ev ad a1 0 ((f_X4_edges σ) - 1)   _ rfl) Emb.none (apart_0 _) gz_X4_within qML_RX4_63 qSM_yX4_within ⟨(Nat.le_of_ble_eq_true rfl), (Nat.le_of_ble_eq_true rfl)⟩ rfl hl.1 rfl (Nat.le_of_ble_eq_true rfl) dX4_gives_8 ⟨Nat.le_refl _, Nat.le_refl _⟩ (fun H locs hP => ?_)
  refine r_ifz_ne (tgt := 21) hx hb dX4_gives_11 (by decide) (fun c11 => ?_) (fun c11 => ?_)
  · have h := k_if c11 h
    refine lv_aload_n hx hb dX4_gives_21 rfl (lv_at hl 0 rfl) ?_
    refine r_get C hP (ci := 4) rfl uin_X4 2 (by decide) 0 (by decide) rfl qFL_RX4_7 rfl rfl dX4_gives_22 ?_
    refine lv_iload_n hx hb dX4_gives_25 rfl (lv_at hl 1 rfl) ?_
    obtain ⟨hg, h⟩ := k_gd h
    refine r_zald C hP 1 (by decide) rfl hg dX4_gives_26 ?_
    refine lv_if_eq (tgt := 37) hx hb dX4_gives_27 (by decide) (fun c27 => ?_) (fun c27 => ?_)
    · have h := k_if c27 h
      refine lv_aload_n hx hb dX4_gives_37 rfl (lv_at hl 0 rfl) ?_
      refine lv_iload_n hx hb dX4_gives_38 rfl (lv_at hl 1 rfl) ?_
      refine lv_iconst (v := 2) hx hb dX4_gives_39 (by decide) ?_
      obtain ⟨x1, h1, h⟩ := k_ob h
      refine k_callVi C hP hap hAA (c_X4_withHedges l ev ad σ a1 2   _ h1) Emb.same hap gz_X4_withHedges qML_RX4_280 qIM_yX4_withHedges qSE_yX4_withHedges ⟨(Nat.le_of_ble_eq_true rfl), (Nat.le_of_ble_eq_true rfl)⟩ (q0 := 0) rfl (by decide) rfl rfl rfl rfl hl.1 rfl (Nat.le_of_ble_eq_true rfl) dX4_gives_40 ⟨Nat.le_refl _, Nat.le_refl _⟩ (fun H locs hP => ?_)
      exact e_iret C hend hP (k_some2 h).1 (congrArg (mw ev ad) (k_some2 h).2) dX4_gives_43
    · have h := k_nf c27 h
      refine lv_aload_n hx hb dX4_gives_30 rfl (lv_at hl 0 rfl) ?_
      refine lv_bipush (v := (-5)) hx hb dX4_gives_31 (by decide) ?_
      obtain ⟨x3, σ2, h1, h⟩ := k_ob2 h
      refine k_callVi C hP hap hAA (c_X4_no l ev ad σ (-5)   _ _ h1) Emb.same hap gz_X4_no qML_RX4_56 qIM_yX4_no qSE_yX4_no ⟨(Nat.le_of_ble_eq_true rfl), (Nat.le_of_ble_eq_true rfl)⟩ (q0 := 0) rfl (by decide) rfl rfl rfl rfl hl.1 rfl (Nat.le_of_ble_eq_true rfl) dX4_gives_33 ⟨Nat.le_refl _, Nat.le_refl _⟩ (fun H locs hP => ?_)
      exact e_iret C hend hP (k_some2 h).1 (congrArg (mw ev ad) (k_some2 h).2) dX4_gives_36
  · have h := k_nf c11 h
    refine lv_aload_n hx hb dX4_gives_14 rfl (lv_at hl 0 rfl) ?_
    refine lv_bipush (v := (-2)) hx hb dX4_gives_15 (by decide) ?_
    obtain ⟨x5, σ4, h1, h⟩ := k_ob2 h
    refine k_callVi C hP hap hAA (c_X4_no l ev ad σ (-2)   _ _ h1) Emb.same hap gz_X4_no qML_RX4_56 qIM_yX4_no qSE_yX4_no ⟨(Nat.le_of_ble_eq_true rfl), (Nat.le_of_ble_eq_true rfl)⟩ (q0 := 0) rfl (by decide) rfl rfl rfl rfl hl.1 rfl (Nat.le_of_ble_eq_true rfl) dX4_gives_17 ⟨Nat.le_refl _, Nat.le_refl _⟩ (fun H locs hP => ?_)
    exact e_iret C hend hP (k_some2 h).1 (congrArg (mw ev ad) (k_some2 h).2) dX4_gives_20
def f_X4_calm_L4_b   (rec4 : Int32 → Int32 → MM → Option (Int32 × MM)) (x1 : Int32) (x2 : Int32) (σ3 : MM) : Option (Int32 × MM) :=
  if (f_X4_edges σ3) ≤ x2 then some (x1, σ3) else ob2 (f_X4_isCalm σ3 x2) (fun b5 σ4 => if b5 = true then lt (x1 + 1) (fun x7 => lt (x2 + 1) (fun x8 => rec4 x7 x8 σ4)) else lt (x2 + 1) (fun x6 => rec4 x1 x6 σ4))
def f_X4_calm_L4   (x1 : Int32) (x2 : Int32) (σ3 : MM) : Option (Int32 × MM) :=
  lp (fun _ _ _ => none) (f_X4_calm_L4_b  ) FU x1 x2 σ3
def f_X4_calm (σ : MM) : Option (Int32 × MM) :=
  f_X4_calm_L4 0 0 σ
set_option maxHeartbeats 4000000 in
set_option maxRecDepth 100000 in
theorem c_X4_calm (l : Launch) (ev : EV) (ad : Nat → Nat) (σ : MM)   (r : Int32) (σ' : MM) (h : f_X4_calm σ = some (r, σ')) : Ct l yX4_calm prog_6_method_90_code 3 (Option.some Jvm.ClassFile.FieldType.int) (rmk 5 111) ev 13 ad (mw ev ad σ) (mw ev ad σ') [.ref (ad 0)] (some (.int r)) := by
  refine Ct.of (by decide +kernel) (Nat.le_of_ble_eq_true rfl) ?_
  intro p e s m args below meth c Qc C hap hP hend ls hl
  have hAA : ∀ j, j < 13 → inA ad 13 (ad j) := fun j hj => ⟨j, hj, rfl⟩
  have hx := C.1
  have hb := C.2.1
  have hl : lv_has ls 3 [(0, .ref (ad 0))] := hl
  have h := (f_X4_calm.eq_1 _ ).symm.trans h
  refine lv_iconst (v := 0) hx hb dX4_calm_0 (by decide) ?_
  refine lv_istore_n (lv' := [(1, .int 0), (0, .ref (ad 0))]) hx hb dX4_calm_1 rfl hl (by decide) rfl (fun ls hl => ?_)
  refine lv_iconst (v := 0) hx hb dX4_calm_2 (by decide) ?_
  refine lv_istore_n (lv' := [(2, .int 0), (1, .int 0), (0, .ref (ad 0))]) hx hb dX4_calm_3 rfl hl (by decide) rfl (fun ls hl => ?_)
  have hL4 : ∀ (n : Nat) (x1 : Int32) (x2 : Int32) (σ3 : MM) (H : Heap) (locs : List Loc) (ls : Array Slot), lp (fun _ _ _ => none) (f_X4_calm_L4_b  ) n x1 x2 σ3 = some (r, σ') → PS ev 13 ad (mw ev ad σ3) (inA ad 13) s H locs → lv_has ls 3 [(0, .ref (ad 0)), (1, .int x1), (2, .int x2)] → WW ev p l e (rmk 5 111) s m args below meth c Qc ad 13 H locs 4 ls [] := by
    intro n
    induction n with
    | zero =>
      intro x1 x2 σ3 H locs ls h; exact k_none h
    | succ n ih =>
      intro x1 x2 σ3 H locs ls h hP hl
      have h : f_X4_calm_L4_b   (lp (fun _ _ _ => none) (f_X4_calm_L4_b  ) n) x1 x2 σ3 = some (r, σ') := h
      have h := (f_X4_calm_L4_b.eq_1 _ _ _ _ ).symm.trans h
      refine lv_iload_n hx hb dX4_calm_4 rfl (lv_at hl 2 rfl) ?_
      refine lv_aload_n hx hb dX4_calm_5 rfl (lv_at hl 0 rfl) ?_
      refine k_callVi C hP hap hAA (c_X4_edges l ev ad σ3   _ rfl) Emb.same hap gz_X4_edges qML_RX4_107 qIM_yX4_edges qSE_yX4_edges ⟨(Nat.le_of_ble_eq_true rfl), (Nat.le_of_ble_eq_true rfl)⟩ (q0 := 0) rfl (by decide) rfl rfl rfl rfl hl.1 rfl (Nat.le_of_ble_eq_true rfl) dX4_calm_6 ⟨Nat.le_refl _, Nat.le_refl _⟩ (fun H locs hP => ?_)
      refine lv_icmp_ge (tgt := 29) hx hb dX4_calm_9 (by decide) (fun c9 => ?_) (fun c9 => ?_)
      · have h := k_if c9 h
        refine lv_iload_n hx hb dX4_calm_29 rfl (lv_at hl 1 rfl) ?_
        exact e_iret C hend hP (k_some2 h).1 (congrArg (mw ev ad) (k_some2 h).2) dX4_calm_30
      · have h := k_nf c9 h
        refine lv_aload_n hx hb dX4_calm_12 rfl (lv_at hl 0 rfl) ?_
        refine lv_iload_n hx hb dX4_calm_13 rfl (lv_at hl 2 rfl) ?_
        obtain ⟨b5, σ4, h1, h⟩ := k_ob2 h
        refine k_callVi C hP hap hAA (c_X4_isCalm l ev ad σ3 x2   _ _ h1) Emb.same hap gz_X4_isCalm qML_RX4_249 qIM_yX4_isCalm qSE_yX4_isCalm ⟨(Nat.le_of_ble_eq_true rfl), (Nat.le_of_ble_eq_true rfl)⟩ (q0 := 0) rfl (by decide) rfl rfl rfl rfl hl.1 rfl (Nat.le_of_ble_eq_true rfl) dX4_calm_14 ⟨Nat.le_refl _, Nat.le_refl _⟩ (fun H locs hP => ?_)
        refine r_ifz_eq (tgt := 23) hx hb dX4_calm_17 (by decide) (fun c17 => ?_) (fun c17 => ?_)
        · have h := k_nf c17 h
          obtain ⟨x6, ex6, h⟩ := k_ltx h
          refine lv_iinc (v := x6) (lv' := [(2, .int x6), (0, .ref (ad 0)), (1, .int x1)]) hx hb dX4_calm_23 hl (k := 2) rfl (by rw [ex6]; rfl) (by decide) rfl (fun ls hl => ?_)
          refine lv_goto (tgt := 4) hx hb dX4_calm_26 (by decide) ?_
          exact ih _ _ _ _ _ _ h hP (lv_sub hl [1, 2, 0] rfl)
        · have h := k_if c17 h
          obtain ⟨x7, ex7, h⟩ := k_ltx h
          refine lv_iinc (v := x7) (lv' := [(1, .int x7), (0, .ref (ad 0)), (2, .int x2)]) hx hb dX4_calm_20 hl (k := 1) rfl (by rw [ex7]; rfl) (by decide) rfl (fun ls hl => ?_)
          obtain ⟨x8, ex8, h⟩ := k_ltx h
          refine lv_iinc (v := x8) (lv' := [(2, .int x8), (1, .int x7), (0, .ref (ad 0))]) hx hb dX4_calm_23 hl (k := 2) rfl (by rw [ex8]; rfl) (by decide) rfl (fun ls hl => ?_)
          refine lv_goto (tgt := 4) hx hb dX4_calm_26 (by decide) ?_
          exact ih _ _ _ _ _ _ h hP (lv_sub hl [2, 1, 0] rfl)
  exact hL4 FU _ _ _ _ _ _ h hP (lv_sub hl [2, 1, 0] rfl)
def f_X4_partOf_L33_b (σ : MM) (x2 : Int32) (x5 : Int32) (k96 : Int32 → Option (Int32)) (rec33 : Int32 → Int32 → Option (Int32)) (x6 : Int32) (x7 : Int32) : Option (Int32) :=
  if 4 ≤ x7 then k96 x6 else if ((ishr x2 x5) &&& 1) = 1 then ob (f_X4_beside σ x5 x7) (fun x9 => if x9 = (-1) then lt (x7 + 1) (fun x10 => rec33 x6 x10) else ob (f_X4_edge σ x5 x7) (fun x11 => gd (inb x11 40) (if ((m_hedge σ) (Int32.toNatClampNeg x11)) = 0 then ob (f_X4_beside σ x5 x7) (fun x13 => lt (x6 ||| (ishl 1 x13)) (fun x14 => lt (x7 + 1) (fun x15 => rec33 x14 x15))) else lt (x7 + 1) (fun x12 => rec33 x6 x12)))) else lt (x7 + 1) (fun x8 => rec33 x6 x8)
def f_X4_partOf_L33 (σ : MM) (x2 : Int32) (x5 : Int32) (k96 : Int32 → Option (Int32)) (x6 : Int32) (x7 : Int32) : Option (Int32) :=
  lp (fun _ _ => none) (f_X4_partOf_L33_b σ x2 x5 k96) FU x6 x7
def f_X4_partOf_L16_b (σ : MM) (x2 : Int32) (k102 : Int32 → Option (Int32)) (rec16 : Int32 → Int32 → Option (Int32)) (x4 : Int32) (x5 : Int32) : Option (Int32) :=
  if ((m_w σ) * (m_h σ)) ≤ x5 then k102 x4 else f_X4_partOf_L33 σ x2 x5 (fun x17 => lt (x5 + 1) (fun x18 => rec16 x17 x18)) x4 0
def f_X4_partOf_L16 (σ : MM) (x2 : Int32) (k102 : Int32 → Option (Int32)) (x4 : Int32) (x5 : Int32) : Option (Int32) :=
  lp (fun _ _ => none) (f_X4_partOf_L16_b σ x2 k102) FU x4 x5
def f_X4_partOf_L6_b (σ : MM)  (rec6 : Int32 → Int32 → Option (Int32)) (x2 : Int32) (x3 : Int32) : Option (Int32) :=
  if x2 = x3 then some x2 else f_X4_partOf_L16 σ x2 (fun x20 => rec6 x20 x2) x2 0
def f_X4_partOf_L6 (σ : MM)  (x2 : Int32) (x3 : Int32) : Option (Int32) :=
  lp (fun _ _ => none) (f_X4_partOf_L6_b σ ) FU x2 x3
def f_X4_partOf (σ : MM) (a1 : Int32) : Option (Int32) :=
  lt (ishl 1 a1) (fun x1 => f_X4_partOf_L6 σ x1 0)
set_option maxHeartbeats 4000000 in
set_option maxRecDepth 100000 in
theorem c_X4_partOf (l : Launch) (ev : EV) (ad : Nat → Nat) (σ : MM) (a1 : Int32)   (r : Int32)  (h : f_X4_partOf σ a1 = some r) : Ct l yX4_partOf prog_6_method_91_code 6 (Option.some Jvm.ClassFile.FieldType.int) (rmk 4 89) ev 13 ad (mw ev ad σ) (mw ev ad σ) [.ref (ad 0), .int a1] (some (.int r)) := by
  refine Ct.of (by decide +kernel) (Nat.le_of_ble_eq_true rfl) ?_
  intro p e s m args below meth c Qc C hap hP hend ls hl
  have hAA : ∀ j, j < 13 → inA ad 13 (ad j) := fun j hj => ⟨j, hj, rfl⟩
  have hx := C.1
  have hb := C.2.1
  have hl : lv_has ls 6 [(0, .ref (ad 0)), (1, .int a1)] := hl
  have h := (f_X4_partOf.eq_1 _ _ ).symm.trans h
  refine lv_iconst (v := 1) hx hb dX4_partOf_0 (by decide) ?_
  refine lv_iload_n hx hb dX4_partOf_1 rfl (lv_at hl 1 rfl) ?_
  refine r_ishl hx hb dX4_partOf_2 ?_
  refine lv_topi (fun x1 ex1 => ?_)
  have h := k_lt ex1 h
  refine lv_istore_n (lv' := [(2, .int x1), (0, .ref (ad 0)), (1, .int a1)]) hx hb dX4_partOf_3 rfl hl (by decide) rfl (fun ls hl => ?_)
  refine lv_iconst (v := 0) hx hb dX4_partOf_4 (by decide) ?_
  refine lv_istore_n (lv' := [(3, .int 0), (2, .int x1), (0, .ref (ad 0)), (1, .int a1)]) hx hb dX4_partOf_5 rfl hl (by decide) rfl (fun ls hl => ?_)
  have hL6 : ∀ (n : Nat) (x2 : Int32) (x3 : Int32) (H : Heap) (locs : List Loc) (ls : Array Slot), lp (fun _ _ => none) (f_X4_partOf_L6_b σ ) n x2 x3 = some r → PS ev 13 ad (mw ev ad σ) (inA ad 13) s H locs → lv_has ls 6 [(0, .ref (ad 0)), (2, .int x2), (3, .int x3)] → WW ev p l e (rmk 4 89) s m args below meth c Qc ad 13 H locs 6 ls [] := by
    intro n
    induction n with
    | zero =>
      intro x2 x3 H locs ls h; exact k_none h
    | succ n ih =>
      intro x2 x3 H locs ls h hP hl
      have h : f_X4_partOf_L6_b σ  (lp (fun _ _ => none) (f_X4_partOf_L6_b σ ) n) x2 x3 = some r := h
      have h := (f_X4_partOf_L6_b.eq_1 _ _ _ _ ).symm.trans h
      refine lv_iload_n hx hb dX4_partOf_6 rfl (lv_at hl 1 rfl) ?_
      refine lv_iload_n hx hb dX4_partOf_7 rfl (lv_at hl 2 rfl) ?_
      refine lv_icmp_eq (tgt := 105) hx hb dX4_partOf_8 (by decide) (fun c8 => ?_) (fun c8 => ?_)
      · have h := k_if c8 h
        refine lv_iload_n hx hb dX4_partOf_105 rfl (lv_at hl 1 rfl) ?_
        exact e_iret C hend hP (k_some h) rfl dX4_partOf_106
      · have h := k_nf c8 h
        refine lv_iload_n hx hb dX4_partOf_11 rfl (lv_at hl 1 rfl) ?_
        refine lv_istore_n (lv' := [(3, .int x2), (0, .ref (ad 0)), (2, .int x2)]) hx hb dX4_partOf_12 rfl hl (by decide) rfl (fun ls hl => ?_)
        refine lv_iconst (v := 0) hx hb dX4_partOf_13 (by decide) ?_
        refine lv_istore (lv' := [(4, .int 0), (3, .int x2), (0, .ref (ad 0)), (2, .int x2)]) hx hb dX4_partOf_14 hl (by decide) rfl (fun ls hl => ?_)
        have hL16 : ∀ (k102 : Int32 → Option (Int32)) (hk102 : ∀ (z19 : Int32) (H : Heap) (locs : List Loc) (ls : Array Slot), k102 z19 = some r → PS ev 13 ad (mw ev ad σ) (inA ad 13) s H locs → lv_has ls 6 [(0, .ref (ad 0)), (2, .int z19), (3, .int x2)] → WW ev p l e (rmk 4 89) s m args below meth c Qc ad 13 H locs 102 ls []) (n : Nat) (x4 : Int32) (x5 : Int32) (H : Heap) (locs : List Loc) (ls : Array Slot), lp (fun _ _ => none) (f_X4_partOf_L16_b σ x2 k102) n x4 x5 = some r → PS ev 13 ad (mw ev ad σ) (inA ad 13) s H locs → lv_has ls 6 [(0, .ref (ad 0)), (2, .int x4), (3, .int x2), (4, .int x5)] → WW ev p l e (rmk 4 89) s m args below meth c Qc ad 13 H locs 16 ls [] := by
          intro k102 hk102 n
          induction n with
          | zero =>
            intro x4 x5 H locs ls h; exact k_none h
          | succ n ih =>
            intro x4 x5 H locs ls h hP hl
            have h : f_X4_partOf_L16_b σ x2 k102 (lp (fun _ _ => none) (f_X4_partOf_L16_b σ x2 k102) n) x4 x5 = some r := h
            have h := (f_X4_partOf_L16_b.eq_1 _ _ _ _ _ _ ).symm.trans h
            refine lv_iload hx hb dX4_partOf_16 (lv_at hl 3 rfl) ?_
            refine lv_aload_n hx hb dX4_partOf_18 rfl (lv_at hl 0 rfl) ?_
            refine r_get C hP (ci := 4) rfl uin_X4 0 (by decide) 0 (by decide) rfl qFL_RX4_67 rfl rfl dX4_partOf_19 ?_
            refine lv_aload_n hx hb dX4_partOf_22 rfl (lv_at hl 0 rfl) ?_
            refine r_get C hP (ci := 4) rfl uin_X4 1 (by decide) 0 (by decide) rfl qFL_RX4_70 rfl rfl dX4_partOf_23 ?_
            refine lv_imul hx hb dX4_partOf_26 ?_
            refine lv_icmp_ge (tgt := 102) hx hb dX4_partOf_27 (by decide) (fun c27 => ?_) (fun c27 => ?_)
            · have h := k_if c27 h
              exact hk102 _ _ _ _ h hP (lv_sub hl [0, 1, 2] rfl)
            · have h := k_nf c27 h
              refine lv_iconst (v := 0) hx hb dX4_partOf_30 (by decide) ?_
              refine lv_istore (lv' := [(5, .int 0), (0, .ref (ad 0)), (2, .int x4), (3, .int x2), (4, .int x5)]) hx hb dX4_partOf_31 hl (by decide) rfl (fun ls hl => ?_)
              have hL33 : ∀ (k96 : Int32 → Option (Int32)) (hk96 : ∀ (z16 : Int32) (H : Heap) (locs : List Loc) (ls : Array Slot), k96 z16 = some r → PS ev 13 ad (mw ev ad σ) (inA ad 13) s H locs → lv_has ls 6 [(0, .ref (ad 0)), (2, .int z16), (3, .int x2), (4, .int x5)] → WW ev p l e (rmk 4 89) s m args below meth c Qc ad 13 H locs 96 ls []) (n : Nat) (x6 : Int32) (x7 : Int32) (H : Heap) (locs : List Loc) (ls : Array Slot), lp (fun _ _ => none) (f_X4_partOf_L33_b σ x2 x5 k96) n x6 x7 = some r → PS ev 13 ad (mw ev ad σ) (inA ad 13) s H locs → lv_has ls 6 [(0, .ref (ad 0)), (2, .int x6), (3, .int x2), (4, .int x5), (5, .int x7)] → WW ev p l e (rmk 4 89) s m args below meth c Qc ad 13 H locs 33 ls [] := by
                intro k96 hk96 n
                induction n with
                | zero =>
                  intro x6 x7 H locs ls h; exact k_none h
                | succ n ih =>
                  intro x6 x7 H locs ls h hP hl
                  have h : f_X4_partOf_L33_b σ x2 x5 k96 (lp (fun _ _ => none) (f_X4_partOf_L33_b σ x2 x5 k96) n) x6 x7 = some r := h
                  have h := (f_X4_partOf_L33_b.eq_1 _ _ _ _ _ _ _ ).symm.trans h
                  refine lv_iload hx hb dX4_partOf_33 (lv_at hl 4 rfl) ?_
                  refine lv_iconst (v := 4) hx hb dX4_partOf_35 (by decide) ?_
                  refine lv_icmp_ge (tgt := 96) hx hb dX4_partOf_36 (by decide) (fun c36 => ?_) (fun c36 => ?_)
                  · have h := k_if c36 h
                    exact hk96 _ _ _ _ h hP (lv_sub hl [0, 1, 2, 3] rfl)
                  · have h := k_nf c36 h
                    refine lv_iload_n hx hb dX4_partOf_39 rfl (lv_at hl 2 rfl) ?_
                    refine lv_iload hx hb dX4_partOf_40 (lv_at hl 3 rfl) ?_
                    refine r_ishr hx hb dX4_partOf_42 ?_
                    refine lv_iconst (v := 1) hx hb dX4_partOf_43 (by decide) ?_
                    refine lv_iand hx hb dX4_partOf_44 ?_
                    refine lv_iconst (v := 1) hx hb dX4_partOf_45 (by decide) ?_
                    refine lv_icmp_ne (tgt := 90) hx hb dX4_partOf_46 (by decide) (fun c46 => ?_) (fun c46 => ?_)
                    · have h := k_nf c46 h
                      obtain ⟨x8, ex8, h⟩ := k_ltx h
                      refine lv_iinc (v := x8) (lv' := [(5, .int x8), (0, .ref (ad 0)), (2, .int x6), (3, .int x2), (4, .int x5)]) hx hb dX4_partOf_90 hl (k := 4) rfl (by rw [ex8]; rfl) (by decide) rfl (fun ls hl => ?_)
                      refine lv_goto (tgt := 33) hx hb dX4_partOf_93 (by decide) ?_
                      exact ih _ _ _ _ _ h hP (lv_sub hl [1, 2, 3, 4, 0] rfl)
                    · have h := k_if c46 h
                      refine lv_aload_n hx hb dX4_partOf_49 rfl (lv_at hl 0 rfl) ?_
                      refine lv_iload hx hb dX4_partOf_50 (lv_at hl 3 rfl) ?_
                      refine lv_iload hx hb dX4_partOf_52 (lv_at hl 4 rfl) ?_
                      obtain ⟨x9, h1, h⟩ := k_ob h
                      refine k_callVi C hP hap hAA (c_X4_beside l ev ad σ x5 x7   _ h1) Emb.same hap gz_X4_beside qML_RX4_211 qIM_yX4_beside qSE_yX4_beside ⟨(Nat.le_of_ble_eq_true rfl), (Nat.le_of_ble_eq_true rfl)⟩ (q0 := 0) rfl (by decide) rfl rfl rfl rfl hl.1 rfl (Nat.le_of_ble_eq_true rfl) dX4_partOf_54 ⟨Nat.le_refl _, Nat.le_refl _⟩ (fun H locs hP => ?_)
                      refine lv_iconst (v := (-1)) hx hb dX4_partOf_57 (by decide) ?_
                      refine lv_icmp_eq (tgt := 90) hx hb dX4_partOf_58 (by decide) (fun c58 => ?_) (fun c58 => ?_)
                      · have h := k_if c58 h
                        obtain ⟨x10, ex10, h⟩ := k_ltx h
                        refine lv_iinc (v := x10) (lv' := [(5, .int x10), (0, .ref (ad 0)), (2, .int x6), (3, .int x2), (4, .int x5)]) hx hb dX4_partOf_90 hl (k := 4) rfl (by rw [ex10]; rfl) (by decide) rfl (fun ls hl => ?_)
                        refine lv_goto (tgt := 33) hx hb dX4_partOf_93 (by decide) ?_
                        exact ih _ _ _ _ _ h hP (lv_sub hl [1, 2, 3, 4, 0] rfl)
                      · have h := k_nf c58 h
                        refine lv_aload_n hx hb dX4_partOf_61 rfl (lv_at hl 0 rfl) ?_
                        refine r_get C hP (ci := 4) rfl uin_X4 2 (by decide) 0 (by decide) rfl qFL_RX4_7 rfl rfl dX4_partOf_62 ?_
                        refine lv_aload_n hx hb dX4_partOf_65 rfl (lv_at hl 0 rfl) ?_
                        refine lv_iload hx hb dX4_partOf_66 (lv_at hl 3 rfl) ?_
                        refine lv_iload hx hb dX4_partOf_68 (lv_at hl 4 rfl) ?_
                        obtain ⟨x11, h1, h⟩ := k_ob h
                        refine k_callVi C hP hap hAA (c_X4_edge l ev ad σ x5 x7   _ h1) Emb.same hap gz_X4_edge qML_RX4_122 qIM_yX4_edge qSE_yX4_edge ⟨(Nat.le_of_ble_eq_true rfl), (Nat.le_of_ble_eq_true rfl)⟩ (q0 := 0) rfl (by decide) rfl rfl rfl rfl hl.1 rfl (Nat.le_of_ble_eq_true rfl) dX4_partOf_70 ⟨Nat.le_refl _, Nat.le_refl _⟩ (fun H locs hP => ?_)
                        obtain ⟨hg, h⟩ := k_gd h
                        refine r_zald C hP 1 (by decide) rfl hg dX4_partOf_73 ?_
                        refine lv_if_ne (tgt := 90) hx hb dX4_partOf_74 (by decide) (fun c74 => ?_) (fun c74 => ?_)
                        · have h := k_nf c74 h
                          obtain ⟨x12, ex12, h⟩ := k_ltx h
                          refine lv_iinc (v := x12) (lv' := [(5, .int x12), (0, .ref (ad 0)), (2, .int x6), (3, .int x2), (4, .int x5)]) hx hb dX4_partOf_90 hl (k := 4) rfl (by rw [ex12]; rfl) (by decide) rfl (fun ls hl => ?_)
                          refine lv_goto (tgt := 33) hx hb dX4_partOf_93 (by decide) ?_
                          exact ih _ _ _ _ _ h hP (lv_sub hl [1, 2, 3, 4, 0] rfl)
                        · have h := k_if c74 h
                          refine lv_iload_n hx hb dX4_partOf_77 rfl (lv_at hl 1 rfl) ?_
                          refine lv_iconst (v := 1) hx hb dX4_partOf_78 (by decide) ?_
                          refine lv_aload_n hx hb dX4_partOf_79 rfl (lv_at hl 0 rfl) ?_
                          refine lv_iload hx hb dX4_partOf_80 (lv_at hl 3 rfl) ?_
                          refine lv_iload hx hb dX4_partOf_82 (lv_at hl 4 rfl) ?_
                          obtain ⟨x13, h1, h⟩ := k_ob h
                          refine k_callVi C hP hap hAA (c_X4_beside l ev ad σ x5 x7   _ h1) Emb.same hap gz_X4_beside qML_RX4_211 qIM_yX4_beside qSE_yX4_beside ⟨(Nat.le_of_ble_eq_true rfl), (Nat.le_of_ble_eq_true rfl)⟩ (q0 := 0) rfl (by decide) rfl rfl rfl rfl hl.1 rfl (Nat.le_of_ble_eq_true rfl) dX4_partOf_84 ⟨Nat.le_refl _, Nat.le_refl _⟩ (fun H locs hP => ?_)
                          refine r_ishl hx hb dX4_partOf_87 ?_
                          refine lv_ior hx hb dX4_partOf_88 ?_
                          refine lv_topi (fun x14 ex14 => ?_)
                          have h := k_lt ex14 h
                          refine lv_istore_n (lv' := [(2, .int x14), (0, .ref (ad 0)), (3, .int x2), (4, .int x5), (5, .int x7)]) hx hb dX4_partOf_89 rfl hl (by decide) rfl (fun ls hl => ?_)
                          obtain ⟨x15, ex15, h⟩ := k_ltx h
                          refine lv_iinc (v := x15) (lv' := [(5, .int x15), (2, .int x14), (0, .ref (ad 0)), (3, .int x2), (4, .int x5)]) hx hb dX4_partOf_90 hl (k := 4) rfl (by rw [ex15]; rfl) (by decide) rfl (fun ls hl => ?_)
                          refine lv_goto (tgt := 33) hx hb dX4_partOf_93 (by decide) ?_
                          exact ih _ _ _ _ _ h hP (lv_sub hl [2, 1, 3, 4, 0] rfl)
              refine hL33 _ (fun x17 H locs ls h hP hl => ?_) FU _ _ _ _ _ h hP (lv_sub hl [1, 2, 3, 4, 0] rfl)
              obtain ⟨x18, ex18, h⟩ := k_ltx h
              refine lv_iinc (v := x18) (lv' := [(4, .int x18), (0, .ref (ad 0)), (2, .int x17), (3, .int x2)]) hx hb dX4_partOf_96 hl (k := 3) rfl (by rw [ex18]; rfl) (by decide) rfl (fun ls hl => ?_)
              refine lv_goto (tgt := 16) hx hb dX4_partOf_99 (by decide) ?_
              exact ih _ _ _ _ _ h hP (lv_sub hl [1, 2, 3, 0] rfl)
        refine hL16 _ (fun x20 H locs ls h hP hl => ?_) FU _ _ _ _ _ h hP (lv_sub hl [2, 3, 1, 0] rfl)
        refine lv_goto (tgt := 6) hx hb dX4_partOf_102 (by decide) ?_
        exact ih _ _ _ _ _ h hP (lv_sub hl [0, 1, 2] rfl)
  exact hL6 FU _ _ _ _ _ h hP (lv_sub hl [2, 1, 0] rfl)
