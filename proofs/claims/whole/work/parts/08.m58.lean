/-! functions read off, and their contracts: by program (wip/whole/gen2.py) -/
def f_X4_bare_L4_b (σ : MM)  (rec4 : Int32 → Int32 → Option (Int32)) (x1 : Int32) (x2 : Int32) : Option (Int32) :=
  if ((m_w σ) * (m_h σ)) ≤ x2 then some x1 else ob (f_X4_hedges σ x2) (fun x3 => if x3 = 0 then lt (x1 ||| (ishl 1 x2)) (fun x5 => lt (x2 + 1) (fun x6 => rec4 x5 x6)) else lt (x2 + 1) (fun x4 => rec4 x1 x4))
def f_X4_bare_L4 (σ : MM)  (x1 : Int32) (x2 : Int32) : Option (Int32) :=
  lp (fun _ _ => none) (f_X4_bare_L4_b σ ) FU x1 x2
def f_X4_bare (σ : MM) : Option (Int32) :=
  f_X4_bare_L4 σ 0 0
set_option maxHeartbeats 4000000 in
set_option maxRecDepth 100000 in
theorem c_X4_bare (l : Launch) (ev : EV) (ad : Nat → Nat) (σ : MM)   (r : Int32)  (h : f_X4_bare σ = some r) : Ct l yX4_bare prog_6_method_99_code 3 (Option.some Jvm.ClassFile.FieldType.int) (rmk 3 67) ev 13 ad (mw ev ad σ) (mw ev ad σ) [.ref (ad 0)] (some (.int r)) := by
  refine Ct.of (by decide +kernel) (Nat.le_of_ble_eq_true rfl) ?_
  intro p e s m args below meth c Qc C hap hP hend ls hl
  have hAA : ∀ j, j < 13 → inA ad 13 (ad j) := fun j hj => ⟨j, hj, rfl⟩
  have hx := C.1
  have hb := C.2.1
  have hl : lv_has ls 3 [(0, .ref (ad 0))] := hl
  have h := (f_X4_bare.eq_1 _ ).symm.trans h
  refine lv_iconst (v := 0) hx hb dX4_bare_0 (by decide) ?_
  refine lv_istore_n (lv' := [(1, .int 0), (0, .ref (ad 0))]) hx hb dX4_bare_1 rfl hl (by decide) rfl (fun ls hl => ?_)
  refine lv_iconst (v := 0) hx hb dX4_bare_2 (by decide) ?_
  refine lv_istore_n (lv' := [(2, .int 0), (1, .int 0), (0, .ref (ad 0))]) hx hb dX4_bare_3 rfl hl (by decide) rfl (fun ls hl => ?_)
  have hL4 : ∀ (n : Nat) (x1 : Int32) (x2 : Int32) (H : Heap) (locs : List Loc) (ls : Array Slot), lp (fun _ _ => none) (f_X4_bare_L4_b σ ) n x1 x2 = some r → PS ev 13 ad (mw ev ad σ) (inA ad 13) s H locs → lv_has ls 3 [(0, .ref (ad 0)), (1, .int x1), (2, .int x2)] → WW ev p l e (rmk 3 67) s m args below meth c Qc ad 13 H locs 4 ls [] := by
    intro n
    induction n with
    | zero =>
      intro x1 x2 H locs ls h; exact k_none h
    | succ n ih =>
      intro x1 x2 H locs ls h hP hl
      have h : f_X4_bare_L4_b σ  (lp (fun _ _ => none) (f_X4_bare_L4_b σ ) n) x1 x2 = some r := h
      have h := (f_X4_bare_L4_b.eq_1 _ _ _ _ ).symm.trans h
      refine lv_iload_n hx hb dX4_bare_4 rfl (lv_at hl 2 rfl) ?_
      refine lv_aload_n hx hb dX4_bare_5 rfl (lv_at hl 0 rfl) ?_
      refine r_get C hP (ci := 4) rfl uin_X4 0 (by decide) 0 (by decide) rfl qFL_RX4_67 rfl rfl dX4_bare_6 ?_
      refine lv_aload_n hx hb dX4_bare_9 rfl (lv_at hl 0 rfl) ?_
      refine r_get C hP (ci := 4) rfl uin_X4 1 (by decide) 0 (by decide) rfl qFL_RX4_70 rfl rfl dX4_bare_10 ?_
      refine lv_imul hx hb dX4_bare_13 ?_
      refine lv_icmp_ge (tgt := 37) hx hb dX4_bare_14 (by decide) (fun c14 => ?_) (fun c14 => ?_)
      · have h := k_if c14 h
        refine lv_iload_n hx hb dX4_bare_37 rfl (lv_at hl 1 rfl) ?_
        exact e_iret C hend hP (k_some h) rfl dX4_bare_38
      · have h := k_nf c14 h
        refine lv_aload_n hx hb dX4_bare_17 rfl (lv_at hl 0 rfl) ?_
        refine lv_iload_n hx hb dX4_bare_18 rfl (lv_at hl 2 rfl) ?_
        obtain ⟨x3, h1, h⟩ := k_ob h
        refine k_callVi C hP hap hAA (c_X4_hedges l ev ad σ x2   _ h1) Emb.same hap gz_X4_hedges qML_RX4_196 qIM_yX4_hedges qSE_yX4_hedges ⟨(Nat.le_of_ble_eq_true rfl), (Nat.le_of_ble_eq_true rfl)⟩ (q0 := 0) rfl (by decide) rfl rfl rfl rfl hl.1 rfl (Nat.le_of_ble_eq_true rfl) dX4_bare_19 ⟨Nat.le_refl _, Nat.le_refl _⟩ (fun H locs hP => ?_)
        refine lv_if_ne (tgt := 31) hx hb dX4_bare_22 (by decide) (fun c22 => ?_) (fun c22 => ?_)
        · have h := k_nf c22 h
          obtain ⟨x4, ex4, h⟩ := k_ltx h
          refine lv_iinc (v := x4) (lv' := [(2, .int x4), (0, .ref (ad 0)), (1, .int x1)]) hx hb dX4_bare_31 hl (k := 2) rfl (by rw [ex4]; rfl) (by decide) rfl (fun ls hl => ?_)
          refine lv_goto (tgt := 4) hx hb dX4_bare_34 (by decide) ?_
          exact ih _ _ _ _ _ h hP (lv_sub hl [1, 2, 0] rfl)
        · have h := k_if c22 h
          refine lv_iload_n hx hb dX4_bare_25 rfl (lv_at hl 1 rfl) ?_
          refine lv_iconst (v := 1) hx hb dX4_bare_26 (by decide) ?_
          refine lv_iload_n hx hb dX4_bare_27 rfl (lv_at hl 2 rfl) ?_
          refine r_ishl hx hb dX4_bare_28 ?_
          refine lv_ior hx hb dX4_bare_29 ?_
          refine lv_topi (fun x5 ex5 => ?_)
          have h := k_lt ex5 h
          refine lv_istore_n (lv' := [(1, .int x5), (0, .ref (ad 0)), (2, .int x2)]) hx hb dX4_bare_30 rfl hl (by decide) rfl (fun ls hl => ?_)
          obtain ⟨x6, ex6, h⟩ := k_ltx h
          refine lv_iinc (v := x6) (lv' := [(2, .int x6), (1, .int x5), (0, .ref (ad 0))]) hx hb dX4_bare_31 hl (k := 2) rfl (by rw [ex6]; rfl) (by decide) rfl (fun ls hl => ?_)
          refine lv_goto (tgt := 4) hx hb dX4_bare_34 (by decide) ?_
          exact ih _ _ _ _ _ h hP (lv_sub hl [2, 1, 0] rfl)
  exact hL4 FU _ _ _ _ _ h hP (lv_sub hl [2, 1, 0] rfl)
def f_X4_soft_L4_b (σ : MM)  (rec4 : Int32 → Int32 → Option (Int32)) (x1 : Int32) (x2 : Int32) : Option (Int32) :=
  if ((m_w σ) * (m_h σ)) ≤ x2 then some x1 else ob (f_X4_mayBe σ (100 + x2)) (fun b3 => if b3 = true then lt (x1 ||| (ishl 1 x2)) (fun x5 => lt (x2 + 1) (fun x6 => rec4 x5 x6)) else lt (x2 + 1) (fun x4 => rec4 x1 x4))
def f_X4_soft_L4 (σ : MM)  (x1 : Int32) (x2 : Int32) : Option (Int32) :=
  lp (fun _ _ => none) (f_X4_soft_L4_b σ ) FU x1 x2
def f_X4_soft (σ : MM) : Option (Int32) :=
  f_X4_soft_L4 σ 0 0
set_option maxHeartbeats 4000000 in
set_option maxRecDepth 100000 in
theorem c_X4_soft (l : Launch) (ev : EV) (ad : Nat → Nat) (σ : MM)   (r : Int32)  (h : f_X4_soft σ = some r) : Ct l yX4_soft prog_6_method_100_code 3 (Option.some Jvm.ClassFile.FieldType.int) (rmk 4 88) ev 13 ad (mw ev ad σ) (mw ev ad σ) [.ref (ad 0)] (some (.int r)) := by
  refine Ct.of (by decide +kernel) (Nat.le_of_ble_eq_true rfl) ?_
  intro p e s m args below meth c Qc C hap hP hend ls hl
  have hAA : ∀ j, j < 13 → inA ad 13 (ad j) := fun j hj => ⟨j, hj, rfl⟩
  have hx := C.1
  have hb := C.2.1
  have hl : lv_has ls 3 [(0, .ref (ad 0))] := hl
  have h := (f_X4_soft.eq_1 _ ).symm.trans h
  refine lv_iconst (v := 0) hx hb dX4_soft_0 (by decide) ?_
  refine lv_istore_n (lv' := [(1, .int 0), (0, .ref (ad 0))]) hx hb dX4_soft_1 rfl hl (by decide) rfl (fun ls hl => ?_)
  refine lv_iconst (v := 0) hx hb dX4_soft_2 (by decide) ?_
  refine lv_istore_n (lv' := [(2, .int 0), (1, .int 0), (0, .ref (ad 0))]) hx hb dX4_soft_3 rfl hl (by decide) rfl (fun ls hl => ?_)
  have hL4 : ∀ (n : Nat) (x1 : Int32) (x2 : Int32) (H : Heap) (locs : List Loc) (ls : Array Slot), lp (fun _ _ => none) (f_X4_soft_L4_b σ ) n x1 x2 = some r → PS ev 13 ad (mw ev ad σ) (inA ad 13) s H locs → lv_has ls 3 [(0, .ref (ad 0)), (1, .int x1), (2, .int x2)] → WW ev p l e (rmk 4 88) s m args below meth c Qc ad 13 H locs 4 ls [] := by
    intro n
    induction n with
    | zero =>
      intro x1 x2 H locs ls h; exact k_none h
    | succ n ih =>
      intro x1 x2 H locs ls h hP hl
      have h : f_X4_soft_L4_b σ  (lp (fun _ _ => none) (f_X4_soft_L4_b σ ) n) x1 x2 = some r := h
      have h := (f_X4_soft_L4_b.eq_1 _ _ _ _ ).symm.trans h
      refine lv_iload_n hx hb dX4_soft_4 rfl (lv_at hl 2 rfl) ?_
      refine lv_aload_n hx hb dX4_soft_5 rfl (lv_at hl 0 rfl) ?_
      refine r_get C hP (ci := 4) rfl uin_X4 0 (by decide) 0 (by decide) rfl qFL_RX4_67 rfl rfl dX4_soft_6 ?_
      refine lv_aload_n hx hb dX4_soft_9 rfl (lv_at hl 0 rfl) ?_
      refine r_get C hP (ci := 4) rfl uin_X4 1 (by decide) 0 (by decide) rfl qFL_RX4_70 rfl rfl dX4_soft_10 ?_
      refine lv_imul hx hb dX4_soft_13 ?_
      refine lv_icmp_ge (tgt := 40) hx hb dX4_soft_14 (by decide) (fun c14 => ?_) (fun c14 => ?_)
      · have h := k_if c14 h
        refine lv_iload_n hx hb dX4_soft_40 rfl (lv_at hl 1 rfl) ?_
        exact e_iret C hend hP (k_some h) rfl dX4_soft_41
      · have h := k_nf c14 h
        refine lv_aload_n hx hb dX4_soft_17 rfl (lv_at hl 0 rfl) ?_
        refine lv_bipush (v := 100) hx hb dX4_soft_18 (by decide) ?_
        refine lv_iload_n hx hb dX4_soft_20 rfl (lv_at hl 2 rfl) ?_
        refine lv_iadd hx hb dX4_soft_21 ?_
        obtain ⟨b3, h1, h⟩ := k_ob h
        refine k_callVi C hP hap hAA (c_X4_mayBe l ev ad σ (100 + x2)   _ h1) Emb.same hap gz_X4_mayBe qML_RX4_176 qIM_yX4_mayBe qSE_yX4_mayBe ⟨(Nat.le_of_ble_eq_true rfl), (Nat.le_of_ble_eq_true rfl)⟩ (q0 := 0) rfl (by decide) rfl rfl rfl rfl hl.1 rfl (Nat.le_of_ble_eq_true rfl) dX4_soft_22 ⟨Nat.le_refl _, Nat.le_refl _⟩ (fun H locs hP => ?_)
        refine r_ifz_eq (tgt := 34) hx hb dX4_soft_25 (by decide) (fun c25 => ?_) (fun c25 => ?_)
        · have h := k_nf c25 h
          obtain ⟨x4, ex4, h⟩ := k_ltx h
          refine lv_iinc (v := x4) (lv' := [(2, .int x4), (0, .ref (ad 0)), (1, .int x1)]) hx hb dX4_soft_34 hl (k := 2) rfl (by rw [ex4]; rfl) (by decide) rfl (fun ls hl => ?_)
          refine lv_goto (tgt := 4) hx hb dX4_soft_37 (by decide) ?_
          exact ih _ _ _ _ _ h hP (lv_sub hl [1, 2, 0] rfl)
        · have h := k_if c25 h
          refine lv_iload_n hx hb dX4_soft_28 rfl (lv_at hl 1 rfl) ?_
          refine lv_iconst (v := 1) hx hb dX4_soft_29 (by decide) ?_
          refine lv_iload_n hx hb dX4_soft_30 rfl (lv_at hl 2 rfl) ?_
          refine r_ishl hx hb dX4_soft_31 ?_
          refine lv_ior hx hb dX4_soft_32 ?_
          refine lv_topi (fun x5 ex5 => ?_)
          have h := k_lt ex5 h
          refine lv_istore_n (lv' := [(1, .int x5), (0, .ref (ad 0)), (2, .int x2)]) hx hb dX4_soft_33 rfl hl (by decide) rfl (fun ls hl => ?_)
          obtain ⟨x6, ex6, h⟩ := k_ltx h
          refine lv_iinc (v := x6) (lv' := [(2, .int x6), (1, .int x5), (0, .ref (ad 0))]) hx hb dX4_soft_34 hl (k := 2) rfl (by rw [ex6]; rfl) (by decide) rfl (fun ls hl => ?_)
          refine lv_goto (tgt := 4) hx hb dX4_soft_37 (by decide) ?_
          exact ih _ _ _ _ _ h hP (lv_sub hl [2, 1, 0] rfl)
  exact hL4 FU _ _ _ _ _ h hP (lv_sub hl [2, 1, 0] rfl)
def f_X4_after (σ : MM) (a1 : Int32) : Option (Int32 × MM) :=
  if (f_X4_isMove σ a1) = true then ob (f_X4_mayBe σ a1) (fun b1 => if b1 = true then ob (f_X4_howMany σ) (fun x4 => if x4 ≤ 7 then ob2 (f_X4_makes σ a1) (fun x6 σ5 => ob2 (f_X4_search 10 σ5) (fun x8 σ7 => lt (-x8) (fun x9 => ob (f_X4_takes σ7 a1) (fun σ10 => some (x9, σ10))))) else ob2 (f_X4_noLead σ (-5)) (fun x12 σ11 => some (x12, σ11))) else ob2 (f_X4_noLead σ (-5)) (fun x3 σ2 => some (x3, σ2))) else ob2 (f_X4_noLead σ (-2)) (fun x14 σ13 => some (x14, σ13))
set_option maxHeartbeats 4000000 in
set_option maxRecDepth 100000 in
theorem c_X4_after (l : Launch) (ev : EV) (ad : Nat → Nat) (σ : MM) (a1 : Int32)   (r : Int32) (σ' : MM) (h : f_X4_after σ a1 = some (r, σ')) : Ct l yX4_after prog_6_method_101_code 3 (Option.some Jvm.ClassFile.FieldType.int) (rmk 32 1110) ev 13 ad (mw ev ad σ) (mw ev ad σ') [.ref (ad 0), .int a1] (some (.int r)) := by
  refine Ct.of (by decide +kernel) (Nat.le_of_ble_eq_true rfl) ?_
  intro p e s m args below meth c Qc C hap hP hend ls hl
  have hAA : ∀ j, j < 13 → inA ad 13 (ad j) := fun j hj => ⟨j, hj, rfl⟩
  have hx := C.1
  have hb := C.2.1
  have hl : lv_has ls 3 [(0, .ref (ad 0)), (1, .int a1)] := hl
  have h := (f_X4_after.eq_1 _ _ ).symm.trans h
  refine lv_aload_n hx hb dX4_after_0 rfl (lv_at hl 0 rfl) ?_
  refine lv_iload_n hx hb dX4_after_1 rfl (lv_at hl 1 rfl) ?_
  refine k_callVi C hP hap hAA (c_X4_isMove l ev ad σ a1   _ rfl) Emb.same hap gz_X4_isMove qML_RX4_173 qIM_yX4_isMove qSE_yX4_isMove ⟨(Nat.le_of_ble_eq_true rfl), (Nat.le_of_ble_eq_true rfl)⟩ (q0 := 0) rfl (by decide) rfl rfl rfl rfl hl.1 rfl (Nat.le_of_ble_eq_true rfl) dX4_after_2 ⟨Nat.le_refl _, Nat.le_refl _⟩ (fun H locs hP => ?_)
  refine r_ifz_ne (tgt := 15) hx hb dX4_after_5 (by decide) (fun c5 => ?_) (fun c5 => ?_)
  · have h := k_if c5 h
    refine lv_aload_n hx hb dX4_after_15 rfl (lv_at hl 0 rfl) ?_
    refine lv_iload_n hx hb dX4_after_16 rfl (lv_at hl 1 rfl) ?_
    obtain ⟨b1, h1, h⟩ := k_ob h
    refine k_callVi C hP hap hAA (c_X4_mayBe l ev ad σ a1   _ h1) Emb.same hap gz_X4_mayBe qML_RX4_176 qIM_yX4_mayBe qSE_yX4_mayBe ⟨(Nat.le_of_ble_eq_true rfl), (Nat.le_of_ble_eq_true rfl)⟩ (q0 := 0) rfl (by decide) rfl rfl rfl rfl hl.1 rfl (Nat.le_of_ble_eq_true rfl) dX4_after_17 ⟨Nat.le_refl _, Nat.le_refl _⟩ (fun H locs hP => ?_)
    refine r_ifz_eq (tgt := 32) hx hb dX4_after_20 (by decide) (fun c20 => ?_) (fun c20 => ?_)
    · have h := k_nf c20 h
      refine lv_aload_n hx hb dX4_after_32 rfl (lv_at hl 0 rfl) ?_
      refine lv_bipush (v := (-5)) hx hb dX4_after_33 (by decide) ?_
      obtain ⟨x3, σ2, h1, h⟩ := k_ob2 h
      refine k_callVi C hP hap hAA (c_X4_noLead l ev ad σ (-5)   _ _ h1) Emb.same hap gz_X4_noLead qML_RX4_229 qIM_yX4_noLead qSE_yX4_noLead ⟨(Nat.le_of_ble_eq_true rfl), (Nat.le_of_ble_eq_true rfl)⟩ (q0 := 0) rfl (by decide) rfl rfl rfl rfl hl.1 rfl (Nat.le_of_ble_eq_true rfl) dX4_after_35 ⟨Nat.le_refl _, Nat.le_refl _⟩ (fun H locs hP => ?_)
      exact e_iret C hend hP (k_some2 h).1 (congrArg (mw ev ad) (k_some2 h).2) dX4_after_38
    · have h := k_if c20 h
      refine lv_aload_n hx hb dX4_after_23 rfl (lv_at hl 0 rfl) ?_
      obtain ⟨x4, h1, h⟩ := k_ob h
      refine k_callVi C hP hap hAA (c_X4_howMany l ev ad σ   _ h1) Emb.same hap gz_X4_howMany qML_RX4_94 qIM_yX4_howMany qSE_yX4_howMany ⟨(Nat.le_of_ble_eq_true rfl), (Nat.le_of_ble_eq_true rfl)⟩ (q0 := 0) rfl (by decide) rfl rfl rfl rfl hl.1 rfl (Nat.le_of_ble_eq_true rfl) dX4_after_24 ⟨Nat.le_refl _, Nat.le_refl _⟩ (fun H locs hP => ?_)
      refine lv_bipush (v := 7) hx hb dX4_after_27 (by decide) ?_
      refine lv_icmp_le (tgt := 39) hx hb dX4_after_29 (by decide) (fun c29 => ?_) (fun c29 => ?_)
      · have h := k_if c29 h
        refine lv_aload_n hx hb dX4_after_39 rfl (lv_at hl 0 rfl) ?_
        refine lv_iload_n hx hb dX4_after_40 rfl (lv_at hl 1 rfl) ?_
        obtain ⟨x6, σ5, h1, h⟩ := k_ob2 h
        refine k_callVi C hP hap hAA (c_X4_makes l ev ad σ a1   _ _ h1) Emb.same hap gz_X4_makes qML_RX4_179 qIM_yX4_makes qSE_yX4_makes ⟨(Nat.le_of_ble_eq_true rfl), (Nat.le_of_ble_eq_true rfl)⟩ (q0 := 0) rfl (by decide) rfl rfl rfl rfl hl.1 rfl (Nat.le_of_ble_eq_true rfl) dX4_after_41 ⟨Nat.le_refl _, Nat.le_refl _⟩ (fun H locs hP => ?_)
        refine lv_pop hx hb dX4_after_44 rfl ?_
        refine lv_aload_n hx hb dX4_after_45 rfl (lv_at hl 0 rfl) ?_
        obtain ⟨x8, σ7, h1, h⟩ := k_ob2 h
        refine k_callVi C hP hap hAA (c_X4_search l ev 10 ad σ5   _ _ h1) Emb.same hap gz_X4_search qML_RX4_235 qIM_yX4_search qSE_yX4_search ⟨(Nat.le_of_ble_eq_true rfl), (Nat.le_of_ble_eq_true rfl)⟩ (q0 := 0) rfl (by decide) rfl rfl rfl rfl hl.1 rfl (Nat.le_of_ble_eq_true rfl) dX4_after_46 ⟨Nat.le_refl _, Nat.le_refl _⟩ (fun H locs hP => ?_)
        refine lv_ineg hx hb dX4_after_49 ?_
        refine lv_topi (fun x9 ex9 => ?_)
        have h := k_lt ex9 h
        refine lv_istore_n (lv' := [(2, .int x9), (0, .ref (ad 0)), (1, .int a1)]) hx hb dX4_after_50 rfl hl (by decide) rfl (fun ls hl => ?_)
        refine lv_aload_n hx hb dX4_after_51 rfl (lv_at hl 1 rfl) ?_
        refine lv_iload_n hx hb dX4_after_52 rfl (lv_at hl 2 rfl) ?_
        obtain ⟨σ10, h1, h⟩ := k_ob h
        refine k_callVv C hP hap hAA (c_X4_takes l ev ad σ7 a1   _ h1) Emb.same hap gz_X4_takes qML_RX4_238 qIM_yX4_takes qSE_yX4_takes ⟨(Nat.le_of_ble_eq_true rfl), (Nat.le_of_ble_eq_true rfl)⟩ (q0 := 0) rfl (by decide) rfl rfl rfl rfl hl.1 rfl (Nat.le_of_ble_eq_true rfl) dX4_after_53 ⟨Nat.le_refl _, Nat.le_refl _⟩ (fun H locs hP => ?_)
        refine lv_iload_n hx hb dX4_after_56 rfl (lv_at hl 0 rfl) ?_
        exact e_iret C hend hP (k_some2 h).1 (congrArg (mw ev ad) (k_some2 h).2) dX4_after_57
      · have h := k_nf c29 h
        refine lv_aload_n hx hb dX4_after_32 rfl (lv_at hl 0 rfl) ?_
        refine lv_bipush (v := (-5)) hx hb dX4_after_33 (by decide) ?_
        obtain ⟨x12, σ11, h1, h⟩ := k_ob2 h
        refine k_callVi C hP hap hAA (c_X4_noLead l ev ad σ (-5)   _ _ h1) Emb.same hap gz_X4_noLead qML_RX4_229 qIM_yX4_noLead qSE_yX4_noLead ⟨(Nat.le_of_ble_eq_true rfl), (Nat.le_of_ble_eq_true rfl)⟩ (q0 := 0) rfl (by decide) rfl rfl rfl rfl hl.1 rfl (Nat.le_of_ble_eq_true rfl) dX4_after_35 ⟨Nat.le_refl _, Nat.le_refl _⟩ (fun H locs hP => ?_)
        exact e_iret C hend hP (k_some2 h).1 (congrArg (mw ev ad) (k_some2 h).2) dX4_after_38
  · have h := k_nf c5 h
    refine lv_aload_n hx hb dX4_after_8 rfl (lv_at hl 0 rfl) ?_
    refine lv_bipush (v := (-2)) hx hb dX4_after_9 (by decide) ?_
    obtain ⟨x14, σ13, h1, h⟩ := k_ob2 h
    refine k_callVi C hP hap hAA (c_X4_noLead l ev ad σ (-2)   _ _ h1) Emb.same hap gz_X4_noLead qML_RX4_229 qIM_yX4_noLead qSE_yX4_noLead ⟨(Nat.le_of_ble_eq_true rfl), (Nat.le_of_ble_eq_true rfl)⟩ (q0 := 0) rfl (by decide) rfl rfl rfl rfl hl.1 rfl (Nat.le_of_ble_eq_true rfl) dX4_after_11 ⟨Nat.le_refl _, Nat.le_refl _⟩ (fun H locs hP => ?_)
    exact e_iret C hend hP (k_some2 h).1 (congrArg (mw ev ad) (k_some2 h).2) dX4_after_14
def f_X4_winsOf_L18_b (a1 : Int32) (x2 : Int32)  (rec18 : Int32 → Int32 → MM → Option (Int32 × MM)) (x4 : Int32) (x5 : Int32) (σ6 : MM) : Option (Int32 × MM) :=
  if (m_players σ6) ≤ x5 then some (x4, σ6) else if x5 = a1 then lt (x5 + 1) (fun x7 => rec18 x4 x7 σ6) else ob2 (f_X4_leadPlayed σ6 a1 x5) (fun x9 σ8 => ob2 (f_X4_leadPlayed σ8 x5 a1) (fun x11 σ10 => lt (x4 + (x2 * (x9 - x11))) (fun x12 => lt (x5 + 1) (fun x13 => rec18 x12 x13 σ10))))
def f_X4_winsOf_L18 (a1 : Int32) (x2 : Int32)  (x4 : Int32) (x5 : Int32) (σ6 : MM) : Option (Int32 × MM) :=
  lp (fun _ _ _ => none) (f_X4_winsOf_L18_b a1 x2 ) FU x4 x5 σ6
def f_X4_winsOf_b14 (a1 : Int32) (x1 : Int32) (x2 : Int32) (σ3 : MM) : Option (Int32 × MM) :=
  f_X4_winsOf_L18 a1 x2 x1 0 σ3
def f_X4_winsOf (σ : MM) (a1 : Int32) : Option (Int32 × MM) :=
  if (m_turn σ) = 0 then f_X4_winsOf_b14 a1 0 1 σ else f_X4_winsOf_b14 a1 0 (-1) σ
set_option maxHeartbeats 4000000 in
set_option maxRecDepth 100000 in
theorem c_X4_winsOf (l : Launch) (ev : EV) (ad : Nat → Nat) (σ : MM) (a1 : Int32)   (r : Int32) (σ' : MM) (h : f_X4_winsOf σ a1 = some (r, σ')) : Ct l yX4_winsOf prog_6_method_102_code 5 (Option.some Jvm.ClassFile.FieldType.int) (rmk 10 229) ev 13 ad (mw ev ad σ) (mw ev ad σ') [.ref (ad 0), .int a1] (some (.int r)) := by
  refine Ct.of (by decide +kernel) (Nat.le_of_ble_eq_true rfl) ?_
  intro p e s m args below meth c Qc C hap hP hend ls hl
  have hAA : ∀ j, j < 13 → inA ad 13 (ad j) := fun j hj => ⟨j, hj, rfl⟩
  have hx := C.1
  have hb := C.2.1
  have hl : lv_has ls 5 [(0, .ref (ad 0)), (1, .int a1)] := hl
  have h := (f_X4_winsOf.eq_1 _ _ ).symm.trans h
  have hB14 : ∀ (x1 : Int32) (x2 : Int32) (σ3 : MM) (H : Heap) (locs : List Loc) (ls : Array Slot), f_X4_winsOf_b14 a1 x1 x2 σ3 = some (r, σ') → PS ev 13 ad (mw ev ad σ3) (inA ad 13) s H locs → lv_has ls 5 [(0, .ref (ad 0)), (1, .int a1), (2, .int x1)] → WW ev p l e (rmk 10 229) s m args below meth c Qc ad 13 H locs 14 ls [.int x2] := by
    intro x1 x2 σ3 H locs ls h hP hl
    have h := (f_X4_winsOf_b14.eq_1 _ _ _ _ ).symm.trans h
    refine lv_istore_n (lv' := [(3, .int x2), (0, .ref (ad 0)), (1, .int a1), (2, .int x1)]) hx hb dX4_winsOf_14 rfl hl (by decide) rfl (fun ls hl => ?_)
    refine lv_iconst (v := 0) hx hb dX4_winsOf_15 (by decide) ?_
    refine lv_istore (lv' := [(4, .int 0), (3, .int x2), (0, .ref (ad 0)), (1, .int a1), (2, .int x1)]) hx hb dX4_winsOf_16 hl (by decide) rfl (fun ls hl => ?_)
    have hL18 : ∀ (n : Nat) (x4 : Int32) (x5 : Int32) (σ6 : MM) (H : Heap) (locs : List Loc) (ls : Array Slot), lp (fun _ _ _ => none) (f_X4_winsOf_L18_b a1 x2 ) n x4 x5 σ6 = some (r, σ') → PS ev 13 ad (mw ev ad σ6) (inA ad 13) s H locs → lv_has ls 5 [(0, .ref (ad 0)), (1, .int a1), (2, .int x4), (3, .int x2), (4, .int x5)] → WW ev p l e (rmk 10 229) s m args below meth c Qc ad 13 H locs 18 ls [] := by
      intro n
      induction n with
      | zero =>
        intro x4 x5 σ6 H locs ls h; exact k_none h
      | succ n ih =>
        intro x4 x5 σ6 H locs ls h hP hl
        have h : f_X4_winsOf_L18_b a1 x2  (lp (fun _ _ _ => none) (f_X4_winsOf_L18_b a1 x2 ) n) x4 x5 σ6 = some (r, σ') := h
        have h := (f_X4_winsOf_L18_b.eq_1 _ _ _ _ _ _ ).symm.trans h
        refine lv_iload hx hb dX4_winsOf_18 (lv_at hl 4 rfl) ?_
        refine lv_aload_n hx hb dX4_winsOf_20 rfl (lv_at hl 0 rfl) ?_
        refine r_get C hP (ci := 4) rfl uin_X4 7 (by decide) 0 (by decide) rfl qFL_RX4_60 rfl rfl dX4_winsOf_21 ?_
        refine lv_icmp_ge (tgt := 59) hx hb dX4_winsOf_24 (by decide) (fun c24 => ?_) (fun c24 => ?_)
        · have h := k_if c24 h
          refine lv_iload_n hx hb dX4_winsOf_59 rfl (lv_at hl 2 rfl) ?_
          exact e_iret C hend hP (k_some2 h).1 (congrArg (mw ev ad) (k_some2 h).2) dX4_winsOf_60
        · have h := k_nf c24 h
          refine lv_iload hx hb dX4_winsOf_27 (lv_at hl 4 rfl) ?_
          refine lv_iload_n hx hb dX4_winsOf_29 rfl (lv_at hl 1 rfl) ?_
          refine lv_icmp_eq (tgt := 53) hx hb dX4_winsOf_30 (by decide) (fun c30 => ?_) (fun c30 => ?_)
          · have h := k_if c30 h
            obtain ⟨x7, ex7, h⟩ := k_ltx h
            refine lv_iinc (v := x7) (lv' := [(4, .int x7), (0, .ref (ad 0)), (1, .int a1), (2, .int x4), (3, .int x2)]) hx hb dX4_winsOf_53 hl (k := 4) rfl (by rw [ex7]; rfl) (by decide) rfl (fun ls hl => ?_)
            refine lv_goto (tgt := 18) hx hb dX4_winsOf_56 (by decide) ?_
            exact ih _ _ _ _ _ _ h hP (lv_sub hl [1, 2, 3, 4, 0] rfl)
          · have h := k_nf c30 h
            refine lv_iload_n hx hb dX4_winsOf_33 rfl (lv_at hl 2 rfl) ?_
            refine lv_iload_n hx hb dX4_winsOf_34 rfl (lv_at hl 3 rfl) ?_
            refine lv_aload_n hx hb dX4_winsOf_35 rfl (lv_at hl 0 rfl) ?_
            refine lv_iload_n hx hb dX4_winsOf_36 rfl (lv_at hl 1 rfl) ?_
            refine lv_iload hx hb dX4_winsOf_37 (lv_at hl 4 rfl) ?_
            obtain ⟨x9, σ8, h1, h⟩ := k_ob2 h
            refine k_callVi C hP hap hAA (c_X4_leadPlayed l ev ad σ6 a1 x5   _ _ h1) Emb.same hap gz_X4_leadPlayed qML_RX4_291 qIM_yX4_leadPlayed qSE_yX4_leadPlayed ⟨(Nat.le_of_ble_eq_true rfl), (Nat.le_of_ble_eq_true rfl)⟩ (q0 := 0) rfl (by decide) rfl rfl rfl rfl hl.1 rfl (Nat.le_of_ble_eq_true rfl) dX4_winsOf_39 ⟨Nat.le_refl _, Nat.le_refl _⟩ (fun H locs hP => ?_)
            refine lv_aload_n hx hb dX4_winsOf_42 rfl (lv_at hl 0 rfl) ?_
            refine lv_iload hx hb dX4_winsOf_43 (lv_at hl 4 rfl) ?_
            refine lv_iload_n hx hb dX4_winsOf_45 rfl (lv_at hl 1 rfl) ?_
            obtain ⟨x11, σ10, h1, h⟩ := k_ob2 h
            refine k_callVi C hP hap hAA (c_X4_leadPlayed l ev ad σ8 x5 a1   _ _ h1) Emb.same hap gz_X4_leadPlayed qML_RX4_291 qIM_yX4_leadPlayed qSE_yX4_leadPlayed ⟨(Nat.le_of_ble_eq_true rfl), (Nat.le_of_ble_eq_true rfl)⟩ (q0 := 0) rfl (by decide) rfl rfl rfl rfl hl.1 rfl (Nat.le_of_ble_eq_true rfl) dX4_winsOf_46 ⟨Nat.le_refl _, Nat.le_refl _⟩ (fun H locs hP => ?_)
            refine lv_isub hx hb dX4_winsOf_49 ?_
            refine lv_imul hx hb dX4_winsOf_50 ?_
            refine lv_iadd hx hb dX4_winsOf_51 ?_
            refine lv_topi (fun x12 ex12 => ?_)
            have h := k_lt ex12 h
            refine lv_istore_n (lv' := [(2, .int x12), (0, .ref (ad 0)), (1, .int a1), (3, .int x2), (4, .int x5)]) hx hb dX4_winsOf_52 rfl hl (by decide) rfl (fun ls hl => ?_)
            obtain ⟨x13, ex13, h⟩ := k_ltx h
            refine lv_iinc (v := x13) (lv' := [(4, .int x13), (2, .int x12), (0, .ref (ad 0)), (1, .int a1), (3, .int x2)]) hx hb dX4_winsOf_53 hl (k := 4) rfl (by rw [ex13]; rfl) (by decide) rfl (fun ls hl => ?_)
            refine lv_goto (tgt := 18) hx hb dX4_winsOf_56 (by decide) ?_
            exact ih _ _ _ _ _ _ h hP (lv_sub hl [2, 3, 1, 4, 0] rfl)
    exact hL18 FU _ _ _ _ _ _ h hP (lv_sub hl [2, 3, 4, 1, 0] rfl)
  refine lv_iconst (v := 0) hx hb dX4_winsOf_0 (by decide) ?_
  refine lv_istore_n (lv' := [(2, .int 0), (0, .ref (ad 0)), (1, .int a1)]) hx hb dX4_winsOf_1 rfl hl (by decide) rfl (fun ls hl => ?_)
  refine lv_aload_n hx hb dX4_winsOf_2 rfl (lv_at hl 1 rfl) ?_
  refine r_get C hP (ci := 4) rfl uin_X4 5 (by decide) 0 (by decide) rfl qFL_RX4_101 rfl rfl dX4_winsOf_3 ?_
  refine lv_if_ne (tgt := 13) hx hb dX4_winsOf_6 (by decide) (fun c6 => ?_) (fun c6 => ?_)
  · have h := k_nf c6 h
    refine lv_iconst (v := (-1)) hx hb dX4_winsOf_13 (by decide) ?_
    exact hB14 _ _ _ _ _ _ h hP (lv_sub hl [1, 2, 0] rfl)
  · have h := k_if c6 h
    refine lv_iconst (v := 1) hx hb dX4_winsOf_9 (by decide) ?_
    refine lv_goto (tgt := 14) hx hb dX4_winsOf_10 (by decide) ?_
    exact hB14 _ _ _ _ _ _ h hP (lv_sub hl [1, 2, 0] rfl)
