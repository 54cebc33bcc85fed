/-! functions read off, and their contracts: by program (wip/whole/gen2.py) -/
def f_X4_lived_L2_b (a1 : Int32) (a2 : Int32)  (rec2 : Int32 → MM → Option (Int32 × MM)) (x1 : Int32) (σ2 : MM) : Option (Int32 × MM) :=
  if a2 ≤ x1 then some ((-1), σ2) else ob (f_X4_toldAt σ2 a1 x1) (fun x3 => if (f_X4_isMove σ2 x3) = true then ob (f_X4_mayBe σ2 x3) (fun b4 => if b4 = true then ob2 (f_X4_makes σ2 x3) (fun x6 σ5 => lt (x1 + 1) (fun x7 => rec2 x7 σ5)) else some (x1, σ2)) else some (x1, σ2))
def f_X4_lived_L2 (a1 : Int32) (a2 : Int32)  (x1 : Int32) (σ2 : MM) : Option (Int32 × MM) :=
  lp (fun _ _ => none) (f_X4_lived_L2_b a1 a2 ) FU x1 σ2
def f_X4_lived (σ : MM) (a1 : Int32) (a2 : Int32) : Option (Int32 × MM) :=
  f_X4_lived_L2 a1 a2 0 σ
set_option maxHeartbeats 4000000 in
set_option maxRecDepth 100000 in
theorem c_X4_lived (l : Launch) (ev : EV) (ad : Nat → Nat) (σ : MM) (a1 : Int32) (a2 : Int32)   (r : Int32) (σ' : MM) (h : f_X4_lived σ a1 a2 = some (r, σ')) : Ct l yX4_lived prog_6_method_108_code 5 (Option.some Jvm.ClassFile.FieldType.int) (rmk 4 91) ev 13 ad (mw ev ad σ) (mw ev ad σ') [.ref (ad 0), .int a1, .int a2] (some (.int r)) := by
  refine Ct.of (by decide +kernel) (Nat.le_of_ble_eq_true rfl) ?_
  intro p e s m args below meth c Qc C hap hP hend ls hl
  have hAA : ∀ j, j < 13 → inA ad 13 (ad j) := fun j hj => ⟨j, hj, rfl⟩
  have hx := C.1
  have hb := C.2.1
  have hl : lv_has ls 5 [(0, .ref (ad 0)), (1, .int a1), (2, .int a2)] := hl
  have h := (f_X4_lived.eq_1 _ _ _ ).symm.trans h
  refine lv_iconst (v := 0) hx hb dX4_lived_0 (by decide) ?_
  refine lv_istore_n (lv' := [(3, .int 0), (0, .ref (ad 0)), (1, .int a1), (2, .int a2)]) hx hb dX4_lived_1 rfl hl (by decide) rfl (fun ls hl => ?_)
  have hL2 : ∀ (n : Nat) (x1 : Int32) (σ2 : MM) (H : Heap) (locs : List Loc) (ls : Array Slot), lp (fun _ _ => none) (f_X4_lived_L2_b a1 a2 ) n x1 σ2 = some (r, σ') → PS ev 13 ad (mw ev ad σ2) (inA ad 13) s H locs → lv_has ls 5 [(0, .ref (ad 0)), (1, .int a1), (2, .int a2), (3, .int x1)] → WW ev p l e (rmk 4 91) s m args below meth c Qc ad 13 H locs 2 ls [] := by
    intro n
    induction n with
    | zero =>
      intro x1 σ2 H locs ls h; exact k_none h
    | succ n ih =>
      intro x1 σ2 H locs ls h hP hl
      have h : f_X4_lived_L2_b a1 a2  (lp (fun _ _ => none) (f_X4_lived_L2_b a1 a2 ) n) x1 σ2 = some (r, σ') := h
      have h := (f_X4_lived_L2_b.eq_1 _ _ _ _ _ ).symm.trans h
      refine lv_iload_n hx hb dX4_lived_2 rfl (lv_at hl 3 rfl) ?_
      refine lv_iload_n hx hb dX4_lived_3 rfl (lv_at hl 2 rfl) ?_
      refine lv_icmp_ge (tgt := 48) hx hb dX4_lived_4 (by decide) (fun c4 => ?_) (fun c4 => ?_)
      · have h := k_if c4 h
        refine lv_iconst (v := (-1)) hx hb dX4_lived_48 (by decide) ?_
        exact e_iret C hend hP (k_some2 h).1 (congrArg (mw ev ad) (k_some2 h).2) dX4_lived_49
      · have h := k_nf c4 h
        refine lv_aload_n hx hb dX4_lived_7 rfl (lv_at hl 0 rfl) ?_
        refine lv_iload_n hx hb dX4_lived_8 rfl (lv_at hl 1 rfl) ?_
        refine lv_iload_n hx hb dX4_lived_9 rfl (lv_at hl 3 rfl) ?_
        obtain ⟨x3, h1, h⟩ := k_ob h
        refine k_callVi C hP hap hAA (c_X4_toldAt l ev ad σ2 a1 x1   _ h1) Emb.same hap gz_X4_toldAt qML_RX4_297 qIM_yX4_toldAt qSE_yX4_toldAt ⟨(Nat.le_of_ble_eq_true rfl), (Nat.le_of_ble_eq_true rfl)⟩ (q0 := 0) rfl (by decide) rfl rfl rfl rfl hl.1 rfl (Nat.le_of_ble_eq_true rfl) dX4_lived_10 ⟨Nat.le_refl _, Nat.le_refl _⟩ (fun H locs hP => ?_)
        refine lv_istore (lv' := [(4, .int x3), (0, .ref (ad 0)), (1, .int a1), (2, .int a2), (3, .int x1)]) hx hb dX4_lived_13 hl (by decide) rfl (fun ls hl => ?_)
        refine lv_aload_n hx hb dX4_lived_15 rfl (lv_at hl 1 rfl) ?_
        refine lv_iload hx hb dX4_lived_16 (lv_at hl 0 rfl) ?_
        refine k_callVi C hP hap hAA (c_X4_isMove l ev ad σ2 x3   _ rfl) Emb.same hap gz_X4_isMove qML_RX4_173 qIM_yX4_isMove qSE_yX4_isMove ⟨(Nat.le_of_ble_eq_true rfl), (Nat.le_of_ble_eq_true rfl)⟩ (q0 := 0) rfl (by decide) rfl rfl rfl rfl hl.1 rfl (Nat.le_of_ble_eq_true rfl) dX4_lived_18 ⟨Nat.le_refl _, Nat.le_refl _⟩ (fun H locs hP => ?_)
        refine r_ifz_eq (tgt := 33) hx hb dX4_lived_21 (by decide) (fun c21 => ?_) (fun c21 => ?_)
        · have h := k_nf c21 h
          refine lv_iload_n hx hb dX4_lived_33 rfl (lv_at hl 4 rfl) ?_
          exact e_iret C hend hP (k_some2 h).1 (congrArg (mw ev ad) (k_some2 h).2) dX4_lived_34
        · have h := k_if c21 h
          refine lv_aload_n hx hb dX4_lived_24 rfl (lv_at hl 1 rfl) ?_
          refine lv_iload hx hb dX4_lived_25 (lv_at hl 0 rfl) ?_
          obtain ⟨b4, h1, h⟩ := k_ob h
          refine k_callVi C hP hap hAA (c_X4_mayBe l ev ad σ2 x3   _ h1) Emb.same hap gz_X4_mayBe qML_RX4_176 qIM_yX4_mayBe qSE_yX4_mayBe ⟨(Nat.le_of_ble_eq_true rfl), (Nat.le_of_ble_eq_true rfl)⟩ (q0 := 0) rfl (by decide) rfl rfl rfl rfl hl.1 rfl (Nat.le_of_ble_eq_true rfl) dX4_lived_27 ⟨Nat.le_refl _, Nat.le_refl _⟩ (fun H locs hP => ?_)
          refine r_ifz_ne (tgt := 35) hx hb dX4_lived_30 (by decide) (fun c30 => ?_) (fun c30 => ?_)
          · have h := k_if c30 h
            refine lv_aload_n hx hb dX4_lived_35 rfl (lv_at hl 1 rfl) ?_
            refine lv_iload hx hb dX4_lived_36 (lv_at hl 0 rfl) ?_
            obtain ⟨x6, σ5, h1, h⟩ := k_ob2 h
            refine k_callVi C hP hap hAA (c_X4_makes l ev ad σ2 x3   _ _ h1) Emb.same hap gz_X4_makes qML_RX4_179 qIM_yX4_makes qSE_yX4_makes ⟨(Nat.le_of_ble_eq_true rfl), (Nat.le_of_ble_eq_true rfl)⟩ (q0 := 0) rfl (by decide) rfl rfl rfl rfl hl.1 rfl (Nat.le_of_ble_eq_true rfl) dX4_lived_38 ⟨Nat.le_refl _, Nat.le_refl _⟩ (fun H locs hP => ?_)
            refine lv_pop hx hb dX4_lived_41 rfl ?_
            obtain ⟨x7, ex7, h⟩ := k_ltx h
            refine lv_iinc (v := x7) (lv' := [(3, .int x7), (4, .int x3), (0, .ref (ad 0)), (1, .int a1), (2, .int a2)]) hx hb dX4_lived_42 hl (k := 4) rfl (by rw [ex7]; rfl) (by decide) rfl (fun ls hl => ?_)
            refine lv_goto (tgt := 2) hx hb dX4_lived_45 (by decide) ?_
            exact ih _ _ _ _ _ h hP (lv_sub hl [2, 3, 4, 0] rfl)
          · have h := k_nf c30 h
            refine lv_iload_n hx hb dX4_lived_33 rfl (lv_at hl 4 rfl) ?_
            exact e_iret C hend hP (k_some2 h).1 (congrArg (mw ev ad) (k_some2 h).2) dX4_lived_34
  exact hL2 FU _ _ _ _ _ h hP (lv_sub hl [1, 2, 3, 0] rfl)
def f_X4_judge (σ : MM) (a1 : Int32) (a2 : Int32) : Option (Int32 × MM) :=
  ob (f_X4_noGame σ a1 a2) (fun x1 => if 0 ≤ x1 then ob (f_X4_keep_ahead σ) (fun σ2 => ob2 (f_X4_lived σ2 a1 a2) (fun x4 σ3 => ob (f_X4_again_ahead σ3) (fun σ5 => some (x4, σ5)))) else ob2 (f_X4_no σ x1) (fun x7 σ6 => some (x7, σ6)))
set_option maxHeartbeats 4000000 in
set_option maxRecDepth 100000 in
theorem c_X4_judge (l : Launch) (ev : EV) (ad : Nat → Nat) (σ : MM) (a1 : Int32) (a2 : Int32)   (r : Int32) (σ' : MM) (h : f_X4_judge σ a1 a2 = some (r, σ')) : Ct l yX4_judge prog_6_method_109_code 5 (Option.some Jvm.ClassFile.FieldType.int) (rmk 5 115) ev 13 ad (mw ev ad σ) (mw ev ad σ') [.ref (ad 0), .int a1, .int a2] (some (.int r)) := by
  refine Ct.of (by decide +kernel) (Nat.le_of_ble_eq_true rfl) ?_
  intro p e s m args below meth c Qc C hap hP hend ls hl
  have hAA : ∀ j, j < 13 → inA ad 13 (ad j) := fun j hj => ⟨j, hj, rfl⟩
  have hx := C.1
  have hb := C.2.1
  have hl : lv_has ls 5 [(0, .ref (ad 0)), (1, .int a1), (2, .int a2)] := hl
  have h := (f_X4_judge.eq_1 _ _ _ ).symm.trans h
  refine lv_aload_n hx hb dX4_judge_0 rfl (lv_at hl 0 rfl) ?_
  refine lv_iload_n hx hb dX4_judge_1 rfl (lv_at hl 1 rfl) ?_
  refine lv_iload_n hx hb dX4_judge_2 rfl (lv_at hl 2 rfl) ?_
  obtain ⟨x1, h1, h⟩ := k_ob h
  refine k_callVi C hP hap hAA (c_X4_noGame l ev ad σ a1 a2   _ h1) Emb.same hap gz_X4_noGame qML_RX4_300 qIM_yX4_noGame qSE_yX4_noGame ⟨(Nat.le_of_ble_eq_true rfl), (Nat.le_of_ble_eq_true rfl)⟩ (q0 := 0) rfl (by decide) rfl rfl rfl rfl hl.1 rfl (Nat.le_of_ble_eq_true rfl) dX4_judge_3 ⟨Nat.le_refl _, Nat.le_refl _⟩ (fun H locs hP => ?_)
  refine lv_istore_n (lv' := [(3, .int x1), (0, .ref (ad 0)), (1, .int a1), (2, .int a2)]) hx hb dX4_judge_6 rfl hl (by decide) rfl (fun ls hl => ?_)
  refine lv_iload_n hx hb dX4_judge_7 rfl (lv_at hl 0 rfl) ?_
  refine lv_if_ge (tgt := 17) hx hb dX4_judge_8 (by decide) (fun c8 => ?_) (fun c8 => ?_)
  · have h := k_if c8 h
    refine lv_aload_n hx hb dX4_judge_17 rfl (lv_at hl 1 rfl) ?_
    refine lv_aload_n hx hb dX4_judge_18 rfl (lv_at hl 1 rfl) ?_
    refine r_get C hP (ci := 4) rfl uin_X4 23 (by decide) 0 (by decide) rfl qFL_RX4_45 rfl rfl dX4_judge_19 ?_
    obtain ⟨σ2, h1, h⟩ := k_ob h
    refine k_callVv C hP hap hAA (c_X4_keep_ahead l ev ad σ   _ h1) Emb.same hap gz_X4_keep qML_RX4_185 qIM_yX4_keep qSE_yX4_keep ⟨(Nat.le_of_ble_eq_true rfl), (Nat.le_of_ble_eq_true rfl)⟩ (q0 := 0) rfl (by decide) rfl rfl rfl rfl hl.1 rfl (Nat.le_of_ble_eq_true rfl) dX4_judge_22 ⟨Nat.le_refl _, Nat.le_refl _⟩ (fun H locs hP => ?_)
    refine lv_aload_n hx hb dX4_judge_25 rfl (lv_at hl 1 rfl) ?_
    refine lv_iload_n hx hb dX4_judge_26 rfl (lv_at hl 2 rfl) ?_
    refine lv_iload_n hx hb dX4_judge_27 rfl (lv_at hl 3 rfl) ?_
    obtain ⟨x4, σ3, h1, h⟩ := k_ob2 h
    refine k_callVi C hP hap hAA (c_X4_lived l ev ad σ2 a1 a2   _ _ h1) Emb.same hap gz_X4_lived qML_RX4_303 qIM_yX4_lived qSE_yX4_lived ⟨(Nat.le_of_ble_eq_true rfl), (Nat.le_of_ble_eq_true rfl)⟩ (q0 := 0) rfl (by decide) rfl rfl rfl rfl hl.1 rfl (Nat.le_of_ble_eq_true rfl) dX4_judge_28 ⟨Nat.le_refl _, Nat.le_refl _⟩ (fun H locs hP => ?_)
    refine lv_istore (lv' := [(4, .int x4), (3, .int x1), (0, .ref (ad 0)), (1, .int a1), (2, .int a2)]) hx hb dX4_judge_31 hl (by decide) rfl (fun ls hl => ?_)
    refine lv_aload_n hx hb dX4_judge_33 rfl (lv_at hl 2 rfl) ?_
    refine lv_aload_n hx hb dX4_judge_34 rfl (lv_at hl 2 rfl) ?_
    refine r_get C hP (ci := 4) rfl uin_X4 23 (by decide) 0 (by decide) rfl qFL_RX4_45 rfl rfl dX4_judge_35 ?_
    obtain ⟨σ5, h1, h⟩ := k_ob h
    refine k_callVv C hP hap hAA (c_X4_again_ahead l ev ad σ3   _ h1) Emb.same hap gz_X4_again qML_RX4_193 qIM_yX4_again qSE_yX4_again ⟨(Nat.le_of_ble_eq_true rfl), (Nat.le_of_ble_eq_true rfl)⟩ (q0 := 0) rfl (by decide) rfl rfl rfl rfl hl.1 rfl (Nat.le_of_ble_eq_true rfl) dX4_judge_38 ⟨Nat.le_refl _, Nat.le_refl _⟩ (fun H locs hP => ?_)
    refine lv_iload hx hb dX4_judge_41 (lv_at hl 0 rfl) ?_
    exact e_iret C hend hP (k_some2 h).1 (congrArg (mw ev ad) (k_some2 h).2) dX4_judge_43
  · have h := k_nf c8 h
    refine lv_aload_n hx hb dX4_judge_11 rfl (lv_at hl 1 rfl) ?_
    refine lv_iload_n hx hb dX4_judge_12 rfl (lv_at hl 0 rfl) ?_
    obtain ⟨x7, σ6, h1, h⟩ := k_ob2 h
    refine k_callVi C hP hap hAA (c_X4_no l ev ad σ x1   _ _ h1) Emb.same hap gz_X4_no qML_RX4_56 qIM_yX4_no qSE_yX4_no ⟨(Nat.le_of_ble_eq_true rfl), (Nat.le_of_ble_eq_true rfl)⟩ (q0 := 0) rfl (by decide) rfl rfl rfl rfl hl.1 rfl (Nat.le_of_ble_eq_true rfl) dX4_judge_13 ⟨Nat.le_refl _, Nat.le_refl _⟩ (fun H locs hP => ?_)
    exact e_iret C hend hP (k_some2 h).1 (congrArg (mw ev ad) (k_some2 h).2) dX4_judge_16
def f_X4_behind (σ : MM) (a1 : Int32) (a2 : Int32) : Option (Int32 × MM) :=
  ob (f_X4_noGame σ a1 a2) (fun x1 => if 0 ≤ x1 then ob (f_X4_keep_ahead σ) (fun σ2 => ob2 (f_X4_lived σ2 a1 a2) (fun x4 σ3 => ob (f_X4_leadOf σ3 0) (fun x5 => ob (f_X4_again_ahead σ3) (fun σ6 => if x4 = (-1) then some (x5, σ6) else ob2 (f_X4_noLead σ6 (-5)) (fun x8 σ7 => some (x8, σ7)))))) else ob2 (f_X4_noLead σ x1) (fun x10 σ9 => some (x10, σ9)))
set_option maxHeartbeats 4000000 in
set_option maxRecDepth 100000 in
theorem c_X4_behind (l : Launch) (ev : EV) (ad : Nat → Nat) (σ : MM) (a1 : Int32) (a2 : Int32)   (r : Int32) (σ' : MM) (h : f_X4_behind σ a1 a2 = some (r, σ')) : Ct l yX4_behind prog_6_method_110_code 6 (Option.some Jvm.ClassFile.FieldType.int) (rmk 9 206) ev 13 ad (mw ev ad σ) (mw ev ad σ') [.ref (ad 0), .int a1, .int a2] (some (.int r)) := by
  refine Ct.of (by decide +kernel) (Nat.le_of_ble_eq_true rfl) ?_
  intro p e s m args below meth c Qc C hap hP hend ls hl
  have hAA : ∀ j, j < 13 → inA ad 13 (ad j) := fun j hj => ⟨j, hj, rfl⟩
  have hx := C.1
  have hb := C.2.1
  have hl : lv_has ls 6 [(0, .ref (ad 0)), (1, .int a1), (2, .int a2)] := hl
  have h := (f_X4_behind.eq_1 _ _ _ ).symm.trans h
  refine lv_aload_n hx hb dX4_behind_0 rfl (lv_at hl 0 rfl) ?_
  refine lv_iload_n hx hb dX4_behind_1 rfl (lv_at hl 1 rfl) ?_
  refine lv_iload_n hx hb dX4_behind_2 rfl (lv_at hl 2 rfl) ?_
  obtain ⟨x1, h1, h⟩ := k_ob h
  refine k_callVi C hP hap hAA (c_X4_noGame l ev ad σ a1 a2   _ h1) Emb.same hap gz_X4_noGame qML_RX4_300 qIM_yX4_noGame qSE_yX4_noGame ⟨(Nat.le_of_ble_eq_true rfl), (Nat.le_of_ble_eq_true rfl)⟩ (q0 := 0) rfl (by decide) rfl rfl rfl rfl hl.1 rfl (Nat.le_of_ble_eq_true rfl) dX4_behind_3 ⟨Nat.le_refl _, Nat.le_refl _⟩ (fun H locs hP => ?_)
  refine lv_istore_n (lv' := [(3, .int x1), (0, .ref (ad 0)), (1, .int a1), (2, .int a2)]) hx hb dX4_behind_6 rfl hl (by decide) rfl (fun ls hl => ?_)
  refine lv_iload_n hx hb dX4_behind_7 rfl (lv_at hl 0 rfl) ?_
  refine lv_if_ge (tgt := 17) hx hb dX4_behind_8 (by decide) (fun c8 => ?_) (fun c8 => ?_)
  · have h := k_if c8 h
    refine lv_aload_n hx hb dX4_behind_17 rfl (lv_at hl 1 rfl) ?_
    refine lv_aload_n hx hb dX4_behind_18 rfl (lv_at hl 1 rfl) ?_
    refine r_get C hP (ci := 4) rfl uin_X4 23 (by decide) 0 (by decide) rfl qFL_RX4_45 rfl rfl dX4_behind_19 ?_
    obtain ⟨σ2, h1, h⟩ := k_ob h
    refine k_callVv C hP hap hAA (c_X4_keep_ahead l ev ad σ   _ h1) Emb.same hap gz_X4_keep qML_RX4_185 qIM_yX4_keep qSE_yX4_keep ⟨(Nat.le_of_ble_eq_true rfl), (Nat.le_of_ble_eq_true rfl)⟩ (q0 := 0) rfl (by decide) rfl rfl rfl rfl hl.1 rfl (Nat.le_of_ble_eq_true rfl) dX4_behind_22 ⟨Nat.le_refl _, Nat.le_refl _⟩ (fun H locs hP => ?_)
    refine lv_aload_n hx hb dX4_behind_25 rfl (lv_at hl 1 rfl) ?_
    refine lv_iload_n hx hb dX4_behind_26 rfl (lv_at hl 2 rfl) ?_
    refine lv_iload_n hx hb dX4_behind_27 rfl (lv_at hl 3 rfl) ?_
    obtain ⟨x4, σ3, h1, h⟩ := k_ob2 h
    refine k_callVi C hP hap hAA (c_X4_lived l ev ad σ2 a1 a2   _ _ h1) Emb.same hap gz_X4_lived qML_RX4_303 qIM_yX4_lived qSE_yX4_lived ⟨(Nat.le_of_ble_eq_true rfl), (Nat.le_of_ble_eq_true rfl)⟩ (q0 := 0) rfl (by decide) rfl rfl rfl rfl hl.1 rfl (Nat.le_of_ble_eq_true rfl) dX4_behind_28 ⟨Nat.le_refl _, Nat.le_refl _⟩ (fun H locs hP => ?_)
    refine lv_istore (lv' := [(4, .int x4), (3, .int x1), (0, .ref (ad 0)), (1, .int a1), (2, .int a2)]) hx hb dX4_behind_31 hl (by decide) rfl (fun ls hl => ?_)
    refine lv_aload_n hx hb dX4_behind_33 rfl (lv_at hl 2 rfl) ?_
    refine lv_iconst (v := 0) hx hb dX4_behind_34 (by decide) ?_
    obtain ⟨x5, h1, h⟩ := k_ob h
    refine k_callVi C hP hap hAA (c_X4_leadOf l ev ad σ3 0   _ h1) Emb.same hap gz_X4_leadOf qML_RX4_226 qIM_yX4_leadOf qSE_yX4_leadOf ⟨(Nat.le_of_ble_eq_true rfl), (Nat.le_of_ble_eq_true rfl)⟩ (q0 := 0) rfl (by decide) rfl rfl rfl rfl hl.1 rfl (Nat.le_of_ble_eq_true rfl) dX4_behind_35 ⟨Nat.le_refl _, Nat.le_refl _⟩ (fun H locs hP => ?_)
    refine lv_istore (lv' := [(5, .int x5), (4, .int x4), (3, .int x1), (0, .ref (ad 0)), (1, .int a1), (2, .int a2)]) hx hb dX4_behind_38 hl (by decide) rfl (fun ls hl => ?_)
    refine lv_aload_n hx hb dX4_behind_40 rfl (lv_at hl 3 rfl) ?_
    refine lv_aload_n hx hb dX4_behind_41 rfl (lv_at hl 3 rfl) ?_
    refine r_get C hP (ci := 4) rfl uin_X4 23 (by decide) 0 (by decide) rfl qFL_RX4_45 rfl rfl dX4_behind_42 ?_
    obtain ⟨σ6, h1, h⟩ := k_ob h
    refine k_callVv C hP hap hAA (c_X4_again_ahead l ev ad σ3   _ h1) Emb.same hap gz_X4_again qML_RX4_193 qIM_yX4_again qSE_yX4_again ⟨(Nat.le_of_ble_eq_true rfl), (Nat.le_of_ble_eq_true rfl)⟩ (q0 := 0) rfl (by decide) rfl rfl rfl rfl hl.1 rfl (Nat.le_of_ble_eq_true rfl) dX4_behind_45 ⟨Nat.le_refl _, Nat.le_refl _⟩ (fun H locs hP => ?_)
    refine lv_iload hx hb dX4_behind_48 (lv_at hl 1 rfl) ?_
    refine lv_iconst (v := (-1)) hx hb dX4_behind_50 (by decide) ?_
    refine lv_icmp_ne (tgt := 59) hx hb dX4_behind_51 (by decide) (fun c51 => ?_) (fun c51 => ?_)
    · have h := k_nf c51 h
      refine lv_aload_n hx hb dX4_behind_59 rfl (lv_at hl 3 rfl) ?_
      refine lv_bipush (v := (-5)) hx hb dX4_behind_60 (by decide) ?_
      obtain ⟨x8, σ7, h1, h⟩ := k_ob2 h
      refine k_callVi C hP hap hAA (c_X4_noLead l ev ad σ6 (-5)   _ _ h1) Emb.same hap gz_X4_noLead qML_RX4_229 qIM_yX4_noLead qSE_yX4_noLead ⟨(Nat.le_of_ble_eq_true rfl), (Nat.le_of_ble_eq_true rfl)⟩ (q0 := 0) rfl (by decide) rfl rfl rfl rfl hl.1 rfl (Nat.le_of_ble_eq_true rfl) dX4_behind_62 ⟨Nat.le_refl _, Nat.le_refl _⟩ (fun H locs hP => ?_)
      exact e_iret C hend hP (k_some2 h).1 (congrArg (mw ev ad) (k_some2 h).2) dX4_behind_65
    · have h := k_if c51 h
      refine lv_iload hx hb dX4_behind_54 (lv_at hl 0 rfl) ?_
      refine lv_goto (tgt := 65) hx hb dX4_behind_56 (by decide) ?_
      exact e_iret C hend hP (k_some2 h).1 (congrArg (mw ev ad) (k_some2 h).2) dX4_behind_65
  · have h := k_nf c8 h
    refine lv_aload_n hx hb dX4_behind_11 rfl (lv_at hl 1 rfl) ?_
    refine lv_iload_n hx hb dX4_behind_12 rfl (lv_at hl 0 rfl) ?_
    obtain ⟨x10, σ9, h1, h⟩ := k_ob2 h
    refine k_callVi C hP hap hAA (c_X4_noLead l ev ad σ x1   _ _ h1) Emb.same hap gz_X4_noLead qML_RX4_229 qIM_yX4_noLead qSE_yX4_noLead ⟨(Nat.le_of_ble_eq_true rfl), (Nat.le_of_ble_eq_true rfl)⟩ (q0 := 0) rfl (by decide) rfl rfl rfl rfl hl.1 rfl (Nat.le_of_ble_eq_true rfl) dX4_behind_13 ⟨Nat.le_refl _, Nat.le_refl _⟩ (fun H locs hP => ?_)
    exact e_iret C hend hP (k_some2 h).1 (congrArg (mw ev ad) (k_some2 h).2) dX4_behind_16
def f_X4_done (σ : MM) (a1 : Int32) (a2 : Int32) : Option (Int32 × MM) :=
  ob (f_X4_noGame σ a1 a2) (fun x1 => if 0 ≤ x1 then ob (f_X4_keep_ahead σ) (fun σ2 => ob2 (f_X4_lived σ2 a1 a2) (fun x4 σ3 => if x4 = (-1) then some ((m_made σ3), σ3) else ob (f_X4_again_ahead σ3) (fun σ5 => ob2 (f_X4_no σ5 (-5)) (fun x7 σ6 => some (x7, σ6))))) else ob2 (f_X4_no σ x1) (fun x9 σ8 => some (x9, σ8)))
set_option maxHeartbeats 4000000 in
set_option maxRecDepth 100000 in
theorem c_X4_done (l : Launch) (ev : EV) (ad : Nat → Nat) (σ : MM) (a1 : Int32) (a2 : Int32)   (r : Int32) (σ' : MM) (h : f_X4_done σ a1 a2 = some (r, σ')) : Ct l yX4_done prog_6_method_111_code 4 (Option.some Jvm.ClassFile.FieldType.int) (rmk 5 115) ev 13 ad (mw ev ad σ) (mw ev ad σ') [.ref (ad 0), .int a1, .int a2] (some (.int r)) := by
  refine Ct.of (by decide +kernel) (Nat.le_of_ble_eq_true rfl) ?_
  intro p e s m args below meth c Qc C hap hP hend ls hl
  have hAA : ∀ j, j < 13 → inA ad 13 (ad j) := fun j hj => ⟨j, hj, rfl⟩
  have hx := C.1
  have hb := C.2.1
  have hl : lv_has ls 4 [(0, .ref (ad 0)), (1, .int a1), (2, .int a2)] := hl
  have h := (f_X4_done.eq_1 _ _ _ ).symm.trans h
  refine lv_aload_n hx hb dX4_done_0 rfl (lv_at hl 0 rfl) ?_
  refine lv_iload_n hx hb dX4_done_1 rfl (lv_at hl 1 rfl) ?_
  refine lv_iload_n hx hb dX4_done_2 rfl (lv_at hl 2 rfl) ?_
  obtain ⟨x1, h1, h⟩ := k_ob h
  refine k_callVi C hP hap hAA (c_X4_noGame l ev ad σ a1 a2   _ h1) Emb.same hap gz_X4_noGame qML_RX4_300 qIM_yX4_noGame qSE_yX4_noGame ⟨(Nat.le_of_ble_eq_true rfl), (Nat.le_of_ble_eq_true rfl)⟩ (q0 := 0) rfl (by decide) rfl rfl rfl rfl hl.1 rfl (Nat.le_of_ble_eq_true rfl) dX4_done_3 ⟨Nat.le_refl _, Nat.le_refl _⟩ (fun H locs hP => ?_)
  refine lv_istore_n (lv' := [(3, .int x1), (0, .ref (ad 0)), (1, .int a1), (2, .int a2)]) hx hb dX4_done_6 rfl hl (by decide) rfl (fun ls hl => ?_)
  refine lv_iload_n hx hb dX4_done_7 rfl (lv_at hl 0 rfl) ?_
  refine lv_if_ge (tgt := 17) hx hb dX4_done_8 (by decide) (fun c8 => ?_) (fun c8 => ?_)
  · have h := k_if c8 h
    refine lv_aload_n hx hb dX4_done_17 rfl (lv_at hl 1 rfl) ?_
    refine lv_aload_n hx hb dX4_done_18 rfl (lv_at hl 1 rfl) ?_
    refine r_get C hP (ci := 4) rfl uin_X4 23 (by decide) 0 (by decide) rfl qFL_RX4_45 rfl rfl dX4_done_19 ?_
    obtain ⟨σ2, h1, h⟩ := k_ob h
    refine k_callVv C hP hap hAA (c_X4_keep_ahead l ev ad σ   _ h1) Emb.same hap gz_X4_keep qML_RX4_185 qIM_yX4_keep qSE_yX4_keep ⟨(Nat.le_of_ble_eq_true rfl), (Nat.le_of_ble_eq_true rfl)⟩ (q0 := 0) rfl (by decide) rfl rfl rfl rfl hl.1 rfl (Nat.le_of_ble_eq_true rfl) dX4_done_22 ⟨Nat.le_refl _, Nat.le_refl _⟩ (fun H locs hP => ?_)
    refine lv_aload_n hx hb dX4_done_25 rfl (lv_at hl 1 rfl) ?_
    refine lv_iload_n hx hb dX4_done_26 rfl (lv_at hl 2 rfl) ?_
    refine lv_iload_n hx hb dX4_done_27 rfl (lv_at hl 3 rfl) ?_
    obtain ⟨x4, σ3, h1, h⟩ := k_ob2 h
    refine k_callVi C hP hap hAA (c_X4_lived l ev ad σ2 a1 a2   _ _ h1) Emb.same hap gz_X4_lived qML_RX4_303 qIM_yX4_lived qSE_yX4_lived ⟨(Nat.le_of_ble_eq_true rfl), (Nat.le_of_ble_eq_true rfl)⟩ (q0 := 0) rfl (by decide) rfl rfl rfl rfl hl.1 rfl (Nat.le_of_ble_eq_true rfl) dX4_done_28 ⟨Nat.le_refl _, Nat.le_refl _⟩ (fun H locs hP => ?_)
    refine lv_iconst (v := (-1)) hx hb dX4_done_31 (by decide) ?_
    refine lv_icmp_ne (tgt := 40) hx hb dX4_done_32 (by decide) (fun c32 => ?_) (fun c32 => ?_)
    · have h := k_nf c32 h
      refine lv_aload_n hx hb dX4_done_40 rfl (lv_at hl 1 rfl) ?_
      refine lv_aload_n hx hb dX4_done_41 rfl (lv_at hl 1 rfl) ?_
      refine r_get C hP (ci := 4) rfl uin_X4 23 (by decide) 0 (by decide) rfl qFL_RX4_45 rfl rfl dX4_done_42 ?_
      obtain ⟨σ5, h1, h⟩ := k_ob h
      refine k_callVv C hP hap hAA (c_X4_again_ahead l ev ad σ3   _ h1) Emb.same hap gz_X4_again qML_RX4_193 qIM_yX4_again qSE_yX4_again ⟨(Nat.le_of_ble_eq_true rfl), (Nat.le_of_ble_eq_true rfl)⟩ (q0 := 0) rfl (by decide) rfl rfl rfl rfl hl.1 rfl (Nat.le_of_ble_eq_true rfl) dX4_done_45 ⟨Nat.le_refl _, Nat.le_refl _⟩ (fun H locs hP => ?_)
      refine lv_aload_n hx hb dX4_done_48 rfl (lv_at hl 1 rfl) ?_
      refine lv_bipush (v := (-5)) hx hb dX4_done_49 (by decide) ?_
      obtain ⟨x7, σ6, h1, h⟩ := k_ob2 h
      refine k_callVi C hP hap hAA (c_X4_no l ev ad σ5 (-5)   _ _ h1) Emb.same hap gz_X4_no qML_RX4_56 qIM_yX4_no qSE_yX4_no ⟨(Nat.le_of_ble_eq_true rfl), (Nat.le_of_ble_eq_true rfl)⟩ (q0 := 0) rfl (by decide) rfl rfl rfl rfl hl.1 rfl (Nat.le_of_ble_eq_true rfl) dX4_done_51 ⟨Nat.le_refl _, Nat.le_refl _⟩ (fun H locs hP => ?_)
      exact e_iret C hend hP (k_some2 h).1 (congrArg (mw ev ad) (k_some2 h).2) dX4_done_54
    · have h := k_if c32 h
      refine lv_aload_n hx hb dX4_done_35 rfl (lv_at hl 1 rfl) ?_
      refine r_get C hP (ci := 4) rfl uin_X4 6 (by decide) 0 (by decide) rfl qFL_RX4_104 rfl rfl dX4_done_36 ?_
      exact e_iret C hend hP (k_some2 h).1 (congrArg (mw ev ad) (k_some2 h).2) dX4_done_39
  · have h := k_nf c8 h
    refine lv_aload_n hx hb dX4_done_11 rfl (lv_at hl 1 rfl) ?_
    refine lv_iload_n hx hb dX4_done_12 rfl (lv_at hl 0 rfl) ?_
    obtain ⟨x9, σ8, h1, h⟩ := k_ob2 h
    refine k_callVi C hP hap hAA (c_X4_no l ev ad σ x1   _ _ h1) Emb.same hap gz_X4_no qML_RX4_56 qIM_yX4_no qSE_yX4_no ⟨(Nat.le_of_ble_eq_true rfl), (Nat.le_of_ble_eq_true rfl)⟩ (q0 := 0) rfl (by decide) rfl rfl rfl rfl hl.1 rfl (Nat.le_of_ble_eq_true rfl) dX4_done_13 ⟨Nat.le_refl _, Nat.le_refl _⟩ (fun H locs hP => ?_)
    exact e_iret C hend hP (k_some2 h).1 (congrArg (mw ev ad) (k_some2 h).2) dX4_done_16
def f_X4_move (σ : MM) (a1 : Int32) : Option (Int32 × MM) :=
  if (f_X4_isMove σ a1) = true then ob (f_X4_mayBe σ a1) (fun b1 => if b1 = true then ob2 (f_X4_makes σ a1) (fun x5 σ4 => some (x5, σ4)) else ob2 (f_X4_no σ (-5)) (fun x3 σ2 => some (x3, σ2))) else ob2 (f_X4_no σ (-2)) (fun x7 σ6 => some (x7, σ6))
set_option maxHeartbeats 4000000 in
set_option maxRecDepth 100000 in
theorem c_X4_move (l : Launch) (ev : EV) (ad : Nat → Nat) (σ : MM) (a1 : Int32)   (r : Int32) (σ' : MM) (h : f_X4_move σ a1 = some (r, σ')) : Ct l yX4_move prog_6_method_112_code 2 (Option.some Jvm.ClassFile.FieldType.int) (rmk 4 91) ev 13 ad (mw ev ad σ) (mw ev ad σ') [.ref (ad 0), .int a1] (some (.int r)) := by
  refine Ct.of (by decide +kernel) (Nat.le_of_ble_eq_true rfl) ?_
  intro p e s m args below meth c Qc C hap hP hend ls hl
  have hAA : ∀ j, j < 13 → inA ad 13 (ad j) := fun j hj => ⟨j, hj, rfl⟩
  have hx := C.1
  have hb := C.2.1
  have hl : lv_has ls 2 [(0, .ref (ad 0)), (1, .int a1)] := hl
  have h := (f_X4_move.eq_1 _ _ ).symm.trans h
  refine lv_aload_n hx hb dX4_move_0 rfl (lv_at hl 0 rfl) ?_
  refine lv_iload_n hx hb dX4_move_1 rfl (lv_at hl 1 rfl) ?_
  refine k_callVi C hP hap hAA (c_X4_isMove l ev ad σ a1   _ rfl) Emb.same hap gz_X4_isMove qML_RX4_173 qIM_yX4_isMove qSE_yX4_isMove ⟨(Nat.le_of_ble_eq_true rfl), (Nat.le_of_ble_eq_true rfl)⟩ (q0 := 0) rfl (by decide) rfl rfl rfl rfl hl.1 rfl (Nat.le_of_ble_eq_true rfl) dX4_move_2 ⟨Nat.le_refl _, Nat.le_refl _⟩ (fun H locs hP => ?_)
  refine r_ifz_ne (tgt := 15) hx hb dX4_move_5 (by decide) (fun c5 => ?_) (fun c5 => ?_)
  · have h := k_if c5 h
    refine lv_aload_n hx hb dX4_move_15 rfl (lv_at hl 0 rfl) ?_
    refine lv_iload_n hx hb dX4_move_16 rfl (lv_at hl 1 rfl) ?_
    obtain ⟨b1, h1, h⟩ := k_ob h
    refine k_callVi C hP hap hAA (c_X4_mayBe l ev ad σ a1   _ h1) Emb.same hap gz_X4_mayBe qML_RX4_176 qIM_yX4_mayBe qSE_yX4_mayBe ⟨(Nat.le_of_ble_eq_true rfl), (Nat.le_of_ble_eq_true rfl)⟩ (q0 := 0) rfl (by decide) rfl rfl rfl rfl hl.1 rfl (Nat.le_of_ble_eq_true rfl) dX4_move_17 ⟨Nat.le_refl _, Nat.le_refl _⟩ (fun H locs hP => ?_)
    refine r_ifz_eq (tgt := 31) hx hb dX4_move_20 (by decide) (fun c20 => ?_) (fun c20 => ?_)
    · have h := k_nf c20 h
      refine lv_aload_n hx hb dX4_move_31 rfl (lv_at hl 0 rfl) ?_
      refine lv_bipush (v := (-5)) hx hb dX4_move_32 (by decide) ?_
      obtain ⟨x3, σ2, h1, h⟩ := k_ob2 h
      refine k_callVi C hP hap hAA (c_X4_no l ev ad σ (-5)   _ _ h1) Emb.same hap gz_X4_no qML_RX4_56 qIM_yX4_no qSE_yX4_no ⟨(Nat.le_of_ble_eq_true rfl), (Nat.le_of_ble_eq_true rfl)⟩ (q0 := 0) rfl (by decide) rfl rfl rfl rfl hl.1 rfl (Nat.le_of_ble_eq_true rfl) dX4_move_34 ⟨Nat.le_refl _, Nat.le_refl _⟩ (fun H locs hP => ?_)
      exact e_iret C hend hP (k_some2 h).1 (congrArg (mw ev ad) (k_some2 h).2) dX4_move_37
    · have h := k_if c20 h
      refine lv_aload_n hx hb dX4_move_23 rfl (lv_at hl 0 rfl) ?_
      refine lv_iload_n hx hb dX4_move_24 rfl (lv_at hl 1 rfl) ?_
      obtain ⟨x5, σ4, h1, h⟩ := k_ob2 h
      refine k_callVi C hP hap hAA (c_X4_makes l ev ad σ a1   _ _ h1) Emb.same hap gz_X4_makes qML_RX4_179 qIM_yX4_makes qSE_yX4_makes ⟨(Nat.le_of_ble_eq_true rfl), (Nat.le_of_ble_eq_true rfl)⟩ (q0 := 0) rfl (by decide) rfl rfl rfl rfl hl.1 rfl (Nat.le_of_ble_eq_true rfl) dX4_move_25 ⟨Nat.le_refl _, Nat.le_refl _⟩ (fun H locs hP => ?_)
      refine lv_goto (tgt := 37) hx hb dX4_move_28 (by decide) ?_
      exact e_iret C hend hP (k_some2 h).1 (congrArg (mw ev ad) (k_some2 h).2) dX4_move_37
  · have h := k_nf c5 h
    refine lv_aload_n hx hb dX4_move_8 rfl (lv_at hl 0 rfl) ?_
    refine lv_bipush (v := (-2)) hx hb dX4_move_9 (by decide) ?_
    obtain ⟨x7, σ6, h1, h⟩ := k_ob2 h
    refine k_callVi C hP hap hAA (c_X4_no l ev ad σ (-2)   _ _ h1) Emb.same hap gz_X4_no qML_RX4_56 qIM_yX4_no qSE_yX4_no ⟨(Nat.le_of_ble_eq_true rfl), (Nat.le_of_ble_eq_true rfl)⟩ (q0 := 0) rfl (by decide) rfl rfl rfl rfl hl.1 rfl (Nat.le_of_ble_eq_true rfl) dX4_move_11 ⟨Nat.le_refl _, Nat.le_refl _⟩ (fun H locs hP => ?_)
    exact e_iret C hend hP (k_some2 h).1 (congrArg (mw ev ad) (k_some2 h).2) dX4_move_14
def f_X4_goes_L27_b (a1 : Int32) (a2 : Int32)  (rec27 : Int32 → MM → Option (Int32 × MM)) (x3 : Int32) (σ4 : MM) : Option (Int32 × MM) :=
  if a2 ≤ x3 then some (a2, σ4) else ob2 (f_X4_chosen σ4 a1) (fun x6 σ5 => if x6 = (-1) then some (x3, σ5) else ob2 (f_X4_makes σ5 x6) (fun x8 σ7 => lt (x3 + 1) (fun x9 => rec27 x9 σ7)))
def f_X4_goes_L27 (a1 : Int32) (a2 : Int32)  (x3 : Int32) (σ4 : MM) : Option (Int32 × MM) :=
  lp (fun _ _ => none) (f_X4_goes_L27_b a1 a2 ) FU x3 σ4
def f_X4_goes (σ : MM) (a1 : Int32) (a2 : Int32) : Option (Int32 × MM) :=
  if (f_X4_isPlayer σ a1) = true then if (f_X4_within a2 1 40) = true then f_X4_goes_L27 a1 a2 0 σ else ob2 (f_X4_no σ (-2)) (fun x11 σ10 => some (x11, σ10)) else ob2 (f_X4_no σ (-2)) (fun x2 σ1 => some (x2, σ1))
set_option maxHeartbeats 4000000 in
set_option maxRecDepth 100000 in
theorem c_X4_goes (l : Launch) (ev : EV) (ad : Nat → Nat) (σ : MM) (a1 : Int32) (a2 : Int32)   (r : Int32) (σ' : MM) (h : f_X4_goes σ a1 a2 = some (r, σ')) : Ct l yX4_goes prog_6_method_113_code 5 (Option.some Jvm.ClassFile.FieldType.int) (rmk 7 157) ev 13 ad (mw ev ad σ) (mw ev ad σ') [.ref (ad 0), .int a1, .int a2] (some (.int r)) := by
  refine Ct.of (by decide +kernel) (Nat.le_of_ble_eq_true rfl) ?_
  intro p e s m args below meth c Qc C hap hP hend ls hl
  have hAA : ∀ j, j < 13 → inA ad 13 (ad j) := fun j hj => ⟨j, hj, rfl⟩
  have hx := C.1
  have hb := C.2.1
  have hl : lv_has ls 5 [(0, .ref (ad 0)), (1, .int a1), (2, .int a2)] := hl
  have h := (f_X4_goes.eq_1 _ _ _ ).symm.trans h
  refine lv_aload_n hx hb dX4_goes_0 rfl (lv_at hl 0 rfl) ?_
  refine lv_iload_n hx hb dX4_goes_1 rfl (lv_at hl 1 rfl) ?_
  refine k_callVi C hP hap hAA (c_X4_isPlayer l ev ad σ a1   _ rfl) Emb.same hap gz_X4_isPlayer qML_RX4_87 qIM_yX4_isPlayer qSE_yX4_isPlayer ⟨(Nat.le_of_ble_eq_true rfl), (Nat.le_of_ble_eq_true rfl)⟩ (q0 := 0) rfl (by decide) rfl rfl rfl rfl hl.1 rfl (Nat.le_of_ble_eq_true rfl) dX4_goes_2 ⟨Nat.le_refl _, Nat.le_refl _⟩ (fun H locs hP => ?_)
  refine r_ifz_eq (tgt := 18) hx hb dX4_goes_5 (by decide) (fun c5 => ?_) (fun c5 => ?_)
  · have h := k_nf c5 h
    refine lv_aload_n hx hb dX4_goes_18 rfl (lv_at hl 0 rfl) ?_
    refine lv_bipush (v := (-2)) hx hb dX4_goes_19 (by decide) ?_
    obtain ⟨x2, σ1, h1, h⟩ := k_ob2 h
    refine k_callVi C hP hap hAA (c_X4_no l ev ad σ (-2)   _ _ h1) Emb.same hap gz_X4_no qML_RX4_56 qIM_yX4_no qSE_yX4_no ⟨(Nat.le_of_ble_eq_true rfl), (Nat.le_of_ble_eq_true rfl)⟩ (q0 := 0) rfl (by decide) rfl rfl rfl rfl hl.1 rfl (Nat.le_of_ble_eq_true rfl) dX4_goes_21 ⟨Nat.le_refl _, Nat.le_refl _⟩ (fun H locs hP => ?_)
    exact e_iret C hend hP (k_some2 h).1 (congrArg (mw ev ad) (k_some2 h).2) dX4_goes_24
  · have h := k_if c5 h
    refine lv_iload_n hx hb dX4_goes_8 rfl (lv_at hl 2 rfl) ?_
    refine lv_iconst (v := 1) hx hb dX4_goes_9 (by decide) ?_
    refine lv_bipush (v := 40) hx hb dX4_goes_10 (by decide) ?_
    refine k_callSi C hP hap hAA (c_X4_within l ev ad a2 1 40   _ rfl) Emb.none (apart_0 _) gz_X4_within qML_RX4_63 qSM_yX4_within ⟨(Nat.le_of_ble_eq_true rfl), (Nat.le_of_ble_eq_true rfl)⟩ rfl hl.1 rfl (Nat.le_of_ble_eq_true rfl) dX4_goes_12 ⟨Nat.le_refl _, Nat.le_refl _⟩ (fun H locs hP => ?_)
    refine r_ifz_ne (tgt := 25) hx hb dX4_goes_15 (by decide) (fun c15 => ?_) (fun c15 => ?_)
    · have h := k_if c15 h
      refine lv_iconst (v := 0) hx hb dX4_goes_25 (by decide) ?_
      refine lv_istore_n (lv' := [(3, .int 0), (0, .ref (ad 0)), (1, .int a1), (2, .int a2)]) hx hb dX4_goes_26 rfl hl (by decide) rfl (fun ls hl => ?_)
      have hL27 : ∀ (n : Nat) (x3 : Int32) (σ4 : MM) (H : Heap) (locs : List Loc) (ls : Array Slot), lp (fun _ _ => none) (f_X4_goes_L27_b a1 a2 ) n x3 σ4 = some (r, σ') → PS ev 13 ad (mw ev ad σ4) (inA ad 13) s H locs → lv_has ls 5 [(0, .ref (ad 0)), (1, .int a1), (2, .int a2), (3, .int x3)] → WW ev p l e (rmk 7 157) s m args below meth c Qc ad 13 H locs 27 ls [] := by
        intro n
        induction n with
        | zero =>
          intro x3 σ4 H locs ls h; exact k_none h
        | succ n ih =>
          intro x3 σ4 H locs ls h hP hl
          have h : f_X4_goes_L27_b a1 a2  (lp (fun _ _ => none) (f_X4_goes_L27_b a1 a2 ) n) x3 σ4 = some (r, σ') := h
          have h := (f_X4_goes_L27_b.eq_1 _ _ _ _ _ ).symm.trans h
          refine lv_iload_n hx hb dX4_goes_27 rfl (lv_at hl 3 rfl) ?_
          refine lv_iload_n hx hb dX4_goes_28 rfl (lv_at hl 2 rfl) ?_
          refine lv_icmp_ge (tgt := 60) hx hb dX4_goes_29 (by decide) (fun c29 => ?_) (fun c29 => ?_)
          · have h := k_if c29 h
            refine lv_iload_n hx hb dX4_goes_60 rfl (lv_at hl 2 rfl) ?_
            exact e_iret C hend hP (k_some2 h).1 (congrArg (mw ev ad) (k_some2 h).2) dX4_goes_61
          · have h := k_nf c29 h
            refine lv_aload_n hx hb dX4_goes_32 rfl (lv_at hl 0 rfl) ?_
            refine lv_iload_n hx hb dX4_goes_33 rfl (lv_at hl 1 rfl) ?_
            obtain ⟨x6, σ5, h1, h⟩ := k_ob2 h
            refine k_callVi C hP hap hAA (c_X4_chosen l ev ad σ4 a1   _ _ h1) Emb.same hap gz_X4_chosen qML_RX4_265 qIM_yX4_chosen qSE_yX4_chosen ⟨(Nat.le_of_ble_eq_true rfl), (Nat.le_of_ble_eq_true rfl)⟩ (q0 := 0) rfl (by decide) rfl rfl rfl rfl hl.1 rfl (Nat.le_of_ble_eq_true rfl) dX4_goes_34 ⟨Nat.le_refl _, Nat.le_refl _⟩ (fun H locs hP => ?_)
            refine lv_istore (lv' := [(4, .int x6), (0, .ref (ad 0)), (1, .int a1), (2, .int a2), (3, .int x3)]) hx hb dX4_goes_37 hl (by decide) rfl (fun ls hl => ?_)
            refine lv_iload hx hb dX4_goes_39 (lv_at hl 0 rfl) ?_
            refine lv_iconst (v := (-1)) hx hb dX4_goes_41 (by decide) ?_
            refine lv_icmp_ne (tgt := 47) hx hb dX4_goes_42 (by decide) (fun c42 => ?_) (fun c42 => ?_)
            · have h := k_nf c42 h
              refine lv_aload_n hx hb dX4_goes_47 rfl (lv_at hl 1 rfl) ?_
              refine lv_iload hx hb dX4_goes_48 (lv_at hl 0 rfl) ?_
              obtain ⟨x8, σ7, h1, h⟩ := k_ob2 h
              refine k_callVi C hP hap hAA (c_X4_makes l ev ad σ5 x6   _ _ h1) Emb.same hap gz_X4_makes qML_RX4_179 qIM_yX4_makes qSE_yX4_makes ⟨(Nat.le_of_ble_eq_true rfl), (Nat.le_of_ble_eq_true rfl)⟩ (q0 := 0) rfl (by decide) rfl rfl rfl rfl hl.1 rfl (Nat.le_of_ble_eq_true rfl) dX4_goes_50 ⟨Nat.le_refl _, Nat.le_refl _⟩ (fun H locs hP => ?_)
              refine lv_pop hx hb dX4_goes_53 rfl ?_
              obtain ⟨x9, ex9, h⟩ := k_ltx h
              refine lv_iinc (v := x9) (lv' := [(3, .int x9), (4, .int x6), (0, .ref (ad 0)), (1, .int a1), (2, .int a2)]) hx hb dX4_goes_54 hl (k := 4) rfl (by rw [ex9]; rfl) (by decide) rfl (fun ls hl => ?_)
              refine lv_goto (tgt := 27) hx hb dX4_goes_57 (by decide) ?_
              exact ih _ _ _ _ _ h hP (lv_sub hl [2, 3, 4, 0] rfl)
            · have h := k_if c42 h
              refine lv_iload_n hx hb dX4_goes_45 rfl (lv_at hl 4 rfl) ?_
              exact e_iret C hend hP (k_some2 h).1 (congrArg (mw ev ad) (k_some2 h).2) dX4_goes_46
      exact hL27 FU _ _ _ _ _ h hP (lv_sub hl [1, 2, 3, 0] rfl)
    · have h := k_nf c15 h
      refine lv_aload_n hx hb dX4_goes_18 rfl (lv_at hl 0 rfl) ?_
      refine lv_bipush (v := (-2)) hx hb dX4_goes_19 (by decide) ?_
      obtain ⟨x11, σ10, h1, h⟩ := k_ob2 h
      refine k_callVi C hP hap hAA (c_X4_no l ev ad σ (-2)   _ _ h1) Emb.same hap gz_X4_no qML_RX4_56 qIM_yX4_no qSE_yX4_no ⟨(Nat.le_of_ble_eq_true rfl), (Nat.le_of_ble_eq_true rfl)⟩ (q0 := 0) rfl (by decide) rfl rfl rfl rfl hl.1 rfl (Nat.le_of_ble_eq_true rfl) dX4_goes_21 ⟨Nat.le_refl _, Nat.le_refl _⟩ (fun H locs hP => ?_)
      exact e_iret C hend hP (k_some2 h).1 (congrArg (mw ev ad) (k_some2 h).2) dX4_goes_24
def f_X4_games_L53_b  (k82 : MM → Option (Int32 × MM)) (rec53 : Int32 → MM → Option (Int32 × MM)) (x8 : Int32) (σ9 : MM) : Option (Int32 × MM) :=
  if x8 ≤ 0 then k82 σ9 else ob2 (f_X4_draw σ9 x8) (fun x11 σ10 => ob (f_X4_ith σ10 x11) (fun x12 => ob2 (f_X4_makes σ10 x12) (fun x14 σ13 => ob (f_X4_howMany σ13) (fun x15 => rec53 x15 σ13))))
def f_X4_games_L53  (k82 : MM → Option (Int32 × MM)) (x8 : Int32) (σ9 : MM) : Option (Int32 × MM) :=
  lp (fun _ _ => none) (f_X4_games_L53_b  k82) FU x8 σ9
def f_X4_games_L29_b (a1 : Int32) (k99 : Int32 → MM → Option (Int32 × MM)) (rec29 : Int32 → Int32 → MM → Option (Int32 × MM)) (x2 : Int32) (x3 : Int32) (σ4 : MM) : Option (Int32 × MM) :=
  if a1 ≤ x3 then k99 x2 σ4 else ob2 (f_X4_sized σ4 (m_w σ4) (m_h σ4)) (fun x6 σ5 => ob (f_X4_howMany σ5) (fun x7 => f_X4_games_L53 (fun σ16 => ob (f_X4_leadOf σ16 0) (fun x17 => if x17 ≤ 0 then lt (x3 + 1) (fun x18 => rec29 x2 x18 σ16) else lt (x2 + 1) (fun x19 => lt (x3 + 1) (fun x20 => rec29 x19 x20 σ16)))) x7 σ5))
def f_X4_games_L29 (a1 : Int32) (k99 : Int32 → MM → Option (Int32 × MM)) (x2 : Int32) (x3 : Int32) (σ4 : MM) : Option (Int32 × MM) :=
  lp (fun _ _ _ => none) (f_X4_games_L29_b a1 k99) FU x2 x3 σ4
def f_X4_games (σ : MM) (a1 : Int32) : Option (Int32 × MM) :=
  if (f_X4_within a1 1 20) = true then ob (f_X4_keep_ahead σ) (fun σ1 => f_X4_games_L29 a1 (fun x22 σ23 => lt (m_seed σ23) (fun x24 => ob (f_X4_again_ahead σ23) (fun σ25 => lt (m_seed' σ25 x24) (fun σ26 => some (x22, σ26))))) 0 0 σ1) else ob2 (f_X4_no σ (-2)) (fun x28 σ27 => some (x28, σ27))
set_option maxHeartbeats 4000000 in
set_option maxRecDepth 100000 in
theorem c_X4_games (l : Launch) (ev : EV) (ad : Nat → Nat) (σ : MM) (a1 : Int32)   (r : Int32) (σ' : MM) (h : f_X4_games σ a1 = some (r, σ')) : Ct l yX4_games prog_6_method_114_code 5 (Option.some Jvm.ClassFile.FieldType.int) (rmk 9 206) ev 13 ad (mw ev ad σ) (mw ev ad σ') [.ref (ad 0), .int a1] (some (.int r)) := by
  refine Ct.of (by decide +kernel) (Nat.le_of_ble_eq_true rfl) ?_
  intro p e s m args below meth c Qc C hap hP hend ls hl
  have hAA : ∀ j, j < 13 → inA ad 13 (ad j) := fun j hj => ⟨j, hj, rfl⟩
  have hx := C.1
  have hb := C.2.1
  have hl : lv_has ls 5 [(0, .ref (ad 0)), (1, .int a1)] := hl
  have h := (f_X4_games.eq_1 _ _ ).symm.trans h
  refine lv_iload_n hx hb dX4_games_0 rfl (lv_at hl 1 rfl) ?_
  refine lv_iconst (v := 1) hx hb dX4_games_1 (by decide) ?_
  refine lv_bipush (v := 20) hx hb dX4_games_2 (by decide) ?_
  refine k_callSi C hP hap hAA (c_X4_within l ev ad a1 1 20   _ rfl) Emb.none (apart_0 _) gz_X4_within qML_RX4_63 qSM_yX4_within ⟨(Nat.le_of_ble_eq_true rfl), (Nat.le_of_ble_eq_true rfl)⟩ rfl hl.1 rfl (Nat.le_of_ble_eq_true rfl) dX4_games_4 ⟨Nat.le_refl _, Nat.le_refl _⟩ (fun H locs hP => ?_)
  refine r_ifz_ne (tgt := 17) hx hb dX4_games_7 (by decide) (fun c7 => ?_) (fun c7 => ?_)
  · have h := k_if c7 h
    refine lv_aload_n hx hb dX4_games_17 rfl (lv_at hl 0 rfl) ?_
    refine lv_aload_n hx hb dX4_games_18 rfl (lv_at hl 0 rfl) ?_
    refine r_get C hP (ci := 4) rfl uin_X4 23 (by decide) 0 (by decide) rfl qFL_RX4_45 rfl rfl dX4_games_19 ?_
    obtain ⟨σ1, h1, h⟩ := k_ob h
    refine k_callVv C hP hap hAA (c_X4_keep_ahead l ev ad σ   _ h1) Emb.same hap gz_X4_keep qML_RX4_185 qIM_yX4_keep qSE_yX4_keep ⟨(Nat.le_of_ble_eq_true rfl), (Nat.le_of_ble_eq_true rfl)⟩ (q0 := 0) rfl (by decide) rfl rfl rfl rfl hl.1 rfl (Nat.le_of_ble_eq_true rfl) dX4_games_22 ⟨Nat.le_refl _, Nat.le_refl _⟩ (fun H locs hP => ?_)
    refine lv_iconst (v := 0) hx hb dX4_games_25 (by decide) ?_
    refine lv_istore_n (lv' := [(2, .int 0), (0, .ref (ad 0)), (1, .int a1)]) hx hb dX4_games_26 rfl hl (by decide) rfl (fun ls hl => ?_)
    refine lv_iconst (v := 0) hx hb dX4_games_27 (by decide) ?_
    refine lv_istore_n (lv' := [(3, .int 0), (2, .int 0), (0, .ref (ad 0)), (1, .int a1)]) hx hb dX4_games_28 rfl hl (by decide) rfl (fun ls hl => ?_)
    have hL29 : ∀ (k99 : Int32 → MM → Option (Int32 × MM)) (hk99 : ∀ (z21 : Int32) (σk : MM) (H : Heap) (locs : List Loc) (ls : Array Slot), k99 z21 σk = some (r, σ') → PS ev 13 ad (mw ev ad σk) (inA ad 13) s H locs → lv_has ls 5 [(0, .ref (ad 0)), (2, .int z21)] → WW ev p l e (rmk 9 206) s m args below meth c Qc ad 13 H locs 99 ls []) (n : Nat) (x2 : Int32) (x3 : Int32) (σ4 : MM) (H : Heap) (locs : List Loc) (ls : Array Slot), lp (fun _ _ _ => none) (f_X4_games_L29_b a1 k99) n x2 x3 σ4 = some (r, σ') → PS ev 13 ad (mw ev ad σ4) (inA ad 13) s H locs → lv_has ls 5 [(0, .ref (ad 0)), (1, .int a1), (2, .int x2), (3, .int x3)] → WW ev p l e (rmk 9 206) s m args below meth c Qc ad 13 H locs 29 ls [] := by
      intro k99 hk99 n
      induction n with
      | zero =>
        intro x2 x3 σ4 H locs ls h; exact k_none h
      | succ n ih =>
        intro x2 x3 σ4 H locs ls h hP hl
        have h : f_X4_games_L29_b a1 k99 (lp (fun _ _ _ => none) (f_X4_games_L29_b a1 k99) n) x2 x3 σ4 = some (r, σ') := h
        have h := (f_X4_games_L29_b.eq_1 _ _ _ _ _ _ ).symm.trans h
        refine lv_iload_n hx hb dX4_games_29 rfl (lv_at hl 3 rfl) ?_
        refine lv_iload_n hx hb dX4_games_30 rfl (lv_at hl 1 rfl) ?_
        refine lv_icmp_ge (tgt := 99) hx hb dX4_games_31 (by decide) (fun c31 => ?_) (fun c31 => ?_)
        · have h := k_if c31 h
          exact hk99 _ _ _ _ _ h hP (lv_sub hl [0, 2] rfl)
        · have h := k_nf c31 h
          refine lv_aload_n hx hb dX4_games_34 rfl (lv_at hl 0 rfl) ?_
          refine lv_aload_n hx hb dX4_games_35 rfl (lv_at hl 0 rfl) ?_
          refine r_get C hP (ci := 4) rfl uin_X4 0 (by decide) 0 (by decide) rfl qFL_RX4_67 rfl rfl dX4_games_36 ?_
          refine lv_aload_n hx hb dX4_games_39 rfl (lv_at hl 0 rfl) ?_
          refine r_get C hP (ci := 4) rfl uin_X4 1 (by decide) 0 (by decide) rfl qFL_RX4_70 rfl rfl dX4_games_40 ?_
          obtain ⟨x6, σ5, h1, h⟩ := k_ob2 h
          refine k_callVi C hP hap hAA (c_X4_sized l ev ad σ4 (m_w σ4) (m_h σ4)   _ _ h1) Emb.same hap gz_X4_sized qML_RX4_52 qIM_yX4_sized qSE_yX4_sized ⟨(Nat.le_of_ble_eq_true rfl), (Nat.le_of_ble_eq_true rfl)⟩ (q0 := 0) rfl (by decide) rfl rfl rfl rfl hl.1 rfl (Nat.le_of_ble_eq_true rfl) dX4_games_43 ⟨Nat.le_refl _, Nat.le_refl _⟩ (fun H locs hP => ?_)
          refine lv_pop hx hb dX4_games_46 rfl ?_
          refine lv_aload_n hx hb dX4_games_47 rfl (lv_at hl 0 rfl) ?_
          obtain ⟨x7, h1, h⟩ := k_ob h
          refine k_callVi C hP hap hAA (c_X4_howMany l ev ad σ5   _ h1) Emb.same hap gz_X4_howMany qML_RX4_94 qIM_yX4_howMany qSE_yX4_howMany ⟨(Nat.le_of_ble_eq_true rfl), (Nat.le_of_ble_eq_true rfl)⟩ (q0 := 0) rfl (by decide) rfl rfl rfl rfl hl.1 rfl (Nat.le_of_ble_eq_true rfl) dX4_games_48 ⟨Nat.le_refl _, Nat.le_refl _⟩ (fun H locs hP => ?_)
          refine lv_istore (lv' := [(4, .int x7), (0, .ref (ad 0)), (1, .int a1), (2, .int x2), (3, .int x3)]) hx hb dX4_games_51 hl (by decide) rfl (fun ls hl => ?_)
          have hL53 : ∀ (k82 : MM → Option (Int32 × MM)) (hk82 : ∀  (σk : MM) (H : Heap) (locs : List Loc) (ls : Array Slot), k82  σk = some (r, σ') → PS ev 13 ad (mw ev ad σk) (inA ad 13) s H locs → lv_has ls 5 [(0, .ref (ad 0)), (1, .int a1), (2, .int x2), (3, .int x3)] → WW ev p l e (rmk 9 206) s m args below meth c Qc ad 13 H locs 82 ls []) (n : Nat) (x8 : Int32) (σ9 : MM) (H : Heap) (locs : List Loc) (ls : Array Slot), lp (fun _ _ => none) (f_X4_games_L53_b  k82) n x8 σ9 = some (r, σ') → PS ev 13 ad (mw ev ad σ9) (inA ad 13) s H locs → lv_has ls 5 [(0, .ref (ad 0)), (1, .int a1), (2, .int x2), (3, .int x3), (4, .int x8)] → WW ev p l e (rmk 9 206) s m args below meth c Qc ad 13 H locs 53 ls [] := by
            intro k82 hk82 n
            induction n with
            | zero =>
              intro x8 σ9 H locs ls h; exact k_none h
            | succ n ih =>
              intro x8 σ9 H locs ls h hP hl
              have h : f_X4_games_L53_b  k82 (lp (fun _ _ => none) (f_X4_games_L53_b  k82) n) x8 σ9 = some (r, σ') := h
              have h := (f_X4_games_L53_b.eq_1 _ _ _ _ ).symm.trans h
              refine lv_iload hx hb dX4_games_53 (lv_at hl 4 rfl) ?_
              refine lv_if_le (tgt := 82) hx hb dX4_games_55 (by decide) (fun c55 => ?_) (fun c55 => ?_)
              · have h := k_if c55 h
                exact hk82 _ _ _ _ h hP (lv_sub hl [0, 1, 2, 3] rfl)
              · have h := k_nf c55 h
                refine lv_aload_n hx hb dX4_games_58 rfl (lv_at hl 0 rfl) ?_
                refine lv_aload_n hx hb dX4_games_59 rfl (lv_at hl 0 rfl) ?_
                refine lv_aload_n hx hb dX4_games_60 rfl (lv_at hl 0 rfl) ?_
                refine lv_iload hx hb dX4_games_61 (lv_at hl 4 rfl) ?_
                obtain ⟨x11, σ10, h1, h⟩ := k_ob2 h
                refine k_callVi C hP hap hAA (c_X4_draw l ev ad σ9 x8   _ _ h1) Emb.same hap gz_X4_draw qML_RX4_262 qIM_yX4_draw qSE_yX4_draw ⟨(Nat.le_of_ble_eq_true rfl), (Nat.le_of_ble_eq_true rfl)⟩ (q0 := 0) rfl (by decide) rfl rfl rfl rfl hl.1 rfl (Nat.le_of_ble_eq_true rfl) dX4_games_63 ⟨Nat.le_refl _, Nat.le_refl _⟩ (fun H locs hP => ?_)
                obtain ⟨x12, h1, h⟩ := k_ob h
                refine k_callVi C hP hap hAA (c_X4_ith l ev ad σ10 x11   _ h1) Emb.same hap gz_X4_ith qML_RX4_208 qIM_yX4_ith qSE_yX4_ith ⟨(Nat.le_of_ble_eq_true rfl), (Nat.le_of_ble_eq_true rfl)⟩ (q0 := 0) rfl (by decide) rfl rfl rfl rfl hl.1 rfl (Nat.le_of_ble_eq_true rfl) dX4_games_66 ⟨Nat.le_refl _, Nat.le_refl _⟩ (fun H locs hP => ?_)
                obtain ⟨x14, σ13, h1, h⟩ := k_ob2 h
                refine k_callVi C hP hap hAA (c_X4_makes l ev ad σ10 x12   _ _ h1) Emb.same hap gz_X4_makes qML_RX4_179 qIM_yX4_makes qSE_yX4_makes ⟨(Nat.le_of_ble_eq_true rfl), (Nat.le_of_ble_eq_true rfl)⟩ (q0 := 0) rfl (by decide) rfl rfl rfl rfl hl.1 rfl (Nat.le_of_ble_eq_true rfl) dX4_games_69 ⟨Nat.le_refl _, Nat.le_refl _⟩ (fun H locs hP => ?_)
                refine lv_pop hx hb dX4_games_72 rfl ?_
                refine lv_aload_n hx hb dX4_games_73 rfl (lv_at hl 0 rfl) ?_
                obtain ⟨x15, h1, h⟩ := k_ob h
                refine k_callVi C hP hap hAA (c_X4_howMany l ev ad σ13   _ h1) Emb.same hap gz_X4_howMany qML_RX4_94 qIM_yX4_howMany qSE_yX4_howMany ⟨(Nat.le_of_ble_eq_true rfl), (Nat.le_of_ble_eq_true rfl)⟩ (q0 := 0) rfl (by decide) rfl rfl rfl rfl hl.1 rfl (Nat.le_of_ble_eq_true rfl) dX4_games_74 ⟨Nat.le_refl _, Nat.le_refl _⟩ (fun H locs hP => ?_)
                refine lv_istore (lv' := [(4, .int x15), (0, .ref (ad 0)), (1, .int a1), (2, .int x2), (3, .int x3)]) hx hb dX4_games_77 hl (by decide) rfl (fun ls hl => ?_)
                refine lv_goto (tgt := 53) hx hb dX4_games_79 (by decide) ?_
                exact ih _ _ _ _ _ h hP (lv_sub hl [1, 2, 3, 4, 0] rfl)
          refine hL53 _ (fun σ16 H locs ls h hP hl => ?_) FU _ _ _ _ _ h hP (lv_sub hl [1, 2, 3, 4, 0] rfl)
          refine lv_aload_n hx hb dX4_games_82 rfl (lv_at hl 0 rfl) ?_
          refine lv_iconst (v := 0) hx hb dX4_games_83 (by decide) ?_
          obtain ⟨x17, h1, h⟩ := k_ob h
          refine k_callVi C hP hap hAA (c_X4_leadOf l ev ad σ16 0   _ h1) Emb.same hap gz_X4_leadOf qML_RX4_226 qIM_yX4_leadOf qSE_yX4_leadOf ⟨(Nat.le_of_ble_eq_true rfl), (Nat.le_of_ble_eq_true rfl)⟩ (q0 := 0) rfl (by decide) rfl rfl rfl rfl hl.1 rfl (Nat.le_of_ble_eq_true rfl) dX4_games_84 ⟨Nat.le_refl _, Nat.le_refl _⟩ (fun H locs hP => ?_)
          refine lv_if_le (tgt := 93) hx hb dX4_games_87 (by decide) (fun c87 => ?_) (fun c87 => ?_)
          · have h := k_if c87 h
            obtain ⟨x18, ex18, h⟩ := k_ltx h
            refine lv_iinc (v := x18) (lv' := [(3, .int x18), (0, .ref (ad 0)), (1, .int a1), (2, .int x2)]) hx hb dX4_games_93 hl (k := 3) rfl (by rw [ex18]; rfl) (by decide) rfl (fun ls hl => ?_)
            refine lv_goto (tgt := 29) hx hb dX4_games_96 (by decide) ?_
            exact ih _ _ _ _ _ _ h hP (lv_sub hl [1, 2, 3, 0] rfl)
          · have h := k_nf c87 h
            obtain ⟨x19, ex19, h⟩ := k_ltx h
            refine lv_iinc (v := x19) (lv' := [(2, .int x19), (0, .ref (ad 0)), (1, .int a1), (3, .int x3)]) hx hb dX4_games_90 hl (k := 2) rfl (by rw [ex19]; rfl) (by decide) rfl (fun ls hl => ?_)
            obtain ⟨x20, ex20, h⟩ := k_ltx h
            refine lv_iinc (v := x20) (lv' := [(3, .int x20), (2, .int x19), (0, .ref (ad 0)), (1, .int a1)]) hx hb dX4_games_93 hl (k := 3) rfl (by rw [ex20]; rfl) (by decide) rfl (fun ls hl => ?_)
            refine lv_goto (tgt := 29) hx hb dX4_games_96 (by decide) ?_
            exact ih _ _ _ _ _ _ h hP (lv_sub hl [2, 3, 1, 0] rfl)
    refine hL29 _ (fun x22 σ23 H locs ls h hP hl => ?_) FU _ _ _ _ _ _ h hP (lv_sub hl [2, 3, 1, 0] rfl)
    refine lv_aload_n hx hb dX4_games_99 rfl (lv_at hl 0 rfl) ?_
    refine r_get C hP (ci := 4) rfl uin_X4 10 (by decide) 0 (by decide) rfl qFL_RX4_48 rfl rfl dX4_games_100 ?_
    refine lv_topi (fun x24 ex24 => ?_)
    have h := k_lt ex24 h
    refine lv_istore_n (lv' := [(3, .int x24), (0, .ref (ad 0)), (2, .int x22)]) hx hb dX4_games_103 rfl hl (by decide) rfl (fun ls hl => ?_)
    refine lv_aload_n hx hb dX4_games_104 rfl (lv_at hl 1 rfl) ?_
    refine lv_aload_n hx hb dX4_games_105 rfl (lv_at hl 1 rfl) ?_
    refine r_get C hP (ci := 4) rfl uin_X4 23 (by decide) 0 (by decide) rfl qFL_RX4_45 rfl rfl dX4_games_106 ?_
    obtain ⟨σ25, h1, h⟩ := k_ob h
    refine k_callVv C hP hap hAA (c_X4_again_ahead l ev ad σ23   _ h1) Emb.same hap gz_X4_again qML_RX4_193 qIM_yX4_again qSE_yX4_again ⟨(Nat.le_of_ble_eq_true rfl), (Nat.le_of_ble_eq_true rfl)⟩ (q0 := 0) rfl (by decide) rfl rfl rfl rfl hl.1 rfl (Nat.le_of_ble_eq_true rfl) dX4_games_109 ⟨Nat.le_refl _, Nat.le_refl _⟩ (fun H locs hP => ?_)
    refine lv_aload_n hx hb dX4_games_112 rfl (lv_at hl 1 rfl) ?_
    refine lv_iload_n hx hb dX4_games_113 rfl (lv_at hl 0 rfl) ?_
    obtain ⟨σ26, eσ26, h⟩ := k_ltx h
    refine pt_M_X4_seed C hP hap hAA eσ26 qFL_RX4_48 dX4_games_114 (fun H locs hP => ?_)
    refine lv_iload_n hx hb dX4_games_117 rfl (lv_at hl 2 rfl) ?_
    exact e_iret C hend hP (k_some2 h).1 (congrArg (mw ev ad) (k_some2 h).2) dX4_games_118
  · have h := k_nf c7 h
    refine lv_aload_n hx hb dX4_games_10 rfl (lv_at hl 0 rfl) ?_
    refine lv_bipush (v := (-2)) hx hb dX4_games_11 (by decide) ?_
    obtain ⟨x28, σ27, h1, h⟩ := k_ob2 h
    refine k_callVi C hP hap hAA (c_X4_no l ev ad σ (-2)   _ _ h1) Emb.same hap gz_X4_no qML_RX4_56 qIM_yX4_no qSE_yX4_no ⟨(Nat.le_of_ble_eq_true rfl), (Nat.le_of_ble_eq_true rfl)⟩ (q0 := 0) rfl (by decide) rfl rfl rfl rfl hl.1 rfl (Nat.le_of_ble_eq_true rfl) dX4_games_13 ⟨Nat.le_refl _, Nat.le_refl _⟩ (fun H locs hP => ?_)
    exact e_iret C hend hP (k_some2 h).1 (congrArg (mw ev ad) (k_some2 h).2) dX4_games_16
def f_X4_seed (σ : MM) (a1 : Int32) : Option (Int32 × MM) :=
  lt (m_seed σ) (fun x1 => lt (m_seed' σ a1) (fun σ2 => some (x1, σ2)))
set_option maxHeartbeats 4000000 in
set_option maxRecDepth 100000 in
theorem c_X4_seed (l : Launch) (ev : EV) (ad : Nat → Nat) (σ : MM) (a1 : Int32)   (r : Int32) (σ' : MM) (h : f_X4_seed σ a1 = some (r, σ')) : Ct l yX4_seed prog_6_method_115_code 3 (Option.some Jvm.ClassFile.FieldType.int) (rmk 0 0) ev 13 ad (mw ev ad σ) (mw ev ad σ') [.ref (ad 0), .int a1] (some (.int r)) := by
  refine Ct.of (by decide +kernel) (Nat.le_of_ble_eq_true rfl) ?_
  intro p e s m args below meth c Qc C hap hP hend ls hl
  have hAA : ∀ j, j < 13 → inA ad 13 (ad j) := fun j hj => ⟨j, hj, rfl⟩
  have hx := C.1
  have hb := C.2.1
  have hl : lv_has ls 3 [(0, .ref (ad 0)), (1, .int a1)] := hl
  have h := (f_X4_seed.eq_1 _ _ ).symm.trans h
  refine lv_aload_n hx hb dX4_seed_0 rfl (lv_at hl 0 rfl) ?_
  refine r_get C hP (ci := 4) rfl uin_X4 10 (by decide) 0 (by decide) rfl qFL_RX4_48 rfl rfl dX4_seed_1 ?_
  refine lv_topi (fun x1 ex1 => ?_)
  have h := k_lt ex1 h
  refine lv_istore_n (lv' := [(2, .int x1), (0, .ref (ad 0)), (1, .int a1)]) hx hb dX4_seed_4 rfl hl (by decide) rfl (fun ls hl => ?_)
  refine lv_aload_n hx hb dX4_seed_5 rfl (lv_at hl 1 rfl) ?_
  refine lv_iload_n hx hb dX4_seed_6 rfl (lv_at hl 2 rfl) ?_
  obtain ⟨σ2, eσ2, h⟩ := k_ltx h
  refine pt_M_X4_seed C hP hap hAA eσ2 qFL_RX4_48 dX4_seed_7 (fun H locs hP => ?_)
  refine lv_iload_n hx hb dX4_seed_10 rfl (lv_at hl 0 rfl) ?_
  exact e_iret C hend hP (k_some2 h).1 (congrArg (mw ev ad) (k_some2 h).2) dX4_seed_11
def f_X4_keep_old_L2_b  (k31 : MM → Option MM) (rec2 : Int32 → MM → Option MM) (x1 : Int32) (σ2 : MM) : Option MM :=
  if 40 ≤ x1 then k31 σ2 else gd (inb x1 40) (if ((m_hedge σ2) (Int32.toNatClampNeg x1)) = 0 then gd (inb x1 90) (lt (m_old' σ2 (upd (m_old σ2) (Int32.toNatClampNeg x1) 0)) (fun σ3 => lt (x1 + 1) (fun x4 => rec2 x4 σ3))) else gd (inb x1 90) (lt (m_old' σ2 (upd (m_old σ2) (Int32.toNatClampNeg x1) 1)) (fun σ5 => lt (x1 + 1) (fun x6 => rec2 x6 σ5))))
def f_X4_keep_old_L2  (k31 : MM → Option MM) (x1 : Int32) (σ2 : MM) : Option MM :=
  lp (fun _ _ => none) (f_X4_keep_old_L2_b  k31) FU x1 σ2
def f_X4_keep_old_b58 (rec33 : Int32 → MM → Option MM) (x10 : Int32) (x11 : Int32) (x12 : Int32) (σ13 : MM) : Option MM :=
  gd (inb x12 90) (lt (m_old' σ13 (upd (m_old σ13) (Int32.toNatClampNeg x12) x11)) (fun σ14 => gd (inb x10 16) (gd (inb (56 + x10) 90) (lt (m_old' σ14 (upd (m_old σ14) (Int32.toNatClampNeg (56 + x10)) ((m_owner σ14) (Int32.toNatClampNeg x10)))) (fun σ15 => lt (x10 + 1) (fun x16 => rec33 x16 σ15))))))
def f_X4_keep_old_L33_b  (k77 : MM → Option MM) (rec33 : Int32 → MM → Option MM) (x8 : Int32) (σ9 : MM) : Option MM :=
  if 16 ≤ x8 then k77 σ9 else gd (inb x8 16) (if ((m_dug σ9) (Int32.toNatClampNeg x8)) = 0 then f_X4_keep_old_b58 rec33 x8 0 ((40 + x8)) σ9 else f_X4_keep_old_b58 rec33 x8 1 ((40 + x8)) σ9)
def f_X4_keep_old_L33  (k77 : MM → Option MM) (x8 : Int32) (σ9 : MM) : Option MM :=
  lp (fun _ _ => none) (f_X4_keep_old_L33_b  k77) FU x8 σ9
def f_X4_keep_old_L79_b  (k115 : MM → Option MM) (rec79 : Int32 → MM → Option MM) (x18 : Int32) (σ19 : MM) : Option MM :=
  if 6 ≤ x18 then k115 σ19 else gd (inb x18 6) (gd (inb (72 + x18) 90) (lt (m_old' σ19 (upd (m_old σ19) (Int32.toNatClampNeg (72 + x18)) ((m_kind σ19) (Int32.toNatClampNeg x18)))) (fun σ20 => gd (inb x18 6) (gd (inb (78 + x18) 90) (lt (m_old' σ20 (upd (m_old σ20) (Int32.toNatClampNeg (78 + x18)) ((m_own σ20) (Int32.toNatClampNeg x18)))) (fun σ21 => lt (x18 + 1) (fun x22 => rec79 x22 σ21)))))))
def f_X4_keep_old_L79  (k115 : MM → Option MM) (x18 : Int32) (σ19 : MM) : Option MM :=
  lp (fun _ _ => none) (f_X4_keep_old_L79_b  k115) FU x18 σ19
def f_X4_keep_old (σ : MM) : Option MM :=
  f_X4_keep_old_L2 (fun σ7 => f_X4_keep_old_L33 (fun σ17 => f_X4_keep_old_L79 (fun σ23 => gd (inb 84 90) (lt (m_old' σ23 (upd (m_old σ23) (Int32.toNatClampNeg 84) (m_w σ23))) (fun σ24 => gd (inb 85 90) (lt (m_old' σ24 (upd (m_old σ24) (Int32.toNatClampNeg 85) (m_h σ24))) (fun σ25 => gd (inb 86 90) (lt (m_old' σ25 (upd (m_old σ25) (Int32.toNatClampNeg 86) (m_turn σ25))) (fun σ26 => gd (inb 87 90) (lt (m_old' σ26 (upd (m_old σ26) (Int32.toNatClampNeg 87) (m_made σ26))) (fun σ27 => gd (inb 88 90) (lt (m_old' σ27 (upd (m_old σ27) (Int32.toNatClampNeg 88) (m_players σ27))) (fun σ28 => gd (inb 89 90) (lt (m_old' σ28 (upd (m_old σ28) (Int32.toNatClampNeg 89) (m_seed σ28))) (fun σ29 => some σ29))))))))))))) 0 σ17) 0 σ7) 0 σ
set_option maxHeartbeats 4000000 in
set_option maxRecDepth 100000 in
theorem c_X4_keep_old (l : Launch) (ev : EV) (ad : Nat → Nat) (σ : MM)    (σ' : MM) (h : f_X4_keep_old σ = some σ') : Ct l yX4_keep prog_6_method_116_code 3 (Option.none : Option Jvm.ClassFile.FieldType) (rmk 0 0) ev 13 ad (mw ev ad σ) (mw ev ad σ') [.ref (ad 0), .ref (ad 11)] none := by
  refine Ct.of (by decide +kernel) (Nat.le_of_ble_eq_true rfl) ?_
  intro p e s m args below meth c Qc C hap hP hend ls hl
  have hAA : ∀ j, j < 13 → inA ad 13 (ad j) := fun j hj => ⟨j, hj, rfl⟩
  have hx := C.1
  have hb := C.2.1
  have hl : lv_has ls 3 [(0, .ref (ad 0)), (1, .ref (ad 11))] := hl
  have h := (f_X4_keep_old.eq_1 _ ).symm.trans h
  refine lv_iconst (v := 0) hx hb dX4_keep_0 (by decide) ?_
  refine lv_istore_n (lv' := [(2, .int 0), (0, .ref (ad 0)), (1, .ref (ad 11))]) hx hb dX4_keep_1 rfl hl (by decide) rfl (fun ls hl => ?_)
  have hL2 : ∀ (k31 : MM → Option MM) (hk31 : ∀  (σk : MM) (H : Heap) (locs : List Loc) (ls : Array Slot), k31  σk = some σ' → PS ev 13 ad (mw ev ad σk) (inA ad 13) s H locs → lv_has ls 3 [(0, .ref (ad 0)), (1, .ref (ad 11))] → WW ev p l e (rmk 0 0) s m args below meth c Qc ad 13 H locs 31 ls []) (n : Nat) (x1 : Int32) (σ2 : MM) (H : Heap) (locs : List Loc) (ls : Array Slot), lp (fun _ _ => none) (f_X4_keep_old_L2_b  k31) n x1 σ2 = some σ' → PS ev 13 ad (mw ev ad σ2) (inA ad 13) s H locs → lv_has ls 3 [(0, .ref (ad 0)), (1, .ref (ad 11)), (2, .int x1)] → WW ev p l e (rmk 0 0) s m args below meth c Qc ad 13 H locs 2 ls [] := by
    intro k31 hk31 n
    induction n with
    | zero =>
      intro x1 σ2 H locs ls h; exact k_none h
    | succ n ih =>
      intro x1 σ2 H locs ls h hP hl
      have h : f_X4_keep_old_L2_b  k31 (lp (fun _ _ => none) (f_X4_keep_old_L2_b  k31) n) x1 σ2 = some σ' := h
      have h := (f_X4_keep_old_L2_b.eq_1 _ _ _ _ ).symm.trans h
      refine lv_iload_n hx hb dX4_keep_2 rfl (lv_at hl 2 rfl) ?_
      refine lv_bipush (v := 40) hx hb dX4_keep_3 (by decide) ?_
      refine lv_icmp_ge (tgt := 31) hx hb dX4_keep_5 (by decide) (fun c5 => ?_) (fun c5 => ?_)
      · have h := k_if c5 h
        exact hk31 _ _ _ _ h hP (lv_sub hl [0, 1] rfl)
      · have h := k_nf c5 h
        refine lv_aload_n hx hb dX4_keep_8 rfl (lv_at hl 1 rfl) ?_
        refine lv_iload_n hx hb dX4_keep_9 rfl (lv_at hl 2 rfl) ?_
        refine lv_aload_n hx hb dX4_keep_10 rfl (lv_at hl 0 rfl) ?_
        refine r_get C hP (ci := 4) rfl uin_X4 2 (by decide) 0 (by decide) rfl qFL_RX4_7 rfl rfl dX4_keep_11 ?_
        refine lv_iload_n hx hb dX4_keep_14 rfl (lv_at hl 2 rfl) ?_
        obtain ⟨hg, h⟩ := k_gd h
        refine r_zald C hP 1 (by decide) rfl hg dX4_keep_15 ?_
        refine lv_if_eq (tgt := 23) hx hb dX4_keep_16 (by decide) (fun c16 => ?_) (fun c16 => ?_)
        · have h := k_if c16 h
          refine lv_iconst (v := 0) hx hb dX4_keep_23 (by decide) ?_
          obtain ⟨hg, h⟩ := k_gd h
          obtain ⟨σ3, eσ3, h⟩ := k_ltx h
          refine st_M_old C hP hap hAA eσ3 hg dX4_keep_24 (fun H locs hP => ?_)
          obtain ⟨x4, ex4, h⟩ := k_ltx h
          refine lv_iinc (v := x4) (lv' := [(2, .int x4), (0, .ref (ad 0)), (1, .ref (ad 11))]) hx hb dX4_keep_25 hl (k := 2) rfl (by rw [ex4]; rfl) (by decide) rfl (fun ls hl => ?_)
          refine lv_goto (tgt := 2) hx hb dX4_keep_28 (by decide) ?_
          exact ih _ _ _ _ _ h hP (lv_sub hl [1, 2, 0] rfl)
        · have h := k_nf c16 h
          refine lv_iconst (v := 1) hx hb dX4_keep_19 (by decide) ?_
          refine lv_goto (tgt := 24) hx hb dX4_keep_20 (by decide) ?_
          obtain ⟨hg, h⟩ := k_gd h
          obtain ⟨σ5, eσ5, h⟩ := k_ltx h
          refine st_M_old C hP hap hAA eσ5 hg dX4_keep_24 (fun H locs hP => ?_)
          obtain ⟨x6, ex6, h⟩ := k_ltx h
          refine lv_iinc (v := x6) (lv' := [(2, .int x6), (0, .ref (ad 0)), (1, .ref (ad 11))]) hx hb dX4_keep_25 hl (k := 2) rfl (by rw [ex6]; rfl) (by decide) rfl (fun ls hl => ?_)
          refine lv_goto (tgt := 2) hx hb dX4_keep_28 (by decide) ?_
          exact ih _ _ _ _ _ h hP (lv_sub hl [1, 2, 0] rfl)
  refine hL2 _ (fun σ7 H locs ls h hP hl => ?_) FU _ _ _ _ _ h hP (lv_sub hl [1, 2, 0] rfl)
  refine lv_iconst (v := 0) hx hb dX4_keep_31 (by decide) ?_
  refine lv_istore_n (lv' := [(2, .int 0), (0, .ref (ad 0)), (1, .ref (ad 11))]) hx hb dX4_keep_32 rfl hl (by decide) rfl (fun ls hl => ?_)
  have hL33 : ∀ (k77 : MM → Option MM) (hk77 : ∀  (σk : MM) (H : Heap) (locs : List Loc) (ls : Array Slot), k77  σk = some σ' → PS ev 13 ad (mw ev ad σk) (inA ad 13) s H locs → lv_has ls 3 [(0, .ref (ad 0)), (1, .ref (ad 11))] → WW ev p l e (rmk 0 0) s m args below meth c Qc ad 13 H locs 77 ls []) (n : Nat) (x8 : Int32) (σ9 : MM) (H : Heap) (locs : List Loc) (ls : Array Slot), lp (fun _ _ => none) (f_X4_keep_old_L33_b  k77) n x8 σ9 = some σ' → PS ev 13 ad (mw ev ad σ9) (inA ad 13) s H locs → lv_has ls 3 [(0, .ref (ad 0)), (1, .ref (ad 11)), (2, .int x8)] → WW ev p l e (rmk 0 0) s m args below meth c Qc ad 13 H locs 33 ls [] := by
    intro k77 hk77 n
    induction n with
    | zero =>
      intro x8 σ9 H locs ls h; exact k_none h
    | succ n ih =>
      intro x8 σ9 H locs ls h hP hl
      have h : f_X4_keep_old_L33_b  k77 (lp (fun _ _ => none) (f_X4_keep_old_L33_b  k77) n) x8 σ9 = some σ' := h
      have h := (f_X4_keep_old_L33_b.eq_1 _ _ _ _ ).symm.trans h
      have hB58 : ∀ (x10 : Int32) (x11 : Int32) (x12 : Int32) (σ13 : MM) (H : Heap) (locs : List Loc) (ls : Array Slot), f_X4_keep_old_b58 (lp (fun _ _ => none) (f_X4_keep_old_L33_b  k77) n) x10 x11 x12 σ13 = some σ' → PS ev 13 ad (mw ev ad σ13) (inA ad 13) s H locs → lv_has ls 3 [(0, .ref (ad 0)), (1, .ref (ad 11)), (2, .int x10)] → WW ev p l e (rmk 0 0) s m args below meth c Qc ad 13 H locs 58 ls [.int x11, .int x12, .ref (ad 11)] := by
        intro x10 x11 x12 σ13 H locs ls h hP hl
        have h := (f_X4_keep_old_b58.eq_1 _ _ _ _ _ ).symm.trans h
        obtain ⟨hg, h⟩ := k_gd h
        obtain ⟨σ14, eσ14, h⟩ := k_ltx h
        refine st_M_old C hP hap hAA eσ14 hg dX4_keep_58 (fun H locs hP => ?_)
        refine lv_aload_n hx hb dX4_keep_59 rfl (lv_at hl 1 rfl) ?_
        refine lv_bipush (v := 56) hx hb dX4_keep_60 (by decide) ?_
        refine lv_iload_n hx hb dX4_keep_62 rfl (lv_at hl 2 rfl) ?_
        refine lv_iadd hx hb dX4_keep_63 ?_
        refine lv_aload_n hx hb dX4_keep_64 rfl (lv_at hl 0 rfl) ?_
        refine r_get C hP (ci := 4) rfl uin_X4 4 (by decide) 0 (by decide) rfl qFL_RX4_16 rfl rfl dX4_keep_65 ?_
        refine lv_iload_n hx hb dX4_keep_68 rfl (lv_at hl 2 rfl) ?_
        obtain ⟨hg, h⟩ := k_gd h
        refine r_iald C hP 3 (by decide) rfl hg dX4_keep_69 ?_
        obtain ⟨hg, h⟩ := k_gd h
        obtain ⟨σ15, eσ15, h⟩ := k_ltx h
        refine st_M_old C hP hap hAA eσ15 hg dX4_keep_70 (fun H locs hP => ?_)
        obtain ⟨x16, ex16, h⟩ := k_ltx h
        refine lv_iinc (v := x16) (lv' := [(2, .int x16), (0, .ref (ad 0)), (1, .ref (ad 11))]) hx hb dX4_keep_71 hl (k := 2) rfl (by rw [ex16]; rfl) (by decide) rfl (fun ls hl => ?_)
        refine lv_goto (tgt := 33) hx hb dX4_keep_74 (by decide) ?_
        exact ih _ _ _ _ _ h hP (lv_sub hl [1, 2, 0] rfl)
      refine lv_iload_n hx hb dX4_keep_33 rfl (lv_at hl 2 rfl) ?_
      refine lv_bipush (v := 16) hx hb dX4_keep_34 (by decide) ?_
      refine lv_icmp_ge (tgt := 77) hx hb dX4_keep_36 (by decide) (fun c36 => ?_) (fun c36 => ?_)
      · have h := k_if c36 h
        exact hk77 _ _ _ _ h hP (lv_sub hl [0, 1] rfl)
      · have h := k_nf c36 h
        refine lv_aload_n hx hb dX4_keep_39 rfl (lv_at hl 1 rfl) ?_
        refine lv_bipush (v := 40) hx hb dX4_keep_40 (by decide) ?_
        refine lv_iload_n hx hb dX4_keep_42 rfl (lv_at hl 2 rfl) ?_
        refine lv_iadd hx hb dX4_keep_43 ?_
        refine lv_aload_n hx hb dX4_keep_44 rfl (lv_at hl 0 rfl) ?_
        refine r_get C hP (ci := 4) rfl uin_X4 3 (by decide) 0 (by decide) rfl qFL_RX4_13 rfl rfl dX4_keep_45 ?_
        refine lv_iload_n hx hb dX4_keep_48 rfl (lv_at hl 2 rfl) ?_
        obtain ⟨hg, h⟩ := k_gd h
        refine r_zald C hP 2 (by decide) rfl hg dX4_keep_49 ?_
        refine lv_if_eq (tgt := 57) hx hb dX4_keep_50 (by decide) (fun c50 => ?_) (fun c50 => ?_)
        · have h := k_if c50 h
          refine lv_iconst (v := 0) hx hb dX4_keep_57 (by decide) ?_
          exact hB58 _ _ _ _ _ _ _ h hP (lv_sub hl [0, 1, 2] rfl)
        · have h := k_nf c50 h
          refine lv_iconst (v := 1) hx hb dX4_keep_53 (by decide) ?_
          refine lv_goto (tgt := 58) hx hb dX4_keep_54 (by decide) ?_
          exact hB58 _ _ _ _ _ _ _ h hP (lv_sub hl [0, 1, 2] rfl)
  refine hL33 _ (fun σ17 H locs ls h hP hl => ?_) FU _ _ _ _ _ h hP (lv_sub hl [1, 2, 0] rfl)
  refine lv_iconst (v := 0) hx hb dX4_keep_77 (by decide) ?_
  refine lv_istore_n (lv' := [(2, .int 0), (0, .ref (ad 0)), (1, .ref (ad 11))]) hx hb dX4_keep_78 rfl hl (by decide) rfl (fun ls hl => ?_)
  have hL79 : ∀ (k115 : MM → Option MM) (hk115 : ∀  (σk : MM) (H : Heap) (locs : List Loc) (ls : Array Slot), k115  σk = some σ' → PS ev 13 ad (mw ev ad σk) (inA ad 13) s H locs → lv_has ls 3 [(0, .ref (ad 0)), (1, .ref (ad 11))] → WW ev p l e (rmk 0 0) s m args below meth c Qc ad 13 H locs 115 ls []) (n : Nat) (x18 : Int32) (σ19 : MM) (H : Heap) (locs : List Loc) (ls : Array Slot), lp (fun _ _ => none) (f_X4_keep_old_L79_b  k115) n x18 σ19 = some σ' → PS ev 13 ad (mw ev ad σ19) (inA ad 13) s H locs → lv_has ls 3 [(0, .ref (ad 0)), (1, .ref (ad 11)), (2, .int x18)] → WW ev p l e (rmk 0 0) s m args below meth c Qc ad 13 H locs 79 ls [] := by
    intro k115 hk115 n
    induction n with
    | zero =>
      intro x18 σ19 H locs ls h; exact k_none h
    | succ n ih =>
      intro x18 σ19 H locs ls h hP hl
      have h : f_X4_keep_old_L79_b  k115 (lp (fun _ _ => none) (f_X4_keep_old_L79_b  k115) n) x18 σ19 = some σ' := h
      have h := (f_X4_keep_old_L79_b.eq_1 _ _ _ _ ).symm.trans h
      refine lv_iload_n hx hb dX4_keep_79 rfl (lv_at hl 2 rfl) ?_
      refine lv_bipush (v := 6) hx hb dX4_keep_80 (by decide) ?_
      refine lv_icmp_ge (tgt := 115) hx hb dX4_keep_82 (by decide) (fun c82 => ?_) (fun c82 => ?_)
      · have h := k_if c82 h
        exact hk115 _ _ _ _ h hP (lv_sub hl [0, 1] rfl)
      · have h := k_nf c82 h
        refine lv_aload_n hx hb dX4_keep_85 rfl (lv_at hl 1 rfl) ?_
        refine lv_bipush (v := 72) hx hb dX4_keep_86 (by decide) ?_
        refine lv_iload_n hx hb dX4_keep_88 rfl (lv_at hl 2 rfl) ?_
        refine lv_iadd hx hb dX4_keep_89 ?_
        refine lv_aload_n hx hb dX4_keep_90 rfl (lv_at hl 0 rfl) ?_
        refine r_get C hP (ci := 4) rfl uin_X4 8 (by decide) 0 (by decide) rfl qFL_RX4_20 rfl rfl dX4_keep_91 ?_
        refine lv_iload_n hx hb dX4_keep_94 rfl (lv_at hl 2 rfl) ?_
        obtain ⟨hg, h⟩ := k_gd h
        refine r_iald C hP 4 (by decide) rfl hg dX4_keep_95 ?_
        obtain ⟨hg, h⟩ := k_gd h
        obtain ⟨σ20, eσ20, h⟩ := k_ltx h
        refine st_M_old C hP hap hAA eσ20 hg dX4_keep_96 (fun H locs hP => ?_)
        refine lv_aload_n hx hb dX4_keep_97 rfl (lv_at hl 1 rfl) ?_
        refine lv_bipush (v := 78) hx hb dX4_keep_98 (by decide) ?_
        refine lv_iload_n hx hb dX4_keep_100 rfl (lv_at hl 2 rfl) ?_
        refine lv_iadd hx hb dX4_keep_101 ?_
        refine lv_aload_n hx hb dX4_keep_102 rfl (lv_at hl 0 rfl) ?_
        refine r_get C hP (ci := 4) rfl uin_X4 9 (by decide) 0 (by decide) rfl qFL_RX4_23 rfl rfl dX4_keep_103 ?_
        refine lv_iload_n hx hb dX4_keep_106 rfl (lv_at hl 2 rfl) ?_
        obtain ⟨hg, h⟩ := k_gd h
        refine r_iald C hP 5 (by decide) rfl hg dX4_keep_107 ?_
        obtain ⟨hg, h⟩ := k_gd h
        obtain ⟨σ21, eσ21, h⟩ := k_ltx h
        refine st_M_old C hP hap hAA eσ21 hg dX4_keep_108 (fun H locs hP => ?_)
        obtain ⟨x22, ex22, h⟩ := k_ltx h
        refine lv_iinc (v := x22) (lv' := [(2, .int x22), (0, .ref (ad 0)), (1, .ref (ad 11))]) hx hb dX4_keep_109 hl (k := 2) rfl (by rw [ex22]; rfl) (by decide) rfl (fun ls hl => ?_)
        refine lv_goto (tgt := 79) hx hb dX4_keep_112 (by decide) ?_
        exact ih _ _ _ _ _ h hP (lv_sub hl [1, 2, 0] rfl)
  refine hL79 _ (fun σ23 H locs ls h hP hl => ?_) FU _ _ _ _ _ h hP (lv_sub hl [1, 2, 0] rfl)
  refine lv_aload_n hx hb dX4_keep_115 rfl (lv_at hl 1 rfl) ?_
  refine lv_bipush (v := 84) hx hb dX4_keep_116 (by decide) ?_
  refine lv_aload_n hx hb dX4_keep_118 rfl (lv_at hl 0 rfl) ?_
  refine r_get C hP (ci := 4) rfl uin_X4 0 (by decide) 0 (by decide) rfl qFL_RX4_67 rfl rfl dX4_keep_119 ?_
  obtain ⟨hg, h⟩ := k_gd h
  obtain ⟨σ24, eσ24, h⟩ := k_ltx h
  refine st_M_old C hP hap hAA eσ24 hg dX4_keep_122 (fun H locs hP => ?_)
  refine lv_aload_n hx hb dX4_keep_123 rfl (lv_at hl 1 rfl) ?_
  refine lv_bipush (v := 85) hx hb dX4_keep_124 (by decide) ?_
  refine lv_aload_n hx hb dX4_keep_126 rfl (lv_at hl 0 rfl) ?_
  refine r_get C hP (ci := 4) rfl uin_X4 1 (by decide) 0 (by decide) rfl qFL_RX4_70 rfl rfl dX4_keep_127 ?_
  obtain ⟨hg, h⟩ := k_gd h
  obtain ⟨σ25, eσ25, h⟩ := k_ltx h
  refine st_M_old C hP hap hAA eσ25 hg dX4_keep_130 (fun H locs hP => ?_)
  refine lv_aload_n hx hb dX4_keep_131 rfl (lv_at hl 1 rfl) ?_
  refine lv_bipush (v := 86) hx hb dX4_keep_132 (by decide) ?_
  refine lv_aload_n hx hb dX4_keep_134 rfl (lv_at hl 0 rfl) ?_
  refine r_get C hP (ci := 4) rfl uin_X4 5 (by decide) 0 (by decide) rfl qFL_RX4_101 rfl rfl dX4_keep_135 ?_
  obtain ⟨hg, h⟩ := k_gd h
  obtain ⟨σ26, eσ26, h⟩ := k_ltx h
  refine st_M_old C hP hap hAA eσ26 hg dX4_keep_138 (fun H locs hP => ?_)
  refine lv_aload_n hx hb dX4_keep_139 rfl (lv_at hl 1 rfl) ?_
  refine lv_bipush (v := 87) hx hb dX4_keep_140 (by decide) ?_
  refine lv_aload_n hx hb dX4_keep_142 rfl (lv_at hl 0 rfl) ?_
  refine r_get C hP (ci := 4) rfl uin_X4 6 (by decide) 0 (by decide) rfl qFL_RX4_104 rfl rfl dX4_keep_143 ?_
  obtain ⟨hg, h⟩ := k_gd h
  obtain ⟨σ27, eσ27, h⟩ := k_ltx h
  refine st_M_old C hP hap hAA eσ27 hg dX4_keep_146 (fun H locs hP => ?_)
  refine lv_aload_n hx hb dX4_keep_147 rfl (lv_at hl 1 rfl) ?_
  refine lv_bipush (v := 88) hx hb dX4_keep_148 (by decide) ?_
  refine lv_aload_n hx hb dX4_keep_150 rfl (lv_at hl 0 rfl) ?_
  refine r_get C hP (ci := 4) rfl uin_X4 7 (by decide) 0 (by decide) rfl qFL_RX4_60 rfl rfl dX4_keep_151 ?_
  obtain ⟨hg, h⟩ := k_gd h
  obtain ⟨σ28, eσ28, h⟩ := k_ltx h
  refine st_M_old C hP hap hAA eσ28 hg dX4_keep_154 (fun H locs hP => ?_)
  refine lv_aload_n hx hb dX4_keep_155 rfl (lv_at hl 1 rfl) ?_
  refine lv_bipush (v := 89) hx hb dX4_keep_156 (by decide) ?_
  refine lv_aload_n hx hb dX4_keep_158 rfl (lv_at hl 0 rfl) ?_
  refine r_get C hP (ci := 4) rfl uin_X4 10 (by decide) 0 (by decide) rfl qFL_RX4_48 rfl rfl dX4_keep_159 ?_
  obtain ⟨hg, h⟩ := k_gd h
  obtain ⟨σ29, eσ29, h⟩ := k_ltx h
  refine st_M_old C hP hap hAA eσ29 hg dX4_keep_162 (fun H locs hP => ?_)
  exact e_vret C hend hP (congrArg (mw ev ad) (k_some h)) dX4_keep_163
def f_X4_again_old_L2_b  (k32 : MM → Option MM) (rec2 : Int32 → MM → Option MM) (x1 : Int32) (σ2 : MM) : Option MM :=
  if 40 ≤ x1 then k32 σ2 else gd (inb x1 90) (if ((m_old σ2) (Int32.toNatClampNeg x1)) = 1 then gd (inb x1 40) (lt (m_hedge' σ2 (upd (m_hedge σ2) (Int32.toNatClampNeg x1) (vp_nar .boolean 1))) (fun σ5 => lt (x1 + 1) (fun x6 => rec2 x6 σ5))) else gd (inb x1 40) (lt (m_hedge' σ2 (upd (m_hedge σ2) (Int32.toNatClampNeg x1) (vp_nar .boolean 0))) (fun σ3 => lt (x1 + 1) (fun x4 => rec2 x4 σ3))))
def f_X4_again_old_L2  (k32 : MM → Option MM) (x1 : Int32) (σ2 : MM) : Option MM :=
  lp (fun _ _ => none) (f_X4_again_old_L2_b  k32) FU x1 σ2
def f_X4_again_old_b60 (rec34 : Int32 → MM → Option MM) (x10 : Int32) (x11 : Int32) (x12 : Int32) (σ13 : MM) : Option MM :=
  gd (inb x12 16) (lt (m_dug' σ13 (upd (m_dug σ13) (Int32.toNatClampNeg x12) (vp_nar .boolean x11))) (fun σ14 => gd (inb (56 + x10) 90) (gd (inb x10 16) (lt (m_owner' σ14 (upd (m_owner σ14) (Int32.toNatClampNeg x10) ((m_old σ14) (Int32.toNatClampNeg (56 + x10))))) (fun σ15 => lt (x10 + 1) (fun x16 => rec34 x16 σ15))))))
def f_X4_again_old_L34_b  (k79 : MM → Option MM) (rec34 : Int32 → MM → Option MM) (x8 : Int32) (σ9 : MM) : Option MM :=
  if 16 ≤ x8 then k79 σ9 else gd (inb (40 + x8) 90) (if ((m_old σ9) (Int32.toNatClampNeg (40 + x8))) = 1 then f_X4_again_old_b60 rec34 x8 1 x8 σ9 else f_X4_again_old_b60 rec34 x8 0 x8 σ9)
def f_X4_again_old_L34  (k79 : MM → Option MM) (x8 : Int32) (σ9 : MM) : Option MM :=
  lp (fun _ _ => none) (f_X4_again_old_L34_b  k79) FU x8 σ9
def f_X4_again_old_L81_b  (k117 : MM → Option MM) (rec81 : Int32 → MM → Option MM) (x18 : Int32) (σ19 : MM) : Option MM :=
  if 6 ≤ x18 then k117 σ19 else gd (inb (72 + x18) 90) (gd (inb x18 6) (lt (m_kind' σ19 (upd (m_kind σ19) (Int32.toNatClampNeg x18) ((m_old σ19) (Int32.toNatClampNeg (72 + x18))))) (fun σ20 => gd (inb (78 + x18) 90) (gd (inb x18 6) (lt (m_own' σ20 (upd (m_own σ20) (Int32.toNatClampNeg x18) ((m_old σ20) (Int32.toNatClampNeg (78 + x18))))) (fun σ21 => lt (x18 + 1) (fun x22 => rec81 x22 σ21)))))))
def f_X4_again_old_L81  (k117 : MM → Option MM) (x18 : Int32) (σ19 : MM) : Option MM :=
  lp (fun _ _ => none) (f_X4_again_old_L81_b  k117) FU x18 σ19
def f_X4_again_old (σ : MM) : Option MM :=
  f_X4_again_old_L2 (fun σ7 => f_X4_again_old_L34 (fun σ17 => f_X4_again_old_L81 (fun σ23 => gd (inb 84 90) (lt (m_w' σ23 ((m_old σ23) (Int32.toNatClampNeg 84))) (fun σ24 => gd (inb 85 90) (lt (m_h' σ24 ((m_old σ24) (Int32.toNatClampNeg 85))) (fun σ25 => gd (inb 86 90) (lt (m_turn' σ25 ((m_old σ25) (Int32.toNatClampNeg 86))) (fun σ26 => gd (inb 87 90) (lt (m_made' σ26 ((m_old σ26) (Int32.toNatClampNeg 87))) (fun σ27 => gd (inb 88 90) (lt (m_players' σ27 ((m_old σ27) (Int32.toNatClampNeg 88))) (fun σ28 => gd (inb 89 90) (lt (m_seed' σ28 ((m_old σ28) (Int32.toNatClampNeg 89))) (fun σ29 => some σ29))))))))))))) 0 σ17) 0 σ7) 0 σ
set_option maxHeartbeats 4000000 in
set_option maxRecDepth 100000 in
theorem c_X4_again_old (l : Launch) (ev : EV) (ad : Nat → Nat) (σ : MM)    (σ' : MM) (h : f_X4_again_old σ = some σ') : Ct l yX4_again prog_6_method_117_code 3 (Option.none : Option Jvm.ClassFile.FieldType) (rmk 0 0) ev 13 ad (mw ev ad σ) (mw ev ad σ') [.ref (ad 0), .ref (ad 11)] none := by
  refine Ct.of (by decide +kernel) (Nat.le_of_ble_eq_true rfl) ?_
  intro p e s m args below meth c Qc C hap hP hend ls hl
  have hAA : ∀ j, j < 13 → inA ad 13 (ad j) := fun j hj => ⟨j, hj, rfl⟩
  have hx := C.1
  have hb := C.2.1
  have hl : lv_has ls 3 [(0, .ref (ad 0)), (1, .ref (ad 11))] := hl
  have h := (f_X4_again_old.eq_1 _ ).symm.trans h
  refine lv_iconst (v := 0) hx hb dX4_again_0 (by decide) ?_
  refine lv_istore_n (lv' := [(2, .int 0), (0, .ref (ad 0)), (1, .ref (ad 11))]) hx hb dX4_again_1 rfl hl (by decide) rfl (fun ls hl => ?_)
  have hL2 : ∀ (k32 : MM → Option MM) (hk32 : ∀  (σk : MM) (H : Heap) (locs : List Loc) (ls : Array Slot), k32  σk = some σ' → PS ev 13 ad (mw ev ad σk) (inA ad 13) s H locs → lv_has ls 3 [(0, .ref (ad 0)), (1, .ref (ad 11))] → WW ev p l e (rmk 0 0) s m args below meth c Qc ad 13 H locs 32 ls []) (n : Nat) (x1 : Int32) (σ2 : MM) (H : Heap) (locs : List Loc) (ls : Array Slot), lp (fun _ _ => none) (f_X4_again_old_L2_b  k32) n x1 σ2 = some σ' → PS ev 13 ad (mw ev ad σ2) (inA ad 13) s H locs → lv_has ls 3 [(0, .ref (ad 0)), (1, .ref (ad 11)), (2, .int x1)] → WW ev p l e (rmk 0 0) s m args below meth c Qc ad 13 H locs 2 ls [] := by
    intro k32 hk32 n
    induction n with
    | zero =>
      intro x1 σ2 H locs ls h; exact k_none h
    | succ n ih =>
      intro x1 σ2 H locs ls h hP hl
      have h : f_X4_again_old_L2_b  k32 (lp (fun _ _ => none) (f_X4_again_old_L2_b  k32) n) x1 σ2 = some σ' := h
      have h := (f_X4_again_old_L2_b.eq_1 _ _ _ _ ).symm.trans h
      refine lv_iload_n hx hb dX4_again_2 rfl (lv_at hl 2 rfl) ?_
      refine lv_bipush (v := 40) hx hb dX4_again_3 (by decide) ?_
      refine lv_icmp_ge (tgt := 32) hx hb dX4_again_5 (by decide) (fun c5 => ?_) (fun c5 => ?_)
      · have h := k_if c5 h
        exact hk32 _ _ _ _ h hP (lv_sub hl [0, 1] rfl)
      · have h := k_nf c5 h
        refine lv_aload_n hx hb dX4_again_8 rfl (lv_at hl 0 rfl) ?_
        refine r_get C hP (ci := 4) rfl uin_X4 2 (by decide) 0 (by decide) rfl qFL_RX4_7 rfl rfl dX4_again_9 ?_
        refine lv_iload_n hx hb dX4_again_12 rfl (lv_at hl 2 rfl) ?_
        refine lv_aload_n hx hb dX4_again_13 rfl (lv_at hl 1 rfl) ?_
        refine lv_iload_n hx hb dX4_again_14 rfl (lv_at hl 2 rfl) ?_
        obtain ⟨hg, h⟩ := k_gd h
        refine r_iald C hP 11 (by decide) rfl hg dX4_again_15 ?_
        refine lv_iconst (v := 1) hx hb dX4_again_16 (by decide) ?_
        refine lv_icmp_ne (tgt := 24) hx hb dX4_again_17 (by decide) (fun c17 => ?_) (fun c17 => ?_)
        · have h := k_nf c17 h
          refine lv_iconst (v := 0) hx hb dX4_again_24 (by decide) ?_
          obtain ⟨hg, h⟩ := k_gd h
          obtain ⟨σ3, eσ3, h⟩ := k_ltx h
          refine st_M_hedge C hP hap hAA eσ3 hg dX4_again_25 (fun H locs hP => ?_)
          obtain ⟨x4, ex4, h⟩ := k_ltx h
          refine lv_iinc (v := x4) (lv' := [(2, .int x4), (0, .ref (ad 0)), (1, .ref (ad 11))]) hx hb dX4_again_26 hl (k := 2) rfl (by rw [ex4]; rfl) (by decide) rfl (fun ls hl => ?_)
          refine lv_goto (tgt := 2) hx hb dX4_again_29 (by decide) ?_
          exact ih _ _ _ _ _ h hP (lv_sub hl [1, 2, 0] rfl)
        · have h := k_if c17 h
          refine lv_iconst (v := 1) hx hb dX4_again_20 (by decide) ?_
          refine lv_goto (tgt := 25) hx hb dX4_again_21 (by decide) ?_
          obtain ⟨hg, h⟩ := k_gd h
          obtain ⟨σ5, eσ5, h⟩ := k_ltx h
          refine st_M_hedge C hP hap hAA eσ5 hg dX4_again_25 (fun H locs hP => ?_)
          obtain ⟨x6, ex6, h⟩ := k_ltx h
          refine lv_iinc (v := x6) (lv' := [(2, .int x6), (0, .ref (ad 0)), (1, .ref (ad 11))]) hx hb dX4_again_26 hl (k := 2) rfl (by rw [ex6]; rfl) (by decide) rfl (fun ls hl => ?_)
          refine lv_goto (tgt := 2) hx hb dX4_again_29 (by decide) ?_
          exact ih _ _ _ _ _ h hP (lv_sub hl [1, 2, 0] rfl)
  refine hL2 _ (fun σ7 H locs ls h hP hl => ?_) FU _ _ _ _ _ h hP (lv_sub hl [1, 2, 0] rfl)
  refine lv_iconst (v := 0) hx hb dX4_again_32 (by decide) ?_
  refine lv_istore_n (lv' := [(2, .int 0), (0, .ref (ad 0)), (1, .ref (ad 11))]) hx hb dX4_again_33 rfl hl (by decide) rfl (fun ls hl => ?_)
  have hL34 : ∀ (k79 : MM → Option MM) (hk79 : ∀  (σk : MM) (H : Heap) (locs : List Loc) (ls : Array Slot), k79  σk = some σ' → PS ev 13 ad (mw ev ad σk) (inA ad 13) s H locs → lv_has ls 3 [(0, .ref (ad 0)), (1, .ref (ad 11))] → WW ev p l e (rmk 0 0) s m args below meth c Qc ad 13 H locs 79 ls []) (n : Nat) (x8 : Int32) (σ9 : MM) (H : Heap) (locs : List Loc) (ls : Array Slot), lp (fun _ _ => none) (f_X4_again_old_L34_b  k79) n x8 σ9 = some σ' → PS ev 13 ad (mw ev ad σ9) (inA ad 13) s H locs → lv_has ls 3 [(0, .ref (ad 0)), (1, .ref (ad 11)), (2, .int x8)] → WW ev p l e (rmk 0 0) s m args below meth c Qc ad 13 H locs 34 ls [] := by
    intro k79 hk79 n
    induction n with
    | zero =>
      intro x8 σ9 H locs ls h; exact k_none h
    | succ n ih =>
      intro x8 σ9 H locs ls h hP hl
      have h : f_X4_again_old_L34_b  k79 (lp (fun _ _ => none) (f_X4_again_old_L34_b  k79) n) x8 σ9 = some σ' := h
      have h := (f_X4_again_old_L34_b.eq_1 _ _ _ _ ).symm.trans h
      have hB60 : ∀ (x10 : Int32) (x11 : Int32) (x12 : Int32) (σ13 : MM) (H : Heap) (locs : List Loc) (ls : Array Slot), f_X4_again_old_b60 (lp (fun _ _ => none) (f_X4_again_old_L34_b  k79) n) x10 x11 x12 σ13 = some σ' → PS ev 13 ad (mw ev ad σ13) (inA ad 13) s H locs → lv_has ls 3 [(0, .ref (ad 0)), (1, .ref (ad 11)), (2, .int x10)] → WW ev p l e (rmk 0 0) s m args below meth c Qc ad 13 H locs 60 ls [.int x11, .int x12, .ref (ad 2)] := by
        intro x10 x11 x12 σ13 H locs ls h hP hl
        have h := (f_X4_again_old_b60.eq_1 _ _ _ _ _ ).symm.trans h
        obtain ⟨hg, h⟩ := k_gd h
        obtain ⟨σ14, eσ14, h⟩ := k_ltx h
        refine st_M_dug C hP hap hAA eσ14 hg dX4_again_60 (fun H locs hP => ?_)
        refine lv_aload_n hx hb dX4_again_61 rfl (lv_at hl 0 rfl) ?_
        refine r_get C hP (ci := 4) rfl uin_X4 4 (by decide) 0 (by decide) rfl qFL_RX4_16 rfl rfl dX4_again_62 ?_
        refine lv_iload_n hx hb dX4_again_65 rfl (lv_at hl 2 rfl) ?_
        refine lv_aload_n hx hb dX4_again_66 rfl (lv_at hl 1 rfl) ?_
        refine lv_bipush (v := 56) hx hb dX4_again_67 (by decide) ?_
        refine lv_iload_n hx hb dX4_again_69 rfl (lv_at hl 2 rfl) ?_
        refine lv_iadd hx hb dX4_again_70 ?_
        obtain ⟨hg, h⟩ := k_gd h
        refine r_iald C hP 11 (by decide) rfl hg dX4_again_71 ?_
        obtain ⟨hg, h⟩ := k_gd h
        obtain ⟨σ15, eσ15, h⟩ := k_ltx h
        refine st_M_owner C hP hap hAA eσ15 hg dX4_again_72 (fun H locs hP => ?_)
        obtain ⟨x16, ex16, h⟩ := k_ltx h
        refine lv_iinc (v := x16) (lv' := [(2, .int x16), (0, .ref (ad 0)), (1, .ref (ad 11))]) hx hb dX4_again_73 hl (k := 2) rfl (by rw [ex16]; rfl) (by decide) rfl (fun ls hl => ?_)
        refine lv_goto (tgt := 34) hx hb dX4_again_76 (by decide) ?_
        exact ih _ _ _ _ _ h hP (lv_sub hl [1, 2, 0] rfl)
      refine lv_iload_n hx hb dX4_again_34 rfl (lv_at hl 2 rfl) ?_
      refine lv_bipush (v := 16) hx hb dX4_again_35 (by decide) ?_
      refine lv_icmp_ge (tgt := 79) hx hb dX4_again_37 (by decide) (fun c37 => ?_) (fun c37 => ?_)
      · have h := k_if c37 h
        exact hk79 _ _ _ _ h hP (lv_sub hl [0, 1] rfl)
      · have h := k_nf c37 h
        refine lv_aload_n hx hb dX4_again_40 rfl (lv_at hl 0 rfl) ?_
        refine r_get C hP (ci := 4) rfl uin_X4 3 (by decide) 0 (by decide) rfl qFL_RX4_13 rfl rfl dX4_again_41 ?_
        refine lv_iload_n hx hb dX4_again_44 rfl (lv_at hl 2 rfl) ?_
        refine lv_aload_n hx hb dX4_again_45 rfl (lv_at hl 1 rfl) ?_
        refine lv_bipush (v := 40) hx hb dX4_again_46 (by decide) ?_
        refine lv_iload_n hx hb dX4_again_48 rfl (lv_at hl 2 rfl) ?_
        refine lv_iadd hx hb dX4_again_49 ?_
        obtain ⟨hg, h⟩ := k_gd h
        refine r_iald C hP 11 (by decide) rfl hg dX4_again_50 ?_
        refine lv_iconst (v := 1) hx hb dX4_again_51 (by decide) ?_
        refine lv_icmp_ne (tgt := 59) hx hb dX4_again_52 (by decide) (fun c52 => ?_) (fun c52 => ?_)
        · have h := k_nf c52 h
          refine lv_iconst (v := 0) hx hb dX4_again_59 (by decide) ?_
          exact hB60 _ _ _ _ _ _ _ h hP (lv_sub hl [0, 1, 2] rfl)
        · have h := k_if c52 h
          refine lv_iconst (v := 1) hx hb dX4_again_55 (by decide) ?_
          refine lv_goto (tgt := 60) hx hb dX4_again_56 (by decide) ?_
          exact hB60 _ _ _ _ _ _ _ h hP (lv_sub hl [0, 1, 2] rfl)
  refine hL34 _ (fun σ17 H locs ls h hP hl => ?_) FU _ _ _ _ _ h hP (lv_sub hl [1, 2, 0] rfl)
  refine lv_iconst (v := 0) hx hb dX4_again_79 (by decide) ?_
  refine lv_istore_n (lv' := [(2, .int 0), (0, .ref (ad 0)), (1, .ref (ad 11))]) hx hb dX4_again_80 rfl hl (by decide) rfl (fun ls hl => ?_)
  have hL81 : ∀ (k117 : MM → Option MM) (hk117 : ∀  (σk : MM) (H : Heap) (locs : List Loc) (ls : Array Slot), k117  σk = some σ' → PS ev 13 ad (mw ev ad σk) (inA ad 13) s H locs → lv_has ls 3 [(0, .ref (ad 0)), (1, .ref (ad 11))] → WW ev p l e (rmk 0 0) s m args below meth c Qc ad 13 H locs 117 ls []) (n : Nat) (x18 : Int32) (σ19 : MM) (H : Heap) (locs : List Loc) (ls : Array Slot), lp (fun _ _ => none) (f_X4_again_old_L81_b  k117) n x18 σ19 = some σ' → PS ev 13 ad (mw ev ad σ19) (inA ad 13) s H locs → lv_has ls 3 [(0, .ref (ad 0)), (1, .ref (ad 11)), (2, .int x18)] → WW ev p l e (rmk 0 0) s m args below meth c Qc ad 13 H locs 81 ls [] := by
    intro k117 hk117 n
    induction n with
    | zero =>
      intro x18 σ19 H locs ls h; exact k_none h
    | succ n ih =>
      intro x18 σ19 H locs ls h hP hl
      have h : f_X4_again_old_L81_b  k117 (lp (fun _ _ => none) (f_X4_again_old_L81_b  k117) n) x18 σ19 = some σ' := h
      have h := (f_X4_again_old_L81_b.eq_1 _ _ _ _ ).symm.trans h
      refine lv_iload_n hx hb dX4_again_81 rfl (lv_at hl 2 rfl) ?_
      refine lv_bipush (v := 6) hx hb dX4_again_82 (by decide) ?_
      refine lv_icmp_ge (tgt := 117) hx hb dX4_again_84 (by decide) (fun c84 => ?_) (fun c84 => ?_)
      · have h := k_if c84 h
        exact hk117 _ _ _ _ h hP (lv_sub hl [0, 1] rfl)
      · have h := k_nf c84 h
        refine lv_aload_n hx hb dX4_again_87 rfl (lv_at hl 0 rfl) ?_
        refine r_get C hP (ci := 4) rfl uin_X4 8 (by decide) 0 (by decide) rfl qFL_RX4_20 rfl rfl dX4_again_88 ?_
        refine lv_iload_n hx hb dX4_again_91 rfl (lv_at hl 2 rfl) ?_
        refine lv_aload_n hx hb dX4_again_92 rfl (lv_at hl 1 rfl) ?_
        refine lv_bipush (v := 72) hx hb dX4_again_93 (by decide) ?_
        refine lv_iload_n hx hb dX4_again_95 rfl (lv_at hl 2 rfl) ?_
        refine lv_iadd hx hb dX4_again_96 ?_
        obtain ⟨hg, h⟩ := k_gd h
        refine r_iald C hP 11 (by decide) rfl hg dX4_again_97 ?_
        obtain ⟨hg, h⟩ := k_gd h
        obtain ⟨σ20, eσ20, h⟩ := k_ltx h
        refine st_M_kind C hP hap hAA eσ20 hg dX4_again_98 (fun H locs hP => ?_)
        refine lv_aload_n hx hb dX4_again_99 rfl (lv_at hl 0 rfl) ?_
        refine r_get C hP (ci := 4) rfl uin_X4 9 (by decide) 0 (by decide) rfl qFL_RX4_23 rfl rfl dX4_again_100 ?_
        refine lv_iload_n hx hb dX4_again_103 rfl (lv_at hl 2 rfl) ?_
        refine lv_aload_n hx hb dX4_again_104 rfl (lv_at hl 1 rfl) ?_
        refine lv_bipush (v := 78) hx hb dX4_again_105 (by decide) ?_
        refine lv_iload_n hx hb dX4_again_107 rfl (lv_at hl 2 rfl) ?_
        refine lv_iadd hx hb dX4_again_108 ?_
        obtain ⟨hg, h⟩ := k_gd h
        refine r_iald C hP 11 (by decide) rfl hg dX4_again_109 ?_
        obtain ⟨hg, h⟩ := k_gd h
        obtain ⟨σ21, eσ21, h⟩ := k_ltx h
        refine st_M_own C hP hap hAA eσ21 hg dX4_again_110 (fun H locs hP => ?_)
        obtain ⟨x22, ex22, h⟩ := k_ltx h
        refine lv_iinc (v := x22) (lv' := [(2, .int x22), (0, .ref (ad 0)), (1, .ref (ad 11))]) hx hb dX4_again_111 hl (k := 2) rfl (by rw [ex22]; rfl) (by decide) rfl (fun ls hl => ?_)
        refine lv_goto (tgt := 81) hx hb dX4_again_114 (by decide) ?_
        exact ih _ _ _ _ _ h hP (lv_sub hl [1, 2, 0] rfl)
  refine hL81 _ (fun σ23 H locs ls h hP hl => ?_) FU _ _ _ _ _ h hP (lv_sub hl [1, 2, 0] rfl)
  refine lv_aload_n hx hb dX4_again_117 rfl (lv_at hl 0 rfl) ?_
  refine lv_aload_n hx hb dX4_again_118 rfl (lv_at hl 1 rfl) ?_
  refine lv_bipush (v := 84) hx hb dX4_again_119 (by decide) ?_
  obtain ⟨hg, h⟩ := k_gd h
  refine r_iald C hP 11 (by decide) rfl hg dX4_again_121 ?_
  obtain ⟨σ24, eσ24, h⟩ := k_ltx h
  refine pt_M_X4_w C hP hap hAA eσ24 qFL_RX4_67 dX4_again_122 (fun H locs hP => ?_)
  refine lv_aload_n hx hb dX4_again_125 rfl (lv_at hl 0 rfl) ?_
  refine lv_aload_n hx hb dX4_again_126 rfl (lv_at hl 1 rfl) ?_
  refine lv_bipush (v := 85) hx hb dX4_again_127 (by decide) ?_
  obtain ⟨hg, h⟩ := k_gd h
  refine r_iald C hP 11 (by decide) rfl hg dX4_again_129 ?_
  obtain ⟨σ25, eσ25, h⟩ := k_ltx h
  refine pt_M_X4_h C hP hap hAA eσ25 qFL_RX4_70 dX4_again_130 (fun H locs hP => ?_)
  refine lv_aload_n hx hb dX4_again_133 rfl (lv_at hl 0 rfl) ?_
  refine lv_aload_n hx hb dX4_again_134 rfl (lv_at hl 1 rfl) ?_
  refine lv_bipush (v := 86) hx hb dX4_again_135 (by decide) ?_
  obtain ⟨hg, h⟩ := k_gd h
  refine r_iald C hP 11 (by decide) rfl hg dX4_again_137 ?_
  obtain ⟨σ26, eσ26, h⟩ := k_ltx h
  refine pt_M_X4_turn C hP hap hAA eσ26 qFL_RX4_101 dX4_again_138 (fun H locs hP => ?_)
  refine lv_aload_n hx hb dX4_again_141 rfl (lv_at hl 0 rfl) ?_
  refine lv_aload_n hx hb dX4_again_142 rfl (lv_at hl 1 rfl) ?_
  refine lv_bipush (v := 87) hx hb dX4_again_143 (by decide) ?_
  obtain ⟨hg, h⟩ := k_gd h
  refine r_iald C hP 11 (by decide) rfl hg dX4_again_145 ?_
  obtain ⟨σ27, eσ27, h⟩ := k_ltx h
  refine pt_M_X4_made C hP hap hAA eσ27 qFL_RX4_104 dX4_again_146 (fun H locs hP => ?_)
  refine lv_aload_n hx hb dX4_again_149 rfl (lv_at hl 0 rfl) ?_
  refine lv_aload_n hx hb dX4_again_150 rfl (lv_at hl 1 rfl) ?_
  refine lv_bipush (v := 88) hx hb dX4_again_151 (by decide) ?_
  obtain ⟨hg, h⟩ := k_gd h
  refine r_iald C hP 11 (by decide) rfl hg dX4_again_153 ?_
  obtain ⟨σ28, eσ28, h⟩ := k_ltx h
  refine pt_M_X4_players C hP hap hAA eσ28 qFL_RX4_60 dX4_again_154 (fun H locs hP => ?_)
  refine lv_aload_n hx hb dX4_again_157 rfl (lv_at hl 0 rfl) ?_
  refine lv_aload_n hx hb dX4_again_158 rfl (lv_at hl 1 rfl) ?_
  refine lv_bipush (v := 89) hx hb dX4_again_159 (by decide) ?_
  obtain ⟨hg, h⟩ := k_gd h
  refine r_iald C hP 11 (by decide) rfl hg dX4_again_161 ?_
  obtain ⟨σ29, eσ29, h⟩ := k_ltx h
  refine pt_M_X4_seed C hP hap hAA eσ29 qFL_RX4_48 dX4_again_162 (fun H locs hP => ?_)
  exact e_vret C hend hP (congrArg (mw ev ad) (k_some h)) dX4_again_165
