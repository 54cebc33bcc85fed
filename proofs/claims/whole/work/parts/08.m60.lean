/-! functions read off, and their contracts: by program (wip/whole/gen2.py) -/
def f_X4_lived_L2_b (a1 : Int32) (a2 : Int32)  (rec2 : Int32 → MM → Option (Int32 × MM)) (x1 : Int32) (σ2 : MM) : Option (Int32 × MM) :=
  if a2 ≤ x1 then some ((-1), σ2) else ob (f_X4_toldAt σ2 a1 x1) (fun x3 => if (f_X4_isMove σ2 x3) = true then ob (f_X4_mayBe σ2 x3) (fun b4 => if b4 = true then ob2 (f_X4_makes σ2 x3) (fun x6 σ5 => lt (x1 + 1) (fun x7 => rec2 x7 σ5)) else some (x1, σ2)) else some (x1, σ2))
def f_X4_lived_L2 (a1 : Int32) (a2 : Int32)  (x1 : Int32) (σ2 : MM) : Option (Int32 × MM) :=
  lp (fun _ _ => none) (f_X4_lived_L2_b a1 a2 ) FU x1 σ2
def f_X4_lived (σ : MM) (a1 : Int32) (a2 : Int32) : Option (Int32 × MM) :=
  f_X4_lived_L2 a1 a2 0 σ
set_option maxHeartbeats 4000000 in
set_option maxRecDepth 100000 in
theorem c_X4_lived (l : Launch) (ev : EV) (ad : Nat → Nat) (σ : MM) (a1 : Int32) (a2 : Int32)   (r : Int32) (σ' : MM) (h : f_X4_lived σ a1 a2 = some (r, σ')) : Ct l yX4_lived prog_6_method_108_code 5 (Option.some Jvm.ClassFile.FieldType.int) (rmk 4 91) ev 13 ad (mw ev ad σ) (mw ev ad σ') [.ref (ad 0), .int a1, .int a2] (some (.int r)) := by
  refine Ct.of (by decide +kernel) (Nat.le_of_ble_eq_true rfl) ?_
  intro p e s m args below meth c Qc C hap hP hend ls hl
  have hAA : ∀ j, j < 13 → inA ad 13 (ad j) := fun j hj => ⟨j, hj, rfl⟩
  have hx := C.1
  have hb := C.2.1
  have hl : lv_has ls 5 [(0, .ref (ad 0)), (1, .int a1), (2, .int a2)] := hl
  have h := (f_X4_lived.eq_1 _ _ _ ).symm.trans h
  refine lv_iconst (v := 0) hx hb dX4_lived_0 (by decide) ?_
  refine lv_istore_n (lv' := [(3, .int 0), (0, .ref (ad 0)), (1, .int a1), (2, .int a2)]) hx hb dX4_lived_1 rfl hl (by decide) rfl (fun ls hl => ?_)
  have hL2 : ∀ (n : Nat) (x1 : Int32) (σ2 : MM) (H : Heap) (locs : List Loc) (ls : Array Slot), lp (fun _ _ => none) (f_X4_lived_L2_b a1 a2 ) n x1 σ2 = some (r, σ') → PS ev 13 ad (mw ev ad σ2) (inA ad 13) s H locs → lv_has ls 5 [(0, .ref (ad 0)), (1, .int a1), (2, .int a2), (3, .int x1)] → WW ev p l e (rmk 4 91) s m args below meth c Qc ad 13 H locs 2 ls [] := by
    intro n
    induction n with
    | zero =>
      intro x1 σ2 H locs ls h; exact k_none h
    | succ n ih =>
      intro x1 σ2 H locs ls h hP hl
      have h : f_X4_lived_L2_b a1 a2  (lp (fun _ _ => none) (f_X4_lived_L2_b a1 a2 ) n) x1 σ2 = some (r, σ') := h
      have h := (f_X4_lived_L2_b.eq_1 _ _ _ _ _ ).symm.trans h
      refine lv_iload_n hx hb dX4_lived_2 rfl (lv_at hl 3 rfl) ?_
      refine lv_iload_n hx hb dX4_lived_3 rfl (lv_at hl 2 rfl) ?_
      refine lv_icmp_ge (tgt := 48) hx hb dX4_lived_4 (by decide) (fun c4 => ?_) (fun c4 => ?_)
      · have h := k_if c4 h
        refine lv_iconst (v := (-1)) hx hb dX4_lived_48 (by decide) ?_
        exact e_iret C hend hP (k_some2 h).1 (congrArg (mw ev ad) (k_some2 h).2) dX4_lived_49
      · have h := k_nf c4 h
        refine lv_aload_n hx hb dX4_lived_7 rfl (lv_at hl 0 rfl) ?_
        refine lv_iload_n hx hb dX4_lived_8 rfl (lv_at hl 1 rfl) ?_
        refine lv_iload_n hx hb dX4_lived_9 rfl (lv_at hl 3 rfl) ?_
        obtain ⟨x3, h1, h⟩ := k_ob h
        refine k_callVi C hP hap hAA (c_X4_toldAt l ev ad σ2 a1 x1   _ h1) Emb.same hap gz_X4_toldAt qML_RX4_297 qIM_yX4_toldAt qSE_yX4_toldAt ⟨(Nat.le_of_ble_eq_true rfl), (Nat.le_of_ble_eq_true rfl)⟩ (q0 := 0) rfl (by decide) rfl rfl rfl rfl hl.1 rfl (Nat.le_of_ble_eq_true rfl) dX4_lived_10 ⟨Nat.le_refl _, Nat.le_refl _⟩ (fun H locs hP => ?_)
        refine lv_istore (lv' := [(4, .int x3), (0, .ref (ad 0)), (1, .int a1), (2, .int a2), (3, .int x1)]) hx hb dX4_lived_13 hl (by decide) rfl (fun ls hl => ?_)
        refine lv_aload_n hx hb dX4_lived_15 rfl (lv_at hl 1 rfl) ?_
        refine lv_iload hx hb dX4_lived_16 (lv_at hl 0 rfl) ?_
        refine k_callVi C hP hap hAA (c_X4_isMove l ev ad σ2 x3   _ rfl) Emb.same hap gz_X4_isMove qML_RX4_173 qIM_yX4_isMove qSE_yX4_isMove ⟨(Nat.le_of_ble_eq_true rfl), (Nat.le_of_ble_eq_true rfl)⟩ (q0 := 0) rfl (by decide) rfl rfl rfl rfl hl.1 rfl (Nat.le_of_ble_eq_true rfl) dX4_lived_18 ⟨Nat.le_refl _, Nat.le_refl _⟩ (fun H locs hP => ?_)
        refine r_ifz_eq (tgt := 33) hx hb dX4_lived_21 (by decide) (fun c21 => ?_) (fun c21 => ?_)
        · have h := k_nf c21 h
          refine lv_iload_n hx hb dX4_lived_33 rfl (lv_at hl 4 rfl) ?_
          exact e_iret C hend hP (k_some2 h).1 (congrArg (mw ev ad) (k_some2 h).2) dX4_lived_34
        · have h := k_if c21 h
          refine lv_aload_n hx hb dX4_lived_24 rfl (lv_at hl 1 rfl) ?_
          refine lv_iload hx hb dX4_lived_25 (lv_at hl 0 rfl) ?_
          obtain ⟨b4, h1, h⟩ := k_ob h
          refine k_callVi C hP hap hAA (c_X4_mayBe l ev ad σ2 x3   _ h1) Emb.same hap gz_X4_mayBe qML_RX4_176 qIM_yX4_mayBe qSE_yX4_mayBe ⟨(Nat.le_of_ble_eq_true rfl), (Nat.le_of_ble_eq_true rfl)⟩ (q0 := 0) rfl (by decide) rfl rfl rfl rfl hl.1 rfl (Nat.le_of_ble_eq_true rfl) dX4_lived_27 ⟨Nat.le_refl _, Nat.le_refl _⟩ (fun H locs hP => ?_)
          refine r_ifz_ne (tgt := 35) hx hb dX4_lived_30 (by decide) (fun c30 => ?_) (fun c30 => ?_)
          · have h := k_if c30 h
            refine lv_aload_n hx hb dX4_lived_35 rfl (lv_at hl 1 rfl) ?_
            refine lv_iload hx hb dX4_lived_36 (lv_at hl 0 rfl) ?_
            obtain ⟨x6, σ5, h1, h⟩ := k_ob2 h
            refine k_callVi C hP hap hAA (c_X4_makes l ev ad σ2 x3   _ _ h1) Emb.same hap gz_X4_makes qML_RX4_179 qIM_yX4_makes qSE_yX4_makes ⟨(Nat.le_of_ble_eq_true rfl), (Nat.le_of_ble_eq_true rfl)⟩ (q0 := 0) rfl (by decide) rfl rfl rfl rfl hl.1 rfl (Nat.le_of_ble_eq_true rfl) dX4_lived_38 ⟨Nat.le_refl _, Nat.le_refl _⟩ (fun H locs hP => ?_)
            refine lv_pop hx hb dX4_lived_41 rfl ?_
            obtain ⟨x7, ex7, h⟩ := k_ltx h
            refine lv_iinc (v := x7) (lv' := [(3, .int x7), (4, .int x3), (0, .ref (ad 0)), (1, .int a1), (2, .int a2)]) hx hb dX4_lived_42 hl (k := 4) rfl (by rw [ex7]; rfl) (by decide) rfl (fun ls hl => ?_)
            refine lv_goto (tgt := 2) hx hb dX4_lived_45 (by decide) ?_
            exact ih _ _ _ _ _ h hP (lv_sub hl [2, 3, 4, 0] rfl)
          · have h := k_nf c30 h
            refine lv_iload_n hx hb dX4_lived_33 rfl (lv_at hl 4 rfl) ?_
            exact e_iret C hend hP (k_some2 h).1 (congrArg (mw ev ad) (k_some2 h).2) dX4_lived_34
  exact hL2 FU _ _ _ _ _ h hP (lv_sub hl [1, 2, 3, 0] rfl)
def f_X4_judge (σ : MM) (a1 : Int32) (a2 : Int32) : Option (Int32 × MM) :=
  ob (f_X4_noGame σ a1 a2) (fun x1 => if 0 ≤ x1 then ob (f_X4_keep_ahead σ) (fun σ2 => ob2 (f_X4_lived σ2 a1 a2) (fun x4 σ3 => ob (f_X4_again_ahead σ3) (fun σ5 => some (x4, σ5)))) else ob2 (f_X4_no σ x1) (fun x7 σ6 => some (x7, σ6)))
set_option maxHeartbeats 4000000 in
set_option maxRecDepth 100000 in
theorem c_X4_judge (l : Launch) (ev : EV) (ad : Nat → Nat) (σ : MM) (a1 : Int32) (a2 : Int32)   (r : Int32) (σ' : MM) (h : f_X4_judge σ a1 a2 = some (r, σ')) : Ct l yX4_judge prog_6_method_109_code 5 (Option.some Jvm.ClassFile.FieldType.int) (rmk 5 115) ev 13 ad (mw ev ad σ) (mw ev ad σ') [.ref (ad 0), .int a1, .int a2] (some (.int r)) := by
  refine Ct.of (by decide +kernel) (Nat.le_of_ble_eq_true rfl) ?_
  intro p e s m args below meth c Qc C hap hP hend ls hl
  have hAA : ∀ j, j < 13 → inA ad 13 (ad j) := fun j hj => ⟨j, hj, rfl⟩
  have hx := C.1
  have hb := C.2.1
  have hl : lv_has ls 5 [(0, .ref (ad 0)), (1, .int a1), (2, .int a2)] := hl
  have h := (f_X4_judge.eq_1 _ _ _ ).symm.trans h
  refine lv_aload_n hx hb dX4_judge_0 rfl (lv_at hl 0 rfl) ?_
  refine lv_iload_n hx hb dX4_judge_1 rfl (lv_at hl 1 rfl) ?_
  refine lv_iload_n hx hb dX4_judge_2 rfl (lv_at hl 2 rfl) ?_
  obtain ⟨x1, h1, h⟩ := k_ob h
  refine k_callVi C hP hap hAA (c_X4_noGame l ev ad σ a1 a2   _ h1) Emb.same hap gz_X4_noGame qML_RX4_300 qIM_yX4_noGame qSE_yX4_noGame ⟨(Nat.le_of_ble_eq_true rfl), (Nat.le_of_ble_eq_true rfl)⟩ (q0 := 0) rfl (by decide) rfl rfl rfl rfl hl.1 rfl (Nat.le_of_ble_eq_true rfl) dX4_judge_3 ⟨Nat.le_refl _, Nat.le_refl _⟩ (fun H locs hP => ?_)
  refine lv_istore_n (lv' := [(3, .int x1), (0, .ref (ad 0)), (1, .int a1), (2, .int a2)]) hx hb dX4_judge_6 rfl hl (by decide) rfl (fun ls hl => ?_)
  refine lv_iload_n hx hb dX4_judge_7 rfl (lv_at hl 0 rfl) ?_
  refine lv_if_ge (tgt := 17) hx hb dX4_judge_8 (by decide) (fun c8 => ?_) (fun c8 => ?_)
  · have h := k_if c8 h
    refine lv_aload_n hx hb dX4_judge_17 rfl (lv_at hl 1 rfl) ?_
    refine lv_aload_n hx hb dX4_judge_18 rfl (lv_at hl 1 rfl) ?_
    refine r_get C hP (ci := 4) rfl uin_X4 23 (by decide) 0 (by decide) rfl qFL_RX4_45 rfl rfl dX4_judge_19 ?_
    obtain ⟨σ2, h1, h⟩ := k_ob h
    refine k_callVv C hP hap hAA (c_X4_keep_ahead l ev ad σ   _ h1) Emb.same hap gz_X4_keep qML_RX4_185 qIM_yX4_keep qSE_yX4_keep ⟨(Nat.le_of_ble_eq_true rfl), (Nat.le_of_ble_eq_true rfl)⟩ (q0 := 0) rfl (by decide) rfl rfl rfl rfl hl.1 rfl (Nat.le_of_ble_eq_true rfl) dX4_judge_22 ⟨Nat.le_refl _, Nat.le_refl _⟩ (fun H locs hP => ?_)
    refine lv_aload_n hx hb dX4_judge_25 rfl (lv_at hl 1 rfl) ?_
    refine lv_iload_n hx hb dX4_judge_26 rfl (lv_at hl 2 rfl) ?_
    refine lv_iload_n hx hb dX4_judge_27 rfl (lv_at hl 3 rfl) ?_
    obtain ⟨x4, σ3, h1, h⟩ := k_ob2 h
    refine k_callVi C hP hap hAA (c_X4_lived l ev ad σ2 a1 a2   _ _ h1) Emb.same hap gz_X4_lived qML_RX4_303 qIM_yX4_lived qSE_yX4_lived ⟨(Nat.le_of_ble_eq_true rfl), (Nat.le_of_ble_eq_true rfl)⟩ (q0 := 0) rfl (by decide) rfl rfl rfl rfl hl.1 rfl (Nat.le_of_ble_eq_true rfl) dX4_judge_28 ⟨Nat.le_refl _, Nat.le_refl _⟩ (fun H locs hP => ?_)
    refine lv_istore (lv' := [(4, .int x4), (3, .int x1), (0, .ref (ad 0)), (1, .int a1), (2, .int a2)]) hx hb dX4_judge_31 hl (by decide) rfl (fun ls hl => ?_)
    refine lv_aload_n hx hb dX4_judge_33 rfl (lv_at hl 2 rfl) ?_
    refine lv_aload_n hx hb dX4_judge_34 rfl (lv_at hl 2 rfl) ?_
    refine r_get C hP (ci := 4) rfl uin_X4 23 (by decide) 0 (by decide) rfl qFL_RX4_45 rfl rfl dX4_judge_35 ?_
    obtain ⟨σ5, h1, h⟩ := k_ob h
    refine k_callVv C hP hap hAA (c_X4_again_ahead l ev ad σ3   _ h1) Emb.same hap gz_X4_again qML_RX4_193 qIM_yX4_again qSE_yX4_again ⟨(Nat.le_of_ble_eq_true rfl), (Nat.le_of_ble_eq_true rfl)⟩ (q0 := 0) rfl (by decide) rfl rfl rfl rfl hl.1 rfl (Nat.le_of_ble_eq_true rfl) dX4_judge_38 ⟨Nat.le_refl _, Nat.le_refl _⟩ (fun H locs hP => ?_)
    refine lv_iload hx hb dX4_judge_41 (lv_at hl 0 rfl) ?_
    exact e_iret C hend hP (k_some2 h).1 (congrArg (mw ev ad) (k_some2 h).2) dX4_judge_43
  · have h := k_nf c8 h
    refine lv_aload_n hx hb dX4_judge_11 rfl (lv_at hl 1 rfl) ?_
    refine lv_iload_n hx hb dX4_judge_12 rfl (lv_at hl 0 rfl) ?_
    obtain ⟨x7, σ6, h1, h⟩ := k_ob2 h
    refine k_callVi C hP hap hAA (c_X4_no l ev ad σ x1   _ _ h1) Emb.same hap gz_X4_no qML_RX4_56 qIM_yX4_no qSE_yX4_no ⟨(Nat.le_of_ble_eq_true rfl), (Nat.le_of_ble_eq_true rfl)⟩ (q0 := 0) rfl (by decide) rfl rfl rfl rfl hl.1 rfl (Nat.le_of_ble_eq_true rfl) dX4_judge_13 ⟨Nat.le_refl _, Nat.le_refl _⟩ (fun H locs hP => ?_)
    exact e_iret C hend hP (k_some2 h).1 (congrArg (mw ev ad) (k_some2 h).2) dX4_judge_16
def f_X4_behind (σ : MM) (a1 : Int32) (a2 : Int32) : Option (Int32 × MM) :=
  ob (f_X4_noGame σ a1 a2) (fun x1 => if 0 ≤ x1 then ob (f_X4_keep_ahead σ) (fun σ2 => ob2 (f_X4_lived σ2 a1 a2) (fun x4 σ3 => ob (f_X4_leadOf σ3 0) (fun x5 => ob (f_X4_again_ahead σ3) (fun σ6 => if x4 = (-1) then some (x5, σ6) else ob2 (f_X4_noLead σ6 (-5)) (fun x8 σ7 => some (x8, σ7)))))) else ob2 (f_X4_noLead σ x1) (fun x10 σ9 => some (x10, σ9)))
set_option maxHeartbeats 4000000 in
set_option maxRecDepth 100000 in
theorem c_X4_behind (l : Launch) (ev : EV) (ad : Nat → Nat) (σ : MM) (a1 : Int32) (a2 : Int32)   (r : Int32) (σ' : MM) (h : f_X4_behind σ a1 a2 = some (r, σ')) : Ct l yX4_behind prog_6_method_110_code 6 (Option.some Jvm.ClassFile.FieldType.int) (rmk 9 206) ev 13 ad (mw ev ad σ) (mw ev ad σ') [.ref (ad 0), .int a1, .int a2] (some (.int r)) := by
  refine Ct.of (by decide +kernel) (Nat.le_of_ble_eq_true rfl) ?_
  intro p e s m args below meth c Qc C hap hP hend ls hl
  have hAA : ∀ j, j < 13 → inA ad 13 (ad j) := fun j hj => ⟨j, hj, rfl⟩
  have hx := C.1
  have hb := C.2.1
  have hl : lv_has ls 6 [(0, .ref (ad 0)), (1, .int a1), (2, .int a2)] := hl
  have h := (f_X4_behind.eq_1 _ _ _ ).symm.trans h
  refine lv_aload_n hx hb dX4_behind_0 rfl (lv_at hl 0 rfl) ?_
  refine lv_iload_n hx hb dX4_behind_1 rfl (lv_at hl 1 rfl) ?_
  refine lv_iload_n hx hb dX4_behind_2 rfl (lv_at hl 2 rfl) ?_
  obtain ⟨x1, h1, h⟩ := k_ob h
  refine k_callVi C hP hap hAA (c_X4_noGame l ev ad σ a1 a2   _ h1) Emb.same hap gz_X4_noGame qML_RX4_300 qIM_yX4_noGame qSE_yX4_noGame ⟨(Nat.le_of_ble_eq_true rfl), (Nat.le_of_ble_eq_true rfl)⟩ (q0 := 0) rfl (by decide) rfl rfl rfl rfl hl.1 rfl (Nat.le_of_ble_eq_true rfl) dX4_behind_3 ⟨Nat.le_refl _, Nat.le_refl _⟩ (fun H locs hP => ?_)
  refine lv_istore_n (lv' := [(3, .int x1), (0, .ref (ad 0)), (1, .int a1), (2, .int a2)]) hx hb dX4_behind_6 rfl hl (by decide) rfl (fun ls hl => ?_)
  refine lv_iload_n hx hb dX4_behind_7 rfl (lv_at hl 0 rfl) ?_
  refine lv_if_ge (tgt := 17) hx hb dX4_behind_8 (by decide) (fun c8 => ?_) (fun c8 => ?_)
  · have h := k_if c8 h
    refine lv_aload_n hx hb dX4_behind_17 rfl (lv_at hl 1 rfl) ?_
    refine lv_aload_n hx hb dX4_behind_18 rfl (lv_at hl 1 rfl) ?_
    refine r_get C hP (ci := 4) rfl uin_X4 23 (by decide) 0 (by decide) rfl qFL_RX4_45 rfl rfl dX4_behind_19 ?_
    obtain ⟨σ2, h1, h⟩ := k_ob h
    refine k_callVv C hP hap hAA (c_X4_keep_ahead l ev ad σ   _ h1) Emb.same hap gz_X4_keep qML_RX4_185 qIM_yX4_keep qSE_yX4_keep ⟨(Nat.le_of_ble_eq_true rfl), (Nat.le_of_ble_eq_true rfl)⟩ (q0 := 0) rfl (by decide) rfl rfl rfl rfl hl.1 rfl (Nat.le_of_ble_eq_true rfl) dX4_behind_22 ⟨Nat.le_refl _, Nat.le_refl _⟩ (fun H locs hP => ?_)
    refine lv_aload_n hx hb dX4_behind_25 rfl (lv_at hl 1 rfl) ?_
    refine lv_iload_n hx hb dX4_behind_26 rfl (lv_at hl 2 rfl) ?_
    refine lv_iload_n hx hb dX4_behind_27 rfl (lv_at hl 3 rfl) ?_
    obtain ⟨x4, σ3, h1, h⟩ := k_ob2 h
    refine k_callVi C hP hap hAA (c_X4_lived l ev ad σ2 a1 a2   _ _ h1) Emb.same hap gz_X4_lived qML_RX4_303 qIM_yX4_lived qSE_yX4_lived ⟨(Nat.le_of_ble_eq_true rfl), (Nat.le_of_ble_eq_true rfl)⟩ (q0 := 0) rfl (by decide) rfl rfl rfl rfl hl.1 rfl (Nat.le_of_ble_eq_true rfl) dX4_behind_28 ⟨Nat.le_refl _, Nat.le_refl _⟩ (fun H locs hP => ?_)
    refine lv_istore (lv' := [(4, .int x4), (3, .int x1), (0, .ref (ad 0)), (1, .int a1), (2, .int a2)]) hx hb dX4_behind_31 hl (by decide) rfl (fun ls hl => ?_)
    refine lv_aload_n hx hb dX4_behind_33 rfl (lv_at hl 2 rfl) ?_
    refine lv_iconst (v := 0) hx hb dX4_behind_34 (by decide) ?_
    obtain ⟨x5, h1, h⟩ := k_ob h
    refine k_callVi C hP hap hAA (c_X4_leadOf l ev ad σ3 0   _ h1) Emb.same hap gz_X4_leadOf qML_RX4_226 qIM_yX4_leadOf qSE_yX4_leadOf ⟨(Nat.le_of_ble_eq_true rfl), (Nat.le_of_ble_eq_true rfl)⟩ (q0 := 0) rfl (by decide) rfl rfl rfl rfl hl.1 rfl (Nat.le_of_ble_eq_true rfl) dX4_behind_35 ⟨Nat.le_refl _, Nat.le_refl _⟩ (fun H locs hP => ?_)
    refine lv_istore (lv' := [(5, .int x5), (4, .int x4), (3, .int x1), (0, .ref (ad 0)), (1, .int a1), (2, .int a2)]) hx hb dX4_behind_38 hl (by decide) rfl (fun ls hl => ?_)
    refine lv_aload_n hx hb dX4_behind_40 rfl (lv_at hl 3 rfl) ?_
    refine lv_aload_n hx hb dX4_behind_41 rfl (lv_at hl 3 rfl) ?_
    refine r_get C hP (ci := 4) rfl uin_X4 23 (by decide) 0 (by decide) rfl qFL_RX4_45 rfl rfl dX4_behind_42 ?_
    obtain ⟨σ6, h1, h⟩ := k_ob h
    refine k_callVv C hP hap hAA (c_X4_again_ahead l ev ad σ3   _ h1) Emb.same hap gz_X4_again qML_RX4_193 qIM_yX4_again qSE_yX4_again ⟨(Nat.le_of_ble_eq_true rfl), (Nat.le_of_ble_eq_true rfl)⟩ (q0 := 0) rfl (by decide) rfl rfl rfl rfl hl.1 rfl (Nat.le_of_ble_eq_true rfl) dX4_behind_45 ⟨Nat.le_refl _, Nat.le_refl _⟩ (fun H locs hP => ?_)
    refine lv_iload hx hb dX4_behind_48 (lv_at hl 1 rfl) ?_
    refine lv_iconst (v := (-1)) hx hb dX4_behind_50 (by decide) ?_
    refine lv_icmp_ne (tgt := 59) hx hb dX4_behind_51 (by decide) (fun c51 => ?_) (fun c51 => ?_)
    · have h := k_nf c51 h
      refine lv_aload_n hx hb dX4_behind_59 rfl (lv_at hl 3 rfl) ?_
      refine lv_bipush (v := (-5)) hx hb dX4_behind_60 (by decide) ?_
      obtain ⟨x8, σ7, h1, h⟩ := k_ob2 h
      refine k_callVi C hP hap hAA (c_X4_noLead l ev ad σ6 (-5)   _ _ h1) Emb.same hap gz_X4_noLead qML_RX4_229 qIM_yX4_noLead qSE_yX4_noLead ⟨(Nat.le_of_ble_eq_true rfl), (Nat.le_of_ble_eq_true rfl)⟩ (q0 := 0) rfl (by decide) rfl rfl rfl rfl hl.1 rfl (Nat.le_of_ble_eq_true rfl) dX4_behind_62 ⟨Nat.le_refl _, Nat.le_refl _⟩ (fun H locs hP => ?_)
      exact e_iret C hend hP (k_some2 h).1 (congrArg (mw ev ad) (k_some2 h).2) dX4_behind_65
    · have h := k_if c51 h
      refine lv_iload hx hb dX4_behind_54 (lv_at hl 0 rfl) ?_
      refine lv_goto (tgt := 65) hx hb dX4_behind_56 (by decide) ?_
      exact e_iret C hend hP (k_some2 h).1 (congrArg (mw ev ad) (k_some2 h).2) dX4_behind_65
  · have h := k_nf c8 h
    refine lv_aload_n hx hb dX4_behind_11 rfl (lv_at hl 1 rfl) ?_
    refine lv_iload_n hx hb dX4_behind_12 rfl (lv_at hl 0 rfl) ?_
    obtain ⟨x10, σ9, h1, h⟩ := k_ob2 h
    refine k_callVi C hP hap hAA (c_X4_noLead l ev ad σ x1   _ _ h1) Emb.same hap gz_X4_noLead qML_RX4_229 qIM_yX4_noLead qSE_yX4_noLead ⟨(Nat.le_of_ble_eq_true rfl), (Nat.le_of_ble_eq_true rfl)⟩ (q0 := 0) rfl (by decide) rfl rfl rfl rfl hl.1 rfl (Nat.le_of_ble_eq_true rfl) dX4_behind_13 ⟨Nat.le_refl _, Nat.le_refl _⟩ (fun H locs hP => ?_)
    exact e_iret C hend hP (k_some2 h).1 (congrArg (mw ev ad) (k_some2 h).2) dX4_behind_16
def f_X4_done (σ : MM) (a1 : Int32) (a2 : Int32) : Option (Int32 × MM) :=
  ob (f_X4_noGame σ a1 a2) (fun x1 => if 0 ≤ x1 then ob (f_X4_keep_ahead σ) (fun σ2 => ob2 (f_X4_lived σ2 a1 a2) (fun x4 σ3 => if x4 = (-1) then some ((m_made σ3), σ3) else ob (f_X4_again_ahead σ3) (fun σ5 => ob2 (f_X4_no σ5 (-5)) (fun x7 σ6 => some (x7, σ6))))) else ob2 (f_X4_no σ x1) (fun x9 σ8 => some (x9, σ8)))
set_option maxHeartbeats 4000000 in
set_option maxRecDepth 100000 in
theorem c_X4_done (l : Launch) (ev : EV) (ad : Nat → Nat) (σ : MM) (a1 : Int32) (a2 : Int32)   (r : Int32) (σ' : MM) (h : f_X4_done σ a1 a2 = some (r, σ')) : Ct l yX4_done prog_6_method_111_code 4 (Option.some Jvm.ClassFile.FieldType.int) (rmk 5 115) ev 13 ad (mw ev ad σ) (mw ev ad σ') [.ref (ad 0), .int a1, .int a2] (some (.int r)) := by
  refine Ct.of (by decide +kernel) (Nat.le_of_ble_eq_true rfl) ?_
  intro p e s m args below meth c Qc C hap hP hend ls hl
  have hAA : ∀ j, j < 13 → inA ad 13 (ad j) := fun j hj => ⟨j, hj, rfl⟩
  have hx := C.1
  have hb := C.2.1
  have hl : lv_has ls 4 [(0, .ref (ad 0)), (1, .int a1), (2, .int a2)] := hl
  have h := (f_X4_done.eq_1 _ _ _ ).symm.trans h
  refine lv_aload_n hx hb dX4_done_0 rfl (lv_at hl 0 rfl) ?_
  refine lv_iload_n hx hb dX4_done_1 rfl (lv_at hl 1 rfl) ?_
  refine lv_iload_n hx hb dX4_done_2 rfl (lv_at hl 2 rfl) ?_
  obtain ⟨x1, h1, h⟩ := k_ob h
  refine k_callVi C hP hap hAA (c_X4_noGame l ev ad σ a1 a2   _ h1) Emb.same hap gz_X4_noGame qML_RX4_300 qIM_yX4_noGame qSE_yX4_noGame ⟨(Nat.le_of_ble_eq_true rfl), (Nat.le_of_ble_eq_true rfl)⟩ (q0 := 0) rfl (by decide) rfl rfl rfl rfl hl.1 rfl (Nat.le_of_ble_eq_true rfl) dX4_done_3 ⟨Nat.le_refl _, Nat.le_refl _⟩ (fun H locs hP => ?_)
  refine lv_istore_n (lv' := [(3, .int x1), (0, .ref (ad 0)), (1, .int a1), (2, .int a2)]) hx hb dX4_done_6 rfl hl (by decide) rfl (fun ls hl => ?_)
  refine lv_iload_n hx hb dX4_done_7 rfl (lv_at hl 0 rfl) ?_
  refine lv_if_ge (tgt := 17) hx hb dX4_done_8 (by decide) (fun c8 => ?_) (fun c8 => ?_)
  · have h := k_if c8 h
    refine lv_aload_n hx hb dX4_done_17 rfl (lv_at hl 1 rfl) ?_
    refine lv_aload_n hx hb dX4_done_18 rfl (lv_at hl 1 rfl) ?_
    refine r_get C hP (ci := 4) rfl uin_X4 23 (by decide) 0 (by decide) rfl qFL_RX4_45 rfl rfl dX4_done_19 ?_
    obtain ⟨σ2, h1, h⟩ := k_ob h
    refine k_callVv C hP hap hAA (c_X4_keep_ahead l ev ad σ   _ h1) Emb.same hap gz_X4_keep qML_RX4_185 qIM_yX4_keep qSE_yX4_keep ⟨(Nat.le_of_ble_eq_true rfl), (Nat.le_of_ble_eq_true rfl)⟩ (q0 := 0) rfl (by decide) rfl rfl rfl rfl hl.1 rfl (Nat.le_of_ble_eq_true rfl) dX4_done_22 ⟨Nat.le_refl _, Nat.le_refl _⟩ (fun H locs hP => ?_)
    refine lv_aload_n hx hb dX4_done_25 rfl (lv_at hl 1 rfl) ?_
    refine lv_iload_n hx hb dX4_done_26 rfl (lv_at hl 2 rfl) ?_
    refine lv_iload_n hx hb dX4_done_27 rfl (lv_at hl 3 rfl) ?_
    obtain ⟨x4, σ3, h1, h⟩ := k_ob2 h
    refine k_callVi C hP hap hAA (c_X4_lived l ev ad σ2 a1 a2   _ _ h1) Emb.same hap gz_X4_lived qML_RX4_303 qIM_yX4_lived qSE_yX4_lived ⟨(Nat.le_of_ble_eq_true rfl), (Nat.le_of_ble_eq_true rfl)⟩ (q0 := 0) rfl (by decide) rfl rfl rfl rfl hl.1 rfl (Nat.le_of_ble_eq_true rfl) dX4_done_28 ⟨Nat.le_refl _, Nat.le_refl _⟩ (fun H locs hP => ?_)
    refine lv_iconst (v := (-1)) hx hb dX4_done_31 (by decide) ?_
    refine lv_icmp_ne (tgt := 40) hx hb dX4_done_32 (by decide) (fun c32 => ?_) (fun c32 => ?_)
    · have h := k_nf c32 h
      refine lv_aload_n hx hb dX4_done_40 rfl (lv_at hl 1 rfl) ?_
      refine lv_aload_n hx hb dX4_done_41 rfl (lv_at hl 1 rfl) ?_
      refine r_get C hP (ci := 4) rfl uin_X4 23 (by decide) 0 (by decide) rfl qFL_RX4_45 rfl rfl dX4_done_42 ?_
      obtain ⟨σ5, h1, h⟩ := k_ob h
      refine k_callVv C hP hap hAA (c_X4_again_ahead l ev ad σ3   _ h1) Emb.same hap gz_X4_again qML_RX4_193 qIM_yX4_again qSE_yX4_again ⟨(Nat.le_of_ble_eq_true rfl), (Nat.le_of_ble_eq_true rfl)⟩ (q0 := 0) rfl (by decide) rfl rfl rfl rfl hl.1 rfl (Nat.le_of_ble_eq_true rfl) dX4_done_45 ⟨Nat.le_refl _, Nat.le_refl _⟩ (fun H locs hP => ?_)
      refine lv_aload_n hx hb dX4_done_48 rfl (lv_at hl 1 rfl) ?_
      refine lv_bipush (v := (-5)) hx hb dX4_done_49 (by decide) ?_
      obtain ⟨x7, σ6, h1, h⟩ := k_ob2 h
      refine k_callVi C hP hap hAA (c_X4_no l ev ad σ5 (-5)   _ _ h1) Emb.same hap gz_X4_no qML_RX4_56 qIM_yX4_no qSE_yX4_no ⟨(Nat.le_of_ble_eq_true rfl), (Nat.le_of_ble_eq_true rfl)⟩ (q0 := 0) rfl (by decide) rfl rfl rfl rfl hl.1 rfl (Nat.le_of_ble_eq_true rfl) dX4_done_51 ⟨Nat.le_refl _, Nat.le_refl _⟩ (fun H locs hP => ?_)
      exact e_iret C hend hP (k_some2 h).1 (congrArg (mw ev ad) (k_some2 h).2) dX4_done_54
    · have h := k_if c32 h
      refine lv_aload_n hx hb dX4_done_35 rfl (lv_at hl 1 rfl) ?_
      refine r_get C hP (ci := 4) rfl uin_X4 6 (by decide) 0 (by decide) rfl qFL_RX4_104 rfl rfl dX4_done_36 ?_
      exact e_iret C hend hP (k_some2 h).1 (congrArg (mw ev ad) (k_some2 h).2) dX4_done_39
  · have h := k_nf c8 h
    refine lv_aload_n hx hb dX4_done_11 rfl (lv_at hl 1 rfl) ?_
    refine lv_iload_n hx hb dX4_done_12 rfl (lv_at hl 0 rfl) ?_
    obtain ⟨x9, σ8, h1, h⟩ := k_ob2 h
    refine k_callVi C hP hap hAA (c_X4_no l ev ad σ x1   _ _ h1) Emb.same hap gz_X4_no qML_RX4_56 qIM_yX4_no qSE_yX4_no ⟨(Nat.le_of_ble_eq_true rfl), (Nat.le_of_ble_eq_true rfl)⟩ (q0 := 0) rfl (by decide) rfl rfl rfl rfl hl.1 rfl (Nat.le_of_ble_eq_true rfl) dX4_done_13 ⟨Nat.le_refl _, Nat.le_refl _⟩ (fun H locs hP => ?_)
    exact e_iret C hend hP (k_some2 h).1 (congrArg (mw ev ad) (k_some2 h).2) dX4_done_16
def f_X4_move (σ : MM) (a1 : Int32) : Option (Int32 × MM) :=
  if (f_X4_isMove σ a1) = true then ob (f_X4_mayBe σ a1) (fun b1 => if b1 = true then ob2 (f_X4_makes σ a1) (fun x5 σ4 => some (x5, σ4)) else ob2 (f_X4_no σ (-5)) (fun x3 σ2 => some (x3, σ2))) else ob2 (f_X4_no σ (-2)) (fun x7 σ6 => some (x7, σ6))
set_option maxHeartbeats 4000000 in
set_option maxRecDepth 100000 in
theorem c_X4_move (l : Launch) (ev : EV) (ad : Nat → Nat) (σ : MM) (a1 : Int32)   (r : Int32) (σ' : MM) (h : f_X4_move σ a1 = some (r, σ')) : Ct l yX4_move prog_6_method_112_code 2 (Option.some Jvm.ClassFile.FieldType.int) (rmk 4 91) ev 13 ad (mw ev ad σ) (mw ev ad σ') [.ref (ad 0), .int a1] (some (.int r)) := by
  refine Ct.of (by decide +kernel) (Nat.le_of_ble_eq_true rfl) ?_
  intro p e s m args below meth c Qc C hap hP hend ls hl
  have hAA : ∀ j, j < 13 → inA ad 13 (ad j) := fun j hj => ⟨j, hj, rfl⟩
  have hx := C.1
  have hb := C.2.1
  have hl : lv_has ls 2 [(0, .ref (ad 0)), (1, .int a1)] := hl
  have h := (f_X4_move.eq_1 _ _ ).symm.trans h
  refine lv_aload_n hx hb dX4_move_0 rfl (lv_at hl 0 rfl) ?_
  refine lv_iload_n hx hb dX4_move_1 rfl (lv_at hl 1 rfl) ?_
  refine k_callVi C hP hap hAA (c_X4_isMove l ev ad σ a1   _ rfl) Emb.same hap gz_X4_isMove qML_RX4_173 qIM_yX4_isMove qSE_yX4_isMove ⟨(Nat.le_of_ble_eq_true rfl), (Nat.le_of_ble_eq_true rfl)⟩ (q0 := 0) rfl (by decide) rfl rfl rfl rfl hl.1 rfl (Nat.le_of_ble_eq_true rfl) dX4_move_2 ⟨Nat.le_refl _, Nat.le_refl _⟩ (fun H locs hP => ?_)
  refine r_ifz_ne (tgt := 15) hx hb dX4_move_5 (by decide) (fun c5 => ?_) (fun c5 => ?_)
  · have h := k_if c5 h
    refine lv_aload_n hx hb dX4_move_15 rfl (lv_at hl 0 rfl) ?_
    refine lv_iload_n hx hb dX4_move_16 rfl (lv_at hl 1 rfl) ?_
    obtain ⟨b1, h1, h⟩ := k_ob h
    refine k_callVi C hP hap hAA (c_X4_mayBe l ev ad σ a1   _ h1) Emb.same hap gz_X4_mayBe qML_RX4_176 qIM_yX4_mayBe qSE_yX4_mayBe ⟨(Nat.le_of_ble_eq_true rfl), (Nat.le_of_ble_eq_true rfl)⟩ (q0 := 0) rfl (by decide) rfl rfl rfl rfl hl.1 rfl (Nat.le_of_ble_eq_true rfl) dX4_move_17 ⟨Nat.le_refl _, Nat.le_refl _⟩ (fun H locs hP => ?_)
    refine r_ifz_eq (tgt := 31) hx hb dX4_move_20 (by decide) (fun c20 => ?_) (fun c20 => ?_)
    · have h := k_nf c20 h
      refine lv_aload_n hx hb dX4_move_31 rfl (lv_at hl 0 rfl) ?_
      refine lv_bipush (v := (-5)) hx hb dX4_move_32 (by decide) ?_
      obtain ⟨x3, σ2, h1, h⟩ := k_ob2 h
      refine k_callVi C hP hap hAA (c_X4_no l ev ad σ (-5)   _ _ h1) Emb.same hap gz_X4_no qML_RX4_56 qIM_yX4_no qSE_yX4_no ⟨(Nat.le_of_ble_eq_true rfl), (Nat.le_of_ble_eq_true rfl)⟩ (q0 := 0) rfl (by decide) rfl rfl rfl rfl hl.1 rfl (Nat.le_of_ble_eq_true rfl) dX4_move_34 ⟨Nat.le_refl _, Nat.le_refl _⟩ (fun H locs hP => ?_)
      exact e_iret C hend hP (k_some2 h).1 (congrArg (mw ev ad) (k_some2 h).2) dX4_move_37
    · have h := k_if c20 h
      refine lv_aload_n hx hb dX4_move_23 rfl (lv_at hl 0 rfl) ?_
      refine lv_iload_n hx hb dX4_move_24 rfl (lv_at hl 1 rfl) ?_
      obtain ⟨x5, σ4, h1, h⟩ := k_ob2 h
      refine k_callVi C hP hap hAA (c_X4_makes l ev ad σ a1   _ _ h1) Emb.same hap gz_X4_makes qML_RX4_179 qIM_yX4_makes qSE_yX4_makes ⟨(Nat.le_of_ble_eq_true rfl), (Nat.le_of_ble_eq_true rfl)⟩ (q0 := 0) rfl (by decide) rfl rfl rfl rfl hl.1 rfl (Nat.le_of_ble_eq_true rfl) dX4_move_25 ⟨Nat.le_refl _, Nat.le_refl _⟩ (fun H locs hP => ?_)
      refine lv_goto (tgt := 37) hx hb dX4_move_28 (by decide) ?_
      exact e_iret C hend hP (k_some2 h).1 (congrArg (mw ev ad) (k_some2 h).2) dX4_move_37
  · have h := k_nf c5 h
    refine lv_aload_n hx hb dX4_move_8 rfl (lv_at hl 0 rfl) ?_
    refine lv_bipush (v := (-2)) hx hb dX4_move_9 (by decide) ?_
    obtain ⟨x7, σ6, h1, h⟩ := k_ob2 h
    refine k_callVi C hP hap hAA (c_X4_no l ev ad σ (-2)   _ _ h1) Emb.same hap gz_X4_no qML_RX4_56 qIM_yX4_no qSE_yX4_no ⟨(Nat.le_of_ble_eq_true rfl), (Nat.le_of_ble_eq_true rfl)⟩ (q0 := 0) rfl (by decide) rfl rfl rfl rfl hl.1 rfl (Nat.le_of_ble_eq_true rfl) dX4_move_11 ⟨Nat.le_refl _, Nat.le_refl _⟩ (fun H locs hP => ?_)
    exact e_iret C hend hP (k_some2 h).1 (congrArg (mw ev ad) (k_some2 h).2) dX4_move_14
