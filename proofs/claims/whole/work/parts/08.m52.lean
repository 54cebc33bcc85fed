/-! functions read off, and their contracts: by program (wip/whole/gen2.py) -/
def f_X4_best (σ : MM) : Option (Int32 × MM) :=
  ob (f_X4_howMany σ) (fun x1 => if x1 ≤ 7 then ob2 (f_X4_search 10 σ) (fun x3 σ2 => some ((m_bestMove σ2), σ2)) else ob2 (f_X4_no σ (-5)) (fun x5 σ4 => some (x5, σ4)))
set_option maxHeartbeats 4000000 in
set_option maxRecDepth 100000 in
theorem c_X4_best (l : Launch) (ev : EV) (ad : Nat → Nat) (σ : MM)   (r : Int32) (σ' : MM) (h : f_X4_best σ = some (r, σ')) : Ct l yX4_best prog_6_method_68_code 1 (Option.some Jvm.ClassFile.FieldType.int) (rmk 32 1110) ev 13 ad (mw ev ad σ) (mw ev ad σ') [.ref (ad 0)] (some (.int r)) := by
  refine Ct.of (by decide +kernel) (Nat.le_of_ble_eq_true rfl) ?_
  intro p e s m args below meth c Qc C hap hP hend ls hl
  have hAA : ∀ j, j < 13 → inA ad 13 (ad j) := fun j hj => ⟨j, hj, rfl⟩
  have hx := C.1
  have hb := C.2.1
  have hl : lv_has ls 1 [(0, .ref (ad 0))] := hl
  have h := (f_X4_best.eq_1 _ ).symm.trans h
  refine lv_aload_n hx hb dX4_best_0 rfl (lv_at hl 0 rfl) ?_
  obtain ⟨x1, h1, h⟩ := k_ob h
  refine k_callVi C hP hap hAA (c_X4_howMany l ev ad σ   _ h1) Emb.same hap gz_X4_howMany qML_RX4_94 qIM_yX4_howMany qSE_yX4_howMany ⟨(Nat.le_of_ble_eq_true rfl), (Nat.le_of_ble_eq_true rfl)⟩ (q0 := 0) rfl (by decide) rfl rfl rfl rfl hl.1 rfl (Nat.le_of_ble_eq_true rfl) dX4_best_1 ⟨Nat.le_refl _, Nat.le_refl _⟩ (fun H locs hP => ?_)
  refine lv_bipush (v := 7) hx hb dX4_best_4 (by decide) ?_
  refine lv_icmp_le (tgt := 16) hx hb dX4_best_6 (by decide) (fun c6 => ?_) (fun c6 => ?_)
  · have h := k_if c6 h
    refine lv_aload_n hx hb dX4_best_16 rfl (lv_at hl 0 rfl) ?_
    obtain ⟨x3, σ2, h1, h⟩ := k_ob2 h
    refine k_callVi C hP hap hAA (c_X4_search l ev 10 ad σ   _ _ h1) Emb.same hap gz_X4_search qML_RX4_235 qIM_yX4_search qSE_yX4_search ⟨(Nat.le_of_ble_eq_true rfl), (Nat.le_of_ble_eq_true rfl)⟩ (q0 := 0) rfl (by decide) rfl rfl rfl rfl hl.1 rfl (Nat.le_of_ble_eq_true rfl) dX4_best_17 ⟨Nat.le_refl _, Nat.le_refl _⟩ (fun H locs hP => ?_)
    refine lv_pop hx hb dX4_best_20 rfl ?_
    refine lv_aload_n hx hb dX4_best_21 rfl (lv_at hl 0 rfl) ?_
    refine r_get C hP (ci := 4) rfl uin_X4 24 (by decide) 0 (by decide) rfl qFL_RX4_242 rfl rfl dX4_best_22 ?_
    exact e_iret C hend hP (k_some2 h).1 (congrArg (mw ev ad) (k_some2 h).2) dX4_best_25
  · have h := k_nf c6 h
    refine lv_aload_n hx hb dX4_best_9 rfl (lv_at hl 0 rfl) ?_
    refine lv_bipush (v := (-5)) hx hb dX4_best_10 (by decide) ?_
    obtain ⟨x5, σ4, h1, h⟩ := k_ob2 h
    refine k_callVi C hP hap hAA (c_X4_no l ev ad σ (-5)   _ _ h1) Emb.same hap gz_X4_no qML_RX4_56 qIM_yX4_no qSE_yX4_no ⟨(Nat.le_of_ble_eq_true rfl), (Nat.le_of_ble_eq_true rfl)⟩ (q0 := 0) rfl (by decide) rfl rfl rfl rfl hl.1 rfl (Nat.le_of_ble_eq_true rfl) dX4_best_12 ⟨Nat.le_refl _, Nat.le_refl _⟩ (fun H locs hP => ?_)
    exact e_iret C hend hP (k_some2 h).1 (congrArg (mw ev ad) (k_some2 h).2) dX4_best_15
def f_X4_worth (σ : MM) : Option (Int32 × MM) :=
  ob (f_X4_howMany σ) (fun x1 => if x1 ≤ 7 then ob2 (f_X4_search 10 σ) (fun x3 σ2 => some (x3, σ2)) else ob2 (f_X4_noLead σ (-5)) (fun x5 σ4 => some (x5, σ4)))
set_option maxHeartbeats 4000000 in
set_option maxRecDepth 100000 in
theorem c_X4_worth (l : Launch) (ev : EV) (ad : Nat → Nat) (σ : MM)   (r : Int32) (σ' : MM) (h : f_X4_worth σ = some (r, σ')) : Ct l yX4_worth prog_6_method_69_code 1 (Option.some Jvm.ClassFile.FieldType.int) (rmk 32 1110) ev 13 ad (mw ev ad σ) (mw ev ad σ') [.ref (ad 0)] (some (.int r)) := by
  refine Ct.of (by decide +kernel) (Nat.le_of_ble_eq_true rfl) ?_
  intro p e s m args below meth c Qc C hap hP hend ls hl
  have hAA : ∀ j, j < 13 → inA ad 13 (ad j) := fun j hj => ⟨j, hj, rfl⟩
  have hx := C.1
  have hb := C.2.1
  have hl : lv_has ls 1 [(0, .ref (ad 0))] := hl
  have h := (f_X4_worth.eq_1 _ ).symm.trans h
  refine lv_aload_n hx hb dX4_worth_0 rfl (lv_at hl 0 rfl) ?_
  obtain ⟨x1, h1, h⟩ := k_ob h
  refine k_callVi C hP hap hAA (c_X4_howMany l ev ad σ   _ h1) Emb.same hap gz_X4_howMany qML_RX4_94 qIM_yX4_howMany qSE_yX4_howMany ⟨(Nat.le_of_ble_eq_true rfl), (Nat.le_of_ble_eq_true rfl)⟩ (q0 := 0) rfl (by decide) rfl rfl rfl rfl hl.1 rfl (Nat.le_of_ble_eq_true rfl) dX4_worth_1 ⟨Nat.le_refl _, Nat.le_refl _⟩ (fun H locs hP => ?_)
  refine lv_bipush (v := 7) hx hb dX4_worth_4 (by decide) ?_
  refine lv_icmp_le (tgt := 18) hx hb dX4_worth_6 (by decide) (fun c6 => ?_) (fun c6 => ?_)
  · have h := k_if c6 h
    refine lv_aload_n hx hb dX4_worth_18 rfl (lv_at hl 0 rfl) ?_
    obtain ⟨x3, σ2, h1, h⟩ := k_ob2 h
    refine k_callVi C hP hap hAA (c_X4_search l ev 10 ad σ   _ _ h1) Emb.same hap gz_X4_search qML_RX4_235 qIM_yX4_search qSE_yX4_search ⟨(Nat.le_of_ble_eq_true rfl), (Nat.le_of_ble_eq_true rfl)⟩ (q0 := 0) rfl (by decide) rfl rfl rfl rfl hl.1 rfl (Nat.le_of_ble_eq_true rfl) dX4_worth_19 ⟨Nat.le_refl _, Nat.le_refl _⟩ (fun H locs hP => ?_)
    exact e_iret C hend hP (k_some2 h).1 (congrArg (mw ev ad) (k_some2 h).2) dX4_worth_22
  · have h := k_nf c6 h
    refine lv_aload_n hx hb dX4_worth_9 rfl (lv_at hl 0 rfl) ?_
    refine lv_bipush (v := (-5)) hx hb dX4_worth_10 (by decide) ?_
    obtain ⟨x5, σ4, h1, h⟩ := k_ob2 h
    refine k_callVi C hP hap hAA (c_X4_noLead l ev ad σ (-5)   _ _ h1) Emb.same hap gz_X4_noLead qML_RX4_229 qIM_yX4_noLead qSE_yX4_noLead ⟨(Nat.le_of_ble_eq_true rfl), (Nat.le_of_ble_eq_true rfl)⟩ (q0 := 0) rfl (by decide) rfl rfl rfl rfl hl.1 rfl (Nat.le_of_ble_eq_true rfl) dX4_worth_12 ⟨Nat.le_refl _, Nat.le_refl _⟩ (fun H locs hP => ?_)
    refine lv_goto (tgt := 22) hx hb dX4_worth_15 (by decide) ?_
    exact e_iret C hend hP (k_some2 h).1 (congrArg (mw ev ad) (k_some2 h).2) dX4_worth_22
def f_X4_choice (σ : MM) (a1 : Int32) : Option (Int32 × MM) :=
  if (f_X4_isPlayer σ a1) = true then ob2 (f_X4_choiceOf σ a1) (fun x4 σ3 => some (x4, σ3)) else ob2 (f_X4_no σ (-2)) (fun x2 σ1 => some (x2, σ1))
set_option maxHeartbeats 4000000 in
set_option maxRecDepth 100000 in
theorem c_X4_choice (l : Launch) (ev : EV) (ad : Nat → Nat) (σ : MM) (a1 : Int32)   (r : Int32) (σ' : MM) (h : f_X4_choice σ a1 = some (r, σ')) : Ct l yX4_choice prog_6_method_77_code 2 (Option.some Jvm.ClassFile.FieldType.int) (rmk 8 180) ev 13 ad (mw ev ad σ) (mw ev ad σ') [.ref (ad 0), .int a1] (some (.int r)) := by
  refine Ct.of (by decide +kernel) (Nat.le_of_ble_eq_true rfl) ?_
  intro p e s m args below meth c Qc C hap hP hend ls hl
  have hAA : ∀ j, j < 13 → inA ad 13 (ad j) := fun j hj => ⟨j, hj, rfl⟩
  have hx := C.1
  have hb := C.2.1
  have hl : lv_has ls 2 [(0, .ref (ad 0)), (1, .int a1)] := hl
  have h := (f_X4_choice.eq_1 _ _ ).symm.trans h
  refine lv_aload_n hx hb dX4_choice_0 rfl (lv_at hl 0 rfl) ?_
  refine lv_iload_n hx hb dX4_choice_1 rfl (lv_at hl 1 rfl) ?_
  refine k_callVi C hP hap hAA (c_X4_isPlayer l ev ad σ a1   _ rfl) Emb.same hap gz_X4_isPlayer qML_RX4_87 qIM_yX4_isPlayer qSE_yX4_isPlayer ⟨(Nat.le_of_ble_eq_true rfl), (Nat.le_of_ble_eq_true rfl)⟩ (q0 := 0) rfl (by decide) rfl rfl rfl rfl hl.1 rfl (Nat.le_of_ble_eq_true rfl) dX4_choice_2 ⟨Nat.le_refl _, Nat.le_refl _⟩ (fun H locs hP => ?_)
  refine r_ifz_eq (tgt := 16) hx hb dX4_choice_5 (by decide) (fun c5 => ?_) (fun c5 => ?_)
  · have h := k_nf c5 h
    refine lv_aload_n hx hb dX4_choice_16 rfl (lv_at hl 0 rfl) ?_
    refine lv_bipush (v := (-2)) hx hb dX4_choice_17 (by decide) ?_
    obtain ⟨x2, σ1, h1, h⟩ := k_ob2 h
    refine k_callVi C hP hap hAA (c_X4_no l ev ad σ (-2)   _ _ h1) Emb.same hap gz_X4_no qML_RX4_56 qIM_yX4_no qSE_yX4_no ⟨(Nat.le_of_ble_eq_true rfl), (Nat.le_of_ble_eq_true rfl)⟩ (q0 := 0) rfl (by decide) rfl rfl rfl rfl hl.1 rfl (Nat.le_of_ble_eq_true rfl) dX4_choice_19 ⟨Nat.le_refl _, Nat.le_refl _⟩ (fun H locs hP => ?_)
    exact e_iret C hend hP (k_some2 h).1 (congrArg (mw ev ad) (k_some2 h).2) dX4_choice_22
  · have h := k_if c5 h
    refine lv_aload_n hx hb dX4_choice_8 rfl (lv_at hl 0 rfl) ?_
    refine lv_iload_n hx hb dX4_choice_9 rfl (lv_at hl 1 rfl) ?_
    obtain ⟨x4, σ3, h1, h⟩ := k_ob2 h
    refine k_callVi C hP hap hAA (c_X4_choiceOf l ev ad σ a1   _ _ h1) Emb.same hap gz_X4_choiceOf qML_RX4_98 qIM_yX4_choiceOf qSE_yX4_choiceOf ⟨(Nat.le_of_ble_eq_true rfl), (Nat.le_of_ble_eq_true rfl)⟩ (q0 := 0) rfl (by decide) rfl rfl rfl rfl hl.1 rfl (Nat.le_of_ble_eq_true rfl) dX4_choice_10 ⟨Nat.le_refl _, Nat.le_refl _⟩ (fun H locs hP => ?_)
    refine lv_goto (tgt := 22) hx hb dX4_choice_13 (by decide) ?_
    exact e_iret C hend hP (k_some2 h).1 (congrArg (mw ev ad) (k_some2 h).2) dX4_choice_22
def f_X4_plays_L12_b (a1 : Int32) (a2 : Int32) (x2 : Int32)  (rec12 : Int32 → Int32 → MM → Option (Int32 × MM)) (x3 : Int32) (x4 : Int32) (σ5 : MM) : Option (Int32 × MM) :=
  if x3 = (-1) then some (x2, σ5) else ob2 (f_X4_makes σ5 x3) (fun x7 σ6 => gd (nz 2) (if (irem x4 2) = 0 then ob2 (f_X4_chosen σ6 a1) (fun x12 σ11 => lt (x4 + 1) (fun x13 => rec12 x12 x13 σ11)) else ob2 (f_X4_chosen σ6 a2) (fun x9 σ8 => lt (x4 + 1) (fun x10 => rec12 x9 x10 σ8))))
def f_X4_plays_L12 (a1 : Int32) (a2 : Int32) (x2 : Int32)  (x3 : Int32) (x4 : Int32) (σ5 : MM) : Option (Int32 × MM) :=
  lp (fun _ _ _ => none) (f_X4_plays_L12_b a1 a2 x2 ) FU x3 x4 σ5
def f_X4_plays (σ : MM) (a1 : Int32) (a2 : Int32) : Option (Int32 × MM) :=
  ob2 (f_X4_chosen σ a1) (fun x2 σ1 => f_X4_plays_L12 a1 a2 x2 x2 1 σ1)
set_option maxHeartbeats 4000000 in
set_option maxRecDepth 100000 in
theorem c_X4_plays (l : Launch) (ev : EV) (ad : Nat → Nat) (σ : MM) (a1 : Int32) (a2 : Int32)   (r : Int32) (σ' : MM) (h : f_X4_plays σ a1 a2 = some (r, σ')) : Ct l yX4_plays prog_6_method_78_code 6 (Option.some Jvm.ClassFile.FieldType.int) (rmk 7 157) ev 13 ad (mw ev ad σ) (mw ev ad σ') [.ref (ad 0), .int a1, .int a2] (some (.int r)) := by
  refine Ct.of (by decide +kernel) (Nat.le_of_ble_eq_true rfl) ?_
  intro p e s m args below meth c Qc C hap hP hend ls hl
  have hAA : ∀ j, j < 13 → inA ad 13 (ad j) := fun j hj => ⟨j, hj, rfl⟩
  have hx := C.1
  have hb := C.2.1
  have hl : lv_has ls 6 [(0, .ref (ad 0)), (1, .int a1), (2, .int a2)] := hl
  have h := (f_X4_plays.eq_1 _ _ _ ).symm.trans h
  refine lv_aload_n hx hb dX4_plays_0 rfl (lv_at hl 0 rfl) ?_
  refine lv_iload_n hx hb dX4_plays_1 rfl (lv_at hl 1 rfl) ?_
  obtain ⟨x2, σ1, h1, h⟩ := k_ob2 h
  refine k_callVi C hP hap hAA (c_X4_chosen l ev ad σ a1   _ _ h1) Emb.same hap gz_X4_chosen qML_RX4_265 qIM_yX4_chosen qSE_yX4_chosen ⟨(Nat.le_of_ble_eq_true rfl), (Nat.le_of_ble_eq_true rfl)⟩ (q0 := 0) rfl (by decide) rfl rfl rfl rfl hl.1 rfl (Nat.le_of_ble_eq_true rfl) dX4_plays_2 ⟨Nat.le_refl _, Nat.le_refl _⟩ (fun H locs hP => ?_)
  refine lv_istore_n (lv' := [(3, .int x2), (0, .ref (ad 0)), (1, .int a1), (2, .int a2)]) hx hb dX4_plays_5 rfl hl (by decide) rfl (fun ls hl => ?_)
  refine lv_iload_n hx hb dX4_plays_6 rfl (lv_at hl 0 rfl) ?_
  refine lv_istore (lv' := [(4, .int x2), (3, .int x2), (0, .ref (ad 0)), (1, .int a1), (2, .int a2)]) hx hb dX4_plays_7 hl (by decide) rfl (fun ls hl => ?_)
  refine lv_iconst (v := 1) hx hb dX4_plays_9 (by decide) ?_
  refine lv_istore (lv' := [(5, .int 1), (4, .int x2), (3, .int x2), (0, .ref (ad 0)), (1, .int a1), (2, .int a2)]) hx hb dX4_plays_10 hl (by decide) rfl (fun ls hl => ?_)
  have hL12 : ∀ (n : Nat) (x3 : Int32) (x4 : Int32) (σ5 : MM) (H : Heap) (locs : List Loc) (ls : Array Slot), lp (fun _ _ _ => none) (f_X4_plays_L12_b a1 a2 x2 ) n x3 x4 σ5 = some (r, σ') → PS ev 13 ad (mw ev ad σ5) (inA ad 13) s H locs → lv_has ls 6 [(0, .ref (ad 0)), (1, .int a1), (2, .int a2), (3, .int x3), (4, .int x2), (5, .int x4)] → WW ev p l e (rmk 7 157) s m args below meth c Qc ad 13 H locs 12 ls [] := by
    intro n
    induction n with
    | zero =>
      intro x3 x4 σ5 H locs ls h; exact k_none h
    | succ n ih =>
      intro x3 x4 σ5 H locs ls h hP hl
      have h : f_X4_plays_L12_b a1 a2 x2  (lp (fun _ _ _ => none) (f_X4_plays_L12_b a1 a2 x2 ) n) x3 x4 σ5 = some (r, σ') := h
      have h := (f_X4_plays_L12_b.eq_1 _ _ _ _ _ _ _ ).symm.trans h
      refine lv_iload_n hx hb dX4_plays_12 rfl (lv_at hl 3 rfl) ?_
      refine lv_iconst (v := (-1)) hx hb dX4_plays_13 (by decide) ?_
      refine lv_icmp_eq (tgt := 46) hx hb dX4_plays_14 (by decide) (fun c14 => ?_) (fun c14 => ?_)
      · have h := k_if c14 h
        refine lv_iload hx hb dX4_plays_46 (lv_at hl 4 rfl) ?_
        exact e_iret C hend hP (k_some2 h).1 (congrArg (mw ev ad) (k_some2 h).2) dX4_plays_48
      · have h := k_nf c14 h
        refine lv_aload_n hx hb dX4_plays_17 rfl (lv_at hl 0 rfl) ?_
        refine lv_iload_n hx hb dX4_plays_18 rfl (lv_at hl 3 rfl) ?_
        obtain ⟨x7, σ6, h1, h⟩ := k_ob2 h
        refine k_callVi C hP hap hAA (c_X4_makes l ev ad σ5 x3   _ _ h1) Emb.same hap gz_X4_makes qML_RX4_179 qIM_yX4_makes qSE_yX4_makes ⟨(Nat.le_of_ble_eq_true rfl), (Nat.le_of_ble_eq_true rfl)⟩ (q0 := 0) rfl (by decide) rfl rfl rfl rfl hl.1 rfl (Nat.le_of_ble_eq_true rfl) dX4_plays_19 ⟨Nat.le_refl _, Nat.le_refl _⟩ (fun H locs hP => ?_)
        refine lv_pop hx hb dX4_plays_22 rfl ?_
        refine lv_aload_n hx hb dX4_plays_23 rfl (lv_at hl 0 rfl) ?_
        refine lv_iload hx hb dX4_plays_24 (lv_at hl 5 rfl) ?_
        refine lv_iconst (v := 2) hx hb dX4_plays_26 (by decide) ?_
        obtain ⟨hg, h⟩ := k_gd h
        refine r_irem hx hb dX4_plays_27 (nz_ne hg) ?_
        refine lv_if_ne (tgt := 35) hx hb dX4_plays_28 (by decide) (fun c28 => ?_) (fun c28 => ?_)
        · have h := k_nf c28 h
          refine lv_iload_n hx hb dX4_plays_35 rfl (lv_at hl 2 rfl) ?_
          obtain ⟨x9, σ8, h1, h⟩ := k_ob2 h
          refine k_callVi C hP hap hAA (c_X4_chosen l ev ad σ6 a2   _ _ h1) Emb.same hap gz_X4_chosen qML_RX4_265 qIM_yX4_chosen qSE_yX4_chosen ⟨(Nat.le_of_ble_eq_true rfl), (Nat.le_of_ble_eq_true rfl)⟩ (q0 := 0) rfl (by decide) rfl rfl rfl rfl hl.1 rfl (Nat.le_of_ble_eq_true rfl) dX4_plays_36 ⟨Nat.le_refl _, Nat.le_refl _⟩ (fun H locs hP => ?_)
          refine lv_istore_n (lv' := [(3, .int x9), (0, .ref (ad 0)), (1, .int a1), (2, .int a2), (4, .int x2), (5, .int x4)]) hx hb dX4_plays_39 rfl hl (by decide) rfl (fun ls hl => ?_)
          obtain ⟨x10, ex10, h⟩ := k_ltx h
          refine lv_iinc (v := x10) (lv' := [(5, .int x10), (3, .int x9), (0, .ref (ad 0)), (1, .int a1), (2, .int a2), (4, .int x2)]) hx hb dX4_plays_40 hl (k := 5) rfl (by rw [ex10]; rfl) (by decide) rfl (fun ls hl => ?_)
          refine lv_goto (tgt := 12) hx hb dX4_plays_43 (by decide) ?_
          exact ih _ _ _ _ _ _ h hP (lv_sub hl [2, 3, 4, 1, 5, 0] rfl)
        · have h := k_if c28 h
          refine lv_iload_n hx hb dX4_plays_31 rfl (lv_at hl 1 rfl) ?_
          refine lv_goto (tgt := 36) hx hb dX4_plays_32 (by decide) ?_
          obtain ⟨x12, σ11, h1, h⟩ := k_ob2 h
          refine k_callVi C hP hap hAA (c_X4_chosen l ev ad σ6 a1   _ _ h1) Emb.same hap gz_X4_chosen qML_RX4_265 qIM_yX4_chosen qSE_yX4_chosen ⟨(Nat.le_of_ble_eq_true rfl), (Nat.le_of_ble_eq_true rfl)⟩ (q0 := 0) rfl (by decide) rfl rfl rfl rfl hl.1 rfl (Nat.le_of_ble_eq_true rfl) dX4_plays_36 ⟨Nat.le_refl _, Nat.le_refl _⟩ (fun H locs hP => ?_)
          refine lv_istore_n (lv' := [(3, .int x12), (0, .ref (ad 0)), (1, .int a1), (2, .int a2), (4, .int x2), (5, .int x4)]) hx hb dX4_plays_39 rfl hl (by decide) rfl (fun ls hl => ?_)
          obtain ⟨x13, ex13, h⟩ := k_ltx h
          refine lv_iinc (v := x13) (lv' := [(5, .int x13), (3, .int x12), (0, .ref (ad 0)), (1, .int a1), (2, .int a2), (4, .int x2)]) hx hb dX4_plays_40 hl (k := 5) rfl (by rw [ex13]; rfl) (by decide) rfl (fun ls hl => ?_)
          refine lv_goto (tgt := 12) hx hb dX4_plays_43 (by decide) ?_
          exact ih _ _ _ _ _ _ h hP (lv_sub hl [2, 3, 4, 1, 5, 0] rfl)
  exact hL12 FU _ _ _ _ _ _ h hP (lv_sub hl [3, 4, 5, 2, 1, 0] rfl)
def f_X4_leadPlayed (σ : MM) (a1 : Int32) (a2 : Int32) : Option (Int32 × MM) :=
  ob (f_X4_keep_ahead σ) (fun σ1 => ob2 (f_X4_plays σ1 a1 a2) (fun x3 σ2 => ob (f_X4_leadOf σ2 0) (fun x4 => ob (f_X4_again_ahead σ2) (fun σ5 => some (x4, σ5)))))
set_option maxHeartbeats 4000000 in
set_option maxRecDepth 100000 in
theorem c_X4_leadPlayed (l : Launch) (ev : EV) (ad : Nat → Nat) (σ : MM) (a1 : Int32) (a2 : Int32)   (r : Int32) (σ' : MM) (h : f_X4_leadPlayed σ a1 a2 = some (r, σ')) : Ct l yX4_leadPlayed prog_6_method_79_code 4 (Option.some Jvm.ClassFile.FieldType.int) (rmk 9 206) ev 13 ad (mw ev ad σ) (mw ev ad σ') [.ref (ad 0), .int a1, .int a2] (some (.int r)) := by
  refine Ct.of (by decide +kernel) (Nat.le_of_ble_eq_true rfl) ?_
  intro p e s m args below meth c Qc C hap hP hend ls hl
  have hAA : ∀ j, j < 13 → inA ad 13 (ad j) := fun j hj => ⟨j, hj, rfl⟩
  have hx := C.1
  have hb := C.2.1
  have hl : lv_has ls 4 [(0, .ref (ad 0)), (1, .int a1), (2, .int a2)] := hl
  have h := (f_X4_leadPlayed.eq_1 _ _ _ ).symm.trans h
  refine lv_aload_n hx hb dX4_leadPlayed_0 rfl (lv_at hl 0 rfl) ?_
  refine lv_aload_n hx hb dX4_leadPlayed_1 rfl (lv_at hl 0 rfl) ?_
  refine r_get C hP (ci := 4) rfl uin_X4 23 (by decide) 0 (by decide) rfl qFL_RX4_45 rfl rfl dX4_leadPlayed_2 ?_
  obtain ⟨σ1, h1, h⟩ := k_ob h
  refine k_callVv C hP hap hAA (c_X4_keep_ahead l ev ad σ   _ h1) Emb.same hap gz_X4_keep qML_RX4_185 qIM_yX4_keep qSE_yX4_keep ⟨(Nat.le_of_ble_eq_true rfl), (Nat.le_of_ble_eq_true rfl)⟩ (q0 := 0) rfl (by decide) rfl rfl rfl rfl hl.1 rfl (Nat.le_of_ble_eq_true rfl) dX4_leadPlayed_5 ⟨Nat.le_refl _, Nat.le_refl _⟩ (fun H locs hP => ?_)
  refine lv_aload_n hx hb dX4_leadPlayed_8 rfl (lv_at hl 0 rfl) ?_
  refine lv_iload_n hx hb dX4_leadPlayed_9 rfl (lv_at hl 1 rfl) ?_
  refine lv_iload_n hx hb dX4_leadPlayed_10 rfl (lv_at hl 2 rfl) ?_
  obtain ⟨x3, σ2, h1, h⟩ := k_ob2 h
  refine k_callVi C hP hap hAA (c_X4_plays l ev ad σ1 a1 a2   _ _ h1) Emb.same hap gz_X4_plays qML_RX4_268 qIM_yX4_plays qSE_yX4_plays ⟨(Nat.le_of_ble_eq_true rfl), (Nat.le_of_ble_eq_true rfl)⟩ (q0 := 0) rfl (by decide) rfl rfl rfl rfl hl.1 rfl (Nat.le_of_ble_eq_true rfl) dX4_leadPlayed_11 ⟨Nat.le_refl _, Nat.le_refl _⟩ (fun H locs hP => ?_)
  refine lv_pop hx hb dX4_leadPlayed_14 rfl ?_
  refine lv_aload_n hx hb dX4_leadPlayed_15 rfl (lv_at hl 0 rfl) ?_
  refine lv_iconst (v := 0) hx hb dX4_leadPlayed_16 (by decide) ?_
  obtain ⟨x4, h1, h⟩ := k_ob h
  refine k_callVi C hP hap hAA (c_X4_leadOf l ev ad σ2 0   _ h1) Emb.same hap gz_X4_leadOf qML_RX4_226 qIM_yX4_leadOf qSE_yX4_leadOf ⟨(Nat.le_of_ble_eq_true rfl), (Nat.le_of_ble_eq_true rfl)⟩ (q0 := 0) rfl (by decide) rfl rfl rfl rfl hl.1 rfl (Nat.le_of_ble_eq_true rfl) dX4_leadPlayed_17 ⟨Nat.le_refl _, Nat.le_refl _⟩ (fun H locs hP => ?_)
  refine lv_istore_n (lv' := [(3, .int x4), (0, .ref (ad 0)), (1, .int a1), (2, .int a2)]) hx hb dX4_leadPlayed_20 rfl hl (by decide) rfl (fun ls hl => ?_)
  refine lv_aload_n hx hb dX4_leadPlayed_21 rfl (lv_at hl 1 rfl) ?_
  refine lv_aload_n hx hb dX4_leadPlayed_22 rfl (lv_at hl 1 rfl) ?_
  refine r_get C hP (ci := 4) rfl uin_X4 23 (by decide) 0 (by decide) rfl qFL_RX4_45 rfl rfl dX4_leadPlayed_23 ?_
  obtain ⟨σ5, h1, h⟩ := k_ob h
  refine k_callVv C hP hap hAA (c_X4_again_ahead l ev ad σ2   _ h1) Emb.same hap gz_X4_again qML_RX4_193 qIM_yX4_again qSE_yX4_again ⟨(Nat.le_of_ble_eq_true rfl), (Nat.le_of_ble_eq_true rfl)⟩ (q0 := 0) rfl (by decide) rfl rfl rfl rfl hl.1 rfl (Nat.le_of_ble_eq_true rfl) dX4_leadPlayed_26 ⟨Nat.le_refl _, Nat.le_refl _⟩ (fun H locs hP => ?_)
  refine lv_iload_n hx hb dX4_leadPlayed_29 rfl (lv_at hl 0 rfl) ?_
  exact e_iret C hend hP (k_some2 h).1 (congrArg (mw ev ad) (k_some2 h).2) dX4_leadPlayed_30
def f_X4_played (σ : MM) (a1 : Int32) (a2 : Int32) (a3 : Int32) : Option (Int32 × MM) :=
  if (f_X4_isPlayer σ a1) = true then if (f_X4_isPlayer σ a2) = true then if (f_X4_within a3 0 2) = true then ob (f_X4_keep_ahead σ) (fun σ5 => lt (m_made σ5) (fun x6 => ob2 (f_X4_plays σ5 a1 a2) (fun x8 σ7 => lt ((m_made σ7) - x6) (fun x9 => ob (f_X4_leadOf σ7 0) (fun x10 => ob (f_X4_again_ahead σ7) (fun σ11 => if a3 = 0 then some (x9, σ11) else if a3 = 1 then some (x10, σ11) else some (x8, σ11))))))) else ob2 (f_X4_noLead σ (-2)) (fun x13 σ12 => some (x13, σ12)) else ob2 (f_X4_noLead σ (-2)) (fun x4 σ3 => some (x4, σ3)) else ob2 (f_X4_noLead σ (-2)) (fun x2 σ1 => some (x2, σ1))
set_option maxHeartbeats 4000000 in
set_option maxRecDepth 100000 in
theorem c_X4_played (l : Launch) (ev : EV) (ad : Nat → Nat) (σ : MM) (a1 : Int32) (a2 : Int32) (a3 : Int32)   (r : Int32) (σ' : MM) (h : f_X4_played σ a1 a2 a3 = some (r, σ')) : Ct l yX4_played prog_6_method_80_code 8 (Option.some Jvm.ClassFile.FieldType.int) (rmk 9 206) ev 13 ad (mw ev ad σ) (mw ev ad σ') [.ref (ad 0), .int a1, .int a2, .int a3] (some (.int r)) := by
  refine Ct.of (by decide +kernel) (Nat.le_of_ble_eq_true rfl) ?_
  intro p e s m args below meth c Qc C hap hP hend ls hl
  have hAA : ∀ j, j < 13 → inA ad 13 (ad j) := fun j hj => ⟨j, hj, rfl⟩
  have hx := C.1
  have hb := C.2.1
  have hl : lv_has ls 8 [(0, .ref (ad 0)), (1, .int a1), (2, .int a2), (3, .int a3)] := hl
  have h := (f_X4_played.eq_1 _ _ _ _ ).symm.trans h
  refine lv_aload_n hx hb dX4_played_0 rfl (lv_at hl 0 rfl) ?_
  refine lv_iload_n hx hb dX4_played_1 rfl (lv_at hl 1 rfl) ?_
  refine k_callVi C hP hap hAA (c_X4_isPlayer l ev ad σ a1   _ rfl) Emb.same hap gz_X4_isPlayer qML_RX4_87 qIM_yX4_isPlayer qSE_yX4_isPlayer ⟨(Nat.le_of_ble_eq_true rfl), (Nat.le_of_ble_eq_true rfl)⟩ (q0 := 0) rfl (by decide) rfl rfl rfl rfl hl.1 rfl (Nat.le_of_ble_eq_true rfl) dX4_played_2 ⟨Nat.le_refl _, Nat.le_refl _⟩ (fun H locs hP => ?_)
  refine r_ifz_eq (tgt := 25) hx hb dX4_played_5 (by decide) (fun c5 => ?_) (fun c5 => ?_)
  · have h := k_nf c5 h
    refine lv_aload_n hx hb dX4_played_25 rfl (lv_at hl 0 rfl) ?_
    refine lv_bipush (v := (-2)) hx hb dX4_played_26 (by decide) ?_
    obtain ⟨x2, σ1, h1, h⟩ := k_ob2 h
    refine k_callVi C hP hap hAA (c_X4_noLead l ev ad σ (-2)   _ _ h1) Emb.same hap gz_X4_noLead qML_RX4_229 qIM_yX4_noLead qSE_yX4_noLead ⟨(Nat.le_of_ble_eq_true rfl), (Nat.le_of_ble_eq_true rfl)⟩ (q0 := 0) rfl (by decide) rfl rfl rfl rfl hl.1 rfl (Nat.le_of_ble_eq_true rfl) dX4_played_28 ⟨Nat.le_refl _, Nat.le_refl _⟩ (fun H locs hP => ?_)
    exact e_iret C hend hP (k_some2 h).1 (congrArg (mw ev ad) (k_some2 h).2) dX4_played_31
  · have h := k_if c5 h
    refine lv_aload_n hx hb dX4_played_8 rfl (lv_at hl 0 rfl) ?_
    refine lv_iload_n hx hb dX4_played_9 rfl (lv_at hl 2 rfl) ?_
    refine k_callVi C hP hap hAA (c_X4_isPlayer l ev ad σ a2   _ rfl) Emb.same hap gz_X4_isPlayer qML_RX4_87 qIM_yX4_isPlayer qSE_yX4_isPlayer ⟨(Nat.le_of_ble_eq_true rfl), (Nat.le_of_ble_eq_true rfl)⟩ (q0 := 0) rfl (by decide) rfl rfl rfl rfl hl.1 rfl (Nat.le_of_ble_eq_true rfl) dX4_played_10 ⟨Nat.le_refl _, Nat.le_refl _⟩ (fun H locs hP => ?_)
    refine r_ifz_eq (tgt := 25) hx hb dX4_played_13 (by decide) (fun c13 => ?_) (fun c13 => ?_)
    · have h := k_nf c13 h
      refine lv_aload_n hx hb dX4_played_25 rfl (lv_at hl 0 rfl) ?_
      refine lv_bipush (v := (-2)) hx hb dX4_played_26 (by decide) ?_
      obtain ⟨x4, σ3, h1, h⟩ := k_ob2 h
      refine k_callVi C hP hap hAA (c_X4_noLead l ev ad σ (-2)   _ _ h1) Emb.same hap gz_X4_noLead qML_RX4_229 qIM_yX4_noLead qSE_yX4_noLead ⟨(Nat.le_of_ble_eq_true rfl), (Nat.le_of_ble_eq_true rfl)⟩ (q0 := 0) rfl (by decide) rfl rfl rfl rfl hl.1 rfl (Nat.le_of_ble_eq_true rfl) dX4_played_28 ⟨Nat.le_refl _, Nat.le_refl _⟩ (fun H locs hP => ?_)
      exact e_iret C hend hP (k_some2 h).1 (congrArg (mw ev ad) (k_some2 h).2) dX4_played_31
    · have h := k_if c13 h
      refine lv_iload_n hx hb dX4_played_16 rfl (lv_at hl 3 rfl) ?_
      refine lv_iconst (v := 0) hx hb dX4_played_17 (by decide) ?_
      refine lv_iconst (v := 2) hx hb dX4_played_18 (by decide) ?_
      refine k_callSi C hP hap hAA (c_X4_within l ev ad a3 0 2   _ rfl) Emb.none (apart_0 _) gz_X4_within qML_RX4_63 qSM_yX4_within ⟨(Nat.le_of_ble_eq_true rfl), (Nat.le_of_ble_eq_true rfl)⟩ rfl hl.1 rfl (Nat.le_of_ble_eq_true rfl) dX4_played_19 ⟨Nat.le_refl _, Nat.le_refl _⟩ (fun H locs hP => ?_)
      refine r_ifz_ne (tgt := 32) hx hb dX4_played_22 (by decide) (fun c22 => ?_) (fun c22 => ?_)
      · have h := k_if c22 h
        refine lv_aload_n hx hb dX4_played_32 rfl (lv_at hl 0 rfl) ?_
        refine lv_aload_n hx hb dX4_played_33 rfl (lv_at hl 0 rfl) ?_
        refine r_get C hP (ci := 4) rfl uin_X4 23 (by decide) 0 (by decide) rfl qFL_RX4_45 rfl rfl dX4_played_34 ?_
        obtain ⟨σ5, h1, h⟩ := k_ob h
        refine k_callVv C hP hap hAA (c_X4_keep_ahead l ev ad σ   _ h1) Emb.same hap gz_X4_keep qML_RX4_185 qIM_yX4_keep qSE_yX4_keep ⟨(Nat.le_of_ble_eq_true rfl), (Nat.le_of_ble_eq_true rfl)⟩ (q0 := 0) rfl (by decide) rfl rfl rfl rfl hl.1 rfl (Nat.le_of_ble_eq_true rfl) dX4_played_37 ⟨Nat.le_refl _, Nat.le_refl _⟩ (fun H locs hP => ?_)
        refine lv_aload_n hx hb dX4_played_40 rfl (lv_at hl 0 rfl) ?_
        refine r_get C hP (ci := 4) rfl uin_X4 6 (by decide) 0 (by decide) rfl qFL_RX4_104 rfl rfl dX4_played_41 ?_
        refine lv_topi (fun x6 ex6 => ?_)
        have h := k_lt ex6 h
        refine lv_istore (lv' := [(4, .int x6), (0, .ref (ad 0)), (1, .int a1), (2, .int a2), (3, .int a3)]) hx hb dX4_played_44 hl (by decide) rfl (fun ls hl => ?_)
        refine lv_aload_n hx hb dX4_played_46 rfl (lv_at hl 1 rfl) ?_
        refine lv_iload_n hx hb dX4_played_47 rfl (lv_at hl 2 rfl) ?_
        refine lv_iload_n hx hb dX4_played_48 rfl (lv_at hl 3 rfl) ?_
        obtain ⟨x8, σ7, h1, h⟩ := k_ob2 h
        refine k_callVi C hP hap hAA (c_X4_plays l ev ad σ5 a1 a2   _ _ h1) Emb.same hap gz_X4_plays qML_RX4_268 qIM_yX4_plays qSE_yX4_plays ⟨(Nat.le_of_ble_eq_true rfl), (Nat.le_of_ble_eq_true rfl)⟩ (q0 := 0) rfl (by decide) rfl rfl rfl rfl hl.1 rfl (Nat.le_of_ble_eq_true rfl) dX4_played_49 ⟨Nat.le_refl _, Nat.le_refl _⟩ (fun H locs hP => ?_)
        refine lv_istore (lv' := [(5, .int x8), (4, .int x6), (0, .ref (ad 0)), (1, .int a1), (2, .int a2), (3, .int a3)]) hx hb dX4_played_52 hl (by decide) rfl (fun ls hl => ?_)
        refine lv_aload_n hx hb dX4_played_54 rfl (lv_at hl 2 rfl) ?_
        refine r_get C hP (ci := 4) rfl uin_X4 6 (by decide) 0 (by decide) rfl qFL_RX4_104 rfl rfl dX4_played_55 ?_
        refine lv_iload hx hb dX4_played_58 (lv_at hl 1 rfl) ?_
        refine lv_isub hx hb dX4_played_60 ?_
        refine lv_topi (fun x9 ex9 => ?_)
        have h := k_lt ex9 h
        refine lv_istore (lv' := [(6, .int x9), (5, .int x8), (4, .int x6), (0, .ref (ad 0)), (1, .int a1), (2, .int a2), (3, .int a3)]) hx hb dX4_played_61 hl (by decide) rfl (fun ls hl => ?_)
        refine lv_aload_n hx hb dX4_played_63 rfl (lv_at hl 3 rfl) ?_
        refine lv_iconst (v := 0) hx hb dX4_played_64 (by decide) ?_
        obtain ⟨x10, h1, h⟩ := k_ob h
        refine k_callVi C hP hap hAA (c_X4_leadOf l ev ad σ7 0   _ h1) Emb.same hap gz_X4_leadOf qML_RX4_226 qIM_yX4_leadOf qSE_yX4_leadOf ⟨(Nat.le_of_ble_eq_true rfl), (Nat.le_of_ble_eq_true rfl)⟩ (q0 := 0) rfl (by decide) rfl rfl rfl rfl hl.1 rfl (Nat.le_of_ble_eq_true rfl) dX4_played_65 ⟨Nat.le_refl _, Nat.le_refl _⟩ (fun H locs hP => ?_)
        refine lv_istore (lv' := [(7, .int x10), (6, .int x9), (5, .int x8), (4, .int x6), (0, .ref (ad 0)), (1, .int a1), (2, .int a2), (3, .int a3)]) hx hb dX4_played_68 hl (by decide) rfl (fun ls hl => ?_)
        refine lv_aload_n hx hb dX4_played_70 rfl (lv_at hl 4 rfl) ?_
        refine lv_aload_n hx hb dX4_played_71 rfl (lv_at hl 4 rfl) ?_
        refine r_get C hP (ci := 4) rfl uin_X4 23 (by decide) 0 (by decide) rfl qFL_RX4_45 rfl rfl dX4_played_72 ?_
        obtain ⟨σ11, h1, h⟩ := k_ob h
        refine k_callVv C hP hap hAA (c_X4_again_ahead l ev ad σ7   _ h1) Emb.same hap gz_X4_again qML_RX4_193 qIM_yX4_again qSE_yX4_again ⟨(Nat.le_of_ble_eq_true rfl), (Nat.le_of_ble_eq_true rfl)⟩ (q0 := 0) rfl (by decide) rfl rfl rfl rfl hl.1 rfl (Nat.le_of_ble_eq_true rfl) dX4_played_75 ⟨Nat.le_refl _, Nat.le_refl _⟩ (fun H locs hP => ?_)
        refine lv_iload_n hx hb dX4_played_78 rfl (lv_at hl 7 rfl) ?_
        refine lv_if_ne (tgt := 87) hx hb dX4_played_79 (by decide) (fun c79 => ?_) (fun c79 => ?_)
        · have h := k_nf c79 h
          refine lv_iload_n hx hb dX4_played_87 rfl (lv_at hl 7 rfl) ?_
          refine lv_iconst (v := 1) hx hb dX4_played_88 (by decide) ?_
          refine lv_icmp_ne (tgt := 97) hx hb dX4_played_89 (by decide) (fun c89 => ?_) (fun c89 => ?_)
          · have h := k_nf c89 h
            refine lv_iload hx hb dX4_played_97 (lv_at hl 2 rfl) ?_
            exact e_iret C hend hP (k_some2 h).1 (congrArg (mw ev ad) (k_some2 h).2) dX4_played_99
          · have h := k_if c89 h
            refine lv_iload hx hb dX4_played_92 (lv_at hl 0 rfl) ?_
            refine lv_goto (tgt := 99) hx hb dX4_played_94 (by decide) ?_
            exact e_iret C hend hP (k_some2 h).1 (congrArg (mw ev ad) (k_some2 h).2) dX4_played_99
        · have h := k_if c79 h
          refine lv_iload hx hb dX4_played_82 (lv_at hl 1 rfl) ?_
          refine lv_goto (tgt := 99) hx hb dX4_played_84 (by decide) ?_
          exact e_iret C hend hP (k_some2 h).1 (congrArg (mw ev ad) (k_some2 h).2) dX4_played_99
      · have h := k_nf c22 h
        refine lv_aload_n hx hb dX4_played_25 rfl (lv_at hl 0 rfl) ?_
        refine lv_bipush (v := (-2)) hx hb dX4_played_26 (by decide) ?_
        obtain ⟨x13, σ12, h1, h⟩ := k_ob2 h
        refine k_callVi C hP hap hAA (c_X4_noLead l ev ad σ (-2)   _ _ h1) Emb.same hap gz_X4_noLead qML_RX4_229 qIM_yX4_noLead qSE_yX4_noLead ⟨(Nat.le_of_ble_eq_true rfl), (Nat.le_of_ble_eq_true rfl)⟩ (q0 := 0) rfl (by decide) rfl rfl rfl rfl hl.1 rfl (Nat.le_of_ble_eq_true rfl) dX4_played_28 ⟨Nat.le_refl _, Nat.le_refl _⟩ (fun H locs hP => ?_)
        exact e_iret C hend hP (k_some2 h).1 (congrArg (mw ev ad) (k_some2 h).2) dX4_played_31
