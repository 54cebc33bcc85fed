/-! functions read off, and their contracts: by program (wip/whole/gen2.py) -/
def f_X3_goes_L28_b (a1 : Int32) (a2 : Int32)  (rec28 : Int32 → XX → Option (Int32 × XX)) (x5 : Int32) (σ6 : XX) : Option (Int32 × XX) :=
  if a2 ≤ x5 then some (a2, σ6) else ob2 (f_X3_chosenSlot_now σ6 a1) (fun x8 σ7 => if x8 = (-1) then some (x5, σ7) else ob (f_X0_make (x_now σ7) x8) (fun σ9 => lt (x_now' σ7 σ9) (fun σ10 => lt (x5 + 1) (fun x11 => rec28 x11 σ10))))
def f_X3_goes_L28 (a1 : Int32) (a2 : Int32)  (x5 : Int32) (σ6 : XX) : Option (Int32 × XX) :=
  lp (fun _ _ => none) (f_X3_goes_L28_b a1 a2 ) FU x5 σ6
def f_X3_goes (σ : XX) (a1 : Int32) (a2 : Int32) : Option (Int32 × XX) :=
  if (f_X3_isPlayer σ a1) = true then if a2 < 1 then ob2 (f_X3_refuse σ (-2)) (fun x4 σ3 => some (x4, σ3)) else if a2 ≤ 40 then f_X3_goes_L28 a1 a2 0 σ else ob2 (f_X3_refuse σ (-2)) (fun x13 σ12 => some (x13, σ12)) else ob2 (f_X3_refuse σ (-2)) (fun x2 σ1 => some (x2, σ1))
set_option maxHeartbeats 4000000 in
set_option maxRecDepth 100000 in
theorem c_X3_goes (l : Launch) (ev : EV) (ad : Nat → Nat) (σ : XX) (a1 : Int32) (a2 : Int32)   (r : Int32) (σ' : XX) (h : f_X3_goes σ a1 a2 = some (r, σ')) : Ct l yX3_goes prog_1_method_54_code 5 (Option.some Jvm.ClassFile.FieldType.int) (rmk 5 115) ev 26 ad (xw ev ad σ) (xw ev ad σ') [.ref (ad 0), .int a1, .int a2] (some (.int r)) := by
  refine Ct.of (by decide +kernel) (Nat.le_of_ble_eq_true rfl) ?_
  intro p e s m args below meth c Qc C hap hP hend ls hl
  have hAA : ∀ j, j < 26 → inA ad 26 (ad j) := fun j hj => ⟨j, hj, rfl⟩
  have hx := C.1
  have hb := C.2.1
  have hl : lv_has ls 5 [(0, .ref (ad 0)), (1, .int a1), (2, .int a2)] := hl
  have h := (f_X3_goes.eq_1 _ _ _ ).symm.trans h
  refine lv_aload_n hx hb dX3_goes_0 rfl (lv_at hl 0 rfl) ?_
  refine lv_iload_n hx hb dX3_goes_1 rfl (lv_at hl 1 rfl) ?_
  refine k_callVi C hP hap hAA (c_X3_isPlayer l ev ad σ a1   _ rfl) Emb.same hap gz_X3_isPlayer qML_RX3_108 qIM_yX3_isPlayer qSE_yX3_isPlayer ⟨(Nat.le_of_ble_eq_true rfl), (Nat.le_of_ble_eq_true rfl)⟩ (q0 := 0) rfl (by decide) rfl rfl rfl rfl hl.1 rfl (Nat.le_of_ble_eq_true rfl) dX3_goes_2 ⟨Nat.le_refl _, Nat.le_refl _⟩ (fun H locs hP => ?_)
  refine r_ifz_eq (tgt := 19) hx hb dX3_goes_5 (by decide) (fun c5 => ?_) (fun c5 => ?_)
  · have h := k_nf c5 h
    refine lv_aload_n hx hb dX3_goes_19 rfl (lv_at hl 0 rfl) ?_
    refine lv_bipush (v := (-2)) hx hb dX3_goes_20 (by decide) ?_
    obtain ⟨x2, σ1, h1, h⟩ := k_ob2 h
    refine k_callVi C hP hap hAA (c_X3_refuse l ev ad σ (-2)   _ _ h1) Emb.same hap gz_X3_refuse qML_RX3_60 qIM_yX3_refuse qSE_yX3_refuse ⟨(Nat.le_of_ble_eq_true rfl), (Nat.le_of_ble_eq_true rfl)⟩ (q0 := 0) rfl (by decide) rfl rfl rfl rfl hl.1 rfl (Nat.le_of_ble_eq_true rfl) dX3_goes_22 ⟨Nat.le_refl _, Nat.le_refl _⟩ (fun H locs hP => ?_)
    exact e_iret C hend hP (k_some2 h).1 (congrArg (xw ev ad) (k_some2 h).2) dX3_goes_25
  · have h := k_if c5 h
    refine lv_iload_n hx hb dX3_goes_8 rfl (lv_at hl 2 rfl) ?_
    refine lv_iconst (v := 1) hx hb dX3_goes_9 (by decide) ?_
    refine lv_icmp_lt (tgt := 19) hx hb dX3_goes_10 (by decide) (fun c10 => ?_) (fun c10 => ?_)
    · have h := k_if c10 h
      refine lv_aload_n hx hb dX3_goes_19 rfl (lv_at hl 0 rfl) ?_
      refine lv_bipush (v := (-2)) hx hb dX3_goes_20 (by decide) ?_
      obtain ⟨x4, σ3, h1, h⟩ := k_ob2 h
      refine k_callVi C hP hap hAA (c_X3_refuse l ev ad σ (-2)   _ _ h1) Emb.same hap gz_X3_refuse qML_RX3_60 qIM_yX3_refuse qSE_yX3_refuse ⟨(Nat.le_of_ble_eq_true rfl), (Nat.le_of_ble_eq_true rfl)⟩ (q0 := 0) rfl (by decide) rfl rfl rfl rfl hl.1 rfl (Nat.le_of_ble_eq_true rfl) dX3_goes_22 ⟨Nat.le_refl _, Nat.le_refl _⟩ (fun H locs hP => ?_)
      exact e_iret C hend hP (k_some2 h).1 (congrArg (xw ev ad) (k_some2 h).2) dX3_goes_25
    · have h := k_nf c10 h
      refine lv_iload_n hx hb dX3_goes_13 rfl (lv_at hl 2 rfl) ?_
      refine lv_bipush (v := 40) hx hb dX3_goes_14 (by decide) ?_
      refine lv_icmp_le (tgt := 26) hx hb dX3_goes_16 (by decide) (fun c16 => ?_) (fun c16 => ?_)
      · have h := k_if c16 h
        refine lv_iconst (v := 0) hx hb dX3_goes_26 (by decide) ?_
        refine lv_istore_n (lv' := [(3, .int 0), (0, .ref (ad 0)), (1, .int a1), (2, .int a2)]) hx hb dX3_goes_27 rfl hl (by decide) rfl (fun ls hl => ?_)
        have hL28 : ∀ (n : Nat) (x5 : Int32) (σ6 : XX) (H : Heap) (locs : List Loc) (ls : Array Slot), lp (fun _ _ => none) (f_X3_goes_L28_b a1 a2 ) n x5 σ6 = some (r, σ') → PS ev 26 ad (xw ev ad σ6) (inA ad 26) s H locs → lv_has ls 5 [(0, .ref (ad 0)), (1, .int a1), (2, .int a2), (3, .int x5)] → WW ev p l e (rmk 5 115) s m args below meth c Qc ad 26 H locs 28 ls [] := by
          intro n
          induction n with
          | zero =>
            intro x5 σ6 H locs ls h; exact k_none h
          | succ n ih =>
            intro x5 σ6 H locs ls h hP hl
            have h : f_X3_goes_L28_b a1 a2  (lp (fun _ _ => none) (f_X3_goes_L28_b a1 a2 ) n) x5 σ6 = some (r, σ') := h
            have h := (f_X3_goes_L28_b.eq_1 _ _ _ _ _ ).symm.trans h
            refine lv_iload_n hx hb dX3_goes_28 rfl (lv_at hl 3 rfl) ?_
            refine lv_iload_n hx hb dX3_goes_29 rfl (lv_at hl 2 rfl) ?_
            refine lv_icmp_ge (tgt := 67) hx hb dX3_goes_30 (by decide) (fun c30 => ?_) (fun c30 => ?_)
            · have h := k_if c30 h
              refine lv_iload_n hx hb dX3_goes_67 rfl (lv_at hl 2 rfl) ?_
              exact e_iret C hend hP (k_some2 h).1 (congrArg (xw ev ad) (k_some2 h).2) dX3_goes_68
            · have h := k_nf c30 h
              refine lv_aload_n hx hb dX3_goes_33 rfl (lv_at hl 0 rfl) ?_
              refine lv_aload_n hx hb dX3_goes_34 rfl (lv_at hl 0 rfl) ?_
              refine r_get C hP (ci := 3) rfl uin_X3 0 (by decide) 0 (by decide) rfl qFL_RX3_10 rfl rfl dX3_goes_35 ?_
              refine lv_iload_n hx hb dX3_goes_38 rfl (lv_at hl 1 rfl) ?_
              obtain ⟨x8, σ7, h1, h⟩ := k_ob2 h
              refine k_callVi C hP hap hAA (c_X3_chosenSlot_now l ev ad σ6 a1   _ _ h1) Emb.same hap gz_X3_chosenSlot qML_RX3_344 qIM_yX3_chosenSlot qSE_yX3_chosenSlot ⟨(Nat.le_of_ble_eq_true rfl), (Nat.le_of_ble_eq_true rfl)⟩ (q0 := 0) rfl (by decide) rfl rfl rfl rfl hl.1 rfl (Nat.le_of_ble_eq_true rfl) dX3_goes_39 ⟨Nat.le_refl _, Nat.le_refl _⟩ (fun H locs hP => ?_)
              refine lv_istore (lv' := [(4, .int x8), (0, .ref (ad 0)), (1, .int a1), (2, .int a2), (3, .int x5)]) hx hb dX3_goes_42 hl (by decide) rfl (fun ls hl => ?_)
              refine lv_iload hx hb dX3_goes_44 (lv_at hl 0 rfl) ?_
              refine lv_iconst (v := (-1)) hx hb dX3_goes_46 (by decide) ?_
              refine lv_icmp_ne (tgt := 52) hx hb dX3_goes_47 (by decide) (fun c47 => ?_) (fun c47 => ?_)
              · have h := k_nf c47 h
                refine lv_aload_n hx hb dX3_goes_52 rfl (lv_at hl 1 rfl) ?_
                refine r_get C hP (ci := 3) rfl uin_X3 0 (by decide) 0 (by decide) rfl qFL_RX3_10 rfl rfl dX3_goes_53 ?_
                refine lv_iload hx hb dX3_goes_56 (lv_at hl 0 rfl) ?_
                obtain ⟨σ9, h1, h⟩ := k_ob h
                refine k_callVv C hP hap hAA (c_X0_make l ev (fun j => ad (j + 1)) (x_now σ7) x8   _ h1) (em_G1) (apart_1 _) gz_X0_make qML_RX3_311 qIM_yX0_make qSE_yX0_make ⟨(Nat.le_of_ble_eq_true rfl), (Nat.le_of_ble_eq_true rfl)⟩ (q0 := 1) rfl (by decide) rfl rfl rfl rfl hl.1 rfl (Nat.le_of_ble_eq_true rfl) dX3_goes_58 ⟨Nat.le_refl _, Nat.le_refl _⟩ (fun H locs hP => ?_)
                obtain ⟨σ10, eσ10, h⟩ := k_ltx h
                rw [← eσ10] at hP
                obtain ⟨x11, ex11, h⟩ := k_ltx h
                refine lv_iinc (v := x11) (lv' := [(3, .int x11), (4, .int x8), (0, .ref (ad 0)), (1, .int a1), (2, .int a2)]) hx hb dX3_goes_61 hl (k := 4) rfl (by rw [ex11]; rfl) (by decide) rfl (fun ls hl => ?_)
                refine lv_goto (tgt := 28) hx hb dX3_goes_64 (by decide) ?_
                exact ih _ _ _ _ _ h hP (lv_sub hl [2, 3, 4, 0] rfl)
              · have h := k_if c47 h
                refine lv_iload_n hx hb dX3_goes_50 rfl (lv_at hl 4 rfl) ?_
                exact e_iret C hend hP (k_some2 h).1 (congrArg (xw ev ad) (k_some2 h).2) dX3_goes_51
        exact hL28 FU _ _ _ _ _ h hP (lv_sub hl [1, 2, 3, 0] rfl)
      · have h := k_nf c16 h
        refine lv_aload_n hx hb dX3_goes_19 rfl (lv_at hl 0 rfl) ?_
        refine lv_bipush (v := (-2)) hx hb dX3_goes_20 (by decide) ?_
        obtain ⟨x13, σ12, h1, h⟩ := k_ob2 h
        refine k_callVi C hP hap hAA (c_X3_refuse l ev ad σ (-2)   _ _ h1) Emb.same hap gz_X3_refuse qML_RX3_60 qIM_yX3_refuse qSE_yX3_refuse ⟨(Nat.le_of_ble_eq_true rfl), (Nat.le_of_ble_eq_true rfl)⟩ (q0 := 0) rfl (by decide) rfl rfl rfl rfl hl.1 rfl (Nat.le_of_ble_eq_true rfl) dX3_goes_22 ⟨Nat.le_refl _, Nat.le_refl _⟩ (fun H locs hP => ?_)
        exact e_iret C hend hP (k_some2 h).1 (congrArg (xw ev ad) (k_some2 h).2) dX3_goes_25
def f_X3_endByDraws_L2_b   (rec2 : Int32 → XX → Option XX) (x1 : Int32) (σ2 : XX) : Option XX :=
  if 56 ≤ x1 then some σ2 else ob2 (f_X0_drawnSlot (x_thought σ2) (f_X0_openSlots (x_thought σ2))) (fun x4 σ3 => lt (x_thought' σ2 σ3) (fun σ5 => if x4 = (-1) then some σ5 else ob (f_X0_make (x_thought σ5) x4) (fun σ6 => lt (x_thought' σ5 σ6) (fun σ7 => lt (x1 + 1) (fun x8 => rec2 x8 σ7)))))
def f_X3_endByDraws_L2   (x1 : Int32) (σ2 : XX) : Option XX :=
  lp (fun _ _ => none) (f_X3_endByDraws_L2_b  ) FU x1 σ2
def f_X3_endByDraws (σ : XX) : Option XX :=
  f_X3_endByDraws_L2 0 σ
set_option maxHeartbeats 4000000 in
set_option maxRecDepth 100000 in
theorem c_X3_endByDraws (l : Launch) (ev : EV) (ad : Nat → Nat) (σ : XX)    (σ' : XX) (h : f_X3_endByDraws σ = some σ') : Ct l yX3_endByDraws prog_1_method_85_code 3 (Option.none : Option Jvm.ClassFile.FieldType) (rmk 4 89) ev 26 ad (xw ev ad σ) (xw ev ad σ') [.ref (ad 0)] none := by
  refine Ct.of (by decide +kernel) (Nat.le_of_ble_eq_true rfl) ?_
  intro p e s m args below meth c Qc C hap hP hend ls hl
  have hAA : ∀ j, j < 26 → inA ad 26 (ad j) := fun j hj => ⟨j, hj, rfl⟩
  have hx := C.1
  have hb := C.2.1
  have hl : lv_has ls 3 [(0, .ref (ad 0))] := hl
  have h := (f_X3_endByDraws.eq_1 _ ).symm.trans h
  refine lv_iconst (v := 0) hx hb dX3_endByDraws_0 (by decide) ?_
  refine lv_istore_n (lv' := [(1, .int 0), (0, .ref (ad 0))]) hx hb dX3_endByDraws_1 rfl hl (by decide) rfl (fun ls hl => ?_)
  have hL2 : ∀ (n : Nat) (x1 : Int32) (σ2 : XX) (H : Heap) (locs : List Loc) (ls : Array Slot), lp (fun _ _ => none) (f_X3_endByDraws_L2_b  ) n x1 σ2 = some σ' → PS ev 26 ad (xw ev ad σ2) (inA ad 26) s H locs → lv_has ls 3 [(0, .ref (ad 0)), (1, .int x1)] → WW ev p l e (rmk 4 89) s m args below meth c Qc ad 26 H locs 2 ls [] := by
    intro n
    induction n with
    | zero =>
      intro x1 σ2 H locs ls h; exact k_none h
    | succ n ih =>
      intro x1 σ2 H locs ls h hP hl
      have h : f_X3_endByDraws_L2_b   (lp (fun _ _ => none) (f_X3_endByDraws_L2_b  ) n) x1 σ2 = some σ' := h
      have h := (f_X3_endByDraws_L2_b.eq_1 _ _ _ ).symm.trans h
      refine lv_iload_n hx hb dX3_endByDraws_2 rfl (lv_at hl 1 rfl) ?_
      refine lv_bipush (v := 56) hx hb dX3_endByDraws_3 (by decide) ?_
      refine lv_icmp_ge (tgt := 45) hx hb dX3_endByDraws_5 (by decide) (fun c5 => ?_) (fun c5 => ?_)
      · have h := k_if c5 h
        exact e_vret C hend hP (congrArg (xw ev ad) (k_some h)) dX3_endByDraws_45
      · have h := k_nf c5 h
        refine lv_aload_n hx hb dX3_endByDraws_8 rfl (lv_at hl 0 rfl) ?_
        refine r_get C hP (ci := 3) rfl uin_X3 1 (by decide) 0 (by decide) rfl qFL_RX3_16 rfl rfl dX3_endByDraws_9 ?_
        refine lv_aload_n hx hb dX3_endByDraws_12 rfl (lv_at hl 0 rfl) ?_
        refine r_get C hP (ci := 3) rfl uin_X3 1 (by decide) 0 (by decide) rfl qFL_RX3_16 rfl rfl dX3_endByDraws_13 ?_
        refine k_callVl C hP hap hAA (c_X0_openSlots l ev (fun j => ad (j + 2)) (x_thought σ2)   _ rfl) (em_G2r) (apart_1 _) gz_X0_openSlots qML_RX3_127 qIM_yX0_openSlots qSE_yX0_openSlots ⟨(Nat.le_of_ble_eq_true rfl), (Nat.le_of_ble_eq_true rfl)⟩ (q0 := 2) rfl (by decide) rfl rfl rfl rfl hl.1 rfl (Nat.le_of_ble_eq_true rfl) dX3_endByDraws_16 ⟨Nat.le_refl _, Nat.le_refl _⟩ (fun H locs hP => ?_)
        obtain ⟨x4, σ3, h1, h⟩ := k_ob2 h
        refine k_callVi C hP hap hAA (c_X0_drawnSlot l ev (fun j => ad (j + 2)) (x_thought σ2) (f_X0_openSlots (x_thought σ2))   _ _ h1) (em_G2) (apart_1 _) gz_X0_drawnSlot qML_RX3_387 qIM_yX0_drawnSlot qSE_yX0_drawnSlot ⟨(Nat.le_of_ble_eq_true rfl), (Nat.le_of_ble_eq_true rfl)⟩ (q0 := 2) rfl (by decide) rfl rfl rfl rfl hl.1 rfl (Nat.le_of_ble_eq_true rfl) dX3_endByDraws_19 ⟨Nat.le_refl _, Nat.le_refl _⟩ (fun H locs hP => ?_)
        obtain ⟨σ5, eσ5, h⟩ := k_ltx h
        rw [← eσ5] at hP
        refine lv_istore_n (lv' := [(2, .int x4), (0, .ref (ad 0)), (1, .int x1)]) hx hb dX3_endByDraws_22 rfl hl (by decide) rfl (fun ls hl => ?_)
        refine lv_iload_n hx hb dX3_endByDraws_23 rfl (lv_at hl 0 rfl) ?_
        refine lv_iconst (v := (-1)) hx hb dX3_endByDraws_24 (by decide) ?_
        refine lv_icmp_ne (tgt := 31) hx hb dX3_endByDraws_25 (by decide) (fun c25 => ?_) (fun c25 => ?_)
        · have h := k_nf c25 h
          refine lv_aload_n hx hb dX3_endByDraws_31 rfl (lv_at hl 1 rfl) ?_
          refine r_get C hP (ci := 3) rfl uin_X3 1 (by decide) 0 (by decide) rfl qFL_RX3_16 rfl rfl dX3_endByDraws_32 ?_
          refine lv_iload_n hx hb dX3_endByDraws_35 rfl (lv_at hl 0 rfl) ?_
          obtain ⟨σ6, h1, h⟩ := k_ob h
          refine k_callVv C hP hap hAA (c_X0_make l ev (fun j => ad (j + 2)) (x_thought σ5) x4   _ h1) (em_G2) (apart_1 _) gz_X0_make qML_RX3_311 qIM_yX0_make qSE_yX0_make ⟨(Nat.le_of_ble_eq_true rfl), (Nat.le_of_ble_eq_true rfl)⟩ (q0 := 2) rfl (by decide) rfl rfl rfl rfl hl.1 rfl (Nat.le_of_ble_eq_true rfl) dX3_endByDraws_36 ⟨Nat.le_refl _, Nat.le_refl _⟩ (fun H locs hP => ?_)
          obtain ⟨σ7, eσ7, h⟩ := k_ltx h
          rw [← eσ7] at hP
          obtain ⟨x8, ex8, h⟩ := k_ltx h
          refine lv_iinc (v := x8) (lv' := [(1, .int x8), (2, .int x4), (0, .ref (ad 0))]) hx hb dX3_endByDraws_39 hl (k := 2) rfl (by rw [ex8]; rfl) (by decide) rfl (fun ls hl => ?_)
          refine lv_goto (tgt := 2) hx hb dX3_endByDraws_42 (by decide) ?_
          exact ih _ _ _ _ _ h hP (lv_sub hl [2, 0] rfl)
        · have h := k_if c25 h
          refine lv_goto (tgt := 45) hx hb dX3_endByDraws_28 (by decide) ?_
          exact e_vret C hend hP (congrArg (xw ev ad) (k_some h)) dX3_endByDraws_45
  exact hL2 FU _ _ _ _ _ h hP (lv_sub hl [1, 0] rfl)
def f_X3_games_L33_b (a1 : Int32) (k77 : Int32 → XX → Option (Int32 × XX)) (rec33 : Int32 → Int32 → XX → Option (Int32 × XX)) (x5 : Int32) (x6 : Int32) (σ7 : XX) : Option (Int32 × XX) :=
  if a1 ≤ x6 then k77 x5 σ7 else ob (f_X0_clear (x_thought σ7)) (fun σ8 => lt (x_thought' σ7 σ8) (fun σ9 => ob (f_X3_endByDraws σ9) (fun σ10 => ob (f_X0_leadOf (x_thought σ10) 0) (fun x11 => if x11 ≤ 0 then lt (x5 + (f_X3_truth 0)) (fun x12 => lt (x6 + 1) (fun x13 => rec33 x12 x13 σ10)) else lt (x5 + (f_X3_truth 1)) (fun x14 => lt (x6 + 1) (fun x15 => rec33 x14 x15 σ10))))))
def f_X3_games_L33 (a1 : Int32) (k77 : Int32 → XX → Option (Int32 × XX)) (x5 : Int32) (x6 : Int32) (σ7 : XX) : Option (Int32 × XX) :=
  lp (fun _ _ _ => none) (f_X3_games_L33_b a1 k77) FU x5 x6 σ7
def f_X3_games (σ : XX) (a1 : Int32) : Option (Int32 × XX) :=
  if a1 < 1 then ob2 (f_X3_refuse σ (-2)) (fun x2 σ1 => some (x2, σ1)) else if a1 ≤ 20 then ob (f_X0_become (x_thought σ) (x_now σ)) (fun σ3 => lt (x_thought' σ σ3) (fun σ4 => f_X3_games_L33 a1 (fun x17 σ18 => lt (x_now' σ18 (g_seed' (x_now σ18) (g_seed (x_thought σ18)))) (fun σ19 => some (x17, σ19))) 0 0 σ4)) else ob2 (f_X3_refuse σ (-2)) (fun x21 σ20 => some (x21, σ20))
set_option maxHeartbeats 4000000 in
set_option maxRecDepth 100000 in
theorem c_X3_games (l : Launch) (ev : EV) (ad : Nat → Nat) (σ : XX) (a1 : Int32)   (r : Int32) (σ' : XX) (h : f_X3_games σ a1 = some (r, σ')) : Ct l yX3_games prog_1_method_55_code 4 (Option.some Jvm.ClassFile.FieldType.int) (rmk 6 145) ev 26 ad (xw ev ad σ) (xw ev ad σ') [.ref (ad 0), .int a1] (some (.int r)) := by
  refine Ct.of (by decide +kernel) (Nat.le_of_ble_eq_true rfl) ?_
  intro p e s m args below meth c Qc C hap hP hend ls hl
  have hAA : ∀ j, j < 26 → inA ad 26 (ad j) := fun j hj => ⟨j, hj, rfl⟩
  have hx := C.1
  have hb := C.2.1
  have hl : lv_has ls 4 [(0, .ref (ad 0)), (1, .int a1)] := hl
  have h := (f_X3_games.eq_1 _ _ ).symm.trans h
  refine lv_iload_n hx hb dX3_games_0 rfl (lv_at hl 1 rfl) ?_
  refine lv_iconst (v := 1) hx hb dX3_games_1 (by decide) ?_
  refine lv_icmp_lt (tgt := 11) hx hb dX3_games_2 (by decide) (fun c2 => ?_) (fun c2 => ?_)
  · have h := k_if c2 h
    refine lv_aload_n hx hb dX3_games_11 rfl (lv_at hl 0 rfl) ?_
    refine lv_bipush (v := (-2)) hx hb dX3_games_12 (by decide) ?_
    obtain ⟨x2, σ1, h1, h⟩ := k_ob2 h
    refine k_callVi C hP hap hAA (c_X3_refuse l ev ad σ (-2)   _ _ h1) Emb.same hap gz_X3_refuse qML_RX3_60 qIM_yX3_refuse qSE_yX3_refuse ⟨(Nat.le_of_ble_eq_true rfl), (Nat.le_of_ble_eq_true rfl)⟩ (q0 := 0) rfl (by decide) rfl rfl rfl rfl hl.1 rfl (Nat.le_of_ble_eq_true rfl) dX3_games_14 ⟨Nat.le_refl _, Nat.le_refl _⟩ (fun H locs hP => ?_)
    exact e_iret C hend hP (k_some2 h).1 (congrArg (xw ev ad) (k_some2 h).2) dX3_games_17
  · have h := k_nf c2 h
    refine lv_iload_n hx hb dX3_games_5 rfl (lv_at hl 1 rfl) ?_
    refine lv_bipush (v := 20) hx hb dX3_games_6 (by decide) ?_
    refine lv_icmp_le (tgt := 18) hx hb dX3_games_8 (by decide) (fun c8 => ?_) (fun c8 => ?_)
    · have h := k_if c8 h
      refine lv_aload_n hx hb dX3_games_18 rfl (lv_at hl 0 rfl) ?_
      refine r_get C hP (ci := 3) rfl uin_X3 1 (by decide) 0 (by decide) rfl qFL_RX3_16 rfl rfl dX3_games_19 ?_
      refine lv_aload_n hx hb dX3_games_22 rfl (lv_at hl 0 rfl) ?_
      refine r_get C hP (ci := 3) rfl uin_X3 0 (by decide) 0 (by decide) rfl qFL_RX3_10 rfl rfl dX3_games_23 ?_
      obtain ⟨σ3, h1, h⟩ := k_ob h
      refine k_callVv C hP hap hAA (c_X0_become l ev (fun j => if j = 0 then ad 2 else ad 1) (x_thought σ) (x_now σ)   _ h1) (em_GG21) (apart_GG hap (by decide) (by decide) (by decide)) gz_X0_become qML_RX3_165 qIM_yX0_become qSE_yX0_become ⟨(Nat.le_of_ble_eq_true rfl), (Nat.le_of_ble_eq_true rfl)⟩ (q0 := 2) rfl (by decide) rfl rfl rfl rfl hl.1 rfl (Nat.le_of_ble_eq_true rfl) dX3_games_26 ⟨Nat.le_refl _, Nat.le_refl _⟩ (fun H locs hP => ?_)
      obtain ⟨σ4, eσ4, h⟩ := k_ltx h
      rw [← eσ4] at hP
      refine lv_iconst (v := 0) hx hb dX3_games_29 (by decide) ?_
      refine lv_istore_n (lv' := [(2, .int 0), (0, .ref (ad 0)), (1, .int a1)]) hx hb dX3_games_30 rfl hl (by decide) rfl (fun ls hl => ?_)
      refine lv_iconst (v := 0) hx hb dX3_games_31 (by decide) ?_
      refine lv_istore_n (lv' := [(3, .int 0), (2, .int 0), (0, .ref (ad 0)), (1, .int a1)]) hx hb dX3_games_32 rfl hl (by decide) rfl (fun ls hl => ?_)
      have hL33 : ∀ (k77 : Int32 → XX → Option (Int32 × XX)) (hk77 : ∀ (z16 : Int32) (σk : XX) (H : Heap) (locs : List Loc) (ls : Array Slot), k77 z16 σk = some (r, σ') → PS ev 26 ad (xw ev ad σk) (inA ad 26) s H locs → lv_has ls 4 [(0, .ref (ad 0)), (2, .int z16)] → WW ev p l e (rmk 6 145) s m args below meth c Qc ad 26 H locs 77 ls []) (n : Nat) (x5 : Int32) (x6 : Int32) (σ7 : XX) (H : Heap) (locs : List Loc) (ls : Array Slot), lp (fun _ _ _ => none) (f_X3_games_L33_b a1 k77) n x5 x6 σ7 = some (r, σ') → PS ev 26 ad (xw ev ad σ7) (inA ad 26) s H locs → lv_has ls 4 [(0, .ref (ad 0)), (1, .int a1), (2, .int x5), (3, .int x6)] → WW ev p l e (rmk 6 145) s m args below meth c Qc ad 26 H locs 33 ls [] := by
        intro k77 hk77 n
        induction n with
        | zero =>
          intro x5 x6 σ7 H locs ls h; exact k_none h
        | succ n ih =>
          intro x5 x6 σ7 H locs ls h hP hl
          have h : f_X3_games_L33_b a1 k77 (lp (fun _ _ _ => none) (f_X3_games_L33_b a1 k77) n) x5 x6 σ7 = some (r, σ') := h
          have h := (f_X3_games_L33_b.eq_1 _ _ _ _ _ _ ).symm.trans h
          refine lv_iload_n hx hb dX3_games_33 rfl (lv_at hl 3 rfl) ?_
          refine lv_iload_n hx hb dX3_games_34 rfl (lv_at hl 1 rfl) ?_
          refine lv_icmp_ge (tgt := 77) hx hb dX3_games_35 (by decide) (fun c35 => ?_) (fun c35 => ?_)
          · have h := k_if c35 h
            exact hk77 _ _ _ _ _ h hP (lv_sub hl [0, 2] rfl)
          · have h := k_nf c35 h
            refine lv_aload_n hx hb dX3_games_38 rfl (lv_at hl 0 rfl) ?_
            refine r_get C hP (ci := 3) rfl uin_X3 1 (by decide) 0 (by decide) rfl qFL_RX3_16 rfl rfl dX3_games_39 ?_
            obtain ⟨σ8, h1, h⟩ := k_ob h
            refine k_callVv C hP hap hAA (c_X0_clear l ev (fun j => ad (j + 2)) (x_thought σ7)   _ h1) (em_G2) (apart_1 _) gz_X0_clear qML_RX3_348 qIM_yX0_clear qSE_yX0_clear ⟨(Nat.le_of_ble_eq_true rfl), (Nat.le_of_ble_eq_true rfl)⟩ (q0 := 2) rfl (by decide) rfl rfl rfl rfl hl.1 rfl (Nat.le_of_ble_eq_true rfl) dX3_games_42 ⟨Nat.le_refl _, Nat.le_refl _⟩ (fun H locs hP => ?_)
            obtain ⟨σ9, eσ9, h⟩ := k_ltx h
            rw [← eσ9] at hP
            refine lv_aload_n hx hb dX3_games_45 rfl (lv_at hl 0 rfl) ?_
            obtain ⟨σ10, h1, h⟩ := k_ob h
            refine k_callVv C hP hap hAA (c_X3_endByDraws l ev ad σ9   _ h1) Emb.same hap gz_X3_endByDraws qML_RX3_351 qIM_yX3_endByDraws qSE_yX3_endByDraws ⟨(Nat.le_of_ble_eq_true rfl), (Nat.le_of_ble_eq_true rfl)⟩ (q0 := 0) rfl (by decide) rfl rfl rfl rfl hl.1 rfl (Nat.le_of_ble_eq_true rfl) dX3_games_46 ⟨Nat.le_refl _, Nat.le_refl _⟩ (fun H locs hP => ?_)
            refine lv_iload_n hx hb dX3_games_49 rfl (lv_at hl 2 rfl) ?_
            refine lv_aload_n hx hb dX3_games_50 rfl (lv_at hl 0 rfl) ?_
            refine r_get C hP (ci := 3) rfl uin_X3 1 (by decide) 0 (by decide) rfl qFL_RX3_16 rfl rfl dX3_games_51 ?_
            refine lv_iconst (v := 0) hx hb dX3_games_54 (by decide) ?_
            obtain ⟨x11, h1, h⟩ := k_ob h
            refine k_callVi C hP hap hAA (c_X0_leadOf l ev (fun j => ad (j + 2)) (x_thought σ10) 0   _ h1) (em_G2r) (apart_1 _) gz_X0_leadOf qML_RX3_255 qIM_yX0_leadOf qSE_yX0_leadOf ⟨(Nat.le_of_ble_eq_true rfl), (Nat.le_of_ble_eq_true rfl)⟩ (q0 := 2) rfl (by decide) rfl rfl rfl rfl hl.1 rfl (Nat.le_of_ble_eq_true rfl) dX3_games_55 ⟨Nat.le_refl _, Nat.le_refl _⟩ (fun H locs hP => ?_)
            refine lv_if_le (tgt := 65) hx hb dX3_games_58 (by decide) (fun c58 => ?_) (fun c58 => ?_)
            · have h := k_if c58 h
              refine lv_iconst (v := 0) hx hb dX3_games_65 (by decide) ?_
              refine k_callSi C hP hap hAA (c_X3_truth l ev ad 0   _ rfl) Emb.none (apart_0 _) gz_X3_truth qML_RX3_192 qSM_yX3_truth ⟨(Nat.le_of_ble_eq_true rfl), (Nat.le_of_ble_eq_true rfl)⟩ rfl hl.1 rfl (Nat.le_of_ble_eq_true rfl) dX3_games_66 ⟨Nat.le_refl _, Nat.le_refl _⟩ (fun H locs hP => ?_)
              refine lv_iadd hx hb dX3_games_69 ?_
              refine lv_topi (fun x12 ex12 => ?_)
              have h := k_lt ex12 h
              refine lv_istore_n (lv' := [(2, .int x12), (0, .ref (ad 0)), (1, .int a1), (3, .int x6)]) hx hb dX3_games_70 rfl hl (by decide) rfl (fun ls hl => ?_)
              obtain ⟨x13, ex13, h⟩ := k_ltx h
              refine lv_iinc (v := x13) (lv' := [(3, .int x13), (2, .int x12), (0, .ref (ad 0)), (1, .int a1)]) hx hb dX3_games_71 hl (k := 3) rfl (by rw [ex13]; rfl) (by decide) rfl (fun ls hl => ?_)
              refine lv_goto (tgt := 33) hx hb dX3_games_74 (by decide) ?_
              exact ih _ _ _ _ _ _ h hP (lv_sub hl [2, 3, 1, 0] rfl)
            · have h := k_nf c58 h
              refine lv_iconst (v := 1) hx hb dX3_games_61 (by decide) ?_
              refine lv_goto (tgt := 66) hx hb dX3_games_62 (by decide) ?_
              refine k_callSi C hP hap hAA (c_X3_truth l ev ad 1   _ rfl) Emb.none (apart_0 _) gz_X3_truth qML_RX3_192 qSM_yX3_truth ⟨(Nat.le_of_ble_eq_true rfl), (Nat.le_of_ble_eq_true rfl)⟩ rfl hl.1 rfl (Nat.le_of_ble_eq_true rfl) dX3_games_66 ⟨Nat.le_refl _, Nat.le_refl _⟩ (fun H locs hP => ?_)
              refine lv_iadd hx hb dX3_games_69 ?_
              refine lv_topi (fun x14 ex14 => ?_)
              have h := k_lt ex14 h
              refine lv_istore_n (lv' := [(2, .int x14), (0, .ref (ad 0)), (1, .int a1), (3, .int x6)]) hx hb dX3_games_70 rfl hl (by decide) rfl (fun ls hl => ?_)
              obtain ⟨x15, ex15, h⟩ := k_ltx h
              refine lv_iinc (v := x15) (lv' := [(3, .int x15), (2, .int x14), (0, .ref (ad 0)), (1, .int a1)]) hx hb dX3_games_71 hl (k := 3) rfl (by rw [ex15]; rfl) (by decide) rfl (fun ls hl => ?_)
              refine lv_goto (tgt := 33) hx hb dX3_games_74 (by decide) ?_
              exact ih _ _ _ _ _ _ h hP (lv_sub hl [2, 3, 1, 0] rfl)
      refine hL33 _ (fun x17 σ18 H locs ls h hP hl => ?_) FU _ _ _ _ _ _ h hP (lv_sub hl [2, 3, 1, 0] rfl)
      refine lv_aload_n hx hb dX3_games_77 rfl (lv_at hl 0 rfl) ?_
      refine r_get C hP (ci := 3) rfl uin_X3 0 (by decide) 0 (by decide) rfl qFL_RX3_10 rfl rfl dX3_games_78 ?_
      refine lv_aload_n hx hb dX3_games_81 rfl (lv_at hl 0 rfl) ?_
      refine r_get C hP (ci := 3) rfl uin_X3 1 (by decide) 0 (by decide) rfl qFL_RX3_16 rfl rfl dX3_games_82 ?_
      refine r_get C hP (ci := 0) rfl uin_X0 15 (by decide) 2 (by decide) rfl qFL_RX3_354 rfl rfl dX3_games_85 ?_
      obtain ⟨σ19, eσ19, h⟩ := k_ltx h
      refine pt_X1_X0_seed C hP hap hAA eσ19 qFL_RX3_354 dX3_games_88 (fun H locs hP => ?_)
      refine lv_iload_n hx hb dX3_games_91 rfl (lv_at hl 1 rfl) ?_
      exact e_iret C hend hP (k_some2 h).1 (congrArg (xw ev ad) (k_some2 h).2) dX3_games_92
    · have h := k_nf c8 h
      refine lv_aload_n hx hb dX3_games_11 rfl (lv_at hl 0 rfl) ?_
      refine lv_bipush (v := (-2)) hx hb dX3_games_12 (by decide) ?_
      obtain ⟨x21, σ20, h1, h⟩ := k_ob2 h
      refine k_callVi C hP hap hAA (c_X3_refuse l ev ad σ (-2)   _ _ h1) Emb.same hap gz_X3_refuse qML_RX3_60 qIM_yX3_refuse qSE_yX3_refuse ⟨(Nat.le_of_ble_eq_true rfl), (Nat.le_of_ble_eq_true rfl)⟩ (q0 := 0) rfl (by decide) rfl rfl rfl rfl hl.1 rfl (Nat.le_of_ble_eq_true rfl) dX3_games_14 ⟨Nat.le_refl _, Nat.le_refl _⟩ (fun H locs hP => ?_)
      exact e_iret C hend hP (k_some2 h).1 (congrArg (xw ev ad) (k_some2 h).2) dX3_games_17
