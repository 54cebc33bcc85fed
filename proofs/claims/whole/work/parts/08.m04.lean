/-! functions read off, and their contracts: by program (wip/whole/gen2.py) -/
def f_X2_numberHere_L34_b (σ : TT)  (rec34 : Int32 → Int32 → Option (Int32)) (x3 : Int32) (x4 : Int32) : Option (Int32) :=
  if (t_upto σ) ≤ x4 then some x3 else ob (f_X2_byteAt σ x4) (fun x5 => lt (((x3 * 10) + x5) - 48) (fun x6 => lt (x4 + 1) (fun x7 => rec34 x6 x7)))
def f_X2_numberHere_L34 (σ : TT)  (x3 : Int32) (x4 : Int32) : Option (Int32) :=
  lp (fun _ _ => none) (f_X2_numberHere_L34_b σ ) FU x3 x4
def f_X2_numberHere (σ : TT) : Option (Int32) :=
  ob (f_X2_sortAt σ (t_from σ)) (fun x1 => if x1 = 2 then if ((t_upto σ) - (t_from σ)) ≤ 2 then lt (t_from σ) (fun x2 => f_X2_numberHere_L34 σ 0 x2) else some (-1) else some (-1))
set_option maxHeartbeats 4000000 in
set_option maxRecDepth 100000 in
theorem c_X2_numberHere (l : Launch) (ev : EV) (ad : Nat → Nat) (σ : TT)   (r : Int32)  (h : f_X2_numberHere σ = some r) : Ct l yX2_numberHere prog_4_method_10_code 3 (Option.some Jvm.ClassFile.FieldType.int) (rmk 2 43) ev 2 ad (tw ev ad σ) (tw ev ad σ) [.ref (ad 0)] (some (.int r)) := by
  refine Ct.of (by decide +kernel) (Nat.le_of_ble_eq_true rfl) ?_
  intro p e s m args below meth c Qc C hap hP hend ls hl
  have hAA : ∀ j, j < 2 → inA ad 2 (ad j) := fun j hj => ⟨j, hj, rfl⟩
  have hx := C.1
  have hb := C.2.1
  have hl : lv_has ls 3 [(0, .ref (ad 0))] := hl
  have h := (f_X2_numberHere.eq_1 _ ).symm.trans h
  refine lv_aload_n hx hb dX2_numberHere_0 rfl (lv_at hl 0 rfl) ?_
  refine lv_aload_n hx hb dX2_numberHere_1 rfl (lv_at hl 0 rfl) ?_
  refine r_get C hP (ci := 2) rfl uin_X2 2 (by decide) 0 (by decide) rfl qFL_RX2_19 rfl rfl dX2_numberHere_2 ?_
  obtain ⟨x1, h1, h⟩ := k_ob h
  refine k_callVi C hP hap hAA (c_X2_sortAt l ev ad σ (t_from σ)   _ h1) Emb.same hap gz_X2_sortAt qML_RX2_29 qIM_yX2_sortAt qSE_yX2_sortAt ⟨(Nat.le_of_ble_eq_true rfl), (Nat.le_of_ble_eq_true rfl)⟩ (q0 := 0) rfl (by decide) rfl rfl rfl rfl hl.1 rfl (Nat.le_of_ble_eq_true rfl) dX2_numberHere_5 ⟨Nat.le_refl _, Nat.le_refl _⟩ (fun H locs hP => ?_)
  refine lv_iconst (v := 2) hx hb dX2_numberHere_8 (by decide) ?_
  refine lv_icmp_ne (tgt := 25) hx hb dX2_numberHere_9 (by decide) (fun c9 => ?_) (fun c9 => ?_)
  · have h := k_nf c9 h
    refine lv_iconst (v := (-1)) hx hb dX2_numberHere_25 (by decide) ?_
    exact e_iret C hend hP (k_some h) rfl dX2_numberHere_26
  · have h := k_if c9 h
    refine lv_aload_n hx hb dX2_numberHere_12 rfl (lv_at hl 0 rfl) ?_
    refine r_get C hP (ci := 2) rfl uin_X2 3 (by decide) 0 (by decide) rfl qFL_RX2_22 rfl rfl dX2_numberHere_13 ?_
    refine lv_aload_n hx hb dX2_numberHere_16 rfl (lv_at hl 0 rfl) ?_
    refine r_get C hP (ci := 2) rfl uin_X2 2 (by decide) 0 (by decide) rfl qFL_RX2_19 rfl rfl dX2_numberHere_17 ?_
    refine lv_isub hx hb dX2_numberHere_20 ?_
    refine lv_iconst (v := 2) hx hb dX2_numberHere_21 (by decide) ?_
    refine lv_icmp_le (tgt := 27) hx hb dX2_numberHere_22 (by decide) (fun c22 => ?_) (fun c22 => ?_)
    · have h := k_if c22 h
      refine lv_iconst (v := 0) hx hb dX2_numberHere_27 (by decide) ?_
      refine lv_istore_n (lv' := [(1, .int 0), (0, .ref (ad 0))]) hx hb dX2_numberHere_28 rfl hl (by decide) rfl (fun ls hl => ?_)
      refine lv_aload_n hx hb dX2_numberHere_29 rfl (lv_at hl 1 rfl) ?_
      refine r_get C hP (ci := 2) rfl uin_X2 2 (by decide) 0 (by decide) rfl qFL_RX2_19 rfl rfl dX2_numberHere_30 ?_
      refine lv_topi (fun x2 ex2 => ?_)
      have h := k_lt ex2 h
      refine lv_istore_n (lv' := [(2, .int x2), (1, .int 0), (0, .ref (ad 0))]) hx hb dX2_numberHere_33 rfl hl (by decide) rfl (fun ls hl => ?_)
      have hL34 : ∀ (n : Nat) (x3 : Int32) (x4 : Int32) (H : Heap) (locs : List Loc) (ls : Array Slot), lp (fun _ _ => none) (f_X2_numberHere_L34_b σ ) n x3 x4 = some r → PS ev 2 ad (tw ev ad σ) (inA ad 2) s H locs → lv_has ls 3 [(0, .ref (ad 0)), (1, .int x3), (2, .int x4)] → WW ev p l e (rmk 2 43) s m args below meth c Qc ad 2 H locs 34 ls [] := by
        intro n
        induction n with
        | zero =>
          intro x3 x4 H locs ls h; exact k_none h
        | succ n ih =>
          intro x3 x4 H locs ls h hP hl
          have h : f_X2_numberHere_L34_b σ  (lp (fun _ _ => none) (f_X2_numberHere_L34_b σ ) n) x3 x4 = some r := h
          have h := (f_X2_numberHere_L34_b.eq_1 _ _ _ _ ).symm.trans h
          refine lv_iload_n hx hb dX2_numberHere_34 rfl (lv_at hl 2 rfl) ?_
          refine lv_aload_n hx hb dX2_numberHere_35 rfl (lv_at hl 0 rfl) ?_
          refine r_get C hP (ci := 2) rfl uin_X2 3 (by decide) 0 (by decide) rfl qFL_RX2_22 rfl rfl dX2_numberHere_36 ?_
          refine lv_icmp_ge (tgt := 62) hx hb dX2_numberHere_39 (by decide) (fun c39 => ?_) (fun c39 => ?_)
          · have h := k_if c39 h
            refine lv_iload_n hx hb dX2_numberHere_62 rfl (lv_at hl 1 rfl) ?_
            exact e_iret C hend hP (k_some h) rfl dX2_numberHere_63
          · have h := k_nf c39 h
            refine lv_iload_n hx hb dX2_numberHere_42 rfl (lv_at hl 1 rfl) ?_
            refine lv_bipush (v := 10) hx hb dX2_numberHere_43 (by decide) ?_
            refine lv_imul hx hb dX2_numberHere_45 ?_
            refine lv_aload_n hx hb dX2_numberHere_46 rfl (lv_at hl 0 rfl) ?_
            refine lv_iload_n hx hb dX2_numberHere_47 rfl (lv_at hl 2 rfl) ?_
            obtain ⟨x5, h1, h⟩ := k_ob h
            refine k_callVi C hP hap hAA (c_X2_byteAt l ev ad σ x4   _ h1) Emb.same hap gz_X2_byteAt qML_RX2_25 qIM_yX2_byteAt qSE_yX2_byteAt ⟨(Nat.le_of_ble_eq_true rfl), (Nat.le_of_ble_eq_true rfl)⟩ (q0 := 0) rfl (by decide) rfl rfl rfl rfl hl.1 rfl (Nat.le_of_ble_eq_true rfl) dX2_numberHere_48 ⟨Nat.le_refl _, Nat.le_refl _⟩ (fun H locs hP => ?_)
            refine lv_iadd hx hb dX2_numberHere_51 ?_
            refine lv_bipush (v := 48) hx hb dX2_numberHere_52 (by decide) ?_
            refine lv_isub hx hb dX2_numberHere_54 ?_
            refine lv_topi (fun x6 ex6 => ?_)
            have h := k_lt ex6 h
            refine lv_istore_n (lv' := [(1, .int x6), (0, .ref (ad 0)), (2, .int x4)]) hx hb dX2_numberHere_55 rfl hl (by decide) rfl (fun ls hl => ?_)
            obtain ⟨x7, ex7, h⟩ := k_ltx h
            refine lv_iinc (v := x7) (lv' := [(2, .int x7), (1, .int x6), (0, .ref (ad 0))]) hx hb dX2_numberHere_56 hl (k := 2) rfl (by rw [ex7]; rfl) (by decide) rfl (fun ls hl => ?_)
            refine lv_goto (tgt := 34) hx hb dX2_numberHere_59 (by decide) ?_
            exact ih _ _ _ _ _ h hP (lv_sub hl [2, 1, 0] rfl)
      exact hL34 FU _ _ _ _ _ h hP (lv_sub hl [2, 1, 0] rfl)
    · have h := k_nf c22 h
      refine lv_iconst (v := (-1)) hx hb dX2_numberHere_25 (by decide) ?_
      exact e_iret C hend hP (k_some h) rfl dX2_numberHere_26
def f_X3_shelfAt (σ : XX) (a1 : Int32) : Option (Option Nat) :=
  if a1 < 0 then some none else if a1 < 8 then gd (inb a1 8) (some (some (Int32.toNatClampNeg a1))) else some none
set_option maxHeartbeats 4000000 in
set_option maxRecDepth 100000 in
theorem c_X3_shelfAt (l : Launch) (ev : EV) (ad : Nat → Nat) (σ : XX) (a1 : Int32)   (r : Option Nat)  (h : f_X3_shelfAt σ a1 = some r) : Ct l yX3_shelfAt prog_1_method_70_code 2 (Option.some (Jvm.ClassFile.FieldType.object "HedgesAndDitches$Shelf")) (rmk 0 0) ev 26 ad (xw ev ad σ) (xw ev ad σ) [.ref (ad 0), .int a1] (some (va_rf (r.map (fun k => ad (k + 10))))) := by
  refine Ct.of (by decide +kernel) (Nat.le_of_ble_eq_true rfl) ?_
  intro p e s m args below meth c Qc C hap hP hend ls hl
  have hAA : ∀ j, j < 26 → inA ad 26 (ad j) := fun j hj => ⟨j, hj, rfl⟩
  have hx := C.1
  have hb := C.2.1
  have hl : lv_has ls 2 [(0, .ref (ad 0)), (1, .int a1)] := hl
  have h := (f_X3_shelfAt.eq_1 _ _ ).symm.trans h
  refine lv_iload_n hx hb dX3_shelfAt_0 rfl (lv_at hl 1 rfl) ?_
  refine lv_if_lt (tgt := 13) hx hb dX3_shelfAt_1 (by decide) (fun c1 => ?_) (fun c1 => ?_)
  · have h := k_if c1 h
    refine lv_null hx hb dX3_shelfAt_13 ?_
    refine lv_goto (tgt := 23) hx hb dX3_shelfAt_14 (by decide) ?_
    obtain rfl := k_some h
    exact e_aret C hend hP rfl (Or.inl rfl) rfl dX3_shelfAt_23
  · have h := k_nf c1 h
    refine lv_iload_n hx hb dX3_shelfAt_4 rfl (lv_at hl 1 rfl) ?_
    refine lv_aload_n hx hb dX3_shelfAt_5 rfl (lv_at hl 0 rfl) ?_
    refine r_get C hP (ci := 3) rfl uin_X3 8 (by decide) 0 (by decide) rfl qFL_RX3_41 rfl rfl dX3_shelfAt_6 ?_
    refine r_alen C hP 7 (by decide) 4 rfl rfl (v := 8) rfl dX3_shelfAt_9 ?_
    refine lv_icmp_lt (tgt := 17) hx hb dX3_shelfAt_10 (by decide) (fun c10 => ?_) (fun c10 => ?_)
    · have h := k_if c10 h
      refine lv_aload_n hx hb dX3_shelfAt_17 rfl (lv_at hl 0 rfl) ?_
      refine r_get C hP (ci := 3) rfl uin_X3 8 (by decide) 0 (by decide) rfl qFL_RX3_41 rfl rfl dX3_shelfAt_18 ?_
      refine lv_iload_n hx hb dX3_shelfAt_21 rfl (lv_at hl 1 rfl) ?_
      obtain ⟨hg, h⟩ := k_gd h
      refine r_aald C hP 7 (by decide) rfl hg dX3_shelfAt_22 ?_
      obtain rfl := k_some h
      exact e_aret C hend hP rfl (Or.inr ⟨_, rfl⟩) rfl dX3_shelfAt_23
    · have h := k_nf c10 h
      refine lv_null hx hb dX3_shelfAt_13 ?_
      refine lv_goto (tgt := 23) hx hb dX3_shelfAt_14 (by decide) ?_
      obtain rfl := k_some h
      exact e_aret C hend hP rfl (Or.inl rfl) rfl dX3_shelfAt_23
def f_X3_refuse (σ : XX) (a1 : Int32) : Option (Int32 × XX) :=
  lt ((-2) - a1) (fun x1 => if x1 < 0 then some (a1, σ) else if 5 ≤ x1 then some (a1, σ) else gd (inb x1 5) (gd (inb x1 5) (lt (x_refusals' σ (upd (x_refusals σ) (Int32.toNatClampNeg x1) (((x_refusals σ) (Int32.toNatClampNeg x1)) + 1))) (fun σ2 => some (a1, σ2)))))
set_option maxHeartbeats 4000000 in
set_option maxRecDepth 100000 in
theorem c_X3_refuse (l : Launch) (ev : EV) (ad : Nat → Nat) (σ : XX) (a1 : Int32)   (r : Int32) (σ' : XX) (h : f_X3_refuse σ a1 = some (r, σ')) : Ct l yX3_refuse prog_1_method_60_code 3 (Option.some Jvm.ClassFile.FieldType.int) (rmk 0 0) ev 26 ad (xw ev ad σ) (xw ev ad σ') [.ref (ad 0), .int a1] (some (.int r)) := by
  refine Ct.of (by decide +kernel) (Nat.le_of_ble_eq_true rfl) ?_
  intro p e s m args below meth c Qc C hap hP hend ls hl
  have hAA : ∀ j, j < 26 → inA ad 26 (ad j) := fun j hj => ⟨j, hj, rfl⟩
  have hx := C.1
  have hb := C.2.1
  have hl : lv_has ls 3 [(0, .ref (ad 0)), (1, .int a1)] := hl
  have h := (f_X3_refuse.eq_1 _ _ ).symm.trans h
  refine lv_bipush (v := (-2)) hx hb dX3_refuse_0 (by decide) ?_
  refine lv_iload_n hx hb dX3_refuse_2 rfl (lv_at hl 1 rfl) ?_
  refine lv_isub hx hb dX3_refuse_3 ?_
  refine lv_topi (fun x1 ex1 => ?_)
  have h := k_lt ex1 h
  refine lv_istore_n (lv' := [(2, .int x1), (0, .ref (ad 0)), (1, .int a1)]) hx hb dX3_refuse_4 rfl hl (by decide) rfl (fun ls hl => ?_)
  refine lv_iload_n hx hb dX3_refuse_5 rfl (lv_at hl 0 rfl) ?_
  refine lv_if_lt (tgt := 28) hx hb dX3_refuse_6 (by decide) (fun c6 => ?_) (fun c6 => ?_)
  · have h := k_if c6 h
    refine lv_iload_n hx hb dX3_refuse_28 rfl (lv_at hl 2 rfl) ?_
    exact e_iret C hend hP (k_some2 h).1 (congrArg (xw ev ad) (k_some2 h).2) dX3_refuse_29
  · have h := k_nf c6 h
    refine lv_iload_n hx hb dX3_refuse_9 rfl (lv_at hl 0 rfl) ?_
    refine lv_aload_n hx hb dX3_refuse_10 rfl (lv_at hl 1 rfl) ?_
    refine r_get C hP (ci := 3) rfl uin_X3 10 (by decide) 0 (by decide) rfl qFL_RX3_52 rfl rfl dX3_refuse_11 ?_
    refine r_alen C hP 6 (by decide) 0 rfl rfl (v := 5) rfl dX3_refuse_14 ?_
    refine lv_icmp_ge (tgt := 28) hx hb dX3_refuse_15 (by decide) (fun c15 => ?_) (fun c15 => ?_)
    · have h := k_if c15 h
      refine lv_iload_n hx hb dX3_refuse_28 rfl (lv_at hl 2 rfl) ?_
      exact e_iret C hend hP (k_some2 h).1 (congrArg (xw ev ad) (k_some2 h).2) dX3_refuse_29
    · have h := k_nf c15 h
      refine lv_aload_n hx hb dX3_refuse_18 rfl (lv_at hl 1 rfl) ?_
      refine r_get C hP (ci := 3) rfl uin_X3 10 (by decide) 0 (by decide) rfl qFL_RX3_52 rfl rfl dX3_refuse_19 ?_
      refine lv_iload_n hx hb dX3_refuse_22 rfl (lv_at hl 0 rfl) ?_
      refine lv_dup2_11 hx hb dX3_refuse_23 rfl rfl ?_
      obtain ⟨hg, h⟩ := k_gd h
      refine r_iald C hP 6 (by decide) rfl hg dX3_refuse_24 ?_
      refine lv_iconst (v := 1) hx hb dX3_refuse_25 (by decide) ?_
      refine lv_iadd hx hb dX3_refuse_26 ?_
      obtain ⟨hg, h⟩ := k_gd h
      obtain ⟨σ2, eσ2, h⟩ := k_ltx h
      refine st_X_refusals C hP hap hAA eσ2 hg dX3_refuse_27 (fun H locs hP => ?_)
      refine lv_iload_n hx hb dX3_refuse_28 rfl (lv_at hl 2 rfl) ?_
      exact e_iret C hend hP (k_some2 h).1 (congrArg (xw ev ad) (k_some2 h).2) dX3_refuse_29
def f_X3_row (σ : XX) (a1 : Int32) (a2 : Int32) (a3 : Int32) : Option (Int32 × XX) :=
  ob (f_X3_shelfAt σ a1) (fun o1 => om o1 (ob2 (f_X3_refuse σ (-2)) (fun x4 σ3 => some (x4, σ3))) (fun q2 => gd (decide (q2 < 8)) (if a2 < 0 then ob2 (f_X3_refuse σ (-2)) (fun x6 σ5 => some (x6, σ5)) else if 5 ≤ a2 then ob2 (f_X3_refuse σ (-2)) (fun x8 σ7 => some (x8, σ7)) else if a3 < 0 then ob2 (f_X3_refuse σ (-2)) (fun x10 σ9 => some (x10, σ9)) else if a3 ≤ 40 then ob (f_X1_layRow (x_shelf σ q2) a2 a3) (fun σ11 => lt (x_shelf' σ q2 σ11) (fun σ12 => some (1, σ12))) else ob2 (f_X3_refuse σ (-2)) (fun x14 σ13 => some (x14, σ13)))))
set_option maxHeartbeats 4000000 in
set_option maxRecDepth 100000 in
theorem c_X3_row (l : Launch) (ev : EV) (ad : Nat → Nat) (σ : XX) (a1 : Int32) (a2 : Int32) (a3 : Int32)   (r : Int32) (σ' : XX) (h : f_X3_row σ a1 a2 a3 = some (r, σ')) : Ct l yX3_row prog_1_method_2_code 5 (Option.some Jvm.ClassFile.FieldType.int) (rmk 1 23) ev 26 ad (xw ev ad σ) (xw ev ad σ') [.ref (ad 0), .int a1, .int a2, .int a3] (some (.int r)) := by
  refine Ct.of (by decide +kernel) (Nat.le_of_ble_eq_true rfl) ?_
  intro p e s m args below meth c Qc C hap hP hend ls hl
  have hAA : ∀ j, j < 26 → inA ad 26 (ad j) := fun j hj => ⟨j, hj, rfl⟩
  have hx := C.1
  have hb := C.2.1
  have hl : lv_has ls 5 [(0, .ref (ad 0)), (1, .int a1), (2, .int a2), (3, .int a3)] := hl
  have h := (f_X3_row.eq_1 _ _ _ _ ).symm.trans h
  refine lv_aload_n hx hb dX3_row_0 rfl (lv_at hl 0 rfl) ?_
  refine lv_iload_n hx hb dX3_row_1 rfl (lv_at hl 1 rfl) ?_
  obtain ⟨o1, h1, h⟩ := k_ob h
  refine k_callVo C hP hap hAA (c_X3_shelfAt l ev ad σ a1   _ h1) Emb.same hap gz_X3_shelfAt qML_RX3_56 qIM_yX3_shelfAt qSE_yX3_shelfAt ⟨(Nat.le_of_ble_eq_true rfl), (Nat.le_of_ble_eq_true rfl)⟩ (q0 := 0) rfl (by decide) rfl rfl rfl rfl hl.1 rfl (Nat.le_of_ble_eq_true rfl) dX3_row_2 ⟨Nat.le_refl _, Nat.le_refl _⟩ (fun H locs hP => ?_)
  rcases o1 with _ | q2
  · have h := k_omN h
    refine lv_astoreN (lv' := [(4, .null), (0, .ref (ad 0)), (1, .int a1), (2, .int a2), (3, .int a3)]) hx hb dX3_row_5 hl (by decide) rfl (fun ls hl => ?_)
    refine lv_aloadN hx hb dX3_row_7 (lv_at hl 0 rfl) ?_
    refine lv_ifnullN (tgt := 31) hx hb dX3_row_9 (by decide) ?_
    refine lv_aload_n hx hb dX3_row_31 rfl (lv_at hl 1 rfl) ?_
    refine lv_bipush (v := (-2)) hx hb dX3_row_32 (by decide) ?_
    obtain ⟨x4, σ3, h1, h⟩ := k_ob2 h
    refine k_callVi C hP hap hAA (c_X3_refuse l ev ad σ (-2)   _ _ h1) Emb.same hap gz_X3_refuse qML_RX3_60 qIM_yX3_refuse qSE_yX3_refuse ⟨(Nat.le_of_ble_eq_true rfl), (Nat.le_of_ble_eq_true rfl)⟩ (q0 := 0) rfl (by decide) rfl rfl rfl rfl hl.1 rfl (Nat.le_of_ble_eq_true rfl) dX3_row_34 ⟨Nat.le_refl _, Nat.le_refl _⟩ (fun H locs hP => ?_)
    exact e_iret C hend hP (k_some2 h).1 (congrArg (xw ev ad) (k_some2 h).2) dX3_row_37
  · obtain ⟨hg, h⟩ := k_gd (k_omS h)
    have hq2 : q2 < 8 := of_decide_eq_true hg
    refine lv_astore (lv' := [(4, .ref (ad (q2 + 10))), (0, .ref (ad 0)), (1, .int a1), (2, .int a2), (3, .int a3)]) hx hb dX3_row_5 hl (by decide) rfl (fun ls hl => ?_)
    refine lv_aload hx hb dX3_row_7 (lv_at hl 0 rfl) ?_
    refine lv_ifnull hx hb dX3_row_9 ?_
    refine lv_iload_n hx hb dX3_row_12 rfl (lv_at hl 3 rfl) ?_
    refine lv_if_lt (tgt := 31) hx hb dX3_row_13 (by decide) (fun c13 => ?_) (fun c13 => ?_)
    · have h := k_if c13 h
      refine lv_aload_n hx hb dX3_row_31 rfl (lv_at hl 1 rfl) ?_
      refine lv_bipush (v := (-2)) hx hb dX3_row_32 (by decide) ?_
      obtain ⟨x6, σ5, h1, h⟩ := k_ob2 h
      refine k_callVi C hP hap hAA (c_X3_refuse l ev ad σ (-2)   _ _ h1) Emb.same hap gz_X3_refuse qML_RX3_60 qIM_yX3_refuse qSE_yX3_refuse ⟨(Nat.le_of_ble_eq_true rfl), (Nat.le_of_ble_eq_true rfl)⟩ (q0 := 0) rfl (by decide) rfl rfl rfl rfl hl.1 rfl (Nat.le_of_ble_eq_true rfl) dX3_row_34 ⟨Nat.le_refl _, Nat.le_refl _⟩ (fun H locs hP => ?_)
      exact e_iret C hend hP (k_some2 h).1 (congrArg (xw ev ad) (k_some2 h).2) dX3_row_37
    · have h := k_nf c13 h
      refine lv_iload_n hx hb dX3_row_16 rfl (lv_at hl 3 rfl) ?_
      refine lv_iconst (v := 5) hx hb dX3_row_17 (by decide) ?_
      refine lv_icmp_ge (tgt := 31) hx hb dX3_row_18 (by decide) (fun c18 => ?_) (fun c18 => ?_)
      · have h := k_if c18 h
        refine lv_aload_n hx hb dX3_row_31 rfl (lv_at hl 1 rfl) ?_
        refine lv_bipush (v := (-2)) hx hb dX3_row_32 (by decide) ?_
        obtain ⟨x8, σ7, h1, h⟩ := k_ob2 h
        refine k_callVi C hP hap hAA (c_X3_refuse l ev ad σ (-2)   _ _ h1) Emb.same hap gz_X3_refuse qML_RX3_60 qIM_yX3_refuse qSE_yX3_refuse ⟨(Nat.le_of_ble_eq_true rfl), (Nat.le_of_ble_eq_true rfl)⟩ (q0 := 0) rfl (by decide) rfl rfl rfl rfl hl.1 rfl (Nat.le_of_ble_eq_true rfl) dX3_row_34 ⟨Nat.le_refl _, Nat.le_refl _⟩ (fun H locs hP => ?_)
        exact e_iret C hend hP (k_some2 h).1 (congrArg (xw ev ad) (k_some2 h).2) dX3_row_37
      · have h := k_nf c18 h
        refine lv_iload_n hx hb dX3_row_21 rfl (lv_at hl 4 rfl) ?_
        refine lv_if_lt (tgt := 31) hx hb dX3_row_22 (by decide) (fun c22 => ?_) (fun c22 => ?_)
        · have h := k_if c22 h
          refine lv_aload_n hx hb dX3_row_31 rfl (lv_at hl 1 rfl) ?_
          refine lv_bipush (v := (-2)) hx hb dX3_row_32 (by decide) ?_
          obtain ⟨x10, σ9, h1, h⟩ := k_ob2 h
          refine k_callVi C hP hap hAA (c_X3_refuse l ev ad σ (-2)   _ _ h1) Emb.same hap gz_X3_refuse qML_RX3_60 qIM_yX3_refuse qSE_yX3_refuse ⟨(Nat.le_of_ble_eq_true rfl), (Nat.le_of_ble_eq_true rfl)⟩ (q0 := 0) rfl (by decide) rfl rfl rfl rfl hl.1 rfl (Nat.le_of_ble_eq_true rfl) dX3_row_34 ⟨Nat.le_refl _, Nat.le_refl _⟩ (fun H locs hP => ?_)
          exact e_iret C hend hP (k_some2 h).1 (congrArg (xw ev ad) (k_some2 h).2) dX3_row_37
        · have h := k_nf c22 h
          refine lv_iload_n hx hb dX3_row_25 rfl (lv_at hl 4 rfl) ?_
          refine lv_bipush (v := 40) hx hb dX3_row_26 (by decide) ?_
          refine lv_icmp_le (tgt := 38) hx hb dX3_row_28 (by decide) (fun c28 => ?_) (fun c28 => ?_)
          · have h := k_if c28 h
            refine lv_aload hx hb dX3_row_38 (lv_at hl 0 rfl) ?_
            refine lv_iload_n hx hb dX3_row_40 rfl (lv_at hl 3 rfl) ?_
            refine lv_iload_n hx hb dX3_row_41 rfl (lv_at hl 4 rfl) ?_
            obtain ⟨σ11, h1, h⟩ := k_ob h
            refine k_callVv C hP hap hAA (c_X1_layRow l ev (fun j => ad (q2 + 10 + 8 * j)) (x_shelf σ q2) a2 a3   _ h1) (em_S hq2) (apart_S hap hq2) gz_X1_layRow qML_RX3_64 qIM_yX1_layRow qSE_yX1_layRow ⟨(Nat.le_of_ble_eq_true rfl), (Nat.le_of_ble_eq_true rfl)⟩ (q0 := (q2 + 10)) rfl (by omega) (xw_shelf hq2) rfl rfl rfl hl.1 rfl (Nat.le_of_ble_eq_true rfl) dX3_row_42 ⟨Nat.le_refl _, Nat.le_refl _⟩ (fun H locs hP => ?_)
            obtain ⟨σ12, eσ12, h⟩ := k_ltx h
            rw [← eσ12] at hP
            refine lv_iconst (v := 1) hx hb dX3_row_45 (by decide) ?_
            exact e_iret C hend hP (k_some2 h).1 (congrArg (xw ev ad) (k_some2 h).2) dX3_row_46
          · have h := k_nf c28 h
            refine lv_aload_n hx hb dX3_row_31 rfl (lv_at hl 1 rfl) ?_
            refine lv_bipush (v := (-2)) hx hb dX3_row_32 (by decide) ?_
            obtain ⟨x14, σ13, h1, h⟩ := k_ob2 h
            refine k_callVi C hP hap hAA (c_X3_refuse l ev ad σ (-2)   _ _ h1) Emb.same hap gz_X3_refuse qML_RX3_60 qIM_yX3_refuse qSE_yX3_refuse ⟨(Nat.le_of_ble_eq_true rfl), (Nat.le_of_ble_eq_true rfl)⟩ (q0 := 0) rfl (by decide) rfl rfl rfl rfl hl.1 rfl (Nat.le_of_ble_eq_true rfl) dX3_row_34 ⟨Nat.le_refl _, Nat.le_refl _⟩ (fun H locs hP => ?_)
            exact e_iret C hend hP (k_some2 h).1 (congrArg (xw ev ad) (k_some2 h).2) dX3_row_37
def f_X3_rowTrouble_n  : Int32 :=
  (-2)
set_option maxHeartbeats 4000000 in
set_option maxRecDepth 100000 in
theorem c_X3_rowTrouble_n (l : Launch) (ev : EV) (ad : Nat → Nat)    (r : Int32)  (h : f_X3_rowTrouble_n  = r) : Ct l yX3_rowTrouble prog_1_method_71_code 1 (Option.some Jvm.ClassFile.FieldType.int) (rmk 0 0) ev 0 ad w00 w00 [.null] (some (.int r)) := by
  refine Ct.of (by decide +kernel) (Nat.le_of_ble_eq_true rfl) ?_
  intro p e s m args below meth c Qc C hap hP hend ls hl
  have hAA : ∀ j, j < 0 → inA ad 0 (ad j) := fun j hj => ⟨j, hj, rfl⟩
  have hx := C.1
  have hb := C.2.1
  have hl : lv_has ls 1 [(0, .null)] := hl
  have h := (f_X3_rowTrouble_n.eq_1 ).symm.trans h
  refine lv_aload_nN hx hb dX3_rowTrouble_0 rfl (lv_at hl 0 rfl) ?_
  refine lv_ifnonnullN hx hb dX3_rowTrouble_1 ?_
  refine lv_bipush (v := (-2)) hx hb dX3_rowTrouble_4 (by decide) ?_
  exact e_iret C hend hP h rfl dX3_rowTrouble_6
def f_X3_rowTrouble_s (σ : SS) : Int32 :=
  if (f_X1_bearsPlayer σ) = true then (-3) else if (f_X1_bearsRow σ) = true then 0 else (-4)
set_option maxHeartbeats 4000000 in
set_option maxRecDepth 100000 in
theorem c_X3_rowTrouble_s (l : Launch) (ev : EV) (ad : Nat → Nat) (σ : SS)   (r : Int32)  (h : f_X3_rowTrouble_s σ = r) : Ct l yX3_rowTrouble prog_1_method_71_code 1 (Option.some Jvm.ClassFile.FieldType.int) (rmk 1 20) ev 2 ad (sw ev ad σ) (sw ev ad σ) [.ref (ad 0)] (some (.int r)) := by
  refine Ct.of (by decide +kernel) (Nat.le_of_ble_eq_true rfl) ?_
  intro p e s m args below meth c Qc C hap hP hend ls hl
  have hAA : ∀ j, j < 2 → inA ad 2 (ad j) := fun j hj => ⟨j, hj, rfl⟩
  have hx := C.1
  have hb := C.2.1
  have hl : lv_has ls 1 [(0, .ref (ad 0))] := hl
  have h := (f_X3_rowTrouble_s.eq_1 _ ).symm.trans h
  refine lv_aload_n hx hb dX3_rowTrouble_0 rfl (lv_at hl 0 rfl) ?_
  refine lv_ifnonnull (tgt := 7) hx hb dX3_rowTrouble_1 (by decide) ?_
  refine lv_aload_n hx hb dX3_rowTrouble_7 rfl (lv_at hl 0 rfl) ?_
  refine k_callVi C hP hap hAA (c_X1_bearsPlayer l ev ad σ   _ rfl) Emb.same hap gz_X1_bearsPlayer qML_RX3_80 qIM_yX1_bearsPlayer qSE_yX1_bearsPlayer ⟨(Nat.le_of_ble_eq_true rfl), (Nat.le_of_ble_eq_true rfl)⟩ (q0 := 0) rfl (by decide) rfl rfl rfl rfl hl.1 rfl (Nat.le_of_ble_eq_true rfl) dX3_rowTrouble_8 ⟨Nat.le_refl _, Nat.le_refl _⟩ (fun H locs hP => ?_)
  refine r_ifz_eq (tgt := 17) hx hb dX3_rowTrouble_11 (by decide) (fun c11 => ?_) (fun c11 => ?_)
  · have h := k_nf c11 h
    refine lv_aload_n hx hb dX3_rowTrouble_17 rfl (lv_at hl 0 rfl) ?_
    refine k_callVi C hP hap hAA (c_X1_bearsRow l ev ad σ   _ rfl) Emb.same hap gz_X1_bearsRow qML_RX3_84 qIM_yX1_bearsRow qSE_yX1_bearsRow ⟨(Nat.le_of_ble_eq_true rfl), (Nat.le_of_ble_eq_true rfl)⟩ (q0 := 0) rfl (by decide) rfl rfl rfl rfl hl.1 rfl (Nat.le_of_ble_eq_true rfl) dX3_rowTrouble_18 ⟨Nat.le_refl _, Nat.le_refl _⟩ (fun H locs hP => ?_)
    refine r_ifz_eq (tgt := 28) hx hb dX3_rowTrouble_21 (by decide) (fun c21 => ?_) (fun c21 => ?_)
    · have h := k_nf c21 h
      refine lv_bipush (v := (-4)) hx hb dX3_rowTrouble_28 (by decide) ?_
      exact e_iret C hend hP h rfl dX3_rowTrouble_30
    · have h := k_if c21 h
      refine lv_iconst (v := 0) hx hb dX3_rowTrouble_24 (by decide) ?_
      refine lv_goto (tgt := 30) hx hb dX3_rowTrouble_25 (by decide) ?_
      exact e_iret C hend hP h rfl dX3_rowTrouble_30
  · have h := k_if c11 h
    refine lv_bipush (v := (-3)) hx hb dX3_rowTrouble_14 (by decide) ?_
    exact e_iret C hend hP h rfl dX3_rowTrouble_16
def f_X3_set (σ : XX) (a1 : Int32) (a2 : Int32) (a3 : Int64) : Option (Int32 × XX) :=
  ob (f_X3_shelfAt σ a1) (fun o1 => om o1 (if f_X3_rowTrouble_n = 0 then ob2 (f_X3_refuse σ (-2)) (fun x4 σ3 => some (x4, σ3)) else ob2 (f_X3_refuse σ f_X3_rowTrouble_n) (fun x6 σ5 => some (x6, σ5))) (fun q2 => gd (decide (q2 < 8)) (lt (f_X3_rowTrouble_s (x_shelf σ q2)) (fun x7 => if x7 = 0 then if (f_X1_reaches (x_shelf σ q2) a2) = true then ob (f_X1_put (x_shelf σ q2) a2 a3) (fun σ8 => lt (x_shelf' σ q2 σ8) (fun σ9 => some (1, σ9))) else ob2 (f_X3_refuse σ (-2)) (fun x11 σ10 => some (x11, σ10)) else ob2 (f_X3_refuse σ x7) (fun x13 σ12 => some (x13, σ12))))))
set_option maxHeartbeats 4000000 in
set_option maxRecDepth 100000 in
theorem c_X3_set (l : Launch) (ev : EV) (ad : Nat → Nat) (σ : XX) (a1 : Int32) (a2 : Int32) (a3 : Int64)   (r : Int32) (σ' : XX) (h : f_X3_set σ a1 a2 a3 = some (r, σ')) : Ct l yX3_set prog_1_method_3_code 7 (Option.some Jvm.ClassFile.FieldType.int) (rmk 3 65) ev 26 ad (xw ev ad σ) (xw ev ad σ') [.ref (ad 0), .int a1, .int a2, .long a3] (some (.int r)) := by
  refine Ct.of (by decide +kernel) (Nat.le_of_ble_eq_true rfl) ?_
  intro p e s m args below meth c Qc C hap hP hend ls hl
  have hAA : ∀ j, j < 26 → inA ad 26 (ad j) := fun j hj => ⟨j, hj, rfl⟩
  have hx := C.1
  have hb := C.2.1
  have hl : lv_has ls 7 [(0, .ref (ad 0)), (1, .int a1), (2, .int a2), (3, .long a3)] := hl
  have h := (f_X3_set.eq_1 _ _ _ _ ).symm.trans h
  refine lv_aload_n hx hb dX3_set_0 rfl (lv_at hl 0 rfl) ?_
  refine lv_iload_n hx hb dX3_set_1 rfl (lv_at hl 1 rfl) ?_
  obtain ⟨o1, h1, h⟩ := k_ob h
  refine k_callVo C hP hap hAA (c_X3_shelfAt l ev ad σ a1   _ h1) Emb.same hap gz_X3_shelfAt qML_RX3_56 qIM_yX3_shelfAt qSE_yX3_shelfAt ⟨(Nat.le_of_ble_eq_true rfl), (Nat.le_of_ble_eq_true rfl)⟩ (q0 := 0) rfl (by decide) rfl rfl rfl rfl hl.1 rfl (Nat.le_of_ble_eq_true rfl) dX3_set_2 ⟨Nat.le_refl _, Nat.le_refl _⟩ (fun H locs hP => ?_)
  rcases o1 with _ | q2
  · have h := k_omN h
    refine lv_astoreN (lv' := [(5, .null), (0, .ref (ad 0)), (1, .int a1), (2, .int a2), (3, .long a3)]) hx hb dX3_set_5 hl (by decide) rfl (fun ls hl => ?_)
    refine lv_aloadN hx hb dX3_set_7 (lv_at hl 0 rfl) ?_
    refine k_callSi C hP hap hAA (c_X3_rowTrouble_n l ev ad    _ rfl) Emb.none (apart_0 _) gz_X3_rowTrouble qML_RX3_68 qSM_yX3_rowTrouble ⟨(Nat.le_of_ble_eq_true rfl), (Nat.le_of_ble_eq_true rfl)⟩ rfl hl.1 rfl (Nat.le_of_ble_eq_true rfl) dX3_set_9 ⟨Nat.le_refl _, Nat.le_refl _⟩ (fun H locs hP => ?_)
    refine lv_istore (lv' := [(6, .int f_X3_rowTrouble_n), (5, .null), (0, .ref (ad 0)), (1, .int a1), (2, .int a2), (3, .long a3)]) hx hb dX3_set_12 hl (by decide) rfl (fun ls hl => ?_)
    refine lv_iload hx hb dX3_set_14 (lv_at hl 0 rfl) ?_
    refine lv_if_eq (tgt := 26) hx hb dX3_set_16 (by decide) (fun c16 => ?_) (fun c16 => ?_)
    · have h := k_if c16 h
      refine lv_aloadN hx hb dX3_set_26 (lv_at hl 1 rfl) ?_
      refine lv_ifnullN (tgt := 40) hx hb dX3_set_28 (by decide) ?_
      refine lv_aload_n hx hb dX3_set_40 rfl (lv_at hl 2 rfl) ?_
      refine lv_bipush (v := (-2)) hx hb dX3_set_41 (by decide) ?_
      obtain ⟨x4, σ3, h1, h⟩ := k_ob2 h
      refine k_callVi C hP hap hAA (c_X3_refuse l ev ad σ (-2)   _ _ h1) Emb.same hap gz_X3_refuse qML_RX3_60 qIM_yX3_refuse qSE_yX3_refuse ⟨(Nat.le_of_ble_eq_true rfl), (Nat.le_of_ble_eq_true rfl)⟩ (q0 := 0) rfl (by decide) rfl rfl rfl rfl hl.1 rfl (Nat.le_of_ble_eq_true rfl) dX3_set_43 ⟨Nat.le_refl _, Nat.le_refl _⟩ (fun H locs hP => ?_)
      exact e_iret C hend hP (k_some2 h).1 (congrArg (xw ev ad) (k_some2 h).2) dX3_set_46
    · have h := k_nf c16 h
      refine lv_aload_n hx hb dX3_set_19 rfl (lv_at hl 2 rfl) ?_
      refine lv_iload hx hb dX3_set_20 (lv_at hl 0 rfl) ?_
      obtain ⟨x6, σ5, h1, h⟩ := k_ob2 h
      refine k_callVi C hP hap hAA (c_X3_refuse l ev ad σ f_X3_rowTrouble_n   _ _ h1) Emb.same hap gz_X3_refuse qML_RX3_60 qIM_yX3_refuse qSE_yX3_refuse ⟨(Nat.le_of_ble_eq_true rfl), (Nat.le_of_ble_eq_true rfl)⟩ (q0 := 0) rfl (by decide) rfl rfl rfl rfl hl.1 rfl (Nat.le_of_ble_eq_true rfl) dX3_set_22 ⟨Nat.le_refl _, Nat.le_refl _⟩ (fun H locs hP => ?_)
      exact e_iret C hend hP (k_some2 h).1 (congrArg (xw ev ad) (k_some2 h).2) dX3_set_25
  · obtain ⟨hg, h⟩ := k_gd (k_omS h)
    have hq2 : q2 < 8 := of_decide_eq_true hg
    refine lv_astore (lv' := [(5, .ref (ad (q2 + 10))), (0, .ref (ad 0)), (1, .int a1), (2, .int a2), (3, .long a3)]) hx hb dX3_set_5 hl (by decide) rfl (fun ls hl => ?_)
    refine lv_aload hx hb dX3_set_7 (lv_at hl 0 rfl) ?_
    refine k_callSi C hP hap hAA (c_X3_rowTrouble_s l ev (fun j => ad (q2 + 10 + 8 * j)) (x_shelf σ q2)   _ rfl) (em_Sr hq2) (apart_S hap hq2) gz_X3_rowTrouble qML_RX3_68 qSM_yX3_rowTrouble ⟨(Nat.le_of_ble_eq_true rfl), (Nat.le_of_ble_eq_true rfl)⟩ rfl hl.1 rfl (Nat.le_of_ble_eq_true rfl) dX3_set_9 ⟨Nat.le_refl _, Nat.le_refl _⟩ (fun H locs hP => ?_)
    refine lv_topi (fun x7 ex7 => ?_)
    have h := k_lt ex7 h
    refine lv_istore (lv' := [(6, .int x7), (5, .ref (ad (q2 + 10))), (0, .ref (ad 0)), (1, .int a1), (2, .int a2), (3, .long a3)]) hx hb dX3_set_12 hl (by decide) rfl (fun ls hl => ?_)
    refine lv_iload hx hb dX3_set_14 (lv_at hl 0 rfl) ?_
    refine lv_if_eq (tgt := 26) hx hb dX3_set_16 (by decide) (fun c16 => ?_) (fun c16 => ?_)
    · have h := k_if c16 h
      refine lv_aload hx hb dX3_set_26 (lv_at hl 1 rfl) ?_
      refine lv_ifnull hx hb dX3_set_28 ?_
      refine lv_aload hx hb dX3_set_31 (lv_at hl 1 rfl) ?_
      refine lv_iload_n hx hb dX3_set_33 rfl (lv_at hl 4 rfl) ?_
      refine k_callVi C hP hap hAA (c_X1_reaches l ev (fun j => ad (q2 + 10 + 8 * j)) (x_shelf σ q2) a2   _ rfl) (em_Sr hq2) (apart_S hap hq2) gz_X1_reaches qML_RX3_72 qIM_yX1_reaches qSE_yX1_reaches ⟨(Nat.le_of_ble_eq_true rfl), (Nat.le_of_ble_eq_true rfl)⟩ (q0 := (q2 + 10)) rfl (by omega) (xw_shelf hq2) rfl rfl rfl hl.1 rfl (Nat.le_of_ble_eq_true rfl) dX3_set_34 ⟨Nat.le_refl _, Nat.le_refl _⟩ (fun H locs hP => ?_)
      refine r_ifz_ne (tgt := 47) hx hb dX3_set_37 (by decide) (fun c37 => ?_) (fun c37 => ?_)
      · have h := k_if c37 h
        refine lv_aload hx hb dX3_set_47 (lv_at hl 1 rfl) ?_
        refine lv_iload_n hx hb dX3_set_49 rfl (lv_at hl 4 rfl) ?_
        refine lv_lload_n hx hb dX3_set_50 rfl (lv_at hl 5 rfl) ?_
        obtain ⟨σ8, h1, h⟩ := k_ob h
        refine k_callVv C hP hap hAA (c_X1_put l ev (fun j => ad (q2 + 10 + 8 * j)) (x_shelf σ q2) a2 a3   _ h1) (em_S hq2) (apart_S hap hq2) gz_X1_put qML_RX3_76 qIM_yX1_put qSE_yX1_put ⟨(Nat.le_of_ble_eq_true rfl), (Nat.le_of_ble_eq_true rfl)⟩ (q0 := (q2 + 10)) rfl (by omega) (xw_shelf hq2) rfl rfl rfl hl.1 rfl (Nat.le_of_ble_eq_true rfl) dX3_set_51 ⟨Nat.le_refl _, Nat.le_refl _⟩ (fun H locs hP => ?_)
        obtain ⟨σ9, eσ9, h⟩ := k_ltx h
        rw [← eσ9] at hP
        refine lv_iconst (v := 1) hx hb dX3_set_54 (by decide) ?_
        exact e_iret C hend hP (k_some2 h).1 (congrArg (xw ev ad) (k_some2 h).2) dX3_set_55
      · have h := k_nf c37 h
        refine lv_aload_n hx hb dX3_set_40 rfl (lv_at hl 2 rfl) ?_
        refine lv_bipush (v := (-2)) hx hb dX3_set_41 (by decide) ?_
        obtain ⟨x11, σ10, h1, h⟩ := k_ob2 h
        refine k_callVi C hP hap hAA (c_X3_refuse l ev ad σ (-2)   _ _ h1) Emb.same hap gz_X3_refuse qML_RX3_60 qIM_yX3_refuse qSE_yX3_refuse ⟨(Nat.le_of_ble_eq_true rfl), (Nat.le_of_ble_eq_true rfl)⟩ (q0 := 0) rfl (by decide) rfl rfl rfl rfl hl.1 rfl (Nat.le_of_ble_eq_true rfl) dX3_set_43 ⟨Nat.le_refl _, Nat.le_refl _⟩ (fun H locs hP => ?_)
        exact e_iret C hend hP (k_some2 h).1 (congrArg (xw ev ad) (k_some2 h).2) dX3_set_46
    · have h := k_nf c16 h
      refine lv_aload_n hx hb dX3_set_19 rfl (lv_at hl 2 rfl) ?_
      refine lv_iload hx hb dX3_set_20 (lv_at hl 0 rfl) ?_
      obtain ⟨x13, σ12, h1, h⟩ := k_ob2 h
      refine k_callVi C hP hap hAA (c_X3_refuse l ev ad σ x7   _ _ h1) Emb.same hap gz_X3_refuse qML_RX3_60 qIM_yX3_refuse qSE_yX3_refuse ⟨(Nat.le_of_ble_eq_true rfl), (Nat.le_of_ble_eq_true rfl)⟩ (q0 := 0) rfl (by decide) rfl rfl rfl rfl hl.1 rfl (Nat.le_of_ble_eq_true rfl) dX3_set_22 ⟨Nat.le_refl _, Nat.le_refl _⟩ (fun H locs hP => ?_)
      exact e_iret C hend hP (k_some2 h).1 (congrArg (xw ev ad) (k_some2 h).2) dX3_set_25
def f_X3_copy_b90 (a3 : Int32) (a4 : Int32) (a5 : Int32) (q15 : Nat) (q16 : Nat) (σ17 : XX) : Option (Int32 × XX) :=
  if (f_X1_bearsRow (x_shelf σ17 q15)) = true then if (f_X1_bearsRow (x_shelf σ17 q16)) = true then if (f_X1_reachesSpan (x_shelf σ17 q15) a3 a5) = true then if (f_X1_reachesSpan (x_shelf σ17 q16) a4 a5) = true then gd (acp a3 a4 a5) (lt (x_shelf' σ17 q16 (s_elements' (x_shelf σ17 q16) (va_cpy (s_elements (x_shelf σ17 q15)) (s_elements (x_shelf σ17 q16)) (Int32.toNatClampNeg a3) (Int32.toNatClampNeg a4) (Int32.toNatClampNeg a5)))) (fun σ22 => some (a5, σ22))) else ob2 (f_X3_refuse σ17 (-2)) (fun x24 σ23 => some (x24, σ23)) else ob2 (f_X3_refuse σ17 (-2)) (fun x21 σ20 => some (x21, σ20)) else ob2 (f_X3_refuse σ17 (-4)) (fun x26 σ25 => some (x26, σ25)) else ob2 (f_X3_refuse σ17 (-4)) (fun x19 σ18 => some (x19, σ18))
def f_X3_copy (σ : XX) (a1 : Int32) (a2 : Int32) (a3 : Int32) (a4 : Int32) (a5 : Int32) : Option (Int32 × XX) :=
  ob (f_X3_shelfAt σ a1) (fun o1 => om o1 (ob (f_X3_shelfAt σ a2) (fun o3 => om o3 (ob2 (f_X3_refuse σ (-2)) (fun x6 σ5 => some (x6, σ5))) (fun q4 => gd (decide (q4 < 8)) (ob2 (f_X3_refuse σ (-2)) (fun x8 σ7 => some (x8, σ7)))))) (fun q2 => gd (decide (q2 < 8)) (ob (f_X3_shelfAt σ a2) (fun o9 => om o9 (ob2 (f_X3_refuse σ (-2)) (fun x12 σ11 => some (x12, σ11))) (fun q10 => gd (decide (q10 < 8)) (if (f_X1_bearsPlayer (x_shelf σ q2)) = true then ob2 (f_X3_refuse σ (-3)) (fun x14 σ13 => some (x14, σ13)) else if (f_X1_bearsPlayer (x_shelf σ q10)) = true then ob2 (f_X3_refuse σ (-3)) (fun x30 σ29 => some (x30, σ29)) else if (f_X1_bearsRow (x_shelf σ q2)) = true then if (f_X1_bearsRow (x_shelf σ q10)) = true then if (s_content (x_shelf σ q2)) = (s_content (x_shelf σ q10)) then f_X3_copy_b90 a3 a4 a5 q2 q10 σ else ob2 (f_X3_refuse σ (-3)) (fun x28 σ27 => some (x28, σ27)) else f_X3_copy_b90 a3 a4 a5 q2 q10 σ else f_X3_copy_b90 a3 a4 a5 q2 q10 σ))))))
set_option maxHeartbeats 4000000 in
set_option maxRecDepth 100000 in
theorem c_X3_copy (l : Launch) (ev : EV) (ad : Nat → Nat) (σ : XX) (a1 : Int32) (a2 : Int32) (a3 : Int32) (a4 : Int32) (a5 : Int32)   (r : Int32) (σ' : XX) (h : f_X3_copy σ a1 a2 a3 a4 a5 = some (r, σ')) : Ct l yX3_copy prog_1_method_4_code 8 (Option.some Jvm.ClassFile.FieldType.int) (rmk 2 120) ev 26 ad (xw ev ad σ) (xw ev ad σ') [.ref (ad 0), .int a1, .int a2, .int a3, .int a4, .int a5] (some (.int r)) := by
  refine Ct.of (by decide +kernel) (Nat.le_of_ble_eq_true rfl) ?_
  intro p e s m args below meth c Qc C hap hP hend ls hl
  have hAA : ∀ j, j < 26 → inA ad 26 (ad j) := fun j hj => ⟨j, hj, rfl⟩
  have hx := C.1
  have hb := C.2.1
  have hl : lv_has ls 8 [(0, .ref (ad 0)), (1, .int a1), (2, .int a2), (3, .int a3), (4, .int a4), (5, .int a5)] := hl
  have h := (f_X3_copy.eq_1 _ _ _ _ _ _ ).symm.trans h
  have hB90 : ∀ (q15 : Nat) (hq15 : q15 < 8) (q16 : Nat) (hq16 : q16 < 8) (σ17 : XX) (H : Heap) (locs : List Loc) (ls : Array Slot), f_X3_copy_b90 a3 a4 a5 q15 q16 σ17 = some (r, σ') → PS ev 26 ad (xw ev ad σ17) (inA ad 26) s H locs → lv_has ls 8 [(0, .ref (ad 0)), (3, .int a3), (4, .int a4), (5, .int a5), (6, .ref (ad (q15 + 10))), (7, .ref (ad (q16 + 10)))] → WW ev p l e (rmk 2 120) s m args below meth c Qc ad 26 H locs 90 ls [] := by
    intro q15 hq15 q16 hq16 σ17 H locs ls h hP hl
    have h := (f_X3_copy_b90.eq_1 _ _ _ _ _ _ ).symm.trans h
    refine lv_aload hx hb dX3_copy_90 (lv_at hl 4 rfl) ?_
    refine k_callVi C hP hap hAA (c_X1_bearsRow l ev (fun j => ad (q15 + 10 + 8 * j)) (x_shelf σ17 q15)   _ rfl) (em_Sr hq15) (apart_S hap hq15) gz_X1_bearsRow qML_RX3_84 qIM_yX1_bearsRow qSE_yX1_bearsRow ⟨(Nat.le_of_ble_eq_true rfl), (Nat.le_of_ble_eq_true rfl)⟩ (q0 := (q15 + 10)) rfl (by omega) (xw_shelf hq15) rfl rfl rfl hl.1 rfl (Nat.le_of_ble_eq_true rfl) dX3_copy_92 ⟨Nat.le_refl _, Nat.le_refl _⟩ (fun H locs hP => ?_)
    refine r_ifz_eq (tgt := 106) hx hb dX3_copy_95 (by decide) (fun c95 => ?_) (fun c95 => ?_)
    · have h := k_nf c95 h
      refine lv_aload_n hx hb dX3_copy_106 rfl (lv_at hl 0 rfl) ?_
      refine lv_bipush (v := (-4)) hx hb dX3_copy_107 (by decide) ?_
      obtain ⟨x19, σ18, h1, h⟩ := k_ob2 h
      refine k_callVi C hP hap hAA (c_X3_refuse l ev ad σ17 (-4)   _ _ h1) Emb.same hap gz_X3_refuse qML_RX3_60 qIM_yX3_refuse qSE_yX3_refuse ⟨(Nat.le_of_ble_eq_true rfl), (Nat.le_of_ble_eq_true rfl)⟩ (q0 := 0) rfl (by decide) rfl rfl rfl rfl hl.1 rfl (Nat.le_of_ble_eq_true rfl) dX3_copy_109 ⟨Nat.le_refl _, Nat.le_refl _⟩ (fun H locs hP => ?_)
      exact e_iret C hend hP (k_some2 h).1 (congrArg (xw ev ad) (k_some2 h).2) dX3_copy_112
    · have h := k_if c95 h
      refine lv_aload hx hb dX3_copy_98 (lv_at hl 5 rfl) ?_
      refine k_callVi C hP hap hAA (c_X1_bearsRow l ev (fun j => ad (q16 + 10 + 8 * j)) (x_shelf σ17 q16)   _ rfl) (em_Sr hq16) (apart_S hap hq16) gz_X1_bearsRow qML_RX3_84 qIM_yX1_bearsRow qSE_yX1_bearsRow ⟨(Nat.le_of_ble_eq_true rfl), (Nat.le_of_ble_eq_true rfl)⟩ (q0 := (q16 + 10)) rfl (by omega) (xw_shelf hq16) rfl rfl rfl hl.1 rfl (Nat.le_of_ble_eq_true rfl) dX3_copy_100 ⟨Nat.le_refl _, Nat.le_refl _⟩ (fun H locs hP => ?_)
      refine r_ifz_ne (tgt := 113) hx hb dX3_copy_103 (by decide) (fun c103 => ?_) (fun c103 => ?_)
      · have h := k_if c103 h
        refine lv_aload hx hb dX3_copy_113 (lv_at hl 4 rfl) ?_
        refine lv_iload_n hx hb dX3_copy_115 rfl (lv_at hl 1 rfl) ?_
        refine lv_iload hx hb dX3_copy_116 (lv_at hl 3 rfl) ?_
        refine k_callVi C hP hap hAA (c_X1_reachesSpan l ev (fun j => ad (q15 + 10 + 8 * j)) (x_shelf σ17 q15) a3 a5   _ rfl) (em_Sr hq15) (apart_S hap hq15) gz_X1_reachesSpan qML_RX3_90 qIM_yX1_reachesSpan qSE_yX1_reachesSpan ⟨(Nat.le_of_ble_eq_true rfl), (Nat.le_of_ble_eq_true rfl)⟩ (q0 := (q15 + 10)) rfl (by omega) (xw_shelf hq15) rfl rfl rfl hl.1 rfl (Nat.le_of_ble_eq_true rfl) dX3_copy_118 ⟨Nat.le_refl _, Nat.le_refl _⟩ (fun H locs hP => ?_)
        refine r_ifz_eq (tgt := 136) hx hb dX3_copy_121 (by decide) (fun c121 => ?_) (fun c121 => ?_)
        · have h := k_nf c121 h
          refine lv_aload_n hx hb dX3_copy_136 rfl (lv_at hl 0 rfl) ?_
          refine lv_bipush (v := (-2)) hx hb dX3_copy_137 (by decide) ?_
          obtain ⟨x21, σ20, h1, h⟩ := k_ob2 h
          refine k_callVi C hP hap hAA (c_X3_refuse l ev ad σ17 (-2)   _ _ h1) Emb.same hap gz_X3_refuse qML_RX3_60 qIM_yX3_refuse qSE_yX3_refuse ⟨(Nat.le_of_ble_eq_true rfl), (Nat.le_of_ble_eq_true rfl)⟩ (q0 := 0) rfl (by decide) rfl rfl rfl rfl hl.1 rfl (Nat.le_of_ble_eq_true rfl) dX3_copy_139 ⟨Nat.le_refl _, Nat.le_refl _⟩ (fun H locs hP => ?_)
          exact e_iret C hend hP (k_some2 h).1 (congrArg (xw ev ad) (k_some2 h).2) dX3_copy_142
        · have h := k_if c121 h
          refine lv_aload hx hb dX3_copy_124 (lv_at hl 5 rfl) ?_
          refine lv_iload hx hb dX3_copy_126 (lv_at hl 2 rfl) ?_
          refine lv_iload hx hb dX3_copy_128 (lv_at hl 3 rfl) ?_
          refine k_callVi C hP hap hAA (c_X1_reachesSpan l ev (fun j => ad (q16 + 10 + 8 * j)) (x_shelf σ17 q16) a4 a5   _ rfl) (em_Sr hq16) (apart_S hap hq16) gz_X1_reachesSpan qML_RX3_90 qIM_yX1_reachesSpan qSE_yX1_reachesSpan ⟨(Nat.le_of_ble_eq_true rfl), (Nat.le_of_ble_eq_true rfl)⟩ (q0 := (q16 + 10)) rfl (by omega) (xw_shelf hq16) rfl rfl rfl hl.1 rfl (Nat.le_of_ble_eq_true rfl) dX3_copy_130 ⟨Nat.le_refl _, Nat.le_refl _⟩ (fun H locs hP => ?_)
          refine r_ifz_ne (tgt := 143) hx hb dX3_copy_133 (by decide) (fun c133 => ?_) (fun c133 => ?_)
          · have h := k_if c133 h
            refine lv_aload hx hb dX3_copy_143 (lv_at hl 4 rfl) ?_
            refine r_get C hP (ci := 1) rfl uin_X1 2 (by decide) (q15 + 10) (by omega) (xw_shelf hq15) qFL_RX3_94 rfl rfl dX3_copy_145 ?_
            refine lv_iload_n hx hb dX3_copy_148 rfl (lv_at hl 1 rfl) ?_
            refine lv_aload hx hb dX3_copy_149 (lv_at hl 5 rfl) ?_
            refine r_get C hP (ci := 1) rfl uin_X1 2 (by decide) (q16 + 10) (by omega) (xw_shelf hq16) qFL_RX3_94 rfl rfl dX3_copy_151 ?_
            refine lv_iload hx hb dX3_copy_154 (lv_at hl 2 rfl) ?_
            refine lv_iload hx hb dX3_copy_156 (lv_at hl 3 rfl) ?_
            obtain ⟨hg, h⟩ := k_gd h
            obtain ⟨σ22, eσ22, h⟩ := k_ltx h
            refine r_acopy hq15 hq16 C hP hap hAA hg eσ22 qML_RX3_98 qNA____cls_____java_lang_System___name_____arraycopy___desc______Ljava_lang_Object_ILjava_lang_Object_II_V______Jvm_MethodName_ qSM____cls_____java_lang_System___name_____arraycopy___desc______Ljava_lang_Object_ILjava_lang_Object_II_V______Jvm_MethodName_ qIN_RJ10 hl.1 ⟨(Nat.le_of_ble_eq_true rfl), (Nat.le_of_ble_eq_true rfl)⟩ (Nat.le_of_ble_eq_true rfl) dX3_copy_158 (fun H locs hP => ?_)
            refine lv_iload hx hb dX3_copy_161 (lv_at hl 3 rfl) ?_
            exact e_iret C hend hP (k_some2 h).1 (congrArg (xw ev ad) (k_some2 h).2) dX3_copy_163
          · have h := k_nf c133 h
            refine lv_aload_n hx hb dX3_copy_136 rfl (lv_at hl 0 rfl) ?_
            refine lv_bipush (v := (-2)) hx hb dX3_copy_137 (by decide) ?_
            obtain ⟨x24, σ23, h1, h⟩ := k_ob2 h
            refine k_callVi C hP hap hAA (c_X3_refuse l ev ad σ17 (-2)   _ _ h1) Emb.same hap gz_X3_refuse qML_RX3_60 qIM_yX3_refuse qSE_yX3_refuse ⟨(Nat.le_of_ble_eq_true rfl), (Nat.le_of_ble_eq_true rfl)⟩ (q0 := 0) rfl (by decide) rfl rfl rfl rfl hl.1 rfl (Nat.le_of_ble_eq_true rfl) dX3_copy_139 ⟨Nat.le_refl _, Nat.le_refl _⟩ (fun H locs hP => ?_)
            exact e_iret C hend hP (k_some2 h).1 (congrArg (xw ev ad) (k_some2 h).2) dX3_copy_142
      · have h := k_nf c103 h
        refine lv_aload_n hx hb dX3_copy_106 rfl (lv_at hl 0 rfl) ?_
        refine lv_bipush (v := (-4)) hx hb dX3_copy_107 (by decide) ?_
        obtain ⟨x26, σ25, h1, h⟩ := k_ob2 h
        refine k_callVi C hP hap hAA (c_X3_refuse l ev ad σ17 (-4)   _ _ h1) Emb.same hap gz_X3_refuse qML_RX3_60 qIM_yX3_refuse qSE_yX3_refuse ⟨(Nat.le_of_ble_eq_true rfl), (Nat.le_of_ble_eq_true rfl)⟩ (q0 := 0) rfl (by decide) rfl rfl rfl rfl hl.1 rfl (Nat.le_of_ble_eq_true rfl) dX3_copy_109 ⟨Nat.le_refl _, Nat.le_refl _⟩ (fun H locs hP => ?_)
        exact e_iret C hend hP (k_some2 h).1 (congrArg (xw ev ad) (k_some2 h).2) dX3_copy_112
  refine lv_aload_n hx hb dX3_copy_0 rfl (lv_at hl 0 rfl) ?_
  refine lv_iload_n hx hb dX3_copy_1 rfl (lv_at hl 1 rfl) ?_
  obtain ⟨o1, h1, h⟩ := k_ob h
  refine k_callVo C hP hap hAA (c_X3_shelfAt l ev ad σ a1   _ h1) Emb.same hap gz_X3_shelfAt qML_RX3_56 qIM_yX3_shelfAt qSE_yX3_shelfAt ⟨(Nat.le_of_ble_eq_true rfl), (Nat.le_of_ble_eq_true rfl)⟩ (q0 := 0) rfl (by decide) rfl rfl rfl rfl hl.1 rfl (Nat.le_of_ble_eq_true rfl) dX3_copy_2 ⟨Nat.le_refl _, Nat.le_refl _⟩ (fun H locs hP => ?_)
  rcases o1 with _ | q2
  · have h := k_omN h
    refine lv_astoreN (lv' := [(6, .null), (0, .ref (ad 0)), (1, .int a1), (2, .int a2), (3, .int a3), (4, .int a4), (5, .int a5)]) hx hb dX3_copy_5 hl (by decide) rfl (fun ls hl => ?_)
    refine lv_aload_n hx hb dX3_copy_7 rfl (lv_at hl 1 rfl) ?_
    refine lv_iload_n hx hb dX3_copy_8 rfl (lv_at hl 3 rfl) ?_
    obtain ⟨o3, h1, h⟩ := k_ob h
    refine k_callVo C hP hap hAA (c_X3_shelfAt l ev ad σ a2   _ h1) Emb.same hap gz_X3_shelfAt qML_RX3_56 qIM_yX3_shelfAt qSE_yX3_shelfAt ⟨(Nat.le_of_ble_eq_true rfl), (Nat.le_of_ble_eq_true rfl)⟩ (q0 := 0) rfl (by decide) rfl rfl rfl rfl hl.1 rfl (Nat.le_of_ble_eq_true rfl) dX3_copy_9 ⟨Nat.le_refl _, Nat.le_refl _⟩ (fun H locs hP => ?_)
    rcases o3 with _ | q4
    · have h := k_omN h
      refine lv_astoreN (lv' := [(7, .null), (6, .null), (0, .ref (ad 0)), (1, .int a1), (2, .int a2), (3, .int a3), (4, .int a4), (5, .int a5)]) hx hb dX3_copy_12 hl (by decide) rfl (fun ls hl => ?_)
      refine lv_aloadN hx hb dX3_copy_14 (lv_at hl 1 rfl) ?_
      refine lv_ifnullN (tgt := 24) hx hb dX3_copy_16 (by decide) ?_
      refine lv_aload_n hx hb dX3_copy_24 rfl (lv_at hl 2 rfl) ?_
      refine lv_bipush (v := (-2)) hx hb dX3_copy_25 (by decide) ?_
      obtain ⟨x6, σ5, h1, h⟩ := k_ob2 h
      refine k_callVi C hP hap hAA (c_X3_refuse l ev ad σ (-2)   _ _ h1) Emb.same hap gz_X3_refuse qML_RX3_60 qIM_yX3_refuse qSE_yX3_refuse ⟨(Nat.le_of_ble_eq_true rfl), (Nat.le_of_ble_eq_true rfl)⟩ (q0 := 0) rfl (by decide) rfl rfl rfl rfl hl.1 rfl (Nat.le_of_ble_eq_true rfl) dX3_copy_27 ⟨Nat.le_refl _, Nat.le_refl _⟩ (fun H locs hP => ?_)
      exact e_iret C hend hP (k_some2 h).1 (congrArg (xw ev ad) (k_some2 h).2) dX3_copy_30
    · obtain ⟨hg, h⟩ := k_gd (k_omS h)
      have hq4 : q4 < 8 := of_decide_eq_true hg
      refine lv_astore (lv' := [(7, .ref (ad (q4 + 10))), (6, .null), (0, .ref (ad 0)), (1, .int a1), (2, .int a2), (3, .int a3), (4, .int a4), (5, .int a5)]) hx hb dX3_copy_12 hl (by decide) rfl (fun ls hl => ?_)
      refine lv_aloadN hx hb dX3_copy_14 (lv_at hl 1 rfl) ?_
      refine lv_ifnullN (tgt := 24) hx hb dX3_copy_16 (by decide) ?_
      refine lv_aload_n hx hb dX3_copy_24 rfl (lv_at hl 2 rfl) ?_
      refine lv_bipush (v := (-2)) hx hb dX3_copy_25 (by decide) ?_
      obtain ⟨x8, σ7, h1, h⟩ := k_ob2 h
      refine k_callVi C hP hap hAA (c_X3_refuse l ev ad σ (-2)   _ _ h1) Emb.same hap gz_X3_refuse qML_RX3_60 qIM_yX3_refuse qSE_yX3_refuse ⟨(Nat.le_of_ble_eq_true rfl), (Nat.le_of_ble_eq_true rfl)⟩ (q0 := 0) rfl (by decide) rfl rfl rfl rfl hl.1 rfl (Nat.le_of_ble_eq_true rfl) dX3_copy_27 ⟨Nat.le_refl _, Nat.le_refl _⟩ (fun H locs hP => ?_)
      exact e_iret C hend hP (k_some2 h).1 (congrArg (xw ev ad) (k_some2 h).2) dX3_copy_30
  · obtain ⟨hg, h⟩ := k_gd (k_omS h)
    have hq2 : q2 < 8 := of_decide_eq_true hg
    refine lv_astore (lv' := [(6, .ref (ad (q2 + 10))), (0, .ref (ad 0)), (1, .int a1), (2, .int a2), (3, .int a3), (4, .int a4), (5, .int a5)]) hx hb dX3_copy_5 hl (by decide) rfl (fun ls hl => ?_)
    refine lv_aload_n hx hb dX3_copy_7 rfl (lv_at hl 1 rfl) ?_
    refine lv_iload_n hx hb dX3_copy_8 rfl (lv_at hl 3 rfl) ?_
    obtain ⟨o9, h1, h⟩ := k_ob h
    refine k_callVo C hP hap hAA (c_X3_shelfAt l ev ad σ a2   _ h1) Emb.same hap gz_X3_shelfAt qML_RX3_56 qIM_yX3_shelfAt qSE_yX3_shelfAt ⟨(Nat.le_of_ble_eq_true rfl), (Nat.le_of_ble_eq_true rfl)⟩ (q0 := 0) rfl (by decide) rfl rfl rfl rfl hl.1 rfl (Nat.le_of_ble_eq_true rfl) dX3_copy_9 ⟨Nat.le_refl _, Nat.le_refl _⟩ (fun H locs hP => ?_)
    rcases o9 with _ | q10
    · have h := k_omN h
      refine lv_astoreN (lv' := [(7, .null), (6, .ref (ad (q2 + 10))), (0, .ref (ad 0)), (1, .int a1), (2, .int a2), (3, .int a3), (4, .int a4), (5, .int a5)]) hx hb dX3_copy_12 hl (by decide) rfl (fun ls hl => ?_)
      refine lv_aload hx hb dX3_copy_14 (lv_at hl 1 rfl) ?_
      refine lv_ifnull hx hb dX3_copy_16 ?_
      refine lv_aloadN hx hb dX3_copy_19 (lv_at hl 0 rfl) ?_
      refine lv_ifnonnullN hx hb dX3_copy_21 ?_
      refine lv_aload_n hx hb dX3_copy_24 rfl (lv_at hl 2 rfl) ?_
      refine lv_bipush (v := (-2)) hx hb dX3_copy_25 (by decide) ?_
      obtain ⟨x12, σ11, h1, h⟩ := k_ob2 h
      refine k_callVi C hP hap hAA (c_X3_refuse l ev ad σ (-2)   _ _ h1) Emb.same hap gz_X3_refuse qML_RX3_60 qIM_yX3_refuse qSE_yX3_refuse ⟨(Nat.le_of_ble_eq_true rfl), (Nat.le_of_ble_eq_true rfl)⟩ (q0 := 0) rfl (by decide) rfl rfl rfl rfl hl.1 rfl (Nat.le_of_ble_eq_true rfl) dX3_copy_27 ⟨Nat.le_refl _, Nat.le_refl _⟩ (fun H locs hP => ?_)
      exact e_iret C hend hP (k_some2 h).1 (congrArg (xw ev ad) (k_some2 h).2) dX3_copy_30
    · obtain ⟨hg, h⟩ := k_gd (k_omS h)
      have hq10 : q10 < 8 := of_decide_eq_true hg
      refine lv_astore (lv' := [(7, .ref (ad (q10 + 10))), (6, .ref (ad (q2 + 10))), (0, .ref (ad 0)), (1, .int a1), (2, .int a2), (3, .int a3), (4, .int a4), (5, .int a5)]) hx hb dX3_copy_12 hl (by decide) rfl (fun ls hl => ?_)
      refine lv_aload hx hb dX3_copy_14 (lv_at hl 1 rfl) ?_
      refine lv_ifnull hx hb dX3_copy_16 ?_
      refine lv_aload hx hb dX3_copy_19 (lv_at hl 0 rfl) ?_
      refine lv_ifnonnull (tgt := 31) hx hb dX3_copy_21 (by decide) ?_
      refine lv_aload hx hb dX3_copy_31 (lv_at hl 1 rfl) ?_
      refine k_callVi C hP hap hAA (c_X1_bearsPlayer l ev (fun j => ad (q2 + 10 + 8 * j)) (x_shelf σ q2)   _ rfl) (em_Sr hq2) (apart_S hap hq2) gz_X1_bearsPlayer qML_RX3_80 qIM_yX1_bearsPlayer qSE_yX1_bearsPlayer ⟨(Nat.le_of_ble_eq_true rfl), (Nat.le_of_ble_eq_true rfl)⟩ (q0 := (q2 + 10)) rfl (by omega) (xw_shelf hq2) rfl rfl rfl hl.1 rfl (Nat.le_of_ble_eq_true rfl) dX3_copy_33 ⟨Nat.le_refl _, Nat.le_refl _⟩ (fun H locs hP => ?_)
      refine r_ifz_ne (tgt := 47) hx hb dX3_copy_36 (by decide) (fun c36 => ?_) (fun c36 => ?_)
      · have h := k_if c36 h
        refine lv_aload_n hx hb dX3_copy_47 rfl (lv_at hl 2 rfl) ?_
        refine lv_bipush (v := (-3)) hx hb dX3_copy_48 (by decide) ?_
        obtain ⟨x14, σ13, h1, h⟩ := k_ob2 h
        refine k_callVi C hP hap hAA (c_X3_refuse l ev ad σ (-3)   _ _ h1) Emb.same hap gz_X3_refuse qML_RX3_60 qIM_yX3_refuse qSE_yX3_refuse ⟨(Nat.le_of_ble_eq_true rfl), (Nat.le_of_ble_eq_true rfl)⟩ (q0 := 0) rfl (by decide) rfl rfl rfl rfl hl.1 rfl (Nat.le_of_ble_eq_true rfl) dX3_copy_50 ⟨Nat.le_refl _, Nat.le_refl _⟩ (fun H locs hP => ?_)
        exact e_iret C hend hP (k_some2 h).1 (congrArg (xw ev ad) (k_some2 h).2) dX3_copy_53
      · have h := k_nf c36 h
        refine lv_aload hx hb dX3_copy_39 (lv_at hl 0 rfl) ?_
        refine k_callVi C hP hap hAA (c_X1_bearsPlayer l ev (fun j => ad (q10 + 10 + 8 * j)) (x_shelf σ q10)   _ rfl) (em_Sr hq10) (apart_S hap hq10) gz_X1_bearsPlayer qML_RX3_80 qIM_yX1_bearsPlayer qSE_yX1_bearsPlayer ⟨(Nat.le_of_ble_eq_true rfl), (Nat.le_of_ble_eq_true rfl)⟩ (q0 := (q10 + 10)) rfl (by omega) (xw_shelf hq10) rfl rfl rfl hl.1 rfl (Nat.le_of_ble_eq_true rfl) dX3_copy_41 ⟨Nat.le_refl _, Nat.le_refl _⟩ (fun H locs hP => ?_)
        refine r_ifz_eq (tgt := 54) hx hb dX3_copy_44 (by decide) (fun c44 => ?_) (fun c44 => ?_)
        · have h := k_nf c44 h
          refine lv_aload hx hb dX3_copy_54 (lv_at hl 1 rfl) ?_
          refine k_callVi C hP hap hAA (c_X1_bearsRow l ev (fun j => ad (q2 + 10 + 8 * j)) (x_shelf σ q2)   _ rfl) (em_Sr hq2) (apart_S hap hq2) gz_X1_bearsRow qML_RX3_84 qIM_yX1_bearsRow qSE_yX1_bearsRow ⟨(Nat.le_of_ble_eq_true rfl), (Nat.le_of_ble_eq_true rfl)⟩ (q0 := (q2 + 10)) rfl (by omega) (xw_shelf hq2) rfl rfl rfl hl.1 rfl (Nat.le_of_ble_eq_true rfl) dX3_copy_56 ⟨Nat.le_refl _, Nat.le_refl _⟩ (fun H locs hP => ?_)
          refine r_ifz_eq (tgt := 90) hx hb dX3_copy_59 (by decide) (fun c59 => ?_) (fun c59 => ?_)
          · have h := k_nf c59 h
            exact hB90 _ hq2 _ hq10 _ _ _ _ h hP (lv_sub hl [2, 5, 6, 7, 1, 0] rfl)
          · have h := k_if c59 h
            refine lv_aload hx hb dX3_copy_62 (lv_at hl 0 rfl) ?_
            refine k_callVi C hP hap hAA (c_X1_bearsRow l ev (fun j => ad (q10 + 10 + 8 * j)) (x_shelf σ q10)   _ rfl) (em_Sr hq10) (apart_S hap hq10) gz_X1_bearsRow qML_RX3_84 qIM_yX1_bearsRow qSE_yX1_bearsRow ⟨(Nat.le_of_ble_eq_true rfl), (Nat.le_of_ble_eq_true rfl)⟩ (q0 := (q10 + 10)) rfl (by omega) (xw_shelf hq10) rfl rfl rfl hl.1 rfl (Nat.le_of_ble_eq_true rfl) dX3_copy_64 ⟨Nat.le_refl _, Nat.le_refl _⟩ (fun H locs hP => ?_)
            refine r_ifz_eq (tgt := 90) hx hb dX3_copy_67 (by decide) (fun c67 => ?_) (fun c67 => ?_)
            · have h := k_nf c67 h
              exact hB90 _ hq2 _ hq10 _ _ _ _ h hP (lv_sub hl [2, 5, 6, 7, 1, 0] rfl)
            · have h := k_if c67 h
              refine lv_aload hx hb dX3_copy_70 (lv_at hl 1 rfl) ?_
              refine r_get C hP (ci := 1) rfl uin_X1 0 (by decide) (q2 + 10) (by omega) (xw_shelf hq2) qFL_RX3_87 rfl rfl dX3_copy_72 ?_
              refine lv_aload hx hb dX3_copy_75 (lv_at hl 0 rfl) ?_
              refine r_get C hP (ci := 1) rfl uin_X1 0 (by decide) (q10 + 10) (by omega) (xw_shelf hq10) qFL_RX3_87 rfl rfl dX3_copy_77 ?_
              refine lv_icmp_eq (tgt := 90) hx hb dX3_copy_80 (by decide) (fun c80 => ?_) (fun c80 => ?_)
              · have h := k_if c80 h
                exact hB90 _ hq2 _ hq10 _ _ _ _ h hP (lv_sub hl [2, 5, 6, 7, 1, 0] rfl)
              · have h := k_nf c80 h
                refine lv_aload_n hx hb dX3_copy_83 rfl (lv_at hl 2 rfl) ?_
                refine lv_bipush (v := (-3)) hx hb dX3_copy_84 (by decide) ?_
                obtain ⟨x28, σ27, h1, h⟩ := k_ob2 h
                refine k_callVi C hP hap hAA (c_X3_refuse l ev ad σ (-3)   _ _ h1) Emb.same hap gz_X3_refuse qML_RX3_60 qIM_yX3_refuse qSE_yX3_refuse ⟨(Nat.le_of_ble_eq_true rfl), (Nat.le_of_ble_eq_true rfl)⟩ (q0 := 0) rfl (by decide) rfl rfl rfl rfl hl.1 rfl (Nat.le_of_ble_eq_true rfl) dX3_copy_86 ⟨Nat.le_refl _, Nat.le_refl _⟩ (fun H locs hP => ?_)
                exact e_iret C hend hP (k_some2 h).1 (congrArg (xw ev ad) (k_some2 h).2) dX3_copy_89
        · have h := k_if c44 h
          refine lv_aload_n hx hb dX3_copy_47 rfl (lv_at hl 2 rfl) ?_
          refine lv_bipush (v := (-3)) hx hb dX3_copy_48 (by decide) ?_
          obtain ⟨x30, σ29, h1, h⟩ := k_ob2 h
          refine k_callVi C hP hap hAA (c_X3_refuse l ev ad σ (-3)   _ _ h1) Emb.same hap gz_X3_refuse qML_RX3_60 qIM_yX3_refuse qSE_yX3_refuse ⟨(Nat.le_of_ble_eq_true rfl), (Nat.le_of_ble_eq_true rfl)⟩ (q0 := 0) rfl (by decide) rfl rfl rfl rfl hl.1 rfl (Nat.le_of_ble_eq_true rfl) dX3_copy_50 ⟨Nat.le_refl _, Nat.le_refl _⟩ (fun H locs hP => ?_)
          exact e_iret C hend hP (k_some2 h).1 (congrArg (xw ev ad) (k_some2 h).2) dX3_copy_53
def f_X3_element (σ : XX) (a1 : Int32) (a2 : Int32) : Option (Int64) :=
  ob (f_X3_shelfAt σ a1) (fun o1 => om o1 (some 0) (fun q2 => gd (decide (q2 < 8)) (ob (f_X1_elementAt (x_shelf σ q2) a2) (fun y3 => some y3))))
set_option maxHeartbeats 4000000 in
set_option maxRecDepth 100000 in
theorem c_X3_element (l : Launch) (ev : EV) (ad : Nat → Nat) (σ : XX) (a1 : Int32) (a2 : Int32)   (r : Int64)  (h : f_X3_element σ a1 a2 = some r) : Ct l yX3_element prog_1_method_5_code 4 (Option.some Jvm.ClassFile.FieldType.long) (rmk 2 42) ev 26 ad (xw ev ad σ) (xw ev ad σ) [.ref (ad 0), .int a1, .int a2] (some (.long r)) := by
  refine Ct.of (by decide +kernel) (Nat.le_of_ble_eq_true rfl) ?_
  intro p e s m args below meth c Qc C hap hP hend ls hl
  have hAA : ∀ j, j < 26 → inA ad 26 (ad j) := fun j hj => ⟨j, hj, rfl⟩
  have hx := C.1
  have hb := C.2.1
  have hl : lv_has ls 4 [(0, .ref (ad 0)), (1, .int a1), (2, .int a2)] := hl
  have h := (f_X3_element.eq_1 _ _ _ ).symm.trans h
  refine lv_aload_n hx hb dX3_element_0 rfl (lv_at hl 0 rfl) ?_
  refine lv_iload_n hx hb dX3_element_1 rfl (lv_at hl 1 rfl) ?_
  obtain ⟨o1, h1, h⟩ := k_ob h
  refine k_callVo C hP hap hAA (c_X3_shelfAt l ev ad σ a1   _ h1) Emb.same hap gz_X3_shelfAt qML_RX3_56 qIM_yX3_shelfAt qSE_yX3_shelfAt ⟨(Nat.le_of_ble_eq_true rfl), (Nat.le_of_ble_eq_true rfl)⟩ (q0 := 0) rfl (by decide) rfl rfl rfl rfl hl.1 rfl (Nat.le_of_ble_eq_true rfl) dX3_element_2 ⟨Nat.le_refl _, Nat.le_refl _⟩ (fun H locs hP => ?_)
  rcases o1 with _ | q2
  · have h := k_omN h
    refine lv_astore_nN (lv' := [(3, .null), (0, .ref (ad 0)), (1, .int a1), (2, .int a2)]) hx hb dX3_element_5 rfl hl (by decide) rfl (fun ls hl => ?_)
    refine lv_aload_nN hx hb dX3_element_6 rfl (lv_at hl 0 rfl) ?_
    refine lv_ifnonnullN hx hb dX3_element_7 ?_
    refine lv_lconst (v := 0) hx hb dX3_element_10 (by decide) ?_
    refine lv_goto (tgt := 19) hx hb dX3_element_11 (by decide) ?_
    exact e_lret C hend hP (k_some h) rfl dX3_element_19
  · obtain ⟨hg, h⟩ := k_gd (k_omS h)
    have hq2 : q2 < 8 := of_decide_eq_true hg
    refine lv_astore_n (lv' := [(3, .ref (ad (q2 + 10))), (0, .ref (ad 0)), (1, .int a1), (2, .int a2)]) hx hb dX3_element_5 rfl hl (by decide) rfl (fun ls hl => ?_)
    refine lv_aload_n hx hb dX3_element_6 rfl (lv_at hl 0 rfl) ?_
    refine lv_ifnonnull (tgt := 14) hx hb dX3_element_7 (by decide) ?_
    refine lv_aload_n hx hb dX3_element_14 rfl (lv_at hl 0 rfl) ?_
    refine lv_iload_n hx hb dX3_element_15 rfl (lv_at hl 3 rfl) ?_
    obtain ⟨y3, h1, h⟩ := k_ob h
    refine k_callVl C hP hap hAA (c_X1_elementAt l ev (fun j => ad (q2 + 10 + 8 * j)) (x_shelf σ q2) a2   _ h1) (em_Sr hq2) (apart_S hap hq2) gz_X1_elementAt qML_RX3_104 qIM_yX1_elementAt qSE_yX1_elementAt ⟨(Nat.le_of_ble_eq_true rfl), (Nat.le_of_ble_eq_true rfl)⟩ (q0 := (q2 + 10)) rfl (by omega) (xw_shelf hq2) rfl rfl rfl hl.1 rfl (Nat.le_of_ble_eq_true rfl) dX3_element_16 ⟨Nat.le_refl _, Nat.le_refl _⟩ (fun H locs hP => ?_)
    exact e_lret C hend hP (k_some h) rfl dX3_element_19
def f_X3_holds (σ : XX) (a1 : Int32) : Option (Int32) :=
  ob (f_X3_shelfAt σ a1) (fun o1 => om o1 (some (-1)) (fun q2 => gd (decide (q2 < 8)) (some (s_content (x_shelf σ q2)))))
set_option maxHeartbeats 4000000 in
set_option maxRecDepth 100000 in
theorem c_X3_holds (l : Launch) (ev : EV) (ad : Nat → Nat) (σ : XX) (a1 : Int32)   (r : Int32)  (h : f_X3_holds σ a1 = some r) : Ct l yX3_holds prog_1_method_6_code 3 (Option.some Jvm.ClassFile.FieldType.int) (rmk 1 21) ev 26 ad (xw ev ad σ) (xw ev ad σ) [.ref (ad 0), .int a1] (some (.int r)) := by
  refine Ct.of (by decide +kernel) (Nat.le_of_ble_eq_true rfl) ?_
  intro p e s m args below meth c Qc C hap hP hend ls hl
  have hAA : ∀ j, j < 26 → inA ad 26 (ad j) := fun j hj => ⟨j, hj, rfl⟩
  have hx := C.1
  have hb := C.2.1
  have hl : lv_has ls 3 [(0, .ref (ad 0)), (1, .int a1)] := hl
  have h := (f_X3_holds.eq_1 _ _ ).symm.trans h
  refine lv_aload_n hx hb dX3_holds_0 rfl (lv_at hl 0 rfl) ?_
  refine lv_iload_n hx hb dX3_holds_1 rfl (lv_at hl 1 rfl) ?_
  obtain ⟨o1, h1, h⟩ := k_ob h
  refine k_callVo C hP hap hAA (c_X3_shelfAt l ev ad σ a1   _ h1) Emb.same hap gz_X3_shelfAt qML_RX3_56 qIM_yX3_shelfAt qSE_yX3_shelfAt ⟨(Nat.le_of_ble_eq_true rfl), (Nat.le_of_ble_eq_true rfl)⟩ (q0 := 0) rfl (by decide) rfl rfl rfl rfl hl.1 rfl (Nat.le_of_ble_eq_true rfl) dX3_holds_2 ⟨Nat.le_refl _, Nat.le_refl _⟩ (fun H locs hP => ?_)
  rcases o1 with _ | q2
  · have h := k_omN h
    refine lv_astore_nN (lv' := [(2, .null), (0, .ref (ad 0)), (1, .int a1)]) hx hb dX3_holds_5 rfl hl (by decide) rfl (fun ls hl => ?_)
    refine lv_aload_nN hx hb dX3_holds_6 rfl (lv_at hl 0 rfl) ?_
    refine lv_ifnonnullN hx hb dX3_holds_7 ?_
    refine lv_iconst (v := (-1)) hx hb dX3_holds_10 (by decide) ?_
    refine lv_goto (tgt := 18) hx hb dX3_holds_11 (by decide) ?_
    exact e_iret C hend hP (k_some h) rfl dX3_holds_18
  · obtain ⟨hg, h⟩ := k_gd (k_omS h)
    have hq2 : q2 < 8 := of_decide_eq_true hg
    refine lv_astore_n (lv' := [(2, .ref (ad (q2 + 10))), (0, .ref (ad 0)), (1, .int a1)]) hx hb dX3_holds_5 rfl hl (by decide) rfl (fun ls hl => ?_)
    refine lv_aload_n hx hb dX3_holds_6 rfl (lv_at hl 0 rfl) ?_
    refine lv_ifnonnull (tgt := 14) hx hb dX3_holds_7 (by decide) ?_
    refine lv_aload_n hx hb dX3_holds_14 rfl (lv_at hl 0 rfl) ?_
    refine r_get C hP (ci := 1) rfl uin_X1 0 (by decide) (q2 + 10) (by omega) (xw_shelf hq2) qFL_RX3_87 rfl rfl dX3_holds_15 ?_
    exact e_iret C hend hP (k_some h) rfl dX3_holds_18
def f_X3_isPlayer (σ : XX) (a1 : Int32) : Bool :=
  if a1 < 0 then false else if (x_crew σ) ≤ a1 then false else true
set_option maxHeartbeats 4000000 in
set_option maxRecDepth 100000 in
theorem c_X3_isPlayer (l : Launch) (ev : EV) (ad : Nat → Nat) (σ : XX) (a1 : Int32)   (r : Bool)  (h : f_X3_isPlayer σ a1 = r) : Ct l yX3_isPlayer prog_1_method_76_code 2 (Option.some Jvm.ClassFile.FieldType.boolean) (rmk 0 0) ev 26 ad (xw ev ad σ) (xw ev ad σ) [.ref (ad 0), .int a1] (some (.int (bi r))) := by
  refine Ct.of (by decide +kernel) (Nat.le_of_ble_eq_true rfl) ?_
  intro p e s m args below meth c Qc C hap hP hend ls hl
  have hAA : ∀ j, j < 26 → inA ad 26 (ad j) := fun j hj => ⟨j, hj, rfl⟩
  have hx := C.1
  have hb := C.2.1
  have hl : lv_has ls 2 [(0, .ref (ad 0)), (1, .int a1)] := hl
  have h := (f_X3_isPlayer.eq_1 _ _ ).symm.trans h
  refine lv_iload_n hx hb dX3_isPlayer_0 rfl (lv_at hl 1 rfl) ?_
  refine lv_if_lt (tgt := 16) hx hb dX3_isPlayer_1 (by decide) (fun c1 => ?_) (fun c1 => ?_)
  · have h := k_if c1 h
    refine lv_iconst (v := 0) hx hb dX3_isPlayer_16 (by decide) ?_
    exact e_zret C hend hP h rfl dX3_isPlayer_17 rfl
  · have h := k_nf c1 h
    refine lv_iload_n hx hb dX3_isPlayer_4 rfl (lv_at hl 1 rfl) ?_
    refine lv_aload_n hx hb dX3_isPlayer_5 rfl (lv_at hl 0 rfl) ?_
    refine r_get C hP (ci := 3) rfl uin_X3 6 (by decide) 0 (by decide) rfl qFL_RX3_33 rfl rfl dX3_isPlayer_6 ?_
    refine lv_icmp_ge (tgt := 16) hx hb dX3_isPlayer_9 (by decide) (fun c9 => ?_) (fun c9 => ?_)
    · have h := k_if c9 h
      refine lv_iconst (v := 0) hx hb dX3_isPlayer_16 (by decide) ?_
      exact e_zret C hend hP h rfl dX3_isPlayer_17 rfl
    · have h := k_nf c9 h
      refine lv_iconst (v := 1) hx hb dX3_isPlayer_12 (by decide) ?_
      refine lv_goto (tgt := 17) hx hb dX3_isPlayer_13 (by decide) ?_
      exact e_zret C hend hP h rfl dX3_isPlayer_17 rfl
def f_X3_show_b30 (a2 : Int32) (q5 : Nat) (σ6 : XX) : Option (Int32 × XX) :=
  if a2 = (-1) then ob (f_X1_empty (x_shelf σ6 q5)) (fun σ9 => lt (x_shelf' σ6 q5 σ9) (fun σ10 => some (1, σ10))) else ob (f_X1_bear (x_shelf σ6 q5) a2) (fun σ7 => lt (x_shelf' σ6 q5 σ7) (fun σ8 => some (1, σ8)))
def f_X3_show (σ : XX) (a1 : Int32) (a2 : Int32) : Option (Int32 × XX) :=
  ob (f_X3_shelfAt σ a1) (fun o1 => om o1 (ob2 (f_X3_refuse σ (-2)) (fun x4 σ3 => some (x4, σ3))) (fun q2 => gd (decide (q2 < 8)) (if a2 = (-1) then f_X3_show_b30 a2 q2 σ else if (f_X3_isPlayer σ a2) = true then f_X3_show_b30 a2 q2 σ else ob2 (f_X3_refuse σ (-2)) (fun x12 σ11 => some (x12, σ11)))))
set_option maxHeartbeats 4000000 in
set_option maxRecDepth 100000 in
theorem c_X3_show (l : Launch) (ev : EV) (ad : Nat → Nat) (σ : XX) (a1 : Int32) (a2 : Int32)   (r : Int32) (σ' : XX) (h : f_X3_show σ a1 a2 = some (r, σ')) : Ct l yX3_show prog_1_method_7_code 4 (Option.some Jvm.ClassFile.FieldType.int) (rmk 1 22) ev 26 ad (xw ev ad σ) (xw ev ad σ') [.ref (ad 0), .int a1, .int a2] (some (.int r)) := by
  refine Ct.of (by decide +kernel) (Nat.le_of_ble_eq_true rfl) ?_
  intro p e s m args below meth c Qc C hap hP hend ls hl
  have hAA : ∀ j, j < 26 → inA ad 26 (ad j) := fun j hj => ⟨j, hj, rfl⟩
  have hx := C.1
  have hb := C.2.1
  have hl : lv_has ls 4 [(0, .ref (ad 0)), (1, .int a1), (2, .int a2)] := hl
  have h := (f_X3_show.eq_1 _ _ _ ).symm.trans h
  have hB30 : ∀ (q5 : Nat) (hq5 : q5 < 8) (σ6 : XX) (H : Heap) (locs : List Loc) (ls : Array Slot), f_X3_show_b30 a2 q5 σ6 = some (r, σ') → PS ev 26 ad (xw ev ad σ6) (inA ad 26) s H locs → lv_has ls 4 [(2, .int a2), (3, .ref (ad (q5 + 10)))] → WW ev p l e (rmk 1 22) s m args below meth c Qc ad 26 H locs 30 ls [] := by
    intro q5 hq5 σ6 H locs ls h hP hl
    have h := (f_X3_show_b30.eq_1 _ _ _ ).symm.trans h
    refine lv_iload_n hx hb dX3_show_30 rfl (lv_at hl 0 rfl) ?_
    refine lv_iconst (v := (-1)) hx hb dX3_show_31 (by decide) ?_
    refine lv_icmp_ne (tgt := 42) hx hb dX3_show_32 (by decide) (fun c32 => ?_) (fun c32 => ?_)
    · have h := k_nf c32 h
      refine lv_aload_n hx hb dX3_show_42 rfl (lv_at hl 1 rfl) ?_
      refine lv_iload_n hx hb dX3_show_43 rfl (lv_at hl 0 rfl) ?_
      obtain ⟨σ7, h1, h⟩ := k_ob h
      refine k_callVv C hP hap hAA (c_X1_bear l ev (fun j => ad (q5 + 10 + 8 * j)) (x_shelf σ6 q5) a2   _ h1) (em_S hq5) (apart_S hap hq5) gz_X1_bear qML_RX3_114 qIM_yX1_bear qSE_yX1_bear ⟨(Nat.le_of_ble_eq_true rfl), (Nat.le_of_ble_eq_true rfl)⟩ (q0 := (q5 + 10)) rfl (by omega) (xw_shelf hq5) rfl rfl rfl hl.1 rfl (Nat.le_of_ble_eq_true rfl) dX3_show_44 ⟨Nat.le_refl _, Nat.le_refl _⟩ (fun H locs hP => ?_)
      obtain ⟨σ8, eσ8, h⟩ := k_ltx h
      rw [← eσ8] at hP
      refine lv_iconst (v := 1) hx hb dX3_show_47 (by decide) ?_
      exact e_iret C hend hP (k_some2 h).1 (congrArg (xw ev ad) (k_some2 h).2) dX3_show_48
    · have h := k_if c32 h
      refine lv_aload_n hx hb dX3_show_35 rfl (lv_at hl 1 rfl) ?_
      obtain ⟨σ9, h1, h⟩ := k_ob h
      refine k_callVv C hP hap hAA (c_X1_empty l ev (fun j => ad (q5 + 10 + 8 * j)) (x_shelf σ6 q5)   _ h1) (em_S hq5) (apart_S hap hq5) gz_X1_empty qML_RX3_111 qIM_yX1_empty qSE_yX1_empty ⟨(Nat.le_of_ble_eq_true rfl), (Nat.le_of_ble_eq_true rfl)⟩ (q0 := (q5 + 10)) rfl (by omega) (xw_shelf hq5) rfl rfl rfl hl.1 rfl (Nat.le_of_ble_eq_true rfl) dX3_show_36 ⟨Nat.le_refl _, Nat.le_refl _⟩ (fun H locs hP => ?_)
      obtain ⟨σ10, eσ10, h⟩ := k_ltx h
      rw [← eσ10] at hP
      refine lv_goto (tgt := 47) hx hb dX3_show_39 (by decide) ?_
      refine lv_iconst (v := 1) hx hb dX3_show_47 (by decide) ?_
      exact e_iret C hend hP (k_some2 h).1 (congrArg (xw ev ad) (k_some2 h).2) dX3_show_48
  refine lv_aload_n hx hb dX3_show_0 rfl (lv_at hl 0 rfl) ?_
  refine lv_iload_n hx hb dX3_show_1 rfl (lv_at hl 1 rfl) ?_
  obtain ⟨o1, h1, h⟩ := k_ob h
  refine k_callVo C hP hap hAA (c_X3_shelfAt l ev ad σ a1   _ h1) Emb.same hap gz_X3_shelfAt qML_RX3_56 qIM_yX3_shelfAt qSE_yX3_shelfAt ⟨(Nat.le_of_ble_eq_true rfl), (Nat.le_of_ble_eq_true rfl)⟩ (q0 := 0) rfl (by decide) rfl rfl rfl rfl hl.1 rfl (Nat.le_of_ble_eq_true rfl) dX3_show_2 ⟨Nat.le_refl _, Nat.le_refl _⟩ (fun H locs hP => ?_)
  rcases o1 with _ | q2
  · have h := k_omN h
    refine lv_astore_nN (lv' := [(3, .null), (0, .ref (ad 0)), (1, .int a1), (2, .int a2)]) hx hb dX3_show_5 rfl hl (by decide) rfl (fun ls hl => ?_)
    refine lv_aload_nN hx hb dX3_show_6 rfl (lv_at hl 0 rfl) ?_
    refine lv_ifnullN (tgt := 23) hx hb dX3_show_7 (by decide) ?_
    refine lv_aload_n hx hb dX3_show_23 rfl (lv_at hl 1 rfl) ?_
    refine lv_bipush (v := (-2)) hx hb dX3_show_24 (by decide) ?_
    obtain ⟨x4, σ3, h1, h⟩ := k_ob2 h
    refine k_callVi C hP hap hAA (c_X3_refuse l ev ad σ (-2)   _ _ h1) Emb.same hap gz_X3_refuse qML_RX3_60 qIM_yX3_refuse qSE_yX3_refuse ⟨(Nat.le_of_ble_eq_true rfl), (Nat.le_of_ble_eq_true rfl)⟩ (q0 := 0) rfl (by decide) rfl rfl rfl rfl hl.1 rfl (Nat.le_of_ble_eq_true rfl) dX3_show_26 ⟨Nat.le_refl _, Nat.le_refl _⟩ (fun H locs hP => ?_)
    exact e_iret C hend hP (k_some2 h).1 (congrArg (xw ev ad) (k_some2 h).2) dX3_show_29
  · obtain ⟨hg, h⟩ := k_gd (k_omS h)
    have hq2 : q2 < 8 := of_decide_eq_true hg
    refine lv_astore_n (lv' := [(3, .ref (ad (q2 + 10))), (0, .ref (ad 0)), (1, .int a1), (2, .int a2)]) hx hb dX3_show_5 rfl hl (by decide) rfl (fun ls hl => ?_)
    refine lv_aload_n hx hb dX3_show_6 rfl (lv_at hl 0 rfl) ?_
    refine lv_ifnull hx hb dX3_show_7 ?_
    refine lv_iload_n hx hb dX3_show_10 rfl (lv_at hl 3 rfl) ?_
    refine lv_iconst (v := (-1)) hx hb dX3_show_11 (by decide) ?_
    refine lv_icmp_eq (tgt := 30) hx hb dX3_show_12 (by decide) (fun c12 => ?_) (fun c12 => ?_)
    · have h := k_if c12 h
      exact hB30 _ hq2 _ _ _ _ h hP (lv_sub hl [3, 0] rfl)
    · have h := k_nf c12 h
      refine lv_aload_n hx hb dX3_show_15 rfl (lv_at hl 1 rfl) ?_
      refine lv_iload_n hx hb dX3_show_16 rfl (lv_at hl 3 rfl) ?_
      refine k_callVi C hP hap hAA (c_X3_isPlayer l ev ad σ a2   _ rfl) Emb.same hap gz_X3_isPlayer qML_RX3_108 qIM_yX3_isPlayer qSE_yX3_isPlayer ⟨(Nat.le_of_ble_eq_true rfl), (Nat.le_of_ble_eq_true rfl)⟩ (q0 := 0) rfl (by decide) rfl rfl rfl rfl hl.1 rfl (Nat.le_of_ble_eq_true rfl) dX3_show_17 ⟨Nat.le_refl _, Nat.le_refl _⟩ (fun H locs hP => ?_)
      refine r_ifz_ne (tgt := 30) hx hb dX3_show_20 (by decide) (fun c20 => ?_) (fun c20 => ?_)
      · have h := k_if c20 h
        exact hB30 _ hq2 _ _ _ _ h hP (lv_sub hl [3, 0] rfl)
      · have h := k_nf c20 h
        refine lv_aload_n hx hb dX3_show_23 rfl (lv_at hl 1 rfl) ?_
        refine lv_bipush (v := (-2)) hx hb dX3_show_24 (by decide) ?_
        obtain ⟨x12, σ11, h1, h⟩ := k_ob2 h
        refine k_callVi C hP hap hAA (c_X3_refuse l ev ad σ (-2)   _ _ h1) Emb.same hap gz_X3_refuse qML_RX3_60 qIM_yX3_refuse qSE_yX3_refuse ⟨(Nat.le_of_ble_eq_true rfl), (Nat.le_of_ble_eq_true rfl)⟩ (q0 := 0) rfl (by decide) rfl rfl rfl rfl hl.1 rfl (Nat.le_of_ble_eq_true rfl) dX3_show_26 ⟨Nat.le_refl _, Nat.le_refl _⟩ (fun H locs hP => ?_)
        exact e_iret C hend hP (k_some2 h).1 (congrArg (xw ev ad) (k_some2 h).2) dX3_show_29
def f_X3_kindOf (σ : XX) (a1 : Int32) : Option (Int32) :=
  if a1 < 0 then some 0 else if 6 ≤ a1 then some 0 else gd (inb a1 6) (some ((x_kinds σ) (Int32.toNatClampNeg a1)))
set_option maxHeartbeats 4000000 in
set_option maxRecDepth 100000 in
theorem c_X3_kindOf (l : Launch) (ev : EV) (ad : Nat → Nat) (σ : XX) (a1 : Int32)   (r : Int32)  (h : f_X3_kindOf σ a1 = some r) : Ct l yX3_kindOf prog_1_method_77_code 2 (Option.some Jvm.ClassFile.FieldType.int) (rmk 0 0) ev 26 ad (xw ev ad σ) (xw ev ad σ) [.ref (ad 0), .int a1] (some (.int r)) := by
  refine Ct.of (by decide +kernel) (Nat.le_of_ble_eq_true rfl) ?_
  intro p e s m args below meth c Qc C hap hP hend ls hl
  have hAA : ∀ j, j < 26 → inA ad 26 (ad j) := fun j hj => ⟨j, hj, rfl⟩
  have hx := C.1
  have hb := C.2.1
  have hl : lv_has ls 2 [(0, .ref (ad 0)), (1, .int a1)] := hl
  have h := (f_X3_kindOf.eq_1 _ _ ).symm.trans h
  refine lv_iload_n hx hb dX3_kindOf_0 rfl (lv_at hl 1 rfl) ?_
  refine lv_if_lt (tgt := 22) hx hb dX3_kindOf_1 (by decide) (fun c1 => ?_) (fun c1 => ?_)
  · have h := k_if c1 h
    refine lv_iconst (v := 0) hx hb dX3_kindOf_22 (by decide) ?_
    exact e_iret C hend hP (k_some h) rfl dX3_kindOf_23
  · have h := k_nf c1 h
    refine lv_iload_n hx hb dX3_kindOf_4 rfl (lv_at hl 1 rfl) ?_
    refine lv_aload_n hx hb dX3_kindOf_5 rfl (lv_at hl 0 rfl) ?_
    refine r_get C hP (ci := 3) rfl uin_X3 4 (by decide) 0 (by decide) rfl qFL_RX3_26 rfl rfl dX3_kindOf_6 ?_
    refine r_alen C hP 4 (by decide) 0 rfl rfl (v := 6) rfl dX3_kindOf_9 ?_
    refine lv_icmp_ge (tgt := 22) hx hb dX3_kindOf_10 (by decide) (fun c10 => ?_) (fun c10 => ?_)
    · have h := k_if c10 h
      refine lv_iconst (v := 0) hx hb dX3_kindOf_22 (by decide) ?_
      exact e_iret C hend hP (k_some h) rfl dX3_kindOf_23
    · have h := k_nf c10 h
      refine lv_aload_n hx hb dX3_kindOf_13 rfl (lv_at hl 0 rfl) ?_
      refine r_get C hP (ci := 3) rfl uin_X3 4 (by decide) 0 (by decide) rfl qFL_RX3_26 rfl rfl dX3_kindOf_14 ?_
      refine lv_iload_n hx hb dX3_kindOf_17 rfl (lv_at hl 1 rfl) ?_
      obtain ⟨hg, h⟩ := k_gd h
      refine r_iald C hP 4 (by decide) rfl hg dX3_kindOf_18 ?_
      refine lv_goto (tgt := 23) hx hb dX3_kindOf_19 (by decide) ?_
      exact e_iret C hend hP (k_some h) rfl dX3_kindOf_23
def f_X3_amountOf (σ : XX) (a1 : Int32) : Option (Int32) :=
  if a1 < 0 then some 0 else if 6 ≤ a1 then some 0 else gd (inb a1 6) (some ((x_amounts σ) (Int32.toNatClampNeg a1)))
set_option maxHeartbeats 4000000 in
set_option maxRecDepth 100000 in
theorem c_X3_amountOf (l : Launch) (ev : EV) (ad : Nat → Nat) (σ : XX) (a1 : Int32)   (r : Int32)  (h : f_X3_amountOf σ a1 = some r) : Ct l yX3_amountOf prog_1_method_78_code 2 (Option.some Jvm.ClassFile.FieldType.int) (rmk 0 0) ev 26 ad (xw ev ad σ) (xw ev ad σ) [.ref (ad 0), .int a1] (some (.int r)) := by
  refine Ct.of (by decide +kernel) (Nat.le_of_ble_eq_true rfl) ?_
  intro p e s m args below meth c Qc C hap hP hend ls hl
  have hAA : ∀ j, j < 26 → inA ad 26 (ad j) := fun j hj => ⟨j, hj, rfl⟩
  have hx := C.1
  have hb := C.2.1
  have hl : lv_has ls 2 [(0, .ref (ad 0)), (1, .int a1)] := hl
  have h := (f_X3_amountOf.eq_1 _ _ ).symm.trans h
  refine lv_iload_n hx hb dX3_amountOf_0 rfl (lv_at hl 1 rfl) ?_
  refine lv_if_lt (tgt := 22) hx hb dX3_amountOf_1 (by decide) (fun c1 => ?_) (fun c1 => ?_)
  · have h := k_if c1 h
    refine lv_iconst (v := 0) hx hb dX3_amountOf_22 (by decide) ?_
    exact e_iret C hend hP (k_some h) rfl dX3_amountOf_23
  · have h := k_nf c1 h
    refine lv_iload_n hx hb dX3_amountOf_4 rfl (lv_at hl 1 rfl) ?_
    refine lv_aload_n hx hb dX3_amountOf_5 rfl (lv_at hl 0 rfl) ?_
    refine r_get C hP (ci := 3) rfl uin_X3 5 (by decide) 0 (by decide) rfl qFL_RX3_30 rfl rfl dX3_amountOf_6 ?_
    refine r_alen C hP 5 (by decide) 0 rfl rfl (v := 6) rfl dX3_amountOf_9 ?_
    refine lv_icmp_ge (tgt := 22) hx hb dX3_amountOf_10 (by decide) (fun c10 => ?_) (fun c10 => ?_)
    · have h := k_if c10 h
      refine lv_iconst (v := 0) hx hb dX3_amountOf_22 (by decide) ?_
      exact e_iret C hend hP (k_some h) rfl dX3_amountOf_23
    · have h := k_nf c10 h
      refine lv_aload_n hx hb dX3_amountOf_13 rfl (lv_at hl 0 rfl) ?_
      refine r_get C hP (ci := 3) rfl uin_X3 5 (by decide) 0 (by decide) rfl qFL_RX3_30 rfl rfl dX3_amountOf_14 ?_
      refine lv_iload_n hx hb dX3_amountOf_17 rfl (lv_at hl 1 rfl) ?_
      obtain ⟨hg, h⟩ := k_gd h
      refine r_iald C hP 5 (by decide) rfl hg dX3_amountOf_18 ?_
      refine lv_goto (tgt := 23) hx hb dX3_amountOf_19 (by decide) ?_
      exact e_iret C hend hP (k_some h) rfl dX3_amountOf_23
def f_X3_chosenSlot_thought_b125  (y4 : Int64) (y5 : Int64) (σ6 : XX) : Option (Int32 × XX) :=
  if (lg_cmp y5 0) = 0 then some ((f_X3_firstSlot y4), σ6) else some ((f_X3_firstSlot y5), σ6)
def f_X3_chosenSlot_thought (σ : XX) (a2 : Int32) : Option (Int32 × XX) :=
  lt (f_X0_openSlots (x_thought σ)) (fun y1 => ob (f_X3_kindOf σ a2) (fun x2 => if x2 = 1 then ob (f_X0_shuttingEdges (x_thought σ)) (fun y3 => f_X3_chosenSlot_thought_b125 y1 y3 σ) else if x2 = 2 then ob (f_X3_amountOf σ a2) (fun x7 => lt (f_X0_digsBelow (x_thought σ) x7 (g_all (x_thought σ))) (fun y8 => f_X3_chosenSlot_thought_b125 y1 y8 σ)) else if x2 = 3 then ob (f_X0_shuttingEdges (x_thought σ)) (fun y9 => if (lg_cmp y9 0) = 0 then ob (f_X0_calmEdges (x_thought σ)) (fun y10 => f_X3_chosenSlot_thought_b125 y1 y10 σ) else f_X3_chosenSlot_thought_b125 y1 y9 σ) else if x2 = 4 then ob (f_X3_amountOf σ a2) (fun x11 => ob (f_X0_touched (x_thought σ) (g_rimEdges (x_thought σ))) (fun x12 => lt (f_X0_digsBelow (x_thought σ) x11 x12) (fun y13 => f_X3_chosenSlot_thought_b125 y1 y13 σ))) else if x2 = 5 then ob2 (f_X0_drawnSlot (x_thought σ) y1) (fun x15 σ14 => lt (x_thought' σ σ14) (fun σ16 => some (x15, σ16))) else f_X3_chosenSlot_thought_b125 y1 0 σ))
set_option maxHeartbeats 4000000 in
set_option maxRecDepth 100000 in
theorem c_X3_chosenSlot_thought (l : Launch) (ev : EV) (ad : Nat → Nat) (σ : XX) (a2 : Int32)   (r : Int32) (σ' : XX) (h : f_X3_chosenSlot_thought σ a2 = some (r, σ')) : Ct l yX3_chosenSlot prog_1_method_81_code 7 (Option.some Jvm.ClassFile.FieldType.int) (rmk 4 89) ev 26 ad (xw ev ad σ) (xw ev ad σ') [.ref (ad 0), .ref (ad 2), .int a2] (some (.int r)) := by
  refine Ct.of (by decide +kernel) (Nat.le_of_ble_eq_true rfl) ?_
  intro p e s m args below meth c Qc C hap hP hend ls hl
  have hAA : ∀ j, j < 26 → inA ad 26 (ad j) := fun j hj => ⟨j, hj, rfl⟩
  have hx := C.1
  have hb := C.2.1
  have hl : lv_has ls 7 [(0, .ref (ad 0)), (1, .ref (ad 2)), (2, .int a2)] := hl
  have h := (f_X3_chosenSlot_thought.eq_1 _ _ ).symm.trans h
  have hB125 : ∀ (y4 : Int64) (y5 : Int64) (σ6 : XX) (H : Heap) (locs : List Loc) (ls : Array Slot), f_X3_chosenSlot_thought_b125  y4 y5 σ6 = some (r, σ') → PS ev 26 ad (xw ev ad σ6) (inA ad 26) s H locs → lv_has ls 7 [(3, .long y4), (5, .long y5)] → WW ev p l e (rmk 4 89) s m args below meth c Qc ad 26 H locs 125 ls [] := by
    intro y4 y5 σ6 H locs ls h hP hl
    have h := (f_X3_chosenSlot_thought_b125.eq_1 _ _ _ ).symm.trans h
    refine lv_lload hx hb dX3_chosenSlot_125 (lv_at hl 1 rfl) ?_
    refine lv_lconst (v := 0) hx hb dX3_chosenSlot_127 (by decide) ?_
    refine W.lcmp hx hb dX3_chosenSlot_128 ?_
    refine lv_if_ne (tgt := 136) hx hb dX3_chosenSlot_129 (by decide) (fun c129 => ?_) (fun c129 => ?_)
    · have h := k_nf c129 h
      refine lv_lload hx hb dX3_chosenSlot_136 (lv_at hl 1 rfl) ?_
      refine k_callSi C hP hap hAA (c_X3_firstSlot l ev ad y5   _ rfl) Emb.none (apart_0 _) gz_X3_firstSlot qML_RX3_318 qSM_yX3_firstSlot ⟨(Nat.le_of_ble_eq_true rfl), (Nat.le_of_ble_eq_true rfl)⟩ rfl hl.1 rfl (Nat.le_of_ble_eq_true rfl) dX3_chosenSlot_138 ⟨Nat.le_refl _, Nat.le_refl _⟩ (fun H locs hP => ?_)
      exact e_iret C hend hP (k_some2 h).1 (congrArg (xw ev ad) (k_some2 h).2) dX3_chosenSlot_141
    · have h := k_if c129 h
      refine lv_lload_n hx hb dX3_chosenSlot_132 rfl (lv_at hl 0 rfl) ?_
      refine lv_goto (tgt := 138) hx hb dX3_chosenSlot_133 (by decide) ?_
      refine k_callSi C hP hap hAA (c_X3_firstSlot l ev ad y4   _ rfl) Emb.none (apart_0 _) gz_X3_firstSlot qML_RX3_318 qSM_yX3_firstSlot ⟨(Nat.le_of_ble_eq_true rfl), (Nat.le_of_ble_eq_true rfl)⟩ rfl hl.1 rfl (Nat.le_of_ble_eq_true rfl) dX3_chosenSlot_138 ⟨Nat.le_refl _, Nat.le_refl _⟩ (fun H locs hP => ?_)
      exact e_iret C hend hP (k_some2 h).1 (congrArg (xw ev ad) (k_some2 h).2) dX3_chosenSlot_141
  refine lv_aload_n hx hb dX3_chosenSlot_0 rfl (lv_at hl 1 rfl) ?_
  refine k_callVl C hP hap hAA (c_X0_openSlots l ev (fun j => ad (j + 2)) (x_thought σ)   _ rfl) (em_G2r) (apart_1 _) gz_X0_openSlots qML_RX3_127 qIM_yX0_openSlots qSE_yX0_openSlots ⟨(Nat.le_of_ble_eq_true rfl), (Nat.le_of_ble_eq_true rfl)⟩ (q0 := 2) rfl (by decide) rfl rfl rfl rfl hl.1 rfl (Nat.le_of_ble_eq_true rfl) dX3_chosenSlot_1 ⟨Nat.le_refl _, Nat.le_refl _⟩ (fun H locs hP => ?_)
  refine lv_topl (fun y1 ey1 => ?_)
  have h := k_lt ey1 h
  refine lv_lstore_n (lv' := [(3, .long y1), (0, .ref (ad 0)), (1, .ref (ad 2)), (2, .int a2)]) hx hb dX3_chosenSlot_4 rfl hl (by decide) rfl (fun ls hl => ?_)
  refine lv_lconst (v := 0) hx hb dX3_chosenSlot_5 (by decide) ?_
  refine lv_lstore (lv' := [(5, .long 0), (3, .long y1), (0, .ref (ad 0)), (1, .ref (ad 2)), (2, .int a2)]) hx hb dX3_chosenSlot_6 hl (by decide) rfl (fun ls hl => ?_)
  refine lv_aload_n hx hb dX3_chosenSlot_8 rfl (lv_at hl 2 rfl) ?_
  refine lv_iload_n hx hb dX3_chosenSlot_9 rfl (lv_at hl 4 rfl) ?_
  obtain ⟨x2, h1, h⟩ := k_ob h
  refine k_callVi C hP hap hAA (c_X3_kindOf l ev ad σ a2   _ h1) Emb.same hap gz_X3_kindOf qML_RX3_118 qIM_yX3_kindOf qSE_yX3_kindOf ⟨(Nat.le_of_ble_eq_true rfl), (Nat.le_of_ble_eq_true rfl)⟩ (q0 := 0) rfl (by decide) rfl rfl rfl rfl hl.1 rfl (Nat.le_of_ble_eq_true rfl) dX3_chosenSlot_10 ⟨Nat.le_refl _, Nat.le_refl _⟩ (fun H locs hP => ?_)
  by_cases cs1 : x2 = 1
  · have h := k_if cs1 h
    refine r_tabIn (tgt := 48) (off := 35) (i := 1) hx hb dX3_chosenSlot_13 cs1 (by decide) (by decide) (by decide) (by decide) ?_
    refine lv_aload_n hx hb dX3_chosenSlot_48 rfl (lv_at hl 3 rfl) ?_
    obtain ⟨y3, h1, h⟩ := k_ob h
    refine k_callVl C hP hap hAA (c_X0_shuttingEdges l ev (fun j => ad (j + 2)) (x_thought σ)   _ h1) (em_G2r) (apart_1 _) gz_X0_shuttingEdges qML_RX3_380 qIM_yX0_shuttingEdges qSE_yX0_shuttingEdges ⟨(Nat.le_of_ble_eq_true rfl), (Nat.le_of_ble_eq_true rfl)⟩ (q0 := 2) rfl (by decide) rfl rfl rfl rfl hl.1 rfl (Nat.le_of_ble_eq_true rfl) dX3_chosenSlot_49 ⟨Nat.le_refl _, Nat.le_refl _⟩ (fun H locs hP => ?_)
    refine lv_lstore (lv' := [(5, .long y3), (3, .long y1), (0, .ref (ad 0)), (1, .ref (ad 2)), (2, .int a2)]) hx hb dX3_chosenSlot_52 hl (by decide) rfl (fun ls hl => ?_)
    refine lv_goto (tgt := 125) hx hb dX3_chosenSlot_54 (by decide) ?_
    exact hB125 _ _ _ _ _ _ h hP (lv_sub hl [1, 0] rfl)
  · have h := k_nf cs1 h
    by_cases cs2 : x2 = 2
    · have h := k_if cs2 h
      refine r_tabIn (tgt := 79) (off := 66) (i := 2) hx hb dX3_chosenSlot_13 cs2 (by decide) (by decide) (by decide) (by decide) ?_
      refine lv_aload_n hx hb dX3_chosenSlot_79 rfl (lv_at hl 3 rfl) ?_
      refine lv_aload_n hx hb dX3_chosenSlot_80 rfl (lv_at hl 2 rfl) ?_
      refine lv_iload_n hx hb dX3_chosenSlot_81 rfl (lv_at hl 4 rfl) ?_
      obtain ⟨x7, h1, h⟩ := k_ob h
      refine k_callVi C hP hap hAA (c_X3_amountOf l ev ad σ a2   _ h1) Emb.same hap gz_X3_amountOf qML_RX3_124 qIM_yX3_amountOf qSE_yX3_amountOf ⟨(Nat.le_of_ble_eq_true rfl), (Nat.le_of_ble_eq_true rfl)⟩ (q0 := 0) rfl (by decide) rfl rfl rfl rfl hl.1 rfl (Nat.le_of_ble_eq_true rfl) dX3_chosenSlot_82 ⟨Nat.le_refl _, Nat.le_refl _⟩ (fun H locs hP => ?_)
      refine lv_aload_n hx hb dX3_chosenSlot_85 rfl (lv_at hl 3 rfl) ?_
      refine r_get C hP (ci := 0) rfl uin_X0 5 (by decide) 2 (by decide) rfl qFL_RX3_293 rfl rfl dX3_chosenSlot_86 ?_
      refine k_callVl C hP hap hAA (c_X0_digsBelow l ev (fun j => ad (j + 2)) (x_thought σ) x7 (g_all (x_thought σ))   _ rfl) (em_G2r) (apart_1 _) gz_X0_digsBelow qML_RX3_383 qIM_yX0_digsBelow qSE_yX0_digsBelow ⟨(Nat.le_of_ble_eq_true rfl), (Nat.le_of_ble_eq_true rfl)⟩ (q0 := 2) rfl (by decide) rfl rfl rfl rfl hl.1 rfl (Nat.le_of_ble_eq_true rfl) dX3_chosenSlot_89 ⟨Nat.le_refl _, Nat.le_refl _⟩ (fun H locs hP => ?_)
      refine lv_topl (fun y8 ey8 => ?_)
      have h := k_lt ey8 h
      refine lv_lstore (lv' := [(5, .long y8), (3, .long y1), (0, .ref (ad 0)), (1, .ref (ad 2)), (2, .int a2)]) hx hb dX3_chosenSlot_92 hl (by decide) rfl (fun ls hl => ?_)
      refine lv_goto (tgt := 125) hx hb dX3_chosenSlot_94 (by decide) ?_
      exact hB125 _ _ _ _ _ _ h hP (lv_sub hl [1, 0] rfl)
    · have h := k_nf cs2 h
      by_cases cs3 : x2 = 3
      · have h := k_if cs3 h
        refine r_tabIn (tgt := 57) (off := 44) (i := 3) hx hb dX3_chosenSlot_13 cs3 (by decide) (by decide) (by decide) (by decide) ?_
        refine lv_aload_n hx hb dX3_chosenSlot_57 rfl (lv_at hl 3 rfl) ?_
        obtain ⟨y9, h1, h⟩ := k_ob h
        refine k_callVl C hP hap hAA (c_X0_shuttingEdges l ev (fun j => ad (j + 2)) (x_thought σ)   _ h1) (em_G2r) (apart_1 _) gz_X0_shuttingEdges qML_RX3_380 qIM_yX0_shuttingEdges qSE_yX0_shuttingEdges ⟨(Nat.le_of_ble_eq_true rfl), (Nat.le_of_ble_eq_true rfl)⟩ (q0 := 2) rfl (by decide) rfl rfl rfl rfl hl.1 rfl (Nat.le_of_ble_eq_true rfl) dX3_chosenSlot_58 ⟨Nat.le_refl _, Nat.le_refl _⟩ (fun H locs hP => ?_)
        refine lv_lstore (lv' := [(5, .long y9), (3, .long y1), (0, .ref (ad 0)), (1, .ref (ad 2)), (2, .int a2)]) hx hb dX3_chosenSlot_61 hl (by decide) rfl (fun ls hl => ?_)
        refine lv_lload hx hb dX3_chosenSlot_63 (lv_at hl 0 rfl) ?_
        refine lv_lconst (v := 0) hx hb dX3_chosenSlot_65 (by decide) ?_
        refine W.lcmp hx hb dX3_chosenSlot_66 ?_
        refine lv_if_ne (tgt := 125) hx hb dX3_chosenSlot_67 (by decide) (fun c67 => ?_) (fun c67 => ?_)
        · have h := k_nf c67 h
          exact hB125 _ _ _ _ _ _ h hP (lv_sub hl [1, 0] rfl)
        · have h := k_if c67 h
          refine lv_aload_n hx hb dX3_chosenSlot_70 rfl (lv_at hl 3 rfl) ?_
          obtain ⟨y10, h1, h⟩ := k_ob h
          refine k_callVl C hP hap hAA (c_X0_calmEdges l ev (fun j => ad (j + 2)) (x_thought σ)   _ h1) (em_G2r) (apart_1 _) gz_X0_calmEdges qML_RX3_290 qIM_yX0_calmEdges qSE_yX0_calmEdges ⟨(Nat.le_of_ble_eq_true rfl), (Nat.le_of_ble_eq_true rfl)⟩ (q0 := 2) rfl (by decide) rfl rfl rfl rfl hl.1 rfl (Nat.le_of_ble_eq_true rfl) dX3_chosenSlot_71 ⟨Nat.le_refl _, Nat.le_refl _⟩ (fun H locs hP => ?_)
          refine lv_lstore (lv' := [(5, .long y10), (3, .long y1), (0, .ref (ad 0)), (1, .ref (ad 2)), (2, .int a2)]) hx hb dX3_chosenSlot_74 hl (by decide) rfl (fun ls hl => ?_)
          refine lv_goto (tgt := 125) hx hb dX3_chosenSlot_76 (by decide) ?_
          exact hB125 _ _ _ _ _ _ h hP (lv_sub hl [1, 0] rfl)
      · have h := k_nf cs3 h
        by_cases cs4 : x2 = 4
        · have h := k_if cs4 h
          refine r_tabIn (tgt := 97) (off := 84) (i := 4) hx hb dX3_chosenSlot_13 cs4 (by decide) (by decide) (by decide) (by decide) ?_
          refine lv_aload_n hx hb dX3_chosenSlot_97 rfl (lv_at hl 3 rfl) ?_
          refine lv_aload_n hx hb dX3_chosenSlot_98 rfl (lv_at hl 2 rfl) ?_
          refine lv_iload_n hx hb dX3_chosenSlot_99 rfl (lv_at hl 4 rfl) ?_
          obtain ⟨x11, h1, h⟩ := k_ob h
          refine k_callVi C hP hap hAA (c_X3_amountOf l ev ad σ a2   _ h1) Emb.same hap gz_X3_amountOf qML_RX3_124 qIM_yX3_amountOf qSE_yX3_amountOf ⟨(Nat.le_of_ble_eq_true rfl), (Nat.le_of_ble_eq_true rfl)⟩ (q0 := 0) rfl (by decide) rfl rfl rfl rfl hl.1 rfl (Nat.le_of_ble_eq_true rfl) dX3_chosenSlot_100 ⟨Nat.le_refl _, Nat.le_refl _⟩ (fun H locs hP => ?_)
          refine lv_aload_n hx hb dX3_chosenSlot_103 rfl (lv_at hl 3 rfl) ?_
          refine lv_aload_n hx hb dX3_chosenSlot_104 rfl (lv_at hl 3 rfl) ?_
          refine r_get C hP (ci := 0) rfl uin_X0 8 (by decide) 2 (by decide) rfl qFL_RX3_221 rfl rfl dX3_chosenSlot_105 ?_
          obtain ⟨x12, h1, h⟩ := k_ob h
          refine k_callVi C hP hap hAA (c_X0_touched l ev (fun j => ad (j + 2)) (x_thought σ) (g_rimEdges (x_thought σ))   _ h1) (em_G2r) (apart_1 _) gz_X0_touched qML_RX3_224 qIM_yX0_touched qSE_yX0_touched ⟨(Nat.le_of_ble_eq_true rfl), (Nat.le_of_ble_eq_true rfl)⟩ (q0 := 2) rfl (by decide) rfl rfl rfl rfl hl.1 rfl (Nat.le_of_ble_eq_true rfl) dX3_chosenSlot_108 ⟨Nat.le_refl _, Nat.le_refl _⟩ (fun H locs hP => ?_)
          refine k_callVl C hP hap hAA (c_X0_digsBelow l ev (fun j => ad (j + 2)) (x_thought σ) x11 x12   _ rfl) (em_G2r) (apart_1 _) gz_X0_digsBelow qML_RX3_383 qIM_yX0_digsBelow qSE_yX0_digsBelow ⟨(Nat.le_of_ble_eq_true rfl), (Nat.le_of_ble_eq_true rfl)⟩ (q0 := 2) rfl (by decide) rfl rfl rfl rfl hl.1 rfl (Nat.le_of_ble_eq_true rfl) dX3_chosenSlot_111 ⟨Nat.le_refl _, Nat.le_refl _⟩ (fun H locs hP => ?_)
          refine lv_topl (fun y13 ey13 => ?_)
          have h := k_lt ey13 h
          refine lv_lstore (lv' := [(5, .long y13), (3, .long y1), (0, .ref (ad 0)), (1, .ref (ad 2)), (2, .int a2)]) hx hb dX3_chosenSlot_114 hl (by decide) rfl (fun ls hl => ?_)
          refine lv_goto (tgt := 125) hx hb dX3_chosenSlot_116 (by decide) ?_
          exact hB125 _ _ _ _ _ _ h hP (lv_sub hl [1, 0] rfl)
        · have h := k_nf cs4 h
          by_cases cs5 : x2 = 5
          · have h := k_if cs5 h
            refine r_tabIn (tgt := 119) (off := 106) (i := 5) hx hb dX3_chosenSlot_13 cs5 (by decide) (by decide) (by decide) (by decide) ?_
            refine lv_aload_n hx hb dX3_chosenSlot_119 rfl (lv_at hl 3 rfl) ?_
            refine lv_lload_n hx hb dX3_chosenSlot_120 rfl (lv_at hl 1 rfl) ?_
            obtain ⟨x15, σ14, h1, h⟩ := k_ob2 h
            refine k_callVi C hP hap hAA (c_X0_drawnSlot l ev (fun j => ad (j + 2)) (x_thought σ) y1   _ _ h1) (em_G2) (apart_1 _) gz_X0_drawnSlot qML_RX3_387 qIM_yX0_drawnSlot qSE_yX0_drawnSlot ⟨(Nat.le_of_ble_eq_true rfl), (Nat.le_of_ble_eq_true rfl)⟩ (q0 := 2) rfl (by decide) rfl rfl rfl rfl hl.1 rfl (Nat.le_of_ble_eq_true rfl) dX3_chosenSlot_121 ⟨Nat.le_refl _, Nat.le_refl _⟩ (fun H locs hP => ?_)
            obtain ⟨σ16, eσ16, h⟩ := k_ltx h
            rw [← eσ16] at hP
            exact e_iret C hend hP (k_some2 h).1 (congrArg (xw ev ad) (k_some2 h).2) dX3_chosenSlot_124
          · have h := k_nf cs5 h
            refine r_tabOut (tgt := 125) hx hb dX3_chosenSlot_13 (fun i h1 h2 => by
              have h3 : i = 1 ∨ i = 2 ∨ i = 3 ∨ i = 4 ∨ i = 5 := by omega
              rcases h3 with rfl | rfl | rfl | rfl | rfl
              · exact cs1
              · exact cs2
              · exact cs3
              · exact cs4
              · exact cs5
              ) (by decide) ?_
            exact hB125 _ _ _ _ _ _ h hP (lv_sub hl [1, 0] rfl)
