/-! functions read off, and their contracts: by program (wip/whole/gen2.py) -/
def f_X2_isAtEnd (σ : TT) : Bool :=
  if (t_from σ) < (t_length σ) then false else true
set_option maxHeartbeats 4000000 in
set_option maxRecDepth 100000 in
theorem c_X2_isAtEnd (l : Launch) (ev : EV) (ad : Nat → Nat) (σ : TT)   (r : Bool)  (h : f_X2_isAtEnd σ = r) : Ct l yX2_isAtEnd prog_4_method_7_code 1 (Option.some Jvm.ClassFile.FieldType.boolean) (rmk 0 0) ev 2 ad (tw ev ad σ) (tw ev ad σ) [.ref (ad 0)] (some (.int (bi r))) := by
  refine Ct.of (by decide +kernel) (Nat.le_of_ble_eq_true rfl) ?_
  intro p e s m args below meth c Qc C hap hP hend ls hl
  have hAA : ∀ j, j < 2 → inA ad 2 (ad j) := fun j hj => ⟨j, hj, rfl⟩
  have hx := C.1
  have hb := C.2.1
  have hl : lv_has ls 1 [(0, .ref (ad 0))] := hl
  have h := (f_X2_isAtEnd.eq_1 _ ).symm.trans h
  refine lv_aload_n hx hb dX2_isAtEnd_0 rfl (lv_at hl 0 rfl) ?_
  refine r_get C hP (ci := 2) rfl uin_X2 2 (by decide) 0 (by decide) rfl qFL_RX2_19 rfl rfl dX2_isAtEnd_1 ?_
  refine lv_aload_n hx hb dX2_isAtEnd_4 rfl (lv_at hl 0 rfl) ?_
  refine r_get C hP (ci := 2) rfl uin_X2 1 (by decide) 0 (by decide) rfl qFL_RX2_15 rfl rfl dX2_isAtEnd_5 ?_
  refine lv_icmp_lt (tgt := 15) hx hb dX2_isAtEnd_8 (by decide) (fun c8 => ?_) (fun c8 => ?_)
  · have h := k_if c8 h
    refine lv_iconst (v := 0) hx hb dX2_isAtEnd_15 (by decide) ?_
    exact e_zret C hend hP h rfl dX2_isAtEnd_16 rfl
  · have h := k_nf c8 h
    refine lv_iconst (v := 1) hx hb dX2_isAtEnd_11 (by decide) ?_
    refine lv_goto (tgt := 16) hx hb dX2_isAtEnd_12 (by decide) ?_
    exact e_zret C hend hP h rfl dX2_isAtEnd_16 rfl
def f_X2_isSign (σ : TT) : Option (Bool) :=
  ob (f_X2_byteAt σ (t_from σ)) (fun x1 => if x1 = 59 then some true else some false)
set_option maxHeartbeats 4000000 in
set_option maxRecDepth 100000 in
theorem c_X2_isSign (l : Launch) (ev : EV) (ad : Nat → Nat) (σ : TT)   (r : Bool)  (h : f_X2_isSign σ = some r) : Ct l yX2_isSign prog_4_method_8_code 1 (Option.some Jvm.ClassFile.FieldType.boolean) (rmk 1 21) ev 2 ad (tw ev ad σ) (tw ev ad σ) [.ref (ad 0)] (some (.int (bi r))) := by
  refine Ct.of (by decide +kernel) (Nat.le_of_ble_eq_true rfl) ?_
  intro p e s m args below meth c Qc C hap hP hend ls hl
  have hAA : ∀ j, j < 2 → inA ad 2 (ad j) := fun j hj => ⟨j, hj, rfl⟩
  have hx := C.1
  have hb := C.2.1
  have hl : lv_has ls 1 [(0, .ref (ad 0))] := hl
  have h := (f_X2_isSign.eq_1 _ ).symm.trans h
  refine lv_aload_n hx hb dX2_isSign_0 rfl (lv_at hl 0 rfl) ?_
  refine lv_aload_n hx hb dX2_isSign_1 rfl (lv_at hl 0 rfl) ?_
  refine r_get C hP (ci := 2) rfl uin_X2 2 (by decide) 0 (by decide) rfl qFL_RX2_19 rfl rfl dX2_isSign_2 ?_
  obtain ⟨x1, h1, h⟩ := k_ob h
  refine k_callVi C hP hap hAA (c_X2_byteAt l ev ad σ (t_from σ)   _ h1) Emb.same hap gz_X2_byteAt qML_RX2_25 qIM_yX2_byteAt qSE_yX2_byteAt ⟨(Nat.le_of_ble_eq_true rfl), (Nat.le_of_ble_eq_true rfl)⟩ (q0 := 0) rfl (by decide) rfl rfl rfl rfl hl.1 rfl (Nat.le_of_ble_eq_true rfl) dX2_isSign_5 ⟨Nat.le_refl _, Nat.le_refl _⟩ (fun H locs hP => ?_)
  refine lv_bipush (v := 59) hx hb dX2_isSign_8 (by decide) ?_
  refine lv_icmp_ne (tgt := 17) hx hb dX2_isSign_10 (by decide) (fun c10 => ?_) (fun c10 => ?_)
  · have h := k_nf c10 h
    refine lv_iconst (v := 0) hx hb dX2_isSign_17 (by decide) ?_
    exact e_zret C hend hP (k_some h) rfl dX2_isSign_18 rfl
  · have h := k_if c10 h
    refine lv_iconst (v := 1) hx hb dX2_isSign_13 (by decide) ?_
    refine lv_goto (tgt := 18) hx hb dX2_isSign_14 (by decide) ?_
    exact e_zret C hend hP (k_some h) rfl dX2_isSign_18 rfl
def f_X2_isWord_w0_L24_b (σ : TT)  (rec24 : Bool → Int32 → Option (Bool)) (b2 : Bool) (x3 : Int32) : Option (Bool) :=
  if 4 ≤ x3 then some b2 else if b2 = true then ob (f_X2_byteAt σ ((t_from σ) + x3)) (fun x4 => gd (inb x3 4) (if x4 = (sch 0 x3) then lt (x3 + 1) (fun x6 => rec24 true x6) else lt (x3 + 1) (fun x5 => rec24 false x5))) else some b2
def f_X2_isWord_w0_L24 (σ : TT)  (b2 : Bool) (x3 : Int32) : Option (Bool) :=
  lp (fun _ _ => none) (f_X2_isWord_w0_L24_b σ ) FU b2 x3
def f_X2_isWord_w0_b21 (σ : TT) (b1 : Bool) : Option (Bool) :=
  f_X2_isWord_w0_L24 σ b1 0
def f_X2_isWord_w0 (σ : TT) : Option (Bool) :=
  if ((t_upto σ) - (t_from σ)) = 4 then f_X2_isWord_w0_b21 σ true else f_X2_isWord_w0_b21 σ false
set_option maxHeartbeats 4000000 in
set_option maxRecDepth 100000 in
theorem c_X2_isWord_w0 (l : Launch) (ev : EV) (ad : Nat → Nat) (σ : TT)   (r : Bool)  (h : f_X2_isWord_w0 σ = some r) : Ct l yX2_isWord prog_4_method_9_code 4 (Option.some Jvm.ClassFile.FieldType.boolean) (rmk 8 300) ev 2 ad (tw ev ad σ) (tw ev ad σ) [.ref (ad 0), .ref (ev.2.2.2.1 0)] (some (.int (bi r))) := by
  refine Ct.of (by decide +kernel) (Nat.le_of_ble_eq_true rfl) ?_
  intro p e s m args below meth c Qc C hap hP hend ls hl
  have hAA : ∀ j, j < 2 → inA ad 2 (ad j) := fun j hj => ⟨j, hj, rfl⟩
  have hx := C.1
  have hb := C.2.1
  have hl : lv_has ls 4 [(0, .ref (ad 0)), (1, .ref (ev.2.2.2.1 0))] := hl
  have h := (f_X2_isWord_w0.eq_1 _ ).symm.trans h
  have hB21 : ∀ (b1 : Bool) (H : Heap) (locs : List Loc) (ls : Array Slot), f_X2_isWord_w0_b21 σ b1 = some r → PS ev 2 ad (tw ev ad σ) (inA ad 2) s H locs → lv_has ls 4 [(0, .ref (ad 0)), (1, .ref (ev.2.2.2.1 0))] → WW ev p l e (rmk 8 300) s m args below meth c Qc ad 2 H locs 21 ls [.int (bi b1)] := by
    intro b1 H locs ls h hP hl
    have h := (f_X2_isWord_w0_b21.eq_1 _ _ ).symm.trans h
    refine lv_istore_n (lv' := [(2, .int (bi b1)), (0, .ref (ad 0)), (1, .ref (ev.2.2.2.1 0))]) hx hb dX2_isWord_21 rfl hl (by decide) rfl (fun ls hl => ?_)
    refine lv_iconst (v := 0) hx hb dX2_isWord_22 (by decide) ?_
    refine lv_istore_n (lv' := [(3, .int 0), (2, .int (bi b1)), (0, .ref (ad 0)), (1, .ref (ev.2.2.2.1 0))]) hx hb dX2_isWord_23 rfl hl (by decide) rfl (fun ls hl => ?_)
    have hL24 : ∀ (n : Nat) (b2 : Bool) (x3 : Int32) (H : Heap) (locs : List Loc) (ls : Array Slot), lp (fun _ _ => none) (f_X2_isWord_w0_L24_b σ ) n b2 x3 = some r → PS ev 2 ad (tw ev ad σ) (inA ad 2) s H locs → lv_has ls 4 [(0, .ref (ad 0)), (1, .ref (ev.2.2.2.1 0)), (2, .int (bi b2)), (3, .int x3)] → WW ev p l e (rmk 8 300) s m args below meth c Qc ad 2 H locs 24 ls [] := by
      intro n
      induction n with
      | zero =>
        intro b2 x3 H locs ls h; exact k_none h
      | succ n ih =>
        intro b2 x3 H locs ls h hP hl
        have h : f_X2_isWord_w0_L24_b σ  (lp (fun _ _ => none) (f_X2_isWord_w0_L24_b σ ) n) b2 x3 = some r := h
        have h := (f_X2_isWord_w0_L24_b.eq_1 _ _ _ _ ).symm.trans h
        refine lv_iload_n hx hb dX2_isWord_24 rfl (lv_at hl 3 rfl) ?_
        refine lv_aload_n hx hb dX2_isWord_25 rfl (lv_at hl 1 rfl) ?_
        refine r_slen C hP hap hAA 0 (by decide) qML_RX2_38 ⟨(Nat.le_of_ble_eq_true rfl), (Nat.le_of_ble_eq_true rfl)⟩ hl.1 (by exact (Nat.le_of_ble_eq_true rfl)) dX2_isWord_26 ⟨Nat.le_refl _, Nat.le_refl _⟩ (v := 4) rfl (fun H locs hP => ?_)
        refine lv_icmp_ge (tgt := 66) hx hb dX2_isWord_29 (by decide) (fun c29 => ?_) (fun c29 => ?_)
        · have h := k_if c29 h
          refine lv_iload_n hx hb dX2_isWord_66 rfl (lv_at hl 2 rfl) ?_
          exact e_zret C hend hP (k_some h) rfl dX2_isWord_67 rfl
        · have h := k_nf c29 h
          refine lv_iload_n hx hb dX2_isWord_32 rfl (lv_at hl 2 rfl) ?_
          refine r_ifz_eq (tgt := 66) hx hb dX2_isWord_33 (by decide) (fun c33 => ?_) (fun c33 => ?_)
          · have h := k_nf c33 h
            refine lv_iload_n hx hb dX2_isWord_66 rfl (lv_at hl 2 rfl) ?_
            exact e_zret C hend hP (k_some h) rfl dX2_isWord_67 rfl
          · have h := k_if c33 h
            refine lv_aload_n hx hb dX2_isWord_36 rfl (lv_at hl 0 rfl) ?_
            refine lv_aload_n hx hb dX2_isWord_37 rfl (lv_at hl 0 rfl) ?_
            refine r_get C hP (ci := 2) rfl uin_X2 2 (by decide) 0 (by decide) rfl qFL_RX2_19 rfl rfl dX2_isWord_38 ?_
            refine lv_iload_n hx hb dX2_isWord_41 rfl (lv_at hl 3 rfl) ?_
            refine lv_iadd hx hb dX2_isWord_42 ?_
            obtain ⟨x4, h1, h⟩ := k_ob h
            refine k_callVi C hP hap hAA (c_X2_byteAt l ev ad σ ((t_from σ) + x3)   _ h1) Emb.same hap gz_X2_byteAt qML_RX2_25 qIM_yX2_byteAt qSE_yX2_byteAt ⟨(Nat.le_of_ble_eq_true rfl), (Nat.le_of_ble_eq_true rfl)⟩ (q0 := 0) rfl (by decide) rfl rfl rfl rfl hl.1 rfl (Nat.le_of_ble_eq_true rfl) dX2_isWord_43 ⟨Nat.le_refl _, Nat.le_refl _⟩ (fun H locs hP => ?_)
            refine lv_aload_n hx hb dX2_isWord_46 rfl (lv_at hl 1 rfl) ?_
            refine lv_iload_n hx hb dX2_isWord_47 rfl (lv_at hl 3 rfl) ?_
            obtain ⟨hg, h⟩ := k_gd h
            refine r_schar C hP hap hAA 0 (by decide) hg qML_RX2_43 ⟨(Nat.le_of_ble_eq_true rfl), (Nat.le_of_ble_eq_true rfl)⟩ hl.1 (by exact (Nat.le_of_ble_eq_true rfl)) dX2_isWord_48 ⟨Nat.le_refl _, Nat.le_refl _⟩ rfl (fun H locs hP => ?_)
            refine lv_icmp_ne (tgt := 58) hx hb dX2_isWord_51 (by decide) (fun c51 => ?_) (fun c51 => ?_)
            · have h := k_nf c51 h
              refine lv_iconst (v := 0) hx hb dX2_isWord_58 (by decide) ?_
              refine lv_istore_n (lv' := [(2, .int (bi false)), (0, .ref (ad 0)), (1, .ref (ev.2.2.2.1 0)), (3, .int x3)]) hx hb dX2_isWord_59 rfl hl (by decide) rfl (fun ls hl => ?_)
              obtain ⟨x5, ex5, h⟩ := k_ltx h
              refine lv_iinc (v := x5) (lv' := [(3, .int x5), (2, .int (bi false)), (0, .ref (ad 0)), (1, .ref (ev.2.2.2.1 0))]) hx hb dX2_isWord_60 hl (k := 3) rfl (by rw [ex5]; rfl) (by decide) rfl (fun ls hl => ?_)
              refine lv_goto (tgt := 24) hx hb dX2_isWord_63 (by decide) ?_
              exact ih _ _ _ _ _ h hP (lv_sub hl [2, 3, 1, 0] rfl)
            · have h := k_if c51 h
              refine lv_iconst (v := 1) hx hb dX2_isWord_54 (by decide) ?_
              refine lv_goto (tgt := 59) hx hb dX2_isWord_55 (by decide) ?_
              refine lv_istore_n (lv' := [(2, .int (bi true)), (0, .ref (ad 0)), (1, .ref (ev.2.2.2.1 0)), (3, .int x3)]) hx hb dX2_isWord_59 rfl hl (by decide) rfl (fun ls hl => ?_)
              obtain ⟨x6, ex6, h⟩ := k_ltx h
              refine lv_iinc (v := x6) (lv' := [(3, .int x6), (2, .int (bi true)), (0, .ref (ad 0)), (1, .ref (ev.2.2.2.1 0))]) hx hb dX2_isWord_60 hl (k := 3) rfl (by rw [ex6]; rfl) (by decide) rfl (fun ls hl => ?_)
              refine lv_goto (tgt := 24) hx hb dX2_isWord_63 (by decide) ?_
              exact ih _ _ _ _ _ h hP (lv_sub hl [2, 3, 1, 0] rfl)
    exact hL24 FU _ _ _ _ _ h hP (lv_sub hl [2, 3, 1, 0] rfl)
  refine lv_aload_n hx hb dX2_isWord_0 rfl (lv_at hl 0 rfl) ?_
  refine r_get C hP (ci := 2) rfl uin_X2 3 (by decide) 0 (by decide) rfl qFL_RX2_22 rfl rfl dX2_isWord_1 ?_
  refine lv_aload_n hx hb dX2_isWord_4 rfl (lv_at hl 0 rfl) ?_
  refine r_get C hP (ci := 2) rfl uin_X2 2 (by decide) 0 (by decide) rfl qFL_RX2_19 rfl rfl dX2_isWord_5 ?_
  refine lv_isub hx hb dX2_isWord_8 ?_
  refine lv_aload_n hx hb dX2_isWord_9 rfl (lv_at hl 1 rfl) ?_
  refine r_slen C hP hap hAA 0 (by decide) qML_RX2_38 ⟨(Nat.le_of_ble_eq_true rfl), (Nat.le_of_ble_eq_true rfl)⟩ hl.1 (by exact (Nat.le_of_ble_eq_true rfl)) dX2_isWord_10 ⟨Nat.le_refl _, Nat.le_refl _⟩ (v := 4) rfl (fun H locs hP => ?_)
  refine lv_icmp_ne (tgt := 20) hx hb dX2_isWord_13 (by decide) (fun c13 => ?_) (fun c13 => ?_)
  · have h := k_nf c13 h
    refine lv_iconst (v := 0) hx hb dX2_isWord_20 (by decide) ?_
    exact hB21 _ _ _ _ h hP (lv_sub hl [0, 1] rfl)
  · have h := k_if c13 h
    refine lv_iconst (v := 1) hx hb dX2_isWord_16 (by decide) ?_
    refine lv_goto (tgt := 21) hx hb dX2_isWord_17 (by decide) ?_
    exact hB21 _ _ _ _ h hP (lv_sub hl [0, 1] rfl)
def f_X2_numberHere_L34_b (σ : TT)  (rec34 : Int32 → Int32 → Option (Int32)) (x3 : Int32) (x4 : Int32) : Option (Int32) :=
  if (t_upto σ) ≤ x4 then some x3 else ob (f_X2_byteAt σ x4) (fun x5 => lt (((x3 * 10) + x5) - 48) (fun x6 => lt (x4 + 1) (fun x7 => rec34 x6 x7)))
def f_X2_numberHere_L34 (σ : TT)  (x3 : Int32) (x4 : Int32) : Option (Int32) :=
  lp (fun _ _ => none) (f_X2_numberHere_L34_b σ ) FU x3 x4
def f_X2_numberHere (σ : TT) : Option (Int32) :=
  ob (f_X2_sortAt σ (t_from σ)) (fun x1 => if x1 = 2 then if ((t_upto σ) - (t_from σ)) ≤ 2 then lt (t_from σ) (fun x2 => f_X2_numberHere_L34 σ 0 x2) else some (-1) else some (-1))
set_option maxHeartbeats 4000000 in
set_option maxRecDepth 100000 in
theorem c_X2_numberHere (l : Launch) (ev : EV) (ad : Nat → Nat) (σ : TT)   (r : Int32)  (h : f_X2_numberHere σ = some r) : Ct l yX2_numberHere prog_4_method_10_code 3 (Option.some Jvm.ClassFile.FieldType.int) (rmk 2 43) ev 2 ad (tw ev ad σ) (tw ev ad σ) [.ref (ad 0)] (some (.int r)) := by
  refine Ct.of (by decide +kernel) (Nat.le_of_ble_eq_true rfl) ?_
  intro p e s m args below meth c Qc C hap hP hend ls hl
  have hAA : ∀ j, j < 2 → inA ad 2 (ad j) := fun j hj => ⟨j, hj, rfl⟩
  have hx := C.1
  have hb := C.2.1
  have hl : lv_has ls 3 [(0, .ref (ad 0))] := hl
  have h := (f_X2_numberHere.eq_1 _ ).symm.trans h
  refine lv_aload_n hx hb dX2_numberHere_0 rfl (lv_at hl 0 rfl) ?_
  refine lv_aload_n hx hb dX2_numberHere_1 rfl (lv_at hl 0 rfl) ?_
  refine r_get C hP (ci := 2) rfl uin_X2 2 (by decide) 0 (by decide) rfl qFL_RX2_19 rfl rfl dX2_numberHere_2 ?_
  obtain ⟨x1, h1, h⟩ := k_ob h
  refine k_callVi C hP hap hAA (c_X2_sortAt l ev ad σ (t_from σ)   _ h1) Emb.same hap gz_X2_sortAt qML_RX2_29 qIM_yX2_sortAt qSE_yX2_sortAt ⟨(Nat.le_of_ble_eq_true rfl), (Nat.le_of_ble_eq_true rfl)⟩ (q0 := 0) rfl (by decide) rfl rfl rfl rfl hl.1 rfl (Nat.le_of_ble_eq_true rfl) dX2_numberHere_5 ⟨Nat.le_refl _, Nat.le_refl _⟩ (fun H locs hP => ?_)
  refine lv_iconst (v := 2) hx hb dX2_numberHere_8 (by decide) ?_
  refine lv_icmp_ne (tgt := 25) hx hb dX2_numberHere_9 (by decide) (fun c9 => ?_) (fun c9 => ?_)
  · have h := k_nf c9 h
    refine lv_iconst (v := (-1)) hx hb dX2_numberHere_25 (by decide) ?_
    exact e_iret C hend hP (k_some h) rfl dX2_numberHere_26
  · have h := k_if c9 h
    refine lv_aload_n hx hb dX2_numberHere_12 rfl (lv_at hl 0 rfl) ?_
    refine r_get C hP (ci := 2) rfl uin_X2 3 (by decide) 0 (by decide) rfl qFL_RX2_22 rfl rfl dX2_numberHere_13 ?_
    refine lv_aload_n hx hb dX2_numberHere_16 rfl (lv_at hl 0 rfl) ?_
    refine r_get C hP (ci := 2) rfl uin_X2 2 (by decide) 0 (by decide) rfl qFL_RX2_19 rfl rfl dX2_numberHere_17 ?_
    refine lv_isub hx hb dX2_numberHere_20 ?_
    refine lv_iconst (v := 2) hx hb dX2_numberHere_21 (by decide) ?_
    refine lv_icmp_le (tgt := 27) hx hb dX2_numberHere_22 (by decide) (fun c22 => ?_) (fun c22 => ?_)
    · have h := k_if c22 h
      refine lv_iconst (v := 0) hx hb dX2_numberHere_27 (by decide) ?_
      refine lv_istore_n (lv' := [(1, .int 0), (0, .ref (ad 0))]) hx hb dX2_numberHere_28 rfl hl (by decide) rfl (fun ls hl => ?_)
      refine lv_aload_n hx hb dX2_numberHere_29 rfl (lv_at hl 1 rfl) ?_
      refine r_get C hP (ci := 2) rfl uin_X2 2 (by decide) 0 (by decide) rfl qFL_RX2_19 rfl rfl dX2_numberHere_30 ?_
      refine lv_topi (fun x2 ex2 => ?_)
      have h := k_lt ex2 h
      refine lv_istore_n (lv' := [(2, .int x2), (1, .int 0), (0, .ref (ad 0))]) hx hb dX2_numberHere_33 rfl hl (by decide) rfl (fun ls hl => ?_)
      have hL34 : ∀ (n : Nat) (x3 : Int32) (x4 : Int32) (H : Heap) (locs : List Loc) (ls : Array Slot), lp (fun _ _ => none) (f_X2_numberHere_L34_b σ ) n x3 x4 = some r → PS ev 2 ad (tw ev ad σ) (inA ad 2) s H locs → lv_has ls 3 [(0, .ref (ad 0)), (1, .int x3), (2, .int x4)] → WW ev p l e (rmk 2 43) s m args below meth c Qc ad 2 H locs 34 ls [] := by
        intro n
        induction n with
        | zero =>
          intro x3 x4 H locs ls h; exact k_none h
        | succ n ih =>
          intro x3 x4 H locs ls h hP hl
          have h : f_X2_numberHere_L34_b σ  (lp (fun _ _ => none) (f_X2_numberHere_L34_b σ ) n) x3 x4 = some r := h
          have h := (f_X2_numberHere_L34_b.eq_1 _ _ _ _ ).symm.trans h
          refine lv_iload_n hx hb dX2_numberHere_34 rfl (lv_at hl 2 rfl) ?_
          refine lv_aload_n hx hb dX2_numberHere_35 rfl (lv_at hl 0 rfl) ?_
          refine r_get C hP (ci := 2) rfl uin_X2 3 (by decide) 0 (by decide) rfl qFL_RX2_22 rfl rfl dX2_numberHere_36 ?_
          refine lv_icmp_ge (tgt := 62) hx hb dX2_numberHere_39 (by decide) (fun c39 => ?_) (fun c39 => ?_)
          · have h := k_if c39 h
            refine lv_iload_n hx hb dX2_numberHere_62 rfl (lv_at hl 1 rfl) ?_
            exact e_iret C hend hP (k_some h) rfl dX2_numberHere_63
          · have h := k_nf c39 h
            refine lv_iload_n hx hb dX2_numberHere_42 rfl (lv_at hl 1 rfl) ?_
            refine lv_bipush (v := 10) hx hb dX2_numberHere_43 (by decide) ?_
            refine lv_imul hx hb dX2_numberHere_45 ?_
            refine lv_aload_n hx hb dX2_numberHere_46 rfl (lv_at hl 0 rfl) ?_
            refine lv_iload_n hx hb dX2_numberHere_47 rfl (lv_at hl 2 rfl) ?_
            obtain ⟨x5, h1, h⟩ := k_ob h
            refine k_callVi C hP hap hAA (c_X2_byteAt l ev ad σ x4   _ h1) Emb.same hap gz_X2_byteAt qML_RX2_25 qIM_yX2_byteAt qSE_yX2_byteAt ⟨(Nat.le_of_ble_eq_true rfl), (Nat.le_of_ble_eq_true rfl)⟩ (q0 := 0) rfl (by decide) rfl rfl rfl rfl hl.1 rfl (Nat.le_of_ble_eq_true rfl) dX2_numberHere_48 ⟨Nat.le_refl _, Nat.le_refl _⟩ (fun H locs hP => ?_)
            refine lv_iadd hx hb dX2_numberHere_51 ?_
            refine lv_bipush (v := 48) hx hb dX2_numberHere_52 (by decide) ?_
            refine lv_isub hx hb dX2_numberHere_54 ?_
            refine lv_topi (fun x6 ex6 => ?_)
            have h := k_lt ex6 h
            refine lv_istore_n (lv' := [(1, .int x6), (0, .ref (ad 0)), (2, .int x4)]) hx hb dX2_numberHere_55 rfl hl (by decide) rfl (fun ls hl => ?_)
            obtain ⟨x7, ex7, h⟩ := k_ltx h
            refine lv_iinc (v := x7) (lv' := [(2, .int x7), (1, .int x6), (0, .ref (ad 0))]) hx hb dX2_numberHere_56 hl (k := 2) rfl (by rw [ex7]; rfl) (by decide) rfl (fun ls hl => ?_)
            refine lv_goto (tgt := 34) hx hb dX2_numberHere_59 (by decide) ?_
            exact ih _ _ _ _ _ h hP (lv_sub hl [2, 1, 0] rfl)
      exact hL34 FU _ _ _ _ _ h hP (lv_sub hl [2, 1, 0] rfl)
    · have h := k_nf c22 h
      refine lv_iconst (v := (-1)) hx hb dX2_numberHere_25 (by decide) ?_
      exact e_iret C hend hP (k_some h) rfl dX2_numberHere_26
def f_X3_shelfAt (σ : XX) (a1 : Int32) : Option (Option Nat) :=
  if a1 < 0 then some none else if a1 < 8 then gd (inb a1 8) (some (some (Int32.toNatClampNeg a1))) else some none
set_option maxHeartbeats 4000000 in
set_option maxRecDepth 100000 in
theorem c_X3_shelfAt (l : Launch) (ev : EV) (ad : Nat → Nat) (σ : XX) (a1 : Int32)   (r : Option Nat)  (h : f_X3_shelfAt σ a1 = some r) : Ct l yX3_shelfAt prog_1_method_70_code 2 (Option.some (Jvm.ClassFile.FieldType.object "HedgesAndDitches$Shelf")) (rmk 0 0) ev 26 ad (xw ev ad σ) (xw ev ad σ) [.ref (ad 0), .int a1] (some (va_rf (r.map (fun k => ad (k + 10))))) := by
  refine Ct.of (by decide +kernel) (Nat.le_of_ble_eq_true rfl) ?_
  intro p e s m args below meth c Qc C hap hP hend ls hl
  have hAA : ∀ j, j < 26 → inA ad 26 (ad j) := fun j hj => ⟨j, hj, rfl⟩
  have hx := C.1
  have hb := C.2.1
  have hl : lv_has ls 2 [(0, .ref (ad 0)), (1, .int a1)] := hl
  have h := (f_X3_shelfAt.eq_1 _ _ ).symm.trans h
  refine lv_iload_n hx hb dX3_shelfAt_0 rfl (lv_at hl 1 rfl) ?_
  refine lv_if_lt (tgt := 13) hx hb dX3_shelfAt_1 (by decide) (fun c1 => ?_) (fun c1 => ?_)
  · have h := k_if c1 h
    refine lv_null hx hb dX3_shelfAt_13 ?_
    refine lv_goto (tgt := 23) hx hb dX3_shelfAt_14 (by decide) ?_
    obtain rfl := k_some h
    exact e_aret C hend hP rfl (Or.inl rfl) rfl dX3_shelfAt_23
  · have h := k_nf c1 h
    refine lv_iload_n hx hb dX3_shelfAt_4 rfl (lv_at hl 1 rfl) ?_
    refine lv_aload_n hx hb dX3_shelfAt_5 rfl (lv_at hl 0 rfl) ?_
    refine r_get C hP (ci := 3) rfl uin_X3 8 (by decide) 0 (by decide) rfl qFL_RX3_41 rfl rfl dX3_shelfAt_6 ?_
    refine r_alen C hP 7 (by decide) 4 rfl rfl (v := 8) rfl dX3_shelfAt_9 ?_
    refine lv_icmp_lt (tgt := 17) hx hb dX3_shelfAt_10 (by decide) (fun c10 => ?_) (fun c10 => ?_)
    · have h := k_if c10 h
      refine lv_aload_n hx hb dX3_shelfAt_17 rfl (lv_at hl 0 rfl) ?_
      refine r_get C hP (ci := 3) rfl uin_X3 8 (by decide) 0 (by decide) rfl qFL_RX3_41 rfl rfl dX3_shelfAt_18 ?_
      refine lv_iload_n hx hb dX3_shelfAt_21 rfl (lv_at hl 1 rfl) ?_
      obtain ⟨hg, h⟩ := k_gd h
      refine r_aald C hP 7 (by decide) rfl hg dX3_shelfAt_22 ?_
      obtain rfl := k_some h
      exact e_aret C hend hP rfl (Or.inr ⟨_, rfl⟩) rfl dX3_shelfAt_23
    · have h := k_nf c10 h
      refine lv_null hx hb dX3_shelfAt_13 ?_
      refine lv_goto (tgt := 23) hx hb dX3_shelfAt_14 (by decide) ?_
      obtain rfl := k_some h
      exact e_aret C hend hP rfl (Or.inl rfl) rfl dX3_shelfAt_23
