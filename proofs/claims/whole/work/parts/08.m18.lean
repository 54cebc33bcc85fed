/-! functions read off, and their contracts: by program (wip/whole/gen2.py) -/
def f_X2_isWord_w3_L24_b (σ : TT)  (rec24 : Bool → Int32 → Option (Bool)) (b2 : Bool) (x3 : Int32) : Option (Bool) :=
  if 4 ≤ x3 then some b2 else if b2 = true then ob (f_X2_byteAt σ ((t_from σ) + x3)) (fun x4 => gd (inb x3 4) (if x4 = (sch 3 x3) then lt (x3 + 1) (fun x6 => rec24 true x6) else lt (x3 + 1) (fun x5 => rec24 false x5))) else some b2
def f_X2_isWord_w3_L24 (σ : TT)  (b2 : Bool) (x3 : Int32) : Option (Bool) :=
  lp (fun _ _ => none) (f_X2_isWord_w3_L24_b σ ) FU b2 x3
def f_X2_isWord_w3_b21 (σ : TT) (b1 : Bool) : Option (Bool) :=
  f_X2_isWord_w3_L24 σ b1 0
def f_X2_isWord_w3 (σ : TT) : Option (Bool) :=
  if ((t_upto σ) - (t_from σ)) = 4 then f_X2_isWord_w3_b21 σ true else f_X2_isWord_w3_b21 σ false
set_option maxHeartbeats 4000000 in
set_option maxRecDepth 100000 in
theorem c_X2_isWord_w3 (l : Launch) (ev : EV) (ad : Nat → Nat) (σ : TT)   (r : Bool)  (h : f_X2_isWord_w3 σ = some r) : Ct l yX2_isWord prog_4_method_9_code 4 (Option.some Jvm.ClassFile.FieldType.boolean) (rmk 8 300) ev 2 ad (tw ev ad σ) (tw ev ad σ) [.ref (ad 0), .ref (ev.2.2.2.1 3)] (some (.int (bi r))) := by
  refine Ct.of (by decide +kernel) (Nat.le_of_ble_eq_true rfl) ?_
  intro p e s m args below meth c Qc C hap hP hend ls hl
  have hAA : ∀ j, j < 2 → inA ad 2 (ad j) := fun j hj => ⟨j, hj, rfl⟩
  have hx := C.1
  have hb := C.2.1
  have hl : lv_has ls 4 [(0, .ref (ad 0)), (1, .ref (ev.2.2.2.1 3))] := hl
  have h := (f_X2_isWord_w3.eq_1 _ ).symm.trans h
  have hB21 : ∀ (b1 : Bool) (H : Heap) (locs : List Loc) (ls : Array Slot), f_X2_isWord_w3_b21 σ b1 = some r → PS ev 2 ad (tw ev ad σ) (inA ad 2) s H locs → lv_has ls 4 [(0, .ref (ad 0)), (1, .ref (ev.2.2.2.1 3))] → WW ev p l e (rmk 8 300) s m args below meth c Qc ad 2 H locs 21 ls [.int (bi b1)] := by
    intro b1 H locs ls h hP hl
    have h := (f_X2_isWord_w3_b21.eq_1 _ _ ).symm.trans h
    refine lv_istore_n (lv' := [(2, .int (bi b1)), (0, .ref (ad 0)), (1, .ref (ev.2.2.2.1 3))]) hx hb dX2_isWord_21 rfl hl (by decide) rfl (fun ls hl => ?_)
    refine lv_iconst (v := 0) hx hb dX2_isWord_22 (by decide) ?_
    refine lv_istore_n (lv' := [(3, .int 0), (2, .int (bi b1)), (0, .ref (ad 0)), (1, .ref (ev.2.2.2.1 3))]) hx hb dX2_isWord_23 rfl hl (by decide) rfl (fun ls hl => ?_)
    have hL24 : ∀ (n : Nat) (b2 : Bool) (x3 : Int32) (H : Heap) (locs : List Loc) (ls : Array Slot), lp (fun _ _ => none) (f_X2_isWord_w3_L24_b σ ) n b2 x3 = some r → PS ev 2 ad (tw ev ad σ) (inA ad 2) s H locs → lv_has ls 4 [(0, .ref (ad 0)), (1, .ref (ev.2.2.2.1 3)), (2, .int (bi b2)), (3, .int x3)] → WW ev p l e (rmk 8 300) s m args below meth c Qc ad 2 H locs 24 ls [] := by
      intro n
      induction n with
      | zero =>
        intro b2 x3 H locs ls h; exact k_none h
      | succ n ih =>
        intro b2 x3 H locs ls h hP hl
        have h : f_X2_isWord_w3_L24_b σ  (lp (fun _ _ => none) (f_X2_isWord_w3_L24_b σ ) n) b2 x3 = some r := h
        have h := (f_X2_isWord_w3_L24_b.eq_1 _ _ _ _ ).symm.trans h
        refine lv_iload_n hx hb dX2_isWord_24 rfl (lv_at hl 3 rfl) ?_
        refine lv_aload_n hx hb dX2_isWord_25 rfl (lv_at hl 1 rfl) ?_
        refine r_slen C hP hap hAA 3 (by decide) qML_RX2_38 ⟨(Nat.le_of_ble_eq_true rfl), (Nat.le_of_ble_eq_true rfl)⟩ hl.1 (by exact (Nat.le_of_ble_eq_true rfl)) dX2_isWord_26 ⟨Nat.le_refl _, Nat.le_refl _⟩ (v := 4) rfl (fun H locs hP => ?_)
        refine lv_icmp_ge (tgt := 66) hx hb dX2_isWord_29 (by decide) (fun c29 => ?_) (fun c29 => ?_)
        · have h := k_if c29 h
          refine lv_iload_n hx hb dX2_isWord_66 rfl (lv_at hl 2 rfl) ?_
          exact e_zret C hend hP (k_some h) rfl dX2_isWord_67 rfl
        · have h := k_nf c29 h
          refine lv_iload_n hx hb dX2_isWord_32 rfl (lv_at hl 2 rfl) ?_
          refine r_ifz_eq (tgt := 66) hx hb dX2_isWord_33 (by decide) (fun c33 => ?_) (fun c33 => ?_)
          · have h := k_nf c33 h
            refine lv_iload_n hx hb dX2_isWord_66 rfl (lv_at hl 2 rfl) ?_
            exact e_zret C hend hP (k_some h) rfl dX2_isWord_67 rfl
          · have h := k_if c33 h
            refine lv_aload_n hx hb dX2_isWord_36 rfl (lv_at hl 0 rfl) ?_
            refine lv_aload_n hx hb dX2_isWord_37 rfl (lv_at hl 0 rfl) ?_
            refine r_get C hP (ci := 2) rfl uin_X2 2 (by decide) 0 (by decide) rfl qFL_RX2_19 rfl rfl dX2_isWord_38 ?_
            refine lv_iload_n hx hb dX2_isWord_41 rfl (lv_at hl 3 rfl) ?_
            refine lv_iadd hx hb dX2_isWord_42 ?_
            obtain ⟨x4, h1, h⟩ := k_ob h
            refine k_callVi C hP hap hAA (c_X2_byteAt l ev ad σ ((t_from σ) + x3)   _ h1) Emb.same hap gz_X2_byteAt qML_RX2_25 qIM_yX2_byteAt qSE_yX2_byteAt ⟨(Nat.le_of_ble_eq_true rfl), (Nat.le_of_ble_eq_true rfl)⟩ (q0 := 0) rfl (by decide) rfl rfl rfl rfl hl.1 rfl (Nat.le_of_ble_eq_true rfl) dX2_isWord_43 ⟨Nat.le_refl _, Nat.le_refl _⟩ (fun H locs hP => ?_)
            refine lv_aload_n hx hb dX2_isWord_46 rfl (lv_at hl 1 rfl) ?_
            refine lv_iload_n hx hb dX2_isWord_47 rfl (lv_at hl 3 rfl) ?_
            obtain ⟨hg, h⟩ := k_gd h
            refine r_schar C hP hap hAA 3 (by decide) hg qML_RX2_43 ⟨(Nat.le_of_ble_eq_true rfl), (Nat.le_of_ble_eq_true rfl)⟩ hl.1 (by exact (Nat.le_of_ble_eq_true rfl)) dX2_isWord_48 ⟨Nat.le_refl _, Nat.le_refl _⟩ rfl (fun H locs hP => ?_)
            refine lv_icmp_ne (tgt := 58) hx hb dX2_isWord_51 (by decide) (fun c51 => ?_) (fun c51 => ?_)
            · have h := k_nf c51 h
              refine lv_iconst (v := 0) hx hb dX2_isWord_58 (by decide) ?_
              refine lv_istore_n (lv' := [(2, .int (bi false)), (0, .ref (ad 0)), (1, .ref (ev.2.2.2.1 3)), (3, .int x3)]) hx hb dX2_isWord_59 rfl hl (by decide) rfl (fun ls hl => ?_)
              obtain ⟨x5, ex5, h⟩ := k_ltx h
              refine lv_iinc (v := x5) (lv' := [(3, .int x5), (2, .int (bi false)), (0, .ref (ad 0)), (1, .ref (ev.2.2.2.1 3))]) hx hb dX2_isWord_60 hl (k := 3) rfl (by rw [ex5]; rfl) (by decide) rfl (fun ls hl => ?_)
              refine lv_goto (tgt := 24) hx hb dX2_isWord_63 (by decide) ?_
              exact ih _ _ _ _ _ h hP (lv_sub hl [2, 3, 1, 0] rfl)
            · have h := k_if c51 h
              refine lv_iconst (v := 1) hx hb dX2_isWord_54 (by decide) ?_
              refine lv_goto (tgt := 59) hx hb dX2_isWord_55 (by decide) ?_
              refine lv_istore_n (lv' := [(2, .int (bi true)), (0, .ref (ad 0)), (1, .ref (ev.2.2.2.1 3)), (3, .int x3)]) hx hb dX2_isWord_59 rfl hl (by decide) rfl (fun ls hl => ?_)
              obtain ⟨x6, ex6, h⟩ := k_ltx h
              refine lv_iinc (v := x6) (lv' := [(3, .int x6), (2, .int (bi true)), (0, .ref (ad 0)), (1, .ref (ev.2.2.2.1 3))]) hx hb dX2_isWord_60 hl (k := 3) rfl (by rw [ex6]; rfl) (by decide) rfl (fun ls hl => ?_)
              refine lv_goto (tgt := 24) hx hb dX2_isWord_63 (by decide) ?_
              exact ih _ _ _ _ _ h hP (lv_sub hl [2, 3, 1, 0] rfl)
    exact hL24 FU _ _ _ _ _ h hP (lv_sub hl [2, 3, 1, 0] rfl)
  refine lv_aload_n hx hb dX2_isWord_0 rfl (lv_at hl 0 rfl) ?_
  refine r_get C hP (ci := 2) rfl uin_X2 3 (by decide) 0 (by decide) rfl qFL_RX2_22 rfl rfl dX2_isWord_1 ?_
  refine lv_aload_n hx hb dX2_isWord_4 rfl (lv_at hl 0 rfl) ?_
  refine r_get C hP (ci := 2) rfl uin_X2 2 (by decide) 0 (by decide) rfl qFL_RX2_19 rfl rfl dX2_isWord_5 ?_
  refine lv_isub hx hb dX2_isWord_8 ?_
  refine lv_aload_n hx hb dX2_isWord_9 rfl (lv_at hl 1 rfl) ?_
  refine r_slen C hP hap hAA 3 (by decide) qML_RX2_38 ⟨(Nat.le_of_ble_eq_true rfl), (Nat.le_of_ble_eq_true rfl)⟩ hl.1 (by exact (Nat.le_of_ble_eq_true rfl)) dX2_isWord_10 ⟨Nat.le_refl _, Nat.le_refl _⟩ (v := 4) rfl (fun H locs hP => ?_)
  refine lv_icmp_ne (tgt := 20) hx hb dX2_isWord_13 (by decide) (fun c13 => ?_) (fun c13 => ?_)
  · have h := k_nf c13 h
    refine lv_iconst (v := 0) hx hb dX2_isWord_20 (by decide) ?_
    exact hB21 _ _ _ _ h hP (lv_sub hl [0, 1] rfl)
  · have h := k_if c13 h
    refine lv_iconst (v := 1) hx hb dX2_isWord_16 (by decide) ?_
    refine lv_goto (tgt := 21) hx hb dX2_isWord_17 (by decide) ?_
    exact hB21 _ _ _ _ h hP (lv_sub hl [0, 1] rfl)
def f_X2_isWord_w4_L24_b (σ : TT)  (rec24 : Bool → Int32 → Option (Bool)) (b2 : Bool) (x3 : Int32) : Option (Bool) :=
  if 6 ≤ x3 then some b2 else if b2 = true then ob (f_X2_byteAt σ ((t_from σ) + x3)) (fun x4 => gd (inb x3 6) (if x4 = (sch 4 x3) then lt (x3 + 1) (fun x6 => rec24 true x6) else lt (x3 + 1) (fun x5 => rec24 false x5))) else some b2
def f_X2_isWord_w4_L24 (σ : TT)  (b2 : Bool) (x3 : Int32) : Option (Bool) :=
  lp (fun _ _ => none) (f_X2_isWord_w4_L24_b σ ) FU b2 x3
def f_X2_isWord_w4_b21 (σ : TT) (b1 : Bool) : Option (Bool) :=
  f_X2_isWord_w4_L24 σ b1 0
def f_X2_isWord_w4 (σ : TT) : Option (Bool) :=
  if ((t_upto σ) - (t_from σ)) = 6 then f_X2_isWord_w4_b21 σ true else f_X2_isWord_w4_b21 σ false
set_option maxHeartbeats 4000000 in
set_option maxRecDepth 100000 in
theorem c_X2_isWord_w4 (l : Launch) (ev : EV) (ad : Nat → Nat) (σ : TT)   (r : Bool)  (h : f_X2_isWord_w4 σ = some r) : Ct l yX2_isWord prog_4_method_9_code 4 (Option.some Jvm.ClassFile.FieldType.boolean) (rmk 8 300) ev 2 ad (tw ev ad σ) (tw ev ad σ) [.ref (ad 0), .ref (ev.2.2.2.1 4)] (some (.int (bi r))) := by
  refine Ct.of (by decide +kernel) (Nat.le_of_ble_eq_true rfl) ?_
  intro p e s m args below meth c Qc C hap hP hend ls hl
  have hAA : ∀ j, j < 2 → inA ad 2 (ad j) := fun j hj => ⟨j, hj, rfl⟩
  have hx := C.1
  have hb := C.2.1
  have hl : lv_has ls 4 [(0, .ref (ad 0)), (1, .ref (ev.2.2.2.1 4))] := hl
  have h := (f_X2_isWord_w4.eq_1 _ ).symm.trans h
  have hB21 : ∀ (b1 : Bool) (H : Heap) (locs : List Loc) (ls : Array Slot), f_X2_isWord_w4_b21 σ b1 = some r → PS ev 2 ad (tw ev ad σ) (inA ad 2) s H locs → lv_has ls 4 [(0, .ref (ad 0)), (1, .ref (ev.2.2.2.1 4))] → WW ev p l e (rmk 8 300) s m args below meth c Qc ad 2 H locs 21 ls [.int (bi b1)] := by
    intro b1 H locs ls h hP hl
    have h := (f_X2_isWord_w4_b21.eq_1 _ _ ).symm.trans h
    refine lv_istore_n (lv' := [(2, .int (bi b1)), (0, .ref (ad 0)), (1, .ref (ev.2.2.2.1 4))]) hx hb dX2_isWord_21 rfl hl (by decide) rfl (fun ls hl => ?_)
    refine lv_iconst (v := 0) hx hb dX2_isWord_22 (by decide) ?_
    refine lv_istore_n (lv' := [(3, .int 0), (2, .int (bi b1)), (0, .ref (ad 0)), (1, .ref (ev.2.2.2.1 4))]) hx hb dX2_isWord_23 rfl hl (by decide) rfl (fun ls hl => ?_)
    have hL24 : ∀ (n : Nat) (b2 : Bool) (x3 : Int32) (H : Heap) (locs : List Loc) (ls : Array Slot), lp (fun _ _ => none) (f_X2_isWord_w4_L24_b σ ) n b2 x3 = some r → PS ev 2 ad (tw ev ad σ) (inA ad 2) s H locs → lv_has ls 4 [(0, .ref (ad 0)), (1, .ref (ev.2.2.2.1 4)), (2, .int (bi b2)), (3, .int x3)] → WW ev p l e (rmk 8 300) s m args below meth c Qc ad 2 H locs 24 ls [] := by
      intro n
      induction n with
      | zero =>
        intro b2 x3 H locs ls h; exact k_none h
      | succ n ih =>
        intro b2 x3 H locs ls h hP hl
        have h : f_X2_isWord_w4_L24_b σ  (lp (fun _ _ => none) (f_X2_isWord_w4_L24_b σ ) n) b2 x3 = some r := h
        have h := (f_X2_isWord_w4_L24_b.eq_1 _ _ _ _ ).symm.trans h
        refine lv_iload_n hx hb dX2_isWord_24 rfl (lv_at hl 3 rfl) ?_
        refine lv_aload_n hx hb dX2_isWord_25 rfl (lv_at hl 1 rfl) ?_
        refine r_slen C hP hap hAA 4 (by decide) qML_RX2_38 ⟨(Nat.le_of_ble_eq_true rfl), (Nat.le_of_ble_eq_true rfl)⟩ hl.1 (by exact (Nat.le_of_ble_eq_true rfl)) dX2_isWord_26 ⟨Nat.le_refl _, Nat.le_refl _⟩ (v := 6) rfl (fun H locs hP => ?_)
        refine lv_icmp_ge (tgt := 66) hx hb dX2_isWord_29 (by decide) (fun c29 => ?_) (fun c29 => ?_)
        · have h := k_if c29 h
          refine lv_iload_n hx hb dX2_isWord_66 rfl (lv_at hl 2 rfl) ?_
          exact e_zret C hend hP (k_some h) rfl dX2_isWord_67 rfl
        · have h := k_nf c29 h
          refine lv_iload_n hx hb dX2_isWord_32 rfl (lv_at hl 2 rfl) ?_
          refine r_ifz_eq (tgt := 66) hx hb dX2_isWord_33 (by decide) (fun c33 => ?_) (fun c33 => ?_)
          · have h := k_nf c33 h
            refine lv_iload_n hx hb dX2_isWord_66 rfl (lv_at hl 2 rfl) ?_
            exact e_zret C hend hP (k_some h) rfl dX2_isWord_67 rfl
          · have h := k_if c33 h
            refine lv_aload_n hx hb dX2_isWord_36 rfl (lv_at hl 0 rfl) ?_
            refine lv_aload_n hx hb dX2_isWord_37 rfl (lv_at hl 0 rfl) ?_
            refine r_get C hP (ci := 2) rfl uin_X2 2 (by decide) 0 (by decide) rfl qFL_RX2_19 rfl rfl dX2_isWord_38 ?_
            refine lv_iload_n hx hb dX2_isWord_41 rfl (lv_at hl 3 rfl) ?_
            refine lv_iadd hx hb dX2_isWord_42 ?_
            obtain ⟨x4, h1, h⟩ := k_ob h
            refine k_callVi C hP hap hAA (c_X2_byteAt l ev ad σ ((t_from σ) + x3)   _ h1) Emb.same hap gz_X2_byteAt qML_RX2_25 qIM_yX2_byteAt qSE_yX2_byteAt ⟨(Nat.le_of_ble_eq_true rfl), (Nat.le_of_ble_eq_true rfl)⟩ (q0 := 0) rfl (by decide) rfl rfl rfl rfl hl.1 rfl (Nat.le_of_ble_eq_true rfl) dX2_isWord_43 ⟨Nat.le_refl _, Nat.le_refl _⟩ (fun H locs hP => ?_)
            refine lv_aload_n hx hb dX2_isWord_46 rfl (lv_at hl 1 rfl) ?_
            refine lv_iload_n hx hb dX2_isWord_47 rfl (lv_at hl 3 rfl) ?_
            obtain ⟨hg, h⟩ := k_gd h
            refine r_schar C hP hap hAA 4 (by decide) hg qML_RX2_43 ⟨(Nat.le_of_ble_eq_true rfl), (Nat.le_of_ble_eq_true rfl)⟩ hl.1 (by exact (Nat.le_of_ble_eq_true rfl)) dX2_isWord_48 ⟨Nat.le_refl _, Nat.le_refl _⟩ rfl (fun H locs hP => ?_)
            refine lv_icmp_ne (tgt := 58) hx hb dX2_isWord_51 (by decide) (fun c51 => ?_) (fun c51 => ?_)
            · have h := k_nf c51 h
              refine lv_iconst (v := 0) hx hb dX2_isWord_58 (by decide) ?_
              refine lv_istore_n (lv' := [(2, .int (bi false)), (0, .ref (ad 0)), (1, .ref (ev.2.2.2.1 4)), (3, .int x3)]) hx hb dX2_isWord_59 rfl hl (by decide) rfl (fun ls hl => ?_)
              obtain ⟨x5, ex5, h⟩ := k_ltx h
              refine lv_iinc (v := x5) (lv' := [(3, .int x5), (2, .int (bi false)), (0, .ref (ad 0)), (1, .ref (ev.2.2.2.1 4))]) hx hb dX2_isWord_60 hl (k := 3) rfl (by rw [ex5]; rfl) (by decide) rfl (fun ls hl => ?_)
              refine lv_goto (tgt := 24) hx hb dX2_isWord_63 (by decide) ?_
              exact ih _ _ _ _ _ h hP (lv_sub hl [2, 3, 1, 0] rfl)
            · have h := k_if c51 h
              refine lv_iconst (v := 1) hx hb dX2_isWord_54 (by decide) ?_
              refine lv_goto (tgt := 59) hx hb dX2_isWord_55 (by decide) ?_
              refine lv_istore_n (lv' := [(2, .int (bi true)), (0, .ref (ad 0)), (1, .ref (ev.2.2.2.1 4)), (3, .int x3)]) hx hb dX2_isWord_59 rfl hl (by decide) rfl (fun ls hl => ?_)
              obtain ⟨x6, ex6, h⟩ := k_ltx h
              refine lv_iinc (v := x6) (lv' := [(3, .int x6), (2, .int (bi true)), (0, .ref (ad 0)), (1, .ref (ev.2.2.2.1 4))]) hx hb dX2_isWord_60 hl (k := 3) rfl (by rw [ex6]; rfl) (by decide) rfl (fun ls hl => ?_)
              refine lv_goto (tgt := 24) hx hb dX2_isWord_63 (by decide) ?_
              exact ih _ _ _ _ _ h hP (lv_sub hl [2, 3, 1, 0] rfl)
    exact hL24 FU _ _ _ _ _ h hP (lv_sub hl [2, 3, 1, 0] rfl)
  refine lv_aload_n hx hb dX2_isWord_0 rfl (lv_at hl 0 rfl) ?_
  refine r_get C hP (ci := 2) rfl uin_X2 3 (by decide) 0 (by decide) rfl qFL_RX2_22 rfl rfl dX2_isWord_1 ?_
  refine lv_aload_n hx hb dX2_isWord_4 rfl (lv_at hl 0 rfl) ?_
  refine r_get C hP (ci := 2) rfl uin_X2 2 (by decide) 0 (by decide) rfl qFL_RX2_19 rfl rfl dX2_isWord_5 ?_
  refine lv_isub hx hb dX2_isWord_8 ?_
  refine lv_aload_n hx hb dX2_isWord_9 rfl (lv_at hl 1 rfl) ?_
  refine r_slen C hP hap hAA 4 (by decide) qML_RX2_38 ⟨(Nat.le_of_ble_eq_true rfl), (Nat.le_of_ble_eq_true rfl)⟩ hl.1 (by exact (Nat.le_of_ble_eq_true rfl)) dX2_isWord_10 ⟨Nat.le_refl _, Nat.le_refl _⟩ (v := 6) rfl (fun H locs hP => ?_)
  refine lv_icmp_ne (tgt := 20) hx hb dX2_isWord_13 (by decide) (fun c13 => ?_) (fun c13 => ?_)
  · have h := k_nf c13 h
    refine lv_iconst (v := 0) hx hb dX2_isWord_20 (by decide) ?_
    exact hB21 _ _ _ _ h hP (lv_sub hl [0, 1] rfl)
  · have h := k_if c13 h
    refine lv_iconst (v := 1) hx hb dX2_isWord_16 (by decide) ?_
    refine lv_goto (tgt := 21) hx hb dX2_isWord_17 (by decide) ?_
    exact hB21 _ _ _ _ h hP (lv_sub hl [0, 1] rfl)
def f_X3_readNumber (σ : XX) (a1 : Int32) (a2 : Int32) : Option (Int32 × XX) :=
  ob (f_X2_step (x_tape σ)) (fun σ1 => lt (x_tape' σ σ1) (fun σ2 => ob (f_X2_numberHere (x_tape σ2)) (fun x3 => if x3 < a1 then some ((-1), σ2) else if a2 < x3 then some ((-1), σ2) else some (x3, σ2))))
set_option maxHeartbeats 4000000 in
set_option maxRecDepth 100000 in
theorem c_X3_readNumber (l : Launch) (ev : EV) (ad : Nat → Nat) (σ : XX) (a1 : Int32) (a2 : Int32)   (r : Int32) (σ' : XX) (h : f_X3_readNumber σ a1 a2 = some (r, σ')) : Ct l yX3_readNumber prog_1_method_91_code 4 (Option.some Jvm.ClassFile.FieldType.int) (rmk 3 65) ev 26 ad (xw ev ad σ) (xw ev ad σ') [.ref (ad 0), .int a1, .int a2] (some (.int r)) := by
  refine Ct.of (by decide +kernel) (Nat.le_of_ble_eq_true rfl) ?_
  intro p e s m args below meth c Qc C hap hP hend ls hl
  have hAA : ∀ j, j < 26 → inA ad 26 (ad j) := fun j hj => ⟨j, hj, rfl⟩
  have hx := C.1
  have hb := C.2.1
  have hl : lv_has ls 4 [(0, .ref (ad 0)), (1, .int a1), (2, .int a2)] := hl
  have h := (f_X3_readNumber.eq_1 _ _ _ ).symm.trans h
  refine lv_aload_n hx hb dX3_readNumber_0 rfl (lv_at hl 0 rfl) ?_
  refine r_get C hP (ci := 3) rfl uin_X3 9 (by decide) 0 (by decide) rfl qFL_RX3_48 rfl rfl dX3_readNumber_1 ?_
  obtain ⟨σ1, h1, h⟩ := k_ob h
  refine k_callVv C hP hap hAA (c_X2_step l ev (fun j => ad (j + 8)) (x_tape σ)   _ h1) (em_T) (apart_T hap) gz_X2_step qML_RX3_402 qIM_yX2_step qSE_yX2_step ⟨(Nat.le_of_ble_eq_true rfl), (Nat.le_of_ble_eq_true rfl)⟩ (q0 := 8) rfl (by decide) rfl rfl rfl rfl hl.1 rfl (Nat.le_of_ble_eq_true rfl) dX3_readNumber_4 ⟨Nat.le_refl _, Nat.le_refl _⟩ (fun H locs hP => ?_)
  obtain ⟨σ2, eσ2, h⟩ := k_ltx h
  rw [← eσ2] at hP
  refine lv_aload_n hx hb dX3_readNumber_7 rfl (lv_at hl 0 rfl) ?_
  refine r_get C hP (ci := 3) rfl uin_X3 9 (by decide) 0 (by decide) rfl qFL_RX3_48 rfl rfl dX3_readNumber_8 ?_
  obtain ⟨x3, h1, h⟩ := k_ob h
  refine k_callVi C hP hap hAA (c_X2_numberHere l ev (fun j => ad (j + 8)) (x_tape σ2)   _ h1) (em_Tr) (apart_T hap) gz_X2_numberHere qML_RX3_436 qIM_yX2_numberHere qSE_yX2_numberHere ⟨(Nat.le_of_ble_eq_true rfl), (Nat.le_of_ble_eq_true rfl)⟩ (q0 := 8) rfl (by decide) rfl rfl rfl rfl hl.1 rfl (Nat.le_of_ble_eq_true rfl) dX3_readNumber_11 ⟨Nat.le_refl _, Nat.le_refl _⟩ (fun H locs hP => ?_)
  refine lv_istore_n (lv' := [(3, .int x3), (0, .ref (ad 0)), (1, .int a1), (2, .int a2)]) hx hb dX3_readNumber_14 rfl hl (by decide) rfl (fun ls hl => ?_)
  refine lv_iload_n hx hb dX3_readNumber_15 rfl (lv_at hl 0 rfl) ?_
  refine lv_iload_n hx hb dX3_readNumber_16 rfl (lv_at hl 2 rfl) ?_
  refine lv_icmp_lt (tgt := 29) hx hb dX3_readNumber_17 (by decide) (fun c17 => ?_) (fun c17 => ?_)
  · have h := k_if c17 h
    refine lv_iconst (v := (-1)) hx hb dX3_readNumber_29 (by decide) ?_
    exact e_iret C hend hP (k_some2 h).1 (congrArg (xw ev ad) (k_some2 h).2) dX3_readNumber_30
  · have h := k_nf c17 h
    refine lv_iload_n hx hb dX3_readNumber_20 rfl (lv_at hl 0 rfl) ?_
    refine lv_iload_n hx hb dX3_readNumber_21 rfl (lv_at hl 3 rfl) ?_
    refine lv_icmp_gt (tgt := 29) hx hb dX3_readNumber_22 (by decide) (fun c22 => ?_) (fun c22 => ?_)
    · have h := k_if c22 h
      refine lv_iconst (v := (-1)) hx hb dX3_readNumber_29 (by decide) ?_
      exact e_iret C hend hP (k_some2 h).1 (congrArg (xw ev ad) (k_some2 h).2) dX3_readNumber_30
    · have h := k_nf c22 h
      refine lv_iload_n hx hb dX3_readNumber_25 rfl (lv_at hl 0 rfl) ?_
      refine lv_goto (tgt := 30) hx hb dX3_readNumber_26 (by decide) ?_
      exact e_iret C hend hP (k_some2 h).1 (congrArg (xw ev ad) (k_some2 h).2) dX3_readNumber_30
def f_X3_readPlayer (σ : XX) : Option (Bool × XX) :=
  ob2 (f_X3_readNumber σ 0 5) (fun x2 σ1 => if x2 = (-1) then some (false, σ1) else ob2 (f_X3_readNumber σ1 0 9) (fun x4 σ3 => if x4 = (-1) then some (false, σ3) else ob (f_X3_enlist σ3 (x_crewRead σ3) x2 x4) (fun σ5 => lt (x_crewRead' σ5 ((x_crewRead σ5) + 1)) (fun σ6 => some (true, σ6)))))
set_option maxHeartbeats 4000000 in
set_option maxRecDepth 100000 in
theorem c_X3_readPlayer (l : Launch) (ev : EV) (ad : Nat → Nat) (σ : XX)   (r : Bool) (σ' : XX) (h : f_X3_readPlayer σ = some (r, σ')) : Ct l yX3_readPlayer prog_1_method_95_code 3 (Option.some Jvm.ClassFile.FieldType.boolean) (rmk 4 88) ev 26 ad (xw ev ad σ) (xw ev ad σ') [.ref (ad 0)] (some (.int (bi r))) := by
  refine Ct.of (by decide +kernel) (Nat.le_of_ble_eq_true rfl) ?_
  intro p e s m args below meth c Qc C hap hP hend ls hl
  have hAA : ∀ j, j < 26 → inA ad 26 (ad j) := fun j hj => ⟨j, hj, rfl⟩
  have hx := C.1
  have hb := C.2.1
  have hl : lv_has ls 3 [(0, .ref (ad 0))] := hl
  have h := (f_X3_readPlayer.eq_1 _ ).symm.trans h
  refine lv_aload_n hx hb dX3_readPlayer_0 rfl (lv_at hl 0 rfl) ?_
  refine lv_iconst (v := 0) hx hb dX3_readPlayer_1 (by decide) ?_
  refine lv_iconst (v := 5) hx hb dX3_readPlayer_2 (by decide) ?_
  obtain ⟨x2, σ1, h1, h⟩ := k_ob2 h
  refine k_callVi C hP hap hAA (c_X3_readNumber l ev ad σ 0 5   _ _ h1) Emb.same hap gz_X3_readNumber qML_RX3_439 qIM_yX3_readNumber qSE_yX3_readNumber ⟨(Nat.le_of_ble_eq_true rfl), (Nat.le_of_ble_eq_true rfl)⟩ (q0 := 0) rfl (by decide) rfl rfl rfl rfl hl.1 rfl (Nat.le_of_ble_eq_true rfl) dX3_readPlayer_3 ⟨Nat.le_refl _, Nat.le_refl _⟩ (fun H locs hP => ?_)
  refine lv_istore_n (lv' := [(1, .int x2), (0, .ref (ad 0))]) hx hb dX3_readPlayer_6 rfl hl (by decide) rfl (fun ls hl => ?_)
  refine lv_iload_n hx hb dX3_readPlayer_7 rfl (lv_at hl 0 rfl) ?_
  refine lv_iconst (v := (-1)) hx hb dX3_readPlayer_8 (by decide) ?_
  refine lv_icmp_ne (tgt := 14) hx hb dX3_readPlayer_9 (by decide) (fun c9 => ?_) (fun c9 => ?_)
  · have h := k_nf c9 h
    refine lv_aload_n hx hb dX3_readPlayer_14 rfl (lv_at hl 1 rfl) ?_
    refine lv_iconst (v := 0) hx hb dX3_readPlayer_15 (by decide) ?_
    refine lv_bipush (v := 9) hx hb dX3_readPlayer_16 (by decide) ?_
    obtain ⟨x4, σ3, h1, h⟩ := k_ob2 h
    refine k_callVi C hP hap hAA (c_X3_readNumber l ev ad σ1 0 9   _ _ h1) Emb.same hap gz_X3_readNumber qML_RX3_439 qIM_yX3_readNumber qSE_yX3_readNumber ⟨(Nat.le_of_ble_eq_true rfl), (Nat.le_of_ble_eq_true rfl)⟩ (q0 := 0) rfl (by decide) rfl rfl rfl rfl hl.1 rfl (Nat.le_of_ble_eq_true rfl) dX3_readPlayer_18 ⟨Nat.le_refl _, Nat.le_refl _⟩ (fun H locs hP => ?_)
    refine lv_istore_n (lv' := [(2, .int x4), (1, .int x2), (0, .ref (ad 0))]) hx hb dX3_readPlayer_21 rfl hl (by decide) rfl (fun ls hl => ?_)
    refine lv_iload_n hx hb dX3_readPlayer_22 rfl (lv_at hl 0 rfl) ?_
    refine lv_iconst (v := (-1)) hx hb dX3_readPlayer_23 (by decide) ?_
    refine lv_icmp_ne (tgt := 29) hx hb dX3_readPlayer_24 (by decide) (fun c24 => ?_) (fun c24 => ?_)
    · have h := k_nf c24 h
      refine lv_aload_n hx hb dX3_readPlayer_29 rfl (lv_at hl 2 rfl) ?_
      refine lv_aload_n hx hb dX3_readPlayer_30 rfl (lv_at hl 2 rfl) ?_
      refine r_get C hP (ci := 3) rfl uin_X3 7 (by decide) 0 (by decide) rfl qFL_RX3_36 rfl rfl dX3_readPlayer_31 ?_
      refine lv_iload_n hx hb dX3_readPlayer_34 rfl (lv_at hl 1 rfl) ?_
      refine lv_iload_n hx hb dX3_readPlayer_35 rfl (lv_at hl 0 rfl) ?_
      obtain ⟨σ5, h1, h⟩ := k_ob h
      refine k_callVv C hP hap hAA (c_X3_enlist l ev ad σ3 (x_crewRead σ3) x2 x4   _ h1) Emb.same hap gz_X3_enlist qML_RX3_149 qIM_yX3_enlist qSE_yX3_enlist ⟨(Nat.le_of_ble_eq_true rfl), (Nat.le_of_ble_eq_true rfl)⟩ (q0 := 0) rfl (by decide) rfl rfl rfl rfl hl.1 rfl (Nat.le_of_ble_eq_true rfl) dX3_readPlayer_36 ⟨Nat.le_refl _, Nat.le_refl _⟩ (fun H locs hP => ?_)
      refine lv_aload_n hx hb dX3_readPlayer_39 rfl (lv_at hl 2 rfl) ?_
      refine lv_dup hx hb dX3_readPlayer_40 rfl ?_
      refine r_get C hP (ci := 3) rfl uin_X3 7 (by decide) 0 (by decide) rfl qFL_RX3_36 rfl rfl dX3_readPlayer_41 ?_
      refine lv_iconst (v := 1) hx hb dX3_readPlayer_44 (by decide) ?_
      refine lv_iadd hx hb dX3_readPlayer_45 ?_
      obtain ⟨σ6, eσ6, h⟩ := k_ltx h
      refine pt_X_X3_crewRead C hP hap hAA eσ6 qFL_RX3_36 dX3_readPlayer_46 (fun H locs hP => ?_)
      refine lv_iconst (v := 1) hx hb dX3_readPlayer_49 (by decide) ?_
      exact e_zret C hend hP (k_some2 h).1 (congrArg (xw ev ad) (k_some2 h).2) dX3_readPlayer_50 rfl
    · have h := k_if c24 h
      refine lv_iconst (v := 0) hx hb dX3_readPlayer_27 (by decide) ?_
      exact e_zret C hend hP (k_some2 h).1 (congrArg (xw ev ad) (k_some2 h).2) dX3_readPlayer_28 rfl
  · have h := k_if c9 h
    refine lv_iconst (v := 0) hx hb dX3_readPlayer_12 (by decide) ?_
    exact e_zret C hend hP (k_some2 h).1 (congrArg (xw ev ad) (k_some2 h).2) dX3_readPlayer_13 rfl
