/-! functions read off, and their contracts: by program (wip/whole/gen2.py) -/
def f_X3_feed (σ : XX) (a1 : Int32) : Option (Int32 × XX) :=
  if a1 < 0 then ob2 (f_X3_refuse σ (-2)) (fun x2 σ1 => some (x2, σ1)) else if a1 ≤ 255 then if (t_length (x_tape σ)) < 250 then ob (f_X2_append (x_tape σ) a1) (fun σ3 => lt (x_tape' σ σ3) (fun σ4 => some ((t_length (x_tape σ4)), σ4))) else ob2 (f_X3_refuse σ (-6)) (fun x6 σ5 => some (x6, σ5)) else ob2 (f_X3_refuse σ (-2)) (fun x8 σ7 => some (x8, σ7))
set_option maxHeartbeats 4000000 in
set_option maxRecDepth 100000 in
theorem c_X3_feed (l : Launch) (ev : EV) (ad : Nat → Nat) (σ : XX) (a1 : Int32)   (r : Int32) (σ' : XX) (h : f_X3_feed σ a1 = some (r, σ')) : Ct l yX3_feed prog_1_method_12_code 2 (Option.some Jvm.ClassFile.FieldType.int) (rmk 1 22) ev 26 ad (xw ev ad σ) (xw ev ad σ') [.ref (ad 0), .int a1] (some (.int r)) := by
  refine Ct.of (by decide +kernel) (Nat.le_of_ble_eq_true rfl) ?_
  intro p e s m args below meth c Qc C hap hP hend ls hl
  have hAA : ∀ j, j < 26 → inA ad 26 (ad j) := fun j hj => ⟨j, hj, rfl⟩
  have hx := C.1
  have hb := C.2.1
  have hl : lv_has ls 2 [(0, .ref (ad 0)), (1, .int a1)] := hl
  have h := (f_X3_feed.eq_1 _ _ ).symm.trans h
  refine lv_iload_n hx hb dX3_feed_0 rfl (lv_at hl 1 rfl) ?_
  refine lv_if_lt (tgt := 11) hx hb dX3_feed_1 (by decide) (fun c1 => ?_) (fun c1 => ?_)
  · have h := k_if c1 h
    refine lv_aload_n hx hb dX3_feed_11 rfl (lv_at hl 0 rfl) ?_
    refine lv_bipush (v := (-2)) hx hb dX3_feed_12 (by decide) ?_
    obtain ⟨x2, σ1, h1, h⟩ := k_ob2 h
    refine k_callVi C hP hap hAA (c_X3_refuse l ev ad σ (-2)   _ _ h1) Emb.same hap gz_X3_refuse qML_RX3_60 qIM_yX3_refuse qSE_yX3_refuse ⟨(Nat.le_of_ble_eq_true rfl), (Nat.le_of_ble_eq_true rfl)⟩ (q0 := 0) rfl (by decide) rfl rfl rfl rfl hl.1 rfl (Nat.le_of_ble_eq_true rfl) dX3_feed_14 ⟨Nat.le_refl _, Nat.le_refl _⟩ (fun H locs hP => ?_)
    exact e_iret C hend hP (k_some2 h).1 (congrArg (xw ev ad) (k_some2 h).2) dX3_feed_17
  · have h := k_nf c1 h
    refine lv_iload_n hx hb dX3_feed_4 rfl (lv_at hl 1 rfl) ?_
    refine lv_sipush (v := 255) hx hb dX3_feed_5 (by decide) ?_
    refine lv_icmp_le (tgt := 18) hx hb dX3_feed_8 (by decide) (fun c8 => ?_) (fun c8 => ?_)
    · have h := k_if c8 h
      refine lv_aload_n hx hb dX3_feed_18 rfl (lv_at hl 0 rfl) ?_
      refine r_get C hP (ci := 3) rfl uin_X3 9 (by decide) 0 (by decide) rfl qFL_RX3_48 rfl rfl dX3_feed_19 ?_
      refine r_get C hP (ci := 2) rfl uin_X2 1 (by decide) 8 (by decide) rfl qFL_RX3_159 rfl rfl dX3_feed_22 ?_
      refine lv_sipush (v := 250) hx hb dX3_feed_25 (by decide) ?_
      refine lv_icmp_lt (tgt := 38) hx hb dX3_feed_28 (by decide) (fun c28 => ?_) (fun c28 => ?_)
      · have h := k_if c28 h
        refine lv_aload_n hx hb dX3_feed_38 rfl (lv_at hl 0 rfl) ?_
        refine r_get C hP (ci := 3) rfl uin_X3 9 (by decide) 0 (by decide) rfl qFL_RX3_48 rfl rfl dX3_feed_39 ?_
        refine lv_iload_n hx hb dX3_feed_42 rfl (lv_at hl 1 rfl) ?_
        obtain ⟨σ3, h1, h⟩ := k_ob h
        refine k_callVv C hP hap hAA (c_X2_append l ev (fun j => ad (j + 8)) (x_tape σ) a1   _ h1) (em_T) (apart_T hap) gz_X2_append qML_RX3_162 qIM_yX2_append qSE_yX2_append ⟨(Nat.le_of_ble_eq_true rfl), (Nat.le_of_ble_eq_true rfl)⟩ (q0 := 8) rfl (by decide) rfl rfl rfl rfl hl.1 rfl (Nat.le_of_ble_eq_true rfl) dX3_feed_43 ⟨Nat.le_refl _, Nat.le_refl _⟩ (fun H locs hP => ?_)
        obtain ⟨σ4, eσ4, h⟩ := k_ltx h
        rw [← eσ4] at hP
        refine lv_aload_n hx hb dX3_feed_46 rfl (lv_at hl 0 rfl) ?_
        refine r_get C hP (ci := 3) rfl uin_X3 9 (by decide) 0 (by decide) rfl qFL_RX3_48 rfl rfl dX3_feed_47 ?_
        refine r_get C hP (ci := 2) rfl uin_X2 1 (by decide) 8 (by decide) rfl qFL_RX3_159 rfl rfl dX3_feed_50 ?_
        exact e_iret C hend hP (k_some2 h).1 (congrArg (xw ev ad) (k_some2 h).2) dX3_feed_53
      · have h := k_nf c28 h
        refine lv_aload_n hx hb dX3_feed_31 rfl (lv_at hl 0 rfl) ?_
        refine lv_bipush (v := (-6)) hx hb dX3_feed_32 (by decide) ?_
        obtain ⟨x6, σ5, h1, h⟩ := k_ob2 h
        refine k_callVi C hP hap hAA (c_X3_refuse l ev ad σ (-6)   _ _ h1) Emb.same hap gz_X3_refuse qML_RX3_60 qIM_yX3_refuse qSE_yX3_refuse ⟨(Nat.le_of_ble_eq_true rfl), (Nat.le_of_ble_eq_true rfl)⟩ (q0 := 0) rfl (by decide) rfl rfl rfl rfl hl.1 rfl (Nat.le_of_ble_eq_true rfl) dX3_feed_34 ⟨Nat.le_refl _, Nat.le_refl _⟩ (fun H locs hP => ?_)
        exact e_iret C hend hP (k_some2 h).1 (congrArg (xw ev ad) (k_some2 h).2) dX3_feed_37
    · have h := k_nf c8 h
      refine lv_aload_n hx hb dX3_feed_11 rfl (lv_at hl 0 rfl) ?_
      refine lv_bipush (v := (-2)) hx hb dX3_feed_12 (by decide) ?_
      obtain ⟨x8, σ7, h1, h⟩ := k_ob2 h
      refine k_callVi C hP hap hAA (c_X3_refuse l ev ad σ (-2)   _ _ h1) Emb.same hap gz_X3_refuse qML_RX3_60 qIM_yX3_refuse qSE_yX3_refuse ⟨(Nat.le_of_ble_eq_true rfl), (Nat.le_of_ble_eq_true rfl)⟩ (q0 := 0) rfl (by decide) rfl rfl rfl rfl hl.1 rfl (Nat.le_of_ble_eq_true rfl) dX3_feed_14 ⟨Nat.le_refl _, Nat.le_refl _⟩ (fun H locs hP => ?_)
      exact e_iret C hend hP (k_some2 h).1 (congrArg (xw ev ad) (k_some2 h).2) dX3_feed_17
def f_X3_wipe (σ : XX) : Option (Int32 × XX) :=
  lt (t_length (x_tape σ)) (fun x1 => lt (x_tape' σ (t_length' (x_tape σ) 0)) (fun σ2 => some (x1, σ2)))
set_option maxHeartbeats 4000000 in
set_option maxRecDepth 100000 in
theorem c_X3_wipe (l : Launch) (ev : EV) (ad : Nat → Nat) (σ : XX)   (r : Int32) (σ' : XX) (h : f_X3_wipe σ = some (r, σ')) : Ct l yX3_wipe prog_1_method_13_code 2 (Option.some Jvm.ClassFile.FieldType.int) (rmk 0 0) ev 26 ad (xw ev ad σ) (xw ev ad σ') [.ref (ad 0)] (some (.int r)) := by
  refine Ct.of (by decide +kernel) (Nat.le_of_ble_eq_true rfl) ?_
  intro p e s m args below meth c Qc C hap hP hend ls hl
  have hAA : ∀ j, j < 26 → inA ad 26 (ad j) := fun j hj => ⟨j, hj, rfl⟩
  have hx := C.1
  have hb := C.2.1
  have hl : lv_has ls 2 [(0, .ref (ad 0))] := hl
  have h := (f_X3_wipe.eq_1 _ ).symm.trans h
  refine lv_aload_n hx hb dX3_wipe_0 rfl (lv_at hl 0 rfl) ?_
  refine r_get C hP (ci := 3) rfl uin_X3 9 (by decide) 0 (by decide) rfl qFL_RX3_48 rfl rfl dX3_wipe_1 ?_
  refine r_get C hP (ci := 2) rfl uin_X2 1 (by decide) 8 (by decide) rfl qFL_RX3_159 rfl rfl dX3_wipe_4 ?_
  refine lv_topi (fun x1 ex1 => ?_)
  have h := k_lt ex1 h
  refine lv_istore_n (lv' := [(1, .int x1), (0, .ref (ad 0))]) hx hb dX3_wipe_7 rfl hl (by decide) rfl (fun ls hl => ?_)
  refine lv_aload_n hx hb dX3_wipe_8 rfl (lv_at hl 1 rfl) ?_
  refine r_get C hP (ci := 3) rfl uin_X3 9 (by decide) 0 (by decide) rfl qFL_RX3_48 rfl rfl dX3_wipe_9 ?_
  refine lv_iconst (v := 0) hx hb dX3_wipe_12 (by decide) ?_
  obtain ⟨σ2, eσ2, h⟩ := k_ltx h
  refine pt_X8_X2_length C hP hap hAA eσ2 qFL_RX3_159 dX3_wipe_13 (fun H locs hP => ?_)
  refine lv_iload_n hx hb dX3_wipe_16 rfl (lv_at hl 0 rfl) ?_
  exact e_iret C hend hP (k_some2 h).1 (congrArg (xw ev ad) (k_some2 h).2) dX3_wipe_17
def f_X2_isWord_w1_L24_b (σ : TT)  (rec24 : Bool → Int32 → Option (Bool)) (b2 : Bool) (x3 : Int32) : Option (Bool) :=
  if 5 ≤ x3 then some b2 else if b2 = true then ob (f_X2_byteAt σ ((t_from σ) + x3)) (fun x4 => gd (inb x3 5) (if x4 = (sch 1 x3) then lt (x3 + 1) (fun x6 => rec24 true x6) else lt (x3 + 1) (fun x5 => rec24 false x5))) else some b2
def f_X2_isWord_w1_L24 (σ : TT)  (b2 : Bool) (x3 : Int32) : Option (Bool) :=
  lp (fun _ _ => none) (f_X2_isWord_w1_L24_b σ ) FU b2 x3
def f_X2_isWord_w1_b21 (σ : TT) (b1 : Bool) : Option (Bool) :=
  f_X2_isWord_w1_L24 σ b1 0
def f_X2_isWord_w1 (σ : TT) : Option (Bool) :=
  if ((t_upto σ) - (t_from σ)) = 5 then f_X2_isWord_w1_b21 σ true else f_X2_isWord_w1_b21 σ false
set_option maxHeartbeats 4000000 in
set_option maxRecDepth 100000 in
theorem c_X2_isWord_w1 (l : Launch) (ev : EV) (ad : Nat → Nat) (σ : TT)   (r : Bool)  (h : f_X2_isWord_w1 σ = some r) : Ct l yX2_isWord prog_4_method_9_code 4 (Option.some Jvm.ClassFile.FieldType.boolean) (rmk 8 300) ev 2 ad (tw ev ad σ) (tw ev ad σ) [.ref (ad 0), .ref (ev.2.2.2.1 1)] (some (.int (bi r))) := by
  refine Ct.of (by decide +kernel) (Nat.le_of_ble_eq_true rfl) ?_
  intro p e s m args below meth c Qc C hap hP hend ls hl
  have hAA : ∀ j, j < 2 → inA ad 2 (ad j) := fun j hj => ⟨j, hj, rfl⟩
  have hx := C.1
  have hb := C.2.1
  have hl : lv_has ls 4 [(0, .ref (ad 0)), (1, .ref (ev.2.2.2.1 1))] := hl
  have h := (f_X2_isWord_w1.eq_1 _ ).symm.trans h
  have hB21 : ∀ (b1 : Bool) (H : Heap) (locs : List Loc) (ls : Array Slot), f_X2_isWord_w1_b21 σ b1 = some r → PS ev 2 ad (tw ev ad σ) (inA ad 2) s H locs → lv_has ls 4 [(0, .ref (ad 0)), (1, .ref (ev.2.2.2.1 1))] → WW ev p l e (rmk 8 300) s m args below meth c Qc ad 2 H locs 21 ls [.int (bi b1)] := by
    intro b1 H locs ls h hP hl
    have h := (f_X2_isWord_w1_b21.eq_1 _ _ ).symm.trans h
    refine lv_istore_n (lv' := [(2, .int (bi b1)), (0, .ref (ad 0)), (1, .ref (ev.2.2.2.1 1))]) hx hb dX2_isWord_21 rfl hl (by decide) rfl (fun ls hl => ?_)
    refine lv_iconst (v := 0) hx hb dX2_isWord_22 (by decide) ?_
    refine lv_istore_n (lv' := [(3, .int 0), (2, .int (bi b1)), (0, .ref (ad 0)), (1, .ref (ev.2.2.2.1 1))]) hx hb dX2_isWord_23 rfl hl (by decide) rfl (fun ls hl => ?_)
    have hL24 : ∀ (n : Nat) (b2 : Bool) (x3 : Int32) (H : Heap) (locs : List Loc) (ls : Array Slot), lp (fun _ _ => none) (f_X2_isWord_w1_L24_b σ ) n b2 x3 = some r → PS ev 2 ad (tw ev ad σ) (inA ad 2) s H locs → lv_has ls 4 [(0, .ref (ad 0)), (1, .ref (ev.2.2.2.1 1)), (2, .int (bi b2)), (3, .int x3)] → WW ev p l e (rmk 8 300) s m args below meth c Qc ad 2 H locs 24 ls [] := by
      intro n
      induction n with
      | zero =>
        intro b2 x3 H locs ls h; exact k_none h
      | succ n ih =>
        intro b2 x3 H locs ls h hP hl
        have h : f_X2_isWord_w1_L24_b σ  (lp (fun _ _ => none) (f_X2_isWord_w1_L24_b σ ) n) b2 x3 = some r := h
        have h := (f_X2_isWord_w1_L24_b.eq_1 _ _ _ _ ).symm.trans h
        refine lv_iload_n hx hb dX2_isWord_24 rfl (lv_at hl 3 rfl) ?_
        refine lv_aload_n hx hb dX2_isWord_25 rfl (lv_at hl 1 rfl) ?_
        refine r_slen C hP hap hAA 1 (by decide) qML_RX2_38 ⟨(Nat.le_of_ble_eq_true rfl), (Nat.le_of_ble_eq_true rfl)⟩ hl.1 (by exact (Nat.le_of_ble_eq_true rfl)) dX2_isWord_26 ⟨Nat.le_refl _, Nat.le_refl _⟩ (v := 5) rfl (fun H locs hP => ?_)
        refine lv_icmp_ge (tgt := 66) hx hb dX2_isWord_29 (by decide) (fun c29 => ?_) (fun c29 => ?_)
        · have h := k_if c29 h
          refine lv_iload_n hx hb dX2_isWord_66 rfl (lv_at hl 2 rfl) ?_
          exact e_zret C hend hP (k_some h) rfl dX2_isWord_67 rfl
        · have h := k_nf c29 h
          refine lv_iload_n hx hb dX2_isWord_32 rfl (lv_at hl 2 rfl) ?_
          refine r_ifz_eq (tgt := 66) hx hb dX2_isWord_33 (by decide) (fun c33 => ?_) (fun c33 => ?_)
          · have h := k_nf c33 h
            refine lv_iload_n hx hb dX2_isWord_66 rfl (lv_at hl 2 rfl) ?_
            exact e_zret C hend hP (k_some h) rfl dX2_isWord_67 rfl
          · have h := k_if c33 h
            refine lv_aload_n hx hb dX2_isWord_36 rfl (lv_at hl 0 rfl) ?_
            refine lv_aload_n hx hb dX2_isWord_37 rfl (lv_at hl 0 rfl) ?_
            refine r_get C hP (ci := 2) rfl uin_X2 2 (by decide) 0 (by decide) rfl qFL_RX2_19 rfl rfl dX2_isWord_38 ?_
            refine lv_iload_n hx hb dX2_isWord_41 rfl (lv_at hl 3 rfl) ?_
            refine lv_iadd hx hb dX2_isWord_42 ?_
            obtain ⟨x4, h1, h⟩ := k_ob h
            refine k_callVi C hP hap hAA (c_X2_byteAt l ev ad σ ((t_from σ) + x3)   _ h1) Emb.same hap gz_X2_byteAt qML_RX2_25 qIM_yX2_byteAt qSE_yX2_byteAt ⟨(Nat.le_of_ble_eq_true rfl), (Nat.le_of_ble_eq_true rfl)⟩ (q0 := 0) rfl (by decide) rfl rfl rfl rfl hl.1 rfl (Nat.le_of_ble_eq_true rfl) dX2_isWord_43 ⟨Nat.le_refl _, Nat.le_refl _⟩ (fun H locs hP => ?_)
            refine lv_aload_n hx hb dX2_isWord_46 rfl (lv_at hl 1 rfl) ?_
            refine lv_iload_n hx hb dX2_isWord_47 rfl (lv_at hl 3 rfl) ?_
            obtain ⟨hg, h⟩ := k_gd h
            refine r_schar C hP hap hAA 1 (by decide) hg qML_RX2_43 ⟨(Nat.le_of_ble_eq_true rfl), (Nat.le_of_ble_eq_true rfl)⟩ hl.1 (by exact (Nat.le_of_ble_eq_true rfl)) dX2_isWord_48 ⟨Nat.le_refl _, Nat.le_refl _⟩ rfl (fun H locs hP => ?_)
            refine lv_icmp_ne (tgt := 58) hx hb dX2_isWord_51 (by decide) (fun c51 => ?_) (fun c51 => ?_)
            · have h := k_nf c51 h
              refine lv_iconst (v := 0) hx hb dX2_isWord_58 (by decide) ?_
              refine lv_istore_n (lv' := [(2, .int (bi false)), (0, .ref (ad 0)), (1, .ref (ev.2.2.2.1 1)), (3, .int x3)]) hx hb dX2_isWord_59 rfl hl (by decide) rfl (fun ls hl => ?_)
              obtain ⟨x5, ex5, h⟩ := k_ltx h
              refine lv_iinc (v := x5) (lv' := [(3, .int x5), (2, .int (bi false)), (0, .ref (ad 0)), (1, .ref (ev.2.2.2.1 1))]) hx hb dX2_isWord_60 hl (k := 3) rfl (by rw [ex5]; rfl) (by decide) rfl (fun ls hl => ?_)
              refine lv_goto (tgt := 24) hx hb dX2_isWord_63 (by decide) ?_
              exact ih _ _ _ _ _ h hP (lv_sub hl [2, 3, 1, 0] rfl)
            · have h := k_if c51 h
              refine lv_iconst (v := 1) hx hb dX2_isWord_54 (by decide) ?_
              refine lv_goto (tgt := 59) hx hb dX2_isWord_55 (by decide) ?_
              refine lv_istore_n (lv' := [(2, .int (bi true)), (0, .ref (ad 0)), (1, .ref (ev.2.2.2.1 1)), (3, .int x3)]) hx hb dX2_isWord_59 rfl hl (by decide) rfl (fun ls hl => ?_)
              obtain ⟨x6, ex6, h⟩ := k_ltx h
              refine lv_iinc (v := x6) (lv' := [(3, .int x6), (2, .int (bi true)), (0, .ref (ad 0)), (1, .ref (ev.2.2.2.1 1))]) hx hb dX2_isWord_60 hl (k := 3) rfl (by rw [ex6]; rfl) (by decide) rfl (fun ls hl => ?_)
              refine lv_goto (tgt := 24) hx hb dX2_isWord_63 (by decide) ?_
              exact ih _ _ _ _ _ h hP (lv_sub hl [2, 3, 1, 0] rfl)
    exact hL24 FU _ _ _ _ _ h hP (lv_sub hl [2, 3, 1, 0] rfl)
  refine lv_aload_n hx hb dX2_isWord_0 rfl (lv_at hl 0 rfl) ?_
  refine r_get C hP (ci := 2) rfl uin_X2 3 (by decide) 0 (by decide) rfl qFL_RX2_22 rfl rfl dX2_isWord_1 ?_
  refine lv_aload_n hx hb dX2_isWord_4 rfl (lv_at hl 0 rfl) ?_
  refine r_get C hP (ci := 2) rfl uin_X2 2 (by decide) 0 (by decide) rfl qFL_RX2_19 rfl rfl dX2_isWord_5 ?_
  refine lv_isub hx hb dX2_isWord_8 ?_
  refine lv_aload_n hx hb dX2_isWord_9 rfl (lv_at hl 1 rfl) ?_
  refine r_slen C hP hap hAA 1 (by decide) qML_RX2_38 ⟨(Nat.le_of_ble_eq_true rfl), (Nat.le_of_ble_eq_true rfl)⟩ hl.1 (by exact (Nat.le_of_ble_eq_true rfl)) dX2_isWord_10 ⟨Nat.le_refl _, Nat.le_refl _⟩ (v := 5) rfl (fun H locs hP => ?_)
  refine lv_icmp_ne (tgt := 20) hx hb dX2_isWord_13 (by decide) (fun c13 => ?_) (fun c13 => ?_)
  · have h := k_nf c13 h
    refine lv_iconst (v := 0) hx hb dX2_isWord_20 (by decide) ?_
    exact hB21 _ _ _ _ h hP (lv_sub hl [0, 1] rfl)
  · have h := k_if c13 h
    refine lv_iconst (v := 1) hx hb dX2_isWord_16 (by decide) ?_
    refine lv_goto (tgt := 21) hx hb dX2_isWord_17 (by decide) ?_
    exact hB21 _ _ _ _ h hP (lv_sub hl [0, 1] rfl)
def f_X2_isWord_w2_L24_b (σ : TT)  (rec24 : Bool → Int32 → Option (Bool)) (b2 : Bool) (x3 : Int32) : Option (Bool) :=
  if 3 ≤ x3 then some b2 else if b2 = true then ob (f_X2_byteAt σ ((t_from σ) + x3)) (fun x4 => gd (inb x3 3) (if x4 = (sch 2 x3) then lt (x3 + 1) (fun x6 => rec24 true x6) else lt (x3 + 1) (fun x5 => rec24 false x5))) else some b2
def f_X2_isWord_w2_L24 (σ : TT)  (b2 : Bool) (x3 : Int32) : Option (Bool) :=
  lp (fun _ _ => none) (f_X2_isWord_w2_L24_b σ ) FU b2 x3
def f_X2_isWord_w2_b21 (σ : TT) (b1 : Bool) : Option (Bool) :=
  f_X2_isWord_w2_L24 σ b1 0
def f_X2_isWord_w2 (σ : TT) : Option (Bool) :=
  if ((t_upto σ) - (t_from σ)) = 3 then f_X2_isWord_w2_b21 σ true else f_X2_isWord_w2_b21 σ false
set_option maxHeartbeats 4000000 in
set_option maxRecDepth 100000 in
theorem c_X2_isWord_w2 (l : Launch) (ev : EV) (ad : Nat → Nat) (σ : TT)   (r : Bool)  (h : f_X2_isWord_w2 σ = some r) : Ct l yX2_isWord prog_4_method_9_code 4 (Option.some Jvm.ClassFile.FieldType.boolean) (rmk 8 300) ev 2 ad (tw ev ad σ) (tw ev ad σ) [.ref (ad 0), .ref (ev.2.2.2.1 2)] (some (.int (bi r))) := by
  refine Ct.of (by decide +kernel) (Nat.le_of_ble_eq_true rfl) ?_
  intro p e s m args below meth c Qc C hap hP hend ls hl
  have hAA : ∀ j, j < 2 → inA ad 2 (ad j) := fun j hj => ⟨j, hj, rfl⟩
  have hx := C.1
  have hb := C.2.1
  have hl : lv_has ls 4 [(0, .ref (ad 0)), (1, .ref (ev.2.2.2.1 2))] := hl
  have h := (f_X2_isWord_w2.eq_1 _ ).symm.trans h
  have hB21 : ∀ (b1 : Bool) (H : Heap) (locs : List Loc) (ls : Array Slot), f_X2_isWord_w2_b21 σ b1 = some r → PS ev 2 ad (tw ev ad σ) (inA ad 2) s H locs → lv_has ls 4 [(0, .ref (ad 0)), (1, .ref (ev.2.2.2.1 2))] → WW ev p l e (rmk 8 300) s m args below meth c Qc ad 2 H locs 21 ls [.int (bi b1)] := by
    intro b1 H locs ls h hP hl
    have h := (f_X2_isWord_w2_b21.eq_1 _ _ ).symm.trans h
    refine lv_istore_n (lv' := [(2, .int (bi b1)), (0, .ref (ad 0)), (1, .ref (ev.2.2.2.1 2))]) hx hb dX2_isWord_21 rfl hl (by decide) rfl (fun ls hl => ?_)
    refine lv_iconst (v := 0) hx hb dX2_isWord_22 (by decide) ?_
    refine lv_istore_n (lv' := [(3, .int 0), (2, .int (bi b1)), (0, .ref (ad 0)), (1, .ref (ev.2.2.2.1 2))]) hx hb dX2_isWord_23 rfl hl (by decide) rfl (fun ls hl => ?_)
    have hL24 : ∀ (n : Nat) (b2 : Bool) (x3 : Int32) (H : Heap) (locs : List Loc) (ls : Array Slot), lp (fun _ _ => none) (f_X2_isWord_w2_L24_b σ ) n b2 x3 = some r → PS ev 2 ad (tw ev ad σ) (inA ad 2) s H locs → lv_has ls 4 [(0, .ref (ad 0)), (1, .ref (ev.2.2.2.1 2)), (2, .int (bi b2)), (3, .int x3)] → WW ev p l e (rmk 8 300) s m args below meth c Qc ad 2 H locs 24 ls [] := by
      intro n
      induction n with
      | zero =>
        intro b2 x3 H locs ls h; exact k_none h
      | succ n ih =>
        intro b2 x3 H locs ls h hP hl
        have h : f_X2_isWord_w2_L24_b σ  (lp (fun _ _ => none) (f_X2_isWord_w2_L24_b σ ) n) b2 x3 = some r := h
        have h := (f_X2_isWord_w2_L24_b.eq_1 _ _ _ _ ).symm.trans h
        refine lv_iload_n hx hb dX2_isWord_24 rfl (lv_at hl 3 rfl) ?_
        refine lv_aload_n hx hb dX2_isWord_25 rfl (lv_at hl 1 rfl) ?_
        refine r_slen C hP hap hAA 2 (by decide) qML_RX2_38 ⟨(Nat.le_of_ble_eq_true rfl), (Nat.le_of_ble_eq_true rfl)⟩ hl.1 (by exact (Nat.le_of_ble_eq_true rfl)) dX2_isWord_26 ⟨Nat.le_refl _, Nat.le_refl _⟩ (v := 3) rfl (fun H locs hP => ?_)
        refine lv_icmp_ge (tgt := 66) hx hb dX2_isWord_29 (by decide) (fun c29 => ?_) (fun c29 => ?_)
        · have h := k_if c29 h
          refine lv_iload_n hx hb dX2_isWord_66 rfl (lv_at hl 2 rfl) ?_
          exact e_zret C hend hP (k_some h) rfl dX2_isWord_67 rfl
        · have h := k_nf c29 h
          refine lv_iload_n hx hb dX2_isWord_32 rfl (lv_at hl 2 rfl) ?_
          refine r_ifz_eq (tgt := 66) hx hb dX2_isWord_33 (by decide) (fun c33 => ?_) (fun c33 => ?_)
          · have h := k_nf c33 h
            refine lv_iload_n hx hb dX2_isWord_66 rfl (lv_at hl 2 rfl) ?_
            exact e_zret C hend hP (k_some h) rfl dX2_isWord_67 rfl
          · have h := k_if c33 h
            refine lv_aload_n hx hb dX2_isWord_36 rfl (lv_at hl 0 rfl) ?_
            refine lv_aload_n hx hb dX2_isWord_37 rfl (lv_at hl 0 rfl) ?_
            refine r_get C hP (ci := 2) rfl uin_X2 2 (by decide) 0 (by decide) rfl qFL_RX2_19 rfl rfl dX2_isWord_38 ?_
            refine lv_iload_n hx hb dX2_isWord_41 rfl (lv_at hl 3 rfl) ?_
            refine lv_iadd hx hb dX2_isWord_42 ?_
            obtain ⟨x4, h1, h⟩ := k_ob h
            refine k_callVi C hP hap hAA (c_X2_byteAt l ev ad σ ((t_from σ) + x3)   _ h1) Emb.same hap gz_X2_byteAt qML_RX2_25 qIM_yX2_byteAt qSE_yX2_byteAt ⟨(Nat.le_of_ble_eq_true rfl), (Nat.le_of_ble_eq_true rfl)⟩ (q0 := 0) rfl (by decide) rfl rfl rfl rfl hl.1 rfl (Nat.le_of_ble_eq_true rfl) dX2_isWord_43 ⟨Nat.le_refl _, Nat.le_refl _⟩ (fun H locs hP => ?_)
            refine lv_aload_n hx hb dX2_isWord_46 rfl (lv_at hl 1 rfl) ?_
            refine lv_iload_n hx hb dX2_isWord_47 rfl (lv_at hl 3 rfl) ?_
            obtain ⟨hg, h⟩ := k_gd h
            refine r_schar C hP hap hAA 2 (by decide) hg qML_RX2_43 ⟨(Nat.le_of_ble_eq_true rfl), (Nat.le_of_ble_eq_true rfl)⟩ hl.1 (by exact (Nat.le_of_ble_eq_true rfl)) dX2_isWord_48 ⟨Nat.le_refl _, Nat.le_refl _⟩ rfl (fun H locs hP => ?_)
            refine lv_icmp_ne (tgt := 58) hx hb dX2_isWord_51 (by decide) (fun c51 => ?_) (fun c51 => ?_)
            · have h := k_nf c51 h
              refine lv_iconst (v := 0) hx hb dX2_isWord_58 (by decide) ?_
              refine lv_istore_n (lv' := [(2, .int (bi false)), (0, .ref (ad 0)), (1, .ref (ev.2.2.2.1 2)), (3, .int x3)]) hx hb dX2_isWord_59 rfl hl (by decide) rfl (fun ls hl => ?_)
              obtain ⟨x5, ex5, h⟩ := k_ltx h
              refine lv_iinc (v := x5) (lv' := [(3, .int x5), (2, .int (bi false)), (0, .ref (ad 0)), (1, .ref (ev.2.2.2.1 2))]) hx hb dX2_isWord_60 hl (k := 3) rfl (by rw [ex5]; rfl) (by decide) rfl (fun ls hl => ?_)
              refine lv_goto (tgt := 24) hx hb dX2_isWord_63 (by decide) ?_
              exact ih _ _ _ _ _ h hP (lv_sub hl [2, 3, 1, 0] rfl)
            · have h := k_if c51 h
              refine lv_iconst (v := 1) hx hb dX2_isWord_54 (by decide) ?_
              refine lv_goto (tgt := 59) hx hb dX2_isWord_55 (by decide) ?_
              refine lv_istore_n (lv' := [(2, .int (bi true)), (0, .ref (ad 0)), (1, .ref (ev.2.2.2.1 2)), (3, .int x3)]) hx hb dX2_isWord_59 rfl hl (by decide) rfl (fun ls hl => ?_)
              obtain ⟨x6, ex6, h⟩ := k_ltx h
              refine lv_iinc (v := x6) (lv' := [(3, .int x6), (2, .int (bi true)), (0, .ref (ad 0)), (1, .ref (ev.2.2.2.1 2))]) hx hb dX2_isWord_60 hl (k := 3) rfl (by rw [ex6]; rfl) (by decide) rfl (fun ls hl => ?_)
              refine lv_goto (tgt := 24) hx hb dX2_isWord_63 (by decide) ?_
              exact ih _ _ _ _ _ h hP (lv_sub hl [2, 3, 1, 0] rfl)
    exact hL24 FU _ _ _ _ _ h hP (lv_sub hl [2, 3, 1, 0] rfl)
  refine lv_aload_n hx hb dX2_isWord_0 rfl (lv_at hl 0 rfl) ?_
  refine r_get C hP (ci := 2) rfl uin_X2 3 (by decide) 0 (by decide) rfl qFL_RX2_22 rfl rfl dX2_isWord_1 ?_
  refine lv_aload_n hx hb dX2_isWord_4 rfl (lv_at hl 0 rfl) ?_
  refine r_get C hP (ci := 2) rfl uin_X2 2 (by decide) 0 (by decide) rfl qFL_RX2_19 rfl rfl dX2_isWord_5 ?_
  refine lv_isub hx hb dX2_isWord_8 ?_
  refine lv_aload_n hx hb dX2_isWord_9 rfl (lv_at hl 1 rfl) ?_
  refine r_slen C hP hap hAA 2 (by decide) qML_RX2_38 ⟨(Nat.le_of_ble_eq_true rfl), (Nat.le_of_ble_eq_true rfl)⟩ hl.1 (by exact (Nat.le_of_ble_eq_true rfl)) dX2_isWord_10 ⟨Nat.le_refl _, Nat.le_refl _⟩ (v := 3) rfl (fun H locs hP => ?_)
  refine lv_icmp_ne (tgt := 20) hx hb dX2_isWord_13 (by decide) (fun c13 => ?_) (fun c13 => ?_)
  · have h := k_nf c13 h
    refine lv_iconst (v := 0) hx hb dX2_isWord_20 (by decide) ?_
    exact hB21 _ _ _ _ h hP (lv_sub hl [0, 1] rfl)
  · have h := k_if c13 h
    refine lv_iconst (v := 1) hx hb dX2_isWord_16 (by decide) ?_
    refine lv_goto (tgt := 21) hx hb dX2_isWord_17 (by decide) ?_
    exact hB21 _ _ _ _ h hP (lv_sub hl [0, 1] rfl)
