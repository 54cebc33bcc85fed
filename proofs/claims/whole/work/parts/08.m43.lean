/-! functions read off, and their contracts: by program (wip/whole/gen2.py) -/
def f_X4_isWord_w0_L29_b (σ : MM)  (rec29 : Int32 → Option (Bool)) (x1 : Int32) : Option (Bool) :=
  if 4 ≤ x1 then some true else gd (inb ((m_from σ) + x1) 250) (gd (inb x1 4) (if ((m_tape σ) (Int32.toNatClampNeg ((m_from σ) + x1))) = (sch 0 x1) then lt (x1 + 1) (fun x2 => rec29 x2) else some false))
def f_X4_isWord_w0_L29 (σ : MM)  (x1 : Int32) : Option (Bool) :=
  lp (fun _ => none) (f_X4_isWord_w0_L29_b σ ) FU x1
def f_X4_isWord_w0 (σ : MM) : Option (Bool) :=
  if (m_token σ) = 119 then if ((m_to σ) - (m_from σ)) = 4 then f_X4_isWord_w0_L29 σ 0 else some false else some false
set_option maxHeartbeats 4000000 in
set_option maxRecDepth 100000 in
theorem c_X4_isWord_w0 (l : Launch) (ev : EV) (ad : Nat → Nat) (σ : MM)   (r : Bool)  (h : f_X4_isWord_w0 σ = some r) : Ct l yX4_isWord prog_6_method_37_code 3 (Option.some Jvm.ClassFile.FieldType.boolean) (rmk 8 300) ev 13 ad (mw ev ad σ) (mw ev ad σ) [.ref (ad 0), .ref (ev.2.2.2.1 0)] (some (.int (bi r))) := by
  refine Ct.of (by decide +kernel) (Nat.le_of_ble_eq_true rfl) ?_
  intro p e s m args below meth c Qc C hap hP hend ls hl
  have hAA : ∀ j, j < 13 → inA ad 13 (ad j) := fun j hj => ⟨j, hj, rfl⟩
  have hx := C.1
  have hb := C.2.1
  have hl : lv_has ls 3 [(0, .ref (ad 0)), (1, .ref (ev.2.2.2.1 0))] := hl
  have h := (f_X4_isWord_w0.eq_1 _ ).symm.trans h
  refine lv_aload_n hx hb dX4_isWord_0 rfl (lv_at hl 0 rfl) ?_
  refine r_get C hP (ci := 4) rfl uin_X4 15 (by decide) 0 (by decide) rfl qFL_RX4_137 rfl rfl dX4_isWord_1 ?_
  refine lv_bipush (v := 119) hx hb dX4_isWord_4 (by decide) ?_
  refine lv_icmp_ne (tgt := 25) hx hb dX4_isWord_6 (by decide) (fun c6 => ?_) (fun c6 => ?_)
  · have h := k_nf c6 h
    refine lv_iconst (v := 0) hx hb dX4_isWord_25 (by decide) ?_
    exact e_zret C hend hP (k_some h) rfl dX4_isWord_26 rfl
  · have h := k_if c6 h
    refine lv_aload_n hx hb dX4_isWord_9 rfl (lv_at hl 0 rfl) ?_
    refine r_get C hP (ci := 4) rfl uin_X4 14 (by decide) 0 (by decide) rfl qFL_RX4_131 rfl rfl dX4_isWord_10 ?_
    refine lv_aload_n hx hb dX4_isWord_13 rfl (lv_at hl 0 rfl) ?_
    refine r_get C hP (ci := 4) rfl uin_X4 13 (by decide) 0 (by decide) rfl qFL_RX4_134 rfl rfl dX4_isWord_14 ?_
    refine lv_isub hx hb dX4_isWord_17 ?_
    refine lv_aload_n hx hb dX4_isWord_18 rfl (lv_at hl 1 rfl) ?_
    refine r_slen C hP hap hAA 0 (by decide) qML_RX4_149 ⟨(Nat.le_of_ble_eq_true rfl), (Nat.le_of_ble_eq_true rfl)⟩ hl.1 (by exact (Nat.le_of_ble_eq_true rfl)) dX4_isWord_19 ⟨Nat.le_refl _, Nat.le_refl _⟩ (v := 4) rfl (fun H locs hP => ?_)
    refine lv_icmp_eq (tgt := 27) hx hb dX4_isWord_22 (by decide) (fun c22 => ?_) (fun c22 => ?_)
    · have h := k_if c22 h
      refine lv_iconst (v := 0) hx hb dX4_isWord_27 (by decide) ?_
      refine lv_istore_n (lv' := [(2, .int 0), (0, .ref (ad 0)), (1, .ref (ev.2.2.2.1 0))]) hx hb dX4_isWord_28 rfl hl (by decide) rfl (fun ls hl => ?_)
      have hL29 : ∀ (n : Nat) (x1 : Int32) (H : Heap) (locs : List Loc) (ls : Array Slot), lp (fun _ => none) (f_X4_isWord_w0_L29_b σ ) n x1 = some r → PS ev 13 ad (mw ev ad σ) (inA ad 13) s H locs → lv_has ls 3 [(0, .ref (ad 0)), (1, .ref (ev.2.2.2.1 0)), (2, .int x1)] → WW ev p l e (rmk 8 300) s m args below meth c Qc ad 13 H locs 29 ls [] := by
        intro n
        induction n with
        | zero =>
          intro x1 H locs ls h; exact k_none h
        | succ n ih =>
          intro x1 H locs ls h hP hl
          have h : f_X4_isWord_w0_L29_b σ  (lp (fun _ => none) (f_X4_isWord_w0_L29_b σ ) n) x1 = some r := h
          have h := (f_X4_isWord_w0_L29_b.eq_1 _ _ _ ).symm.trans h
          refine lv_iload_n hx hb dX4_isWord_29 rfl (lv_at hl 2 rfl) ?_
          refine lv_aload_n hx hb dX4_isWord_30 rfl (lv_at hl 1 rfl) ?_
          refine r_slen C hP hap hAA 0 (by decide) qML_RX4_149 ⟨(Nat.le_of_ble_eq_true rfl), (Nat.le_of_ble_eq_true rfl)⟩ hl.1 (by exact (Nat.le_of_ble_eq_true rfl)) dX4_isWord_31 ⟨Nat.le_refl _, Nat.le_refl _⟩ (v := 4) rfl (fun H locs hP => ?_)
          refine lv_icmp_ge (tgt := 64) hx hb dX4_isWord_34 (by decide) (fun c34 => ?_) (fun c34 => ?_)
          · have h := k_if c34 h
            refine lv_iconst (v := 1) hx hb dX4_isWord_64 (by decide) ?_
            exact e_zret C hend hP (k_some h) rfl dX4_isWord_65 rfl
          · have h := k_nf c34 h
            refine lv_aload_n hx hb dX4_isWord_37 rfl (lv_at hl 0 rfl) ?_
            refine r_get C hP (ci := 4) rfl uin_X4 12 (by decide) 0 (by decide) rfl qFL_RX4_26 rfl rfl dX4_isWord_38 ?_
            refine lv_aload_n hx hb dX4_isWord_41 rfl (lv_at hl 0 rfl) ?_
            refine r_get C hP (ci := 4) rfl uin_X4 13 (by decide) 0 (by decide) rfl qFL_RX4_134 rfl rfl dX4_isWord_42 ?_
            refine lv_iload_n hx hb dX4_isWord_45 rfl (lv_at hl 2 rfl) ?_
            refine lv_iadd hx hb dX4_isWord_46 ?_
            obtain ⟨hg, h⟩ := k_gd h
            refine r_iald C hP 6 (by decide) rfl hg dX4_isWord_47 ?_
            refine lv_aload_n hx hb dX4_isWord_48 rfl (lv_at hl 1 rfl) ?_
            refine lv_iload_n hx hb dX4_isWord_49 rfl (lv_at hl 2 rfl) ?_
            obtain ⟨hg, h⟩ := k_gd h
            refine r_schar C hP hap hAA 0 (by decide) hg qML_RX4_154 ⟨(Nat.le_of_ble_eq_true rfl), (Nat.le_of_ble_eq_true rfl)⟩ hl.1 (by exact (Nat.le_of_ble_eq_true rfl)) dX4_isWord_50 ⟨Nat.le_refl _, Nat.le_refl _⟩ rfl (fun H locs hP => ?_)
            refine lv_icmp_eq (tgt := 58) hx hb dX4_isWord_53 (by decide) (fun c53 => ?_) (fun c53 => ?_)
            · have h := k_if c53 h
              obtain ⟨x2, ex2, h⟩ := k_ltx h
              refine lv_iinc (v := x2) (lv' := [(2, .int x2), (0, .ref (ad 0)), (1, .ref (ev.2.2.2.1 0))]) hx hb dX4_isWord_58 hl (k := 2) rfl (by rw [ex2]; rfl) (by decide) rfl (fun ls hl => ?_)
              refine lv_goto (tgt := 29) hx hb dX4_isWord_61 (by decide) ?_
              exact ih _ _ _ _ h hP (lv_sub hl [1, 2, 0] rfl)
            · have h := k_nf c53 h
              refine lv_iconst (v := 0) hx hb dX4_isWord_56 (by decide) ?_
              exact e_zret C hend hP (k_some h) rfl dX4_isWord_57 rfl
      exact hL29 FU _ _ _ _ h hP (lv_sub hl [1, 2, 0] rfl)
    · have h := k_nf c22 h
      refine lv_iconst (v := 0) hx hb dX4_isWord_25 (by decide) ?_
      exact e_zret C hend hP (k_some h) rfl dX4_isWord_26 rfl
def f_X4_number (σ : MM) (a1 : Int32) (a2 : Int32) : Option (Int32 × MM) :=
  ob (f_X4_next σ) (fun σ1 => if (m_token σ1) = 48 then if (f_X4_within (m_value σ1) a1 a2) = true then some ((m_value σ1), σ1) else some ((-1), σ1) else some ((-1), σ1))
set_option maxHeartbeats 4000000 in
set_option maxRecDepth 100000 in
theorem c_X4_number (l : Launch) (ev : EV) (ad : Nat → Nat) (σ : MM) (a1 : Int32) (a2 : Int32)   (r : Int32) (σ' : MM) (h : f_X4_number σ a1 a2 = some (r, σ')) : Ct l yX4_number prog_6_method_38_code 3 (Option.some Jvm.ClassFile.FieldType.int) (rmk 2 41) ev 13 ad (mw ev ad σ) (mw ev ad σ') [.ref (ad 0), .int a1, .int a2] (some (.int r)) := by
  refine Ct.of (by decide +kernel) (Nat.le_of_ble_eq_true rfl) ?_
  intro p e s m args below meth c Qc C hap hP hend ls hl
  have hAA : ∀ j, j < 13 → inA ad 13 (ad j) := fun j hj => ⟨j, hj, rfl⟩
  have hx := C.1
  have hb := C.2.1
  have hl : lv_has ls 3 [(0, .ref (ad 0)), (1, .int a1), (2, .int a2)] := hl
  have h := (f_X4_number.eq_1 _ _ _ ).symm.trans h
  refine lv_aload_n hx hb dX4_number_0 rfl (lv_at hl 0 rfl) ?_
  obtain ⟨σ1, h1, h⟩ := k_ob h
  refine k_callVv C hP hap hAA (c_X4_next l ev ad σ   _ h1) Emb.same hap gz_X4_next qML_RX4_158 qIM_yX4_next qSE_yX4_next ⟨(Nat.le_of_ble_eq_true rfl), (Nat.le_of_ble_eq_true rfl)⟩ (q0 := 0) rfl (by decide) rfl rfl rfl rfl hl.1 rfl (Nat.le_of_ble_eq_true rfl) dX4_number_1 ⟨Nat.le_refl _, Nat.le_refl _⟩ (fun H locs hP => ?_)
  refine lv_aload_n hx hb dX4_number_4 rfl (lv_at hl 0 rfl) ?_
  refine r_get C hP (ci := 4) rfl uin_X4 15 (by decide) 0 (by decide) rfl qFL_RX4_137 rfl rfl dX4_number_5 ?_
  refine lv_bipush (v := 48) hx hb dX4_number_8 (by decide) ?_
  refine lv_icmp_ne (tgt := 32) hx hb dX4_number_10 (by decide) (fun c10 => ?_) (fun c10 => ?_)
  · have h := k_nf c10 h
    refine lv_iconst (v := (-1)) hx hb dX4_number_32 (by decide) ?_
    exact e_iret C hend hP (k_some2 h).1 (congrArg (mw ev ad) (k_some2 h).2) dX4_number_33
  · have h := k_if c10 h
    refine lv_aload_n hx hb dX4_number_13 rfl (lv_at hl 0 rfl) ?_
    refine r_get C hP (ci := 4) rfl uin_X4 16 (by decide) 0 (by decide) rfl qFL_RX4_146 rfl rfl dX4_number_14 ?_
    refine lv_iload_n hx hb dX4_number_17 rfl (lv_at hl 1 rfl) ?_
    refine lv_iload_n hx hb dX4_number_18 rfl (lv_at hl 2 rfl) ?_
    refine k_callSi C hP hap hAA (c_X4_within l ev ad (m_value σ1) a1 a2   _ rfl) Emb.none (apart_0 _) gz_X4_within qML_RX4_63 qSM_yX4_within ⟨(Nat.le_of_ble_eq_true rfl), (Nat.le_of_ble_eq_true rfl)⟩ rfl hl.1 rfl (Nat.le_of_ble_eq_true rfl) dX4_number_19 ⟨Nat.le_refl _, Nat.le_refl _⟩ (fun H locs hP => ?_)
    refine r_ifz_eq (tgt := 32) hx hb dX4_number_22 (by decide) (fun c22 => ?_) (fun c22 => ?_)
    · have h := k_nf c22 h
      refine lv_iconst (v := (-1)) hx hb dX4_number_32 (by decide) ?_
      exact e_iret C hend hP (k_some2 h).1 (congrArg (mw ev ad) (k_some2 h).2) dX4_number_33
    · have h := k_if c22 h
      refine lv_aload_n hx hb dX4_number_25 rfl (lv_at hl 0 rfl) ?_
      refine r_get C hP (ci := 4) rfl uin_X4 16 (by decide) 0 (by decide) rfl qFL_RX4_146 rfl rfl dX4_number_26 ?_
      refine lv_goto (tgt := 33) hx hb dX4_number_29 (by decide) ?_
      exact e_iret C hend hP (k_some2 h).1 (congrArg (mw ev ad) (k_some2 h).2) dX4_number_33
def f_X4_isWord_w1_L29_b (σ : MM)  (rec29 : Int32 → Option (Bool)) (x1 : Int32) : Option (Bool) :=
  if 5 ≤ x1 then some true else gd (inb ((m_from σ) + x1) 250) (gd (inb x1 5) (if ((m_tape σ) (Int32.toNatClampNeg ((m_from σ) + x1))) = (sch 1 x1) then lt (x1 + 1) (fun x2 => rec29 x2) else some false))
def f_X4_isWord_w1_L29 (σ : MM)  (x1 : Int32) : Option (Bool) :=
  lp (fun _ => none) (f_X4_isWord_w1_L29_b σ ) FU x1
def f_X4_isWord_w1 (σ : MM) : Option (Bool) :=
  if (m_token σ) = 119 then if ((m_to σ) - (m_from σ)) = 5 then f_X4_isWord_w1_L29 σ 0 else some false else some false
set_option maxHeartbeats 4000000 in
set_option maxRecDepth 100000 in
theorem c_X4_isWord_w1 (l : Launch) (ev : EV) (ad : Nat → Nat) (σ : MM)   (r : Bool)  (h : f_X4_isWord_w1 σ = some r) : Ct l yX4_isWord prog_6_method_37_code 3 (Option.some Jvm.ClassFile.FieldType.boolean) (rmk 8 300) ev 13 ad (mw ev ad σ) (mw ev ad σ) [.ref (ad 0), .ref (ev.2.2.2.1 1)] (some (.int (bi r))) := by
  refine Ct.of (by decide +kernel) (Nat.le_of_ble_eq_true rfl) ?_
  intro p e s m args below meth c Qc C hap hP hend ls hl
  have hAA : ∀ j, j < 13 → inA ad 13 (ad j) := fun j hj => ⟨j, hj, rfl⟩
  have hx := C.1
  have hb := C.2.1
  have hl : lv_has ls 3 [(0, .ref (ad 0)), (1, .ref (ev.2.2.2.1 1))] := hl
  have h := (f_X4_isWord_w1.eq_1 _ ).symm.trans h
  refine lv_aload_n hx hb dX4_isWord_0 rfl (lv_at hl 0 rfl) ?_
  refine r_get C hP (ci := 4) rfl uin_X4 15 (by decide) 0 (by decide) rfl qFL_RX4_137 rfl rfl dX4_isWord_1 ?_
  refine lv_bipush (v := 119) hx hb dX4_isWord_4 (by decide) ?_
  refine lv_icmp_ne (tgt := 25) hx hb dX4_isWord_6 (by decide) (fun c6 => ?_) (fun c6 => ?_)
  · have h := k_nf c6 h
    refine lv_iconst (v := 0) hx hb dX4_isWord_25 (by decide) ?_
    exact e_zret C hend hP (k_some h) rfl dX4_isWord_26 rfl
  · have h := k_if c6 h
    refine lv_aload_n hx hb dX4_isWord_9 rfl (lv_at hl 0 rfl) ?_
    refine r_get C hP (ci := 4) rfl uin_X4 14 (by decide) 0 (by decide) rfl qFL_RX4_131 rfl rfl dX4_isWord_10 ?_
    refine lv_aload_n hx hb dX4_isWord_13 rfl (lv_at hl 0 rfl) ?_
    refine r_get C hP (ci := 4) rfl uin_X4 13 (by decide) 0 (by decide) rfl qFL_RX4_134 rfl rfl dX4_isWord_14 ?_
    refine lv_isub hx hb dX4_isWord_17 ?_
    refine lv_aload_n hx hb dX4_isWord_18 rfl (lv_at hl 1 rfl) ?_
    refine r_slen C hP hap hAA 1 (by decide) qML_RX4_149 ⟨(Nat.le_of_ble_eq_true rfl), (Nat.le_of_ble_eq_true rfl)⟩ hl.1 (by exact (Nat.le_of_ble_eq_true rfl)) dX4_isWord_19 ⟨Nat.le_refl _, Nat.le_refl _⟩ (v := 5) rfl (fun H locs hP => ?_)
    refine lv_icmp_eq (tgt := 27) hx hb dX4_isWord_22 (by decide) (fun c22 => ?_) (fun c22 => ?_)
    · have h := k_if c22 h
      refine lv_iconst (v := 0) hx hb dX4_isWord_27 (by decide) ?_
      refine lv_istore_n (lv' := [(2, .int 0), (0, .ref (ad 0)), (1, .ref (ev.2.2.2.1 1))]) hx hb dX4_isWord_28 rfl hl (by decide) rfl (fun ls hl => ?_)
      have hL29 : ∀ (n : Nat) (x1 : Int32) (H : Heap) (locs : List Loc) (ls : Array Slot), lp (fun _ => none) (f_X4_isWord_w1_L29_b σ ) n x1 = some r → PS ev 13 ad (mw ev ad σ) (inA ad 13) s H locs → lv_has ls 3 [(0, .ref (ad 0)), (1, .ref (ev.2.2.2.1 1)), (2, .int x1)] → WW ev p l e (rmk 8 300) s m args below meth c Qc ad 13 H locs 29 ls [] := by
        intro n
        induction n with
        | zero =>
          intro x1 H locs ls h; exact k_none h
        | succ n ih =>
          intro x1 H locs ls h hP hl
          have h : f_X4_isWord_w1_L29_b σ  (lp (fun _ => none) (f_X4_isWord_w1_L29_b σ ) n) x1 = some r := h
          have h := (f_X4_isWord_w1_L29_b.eq_1 _ _ _ ).symm.trans h
          refine lv_iload_n hx hb dX4_isWord_29 rfl (lv_at hl 2 rfl) ?_
          refine lv_aload_n hx hb dX4_isWord_30 rfl (lv_at hl 1 rfl) ?_
          refine r_slen C hP hap hAA 1 (by decide) qML_RX4_149 ⟨(Nat.le_of_ble_eq_true rfl), (Nat.le_of_ble_eq_true rfl)⟩ hl.1 (by exact (Nat.le_of_ble_eq_true rfl)) dX4_isWord_31 ⟨Nat.le_refl _, Nat.le_refl _⟩ (v := 5) rfl (fun H locs hP => ?_)
          refine lv_icmp_ge (tgt := 64) hx hb dX4_isWord_34 (by decide) (fun c34 => ?_) (fun c34 => ?_)
          · have h := k_if c34 h
            refine lv_iconst (v := 1) hx hb dX4_isWord_64 (by decide) ?_
            exact e_zret C hend hP (k_some h) rfl dX4_isWord_65 rfl
          · have h := k_nf c34 h
            refine lv_aload_n hx hb dX4_isWord_37 rfl (lv_at hl 0 rfl) ?_
            refine r_get C hP (ci := 4) rfl uin_X4 12 (by decide) 0 (by decide) rfl qFL_RX4_26 rfl rfl dX4_isWord_38 ?_
            refine lv_aload_n hx hb dX4_isWord_41 rfl (lv_at hl 0 rfl) ?_
            refine r_get C hP (ci := 4) rfl uin_X4 13 (by decide) 0 (by decide) rfl qFL_RX4_134 rfl rfl dX4_isWord_42 ?_
            refine lv_iload_n hx hb dX4_isWord_45 rfl (lv_at hl 2 rfl) ?_
            refine lv_iadd hx hb dX4_isWord_46 ?_
            obtain ⟨hg, h⟩ := k_gd h
            refine r_iald C hP 6 (by decide) rfl hg dX4_isWord_47 ?_
            refine lv_aload_n hx hb dX4_isWord_48 rfl (lv_at hl 1 rfl) ?_
            refine lv_iload_n hx hb dX4_isWord_49 rfl (lv_at hl 2 rfl) ?_
            obtain ⟨hg, h⟩ := k_gd h
            refine r_schar C hP hap hAA 1 (by decide) hg qML_RX4_154 ⟨(Nat.le_of_ble_eq_true rfl), (Nat.le_of_ble_eq_true rfl)⟩ hl.1 (by exact (Nat.le_of_ble_eq_true rfl)) dX4_isWord_50 ⟨Nat.le_refl _, Nat.le_refl _⟩ rfl (fun H locs hP => ?_)
            refine lv_icmp_eq (tgt := 58) hx hb dX4_isWord_53 (by decide) (fun c53 => ?_) (fun c53 => ?_)
            · have h := k_if c53 h
              obtain ⟨x2, ex2, h⟩ := k_ltx h
              refine lv_iinc (v := x2) (lv' := [(2, .int x2), (0, .ref (ad 0)), (1, .ref (ev.2.2.2.1 1))]) hx hb dX4_isWord_58 hl (k := 2) rfl (by rw [ex2]; rfl) (by decide) rfl (fun ls hl => ?_)
              refine lv_goto (tgt := 29) hx hb dX4_isWord_61 (by decide) ?_
              exact ih _ _ _ _ h hP (lv_sub hl [1, 2, 0] rfl)
            · have h := k_nf c53 h
              refine lv_iconst (v := 0) hx hb dX4_isWord_56 (by decide) ?_
              exact e_zret C hend hP (k_some h) rfl dX4_isWord_57 rfl
      exact hL29 FU _ _ _ _ h hP (lv_sub hl [1, 2, 0] rfl)
    · have h := k_nf c22 h
      refine lv_iconst (v := 0) hx hb dX4_isWord_25 (by decide) ?_
      exact e_zret C hend hP (k_some h) rfl dX4_isWord_26 rfl
def f_X4_isWord_w2_L29_b (σ : MM)  (rec29 : Int32 → Option (Bool)) (x1 : Int32) : Option (Bool) :=
  if 3 ≤ x1 then some true else gd (inb ((m_from σ) + x1) 250) (gd (inb x1 3) (if ((m_tape σ) (Int32.toNatClampNeg ((m_from σ) + x1))) = (sch 2 x1) then lt (x1 + 1) (fun x2 => rec29 x2) else some false))
def f_X4_isWord_w2_L29 (σ : MM)  (x1 : Int32) : Option (Bool) :=
  lp (fun _ => none) (f_X4_isWord_w2_L29_b σ ) FU x1
def f_X4_isWord_w2 (σ : MM) : Option (Bool) :=
  if (m_token σ) = 119 then if ((m_to σ) - (m_from σ)) = 3 then f_X4_isWord_w2_L29 σ 0 else some false else some false
set_option maxHeartbeats 4000000 in
set_option maxRecDepth 100000 in
theorem c_X4_isWord_w2 (l : Launch) (ev : EV) (ad : Nat → Nat) (σ : MM)   (r : Bool)  (h : f_X4_isWord_w2 σ = some r) : Ct l yX4_isWord prog_6_method_37_code 3 (Option.some Jvm.ClassFile.FieldType.boolean) (rmk 8 300) ev 13 ad (mw ev ad σ) (mw ev ad σ) [.ref (ad 0), .ref (ev.2.2.2.1 2)] (some (.int (bi r))) := by
  refine Ct.of (by decide +kernel) (Nat.le_of_ble_eq_true rfl) ?_
  intro p e s m args below meth c Qc C hap hP hend ls hl
  have hAA : ∀ j, j < 13 → inA ad 13 (ad j) := fun j hj => ⟨j, hj, rfl⟩
  have hx := C.1
  have hb := C.2.1
  have hl : lv_has ls 3 [(0, .ref (ad 0)), (1, .ref (ev.2.2.2.1 2))] := hl
  have h := (f_X4_isWord_w2.eq_1 _ ).symm.trans h
  refine lv_aload_n hx hb dX4_isWord_0 rfl (lv_at hl 0 rfl) ?_
  refine r_get C hP (ci := 4) rfl uin_X4 15 (by decide) 0 (by decide) rfl qFL_RX4_137 rfl rfl dX4_isWord_1 ?_
  refine lv_bipush (v := 119) hx hb dX4_isWord_4 (by decide) ?_
  refine lv_icmp_ne (tgt := 25) hx hb dX4_isWord_6 (by decide) (fun c6 => ?_) (fun c6 => ?_)
  · have h := k_nf c6 h
    refine lv_iconst (v := 0) hx hb dX4_isWord_25 (by decide) ?_
    exact e_zret C hend hP (k_some h) rfl dX4_isWord_26 rfl
  · have h := k_if c6 h
    refine lv_aload_n hx hb dX4_isWord_9 rfl (lv_at hl 0 rfl) ?_
    refine r_get C hP (ci := 4) rfl uin_X4 14 (by decide) 0 (by decide) rfl qFL_RX4_131 rfl rfl dX4_isWord_10 ?_
    refine lv_aload_n hx hb dX4_isWord_13 rfl (lv_at hl 0 rfl) ?_
    refine r_get C hP (ci := 4) rfl uin_X4 13 (by decide) 0 (by decide) rfl qFL_RX4_134 rfl rfl dX4_isWord_14 ?_
    refine lv_isub hx hb dX4_isWord_17 ?_
    refine lv_aload_n hx hb dX4_isWord_18 rfl (lv_at hl 1 rfl) ?_
    refine r_slen C hP hap hAA 2 (by decide) qML_RX4_149 ⟨(Nat.le_of_ble_eq_true rfl), (Nat.le_of_ble_eq_true rfl)⟩ hl.1 (by exact (Nat.le_of_ble_eq_true rfl)) dX4_isWord_19 ⟨Nat.le_refl _, Nat.le_refl _⟩ (v := 3) rfl (fun H locs hP => ?_)
    refine lv_icmp_eq (tgt := 27) hx hb dX4_isWord_22 (by decide) (fun c22 => ?_) (fun c22 => ?_)
    · have h := k_if c22 h
      refine lv_iconst (v := 0) hx hb dX4_isWord_27 (by decide) ?_
      refine lv_istore_n (lv' := [(2, .int 0), (0, .ref (ad 0)), (1, .ref (ev.2.2.2.1 2))]) hx hb dX4_isWord_28 rfl hl (by decide) rfl (fun ls hl => ?_)
      have hL29 : ∀ (n : Nat) (x1 : Int32) (H : Heap) (locs : List Loc) (ls : Array Slot), lp (fun _ => none) (f_X4_isWord_w2_L29_b σ ) n x1 = some r → PS ev 13 ad (mw ev ad σ) (inA ad 13) s H locs → lv_has ls 3 [(0, .ref (ad 0)), (1, .ref (ev.2.2.2.1 2)), (2, .int x1)] → WW ev p l e (rmk 8 300) s m args below meth c Qc ad 13 H locs 29 ls [] := by
        intro n
        induction n with
        | zero =>
          intro x1 H locs ls h; exact k_none h
        | succ n ih =>
          intro x1 H locs ls h hP hl
          have h : f_X4_isWord_w2_L29_b σ  (lp (fun _ => none) (f_X4_isWord_w2_L29_b σ ) n) x1 = some r := h
          have h := (f_X4_isWord_w2_L29_b.eq_1 _ _ _ ).symm.trans h
          refine lv_iload_n hx hb dX4_isWord_29 rfl (lv_at hl 2 rfl) ?_
          refine lv_aload_n hx hb dX4_isWord_30 rfl (lv_at hl 1 rfl) ?_
          refine r_slen C hP hap hAA 2 (by decide) qML_RX4_149 ⟨(Nat.le_of_ble_eq_true rfl), (Nat.le_of_ble_eq_true rfl)⟩ hl.1 (by exact (Nat.le_of_ble_eq_true rfl)) dX4_isWord_31 ⟨Nat.le_refl _, Nat.le_refl _⟩ (v := 3) rfl (fun H locs hP => ?_)
          refine lv_icmp_ge (tgt := 64) hx hb dX4_isWord_34 (by decide) (fun c34 => ?_) (fun c34 => ?_)
          · have h := k_if c34 h
            refine lv_iconst (v := 1) hx hb dX4_isWord_64 (by decide) ?_
            exact e_zret C hend hP (k_some h) rfl dX4_isWord_65 rfl
          · have h := k_nf c34 h
            refine lv_aload_n hx hb dX4_isWord_37 rfl (lv_at hl 0 rfl) ?_
            refine r_get C hP (ci := 4) rfl uin_X4 12 (by decide) 0 (by decide) rfl qFL_RX4_26 rfl rfl dX4_isWord_38 ?_
            refine lv_aload_n hx hb dX4_isWord_41 rfl (lv_at hl 0 rfl) ?_
            refine r_get C hP (ci := 4) rfl uin_X4 13 (by decide) 0 (by decide) rfl qFL_RX4_134 rfl rfl dX4_isWord_42 ?_
            refine lv_iload_n hx hb dX4_isWord_45 rfl (lv_at hl 2 rfl) ?_
            refine lv_iadd hx hb dX4_isWord_46 ?_
            obtain ⟨hg, h⟩ := k_gd h
            refine r_iald C hP 6 (by decide) rfl hg dX4_isWord_47 ?_
            refine lv_aload_n hx hb dX4_isWord_48 rfl (lv_at hl 1 rfl) ?_
            refine lv_iload_n hx hb dX4_isWord_49 rfl (lv_at hl 2 rfl) ?_
            obtain ⟨hg, h⟩ := k_gd h
            refine r_schar C hP hap hAA 2 (by decide) hg qML_RX4_154 ⟨(Nat.le_of_ble_eq_true rfl), (Nat.le_of_ble_eq_true rfl)⟩ hl.1 (by exact (Nat.le_of_ble_eq_true rfl)) dX4_isWord_50 ⟨Nat.le_refl _, Nat.le_refl _⟩ rfl (fun H locs hP => ?_)
            refine lv_icmp_eq (tgt := 58) hx hb dX4_isWord_53 (by decide) (fun c53 => ?_) (fun c53 => ?_)
            · have h := k_if c53 h
              obtain ⟨x2, ex2, h⟩ := k_ltx h
              refine lv_iinc (v := x2) (lv' := [(2, .int x2), (0, .ref (ad 0)), (1, .ref (ev.2.2.2.1 2))]) hx hb dX4_isWord_58 hl (k := 2) rfl (by rw [ex2]; rfl) (by decide) rfl (fun ls hl => ?_)
              refine lv_goto (tgt := 29) hx hb dX4_isWord_61 (by decide) ?_
              exact ih _ _ _ _ h hP (lv_sub hl [1, 2, 0] rfl)
            · have h := k_nf c53 h
              refine lv_iconst (v := 0) hx hb dX4_isWord_56 (by decide) ?_
              exact e_zret C hend hP (k_some h) rfl dX4_isWord_57 rfl
      exact hL29 FU _ _ _ _ h hP (lv_sub hl [1, 2, 0] rfl)
    · have h := k_nf c22 h
      refine lv_iconst (v := 0) hx hb dX4_isWord_25 (by decide) ?_
      exact e_zret C hend hP (k_some h) rfl dX4_isWord_26 rfl
