/-! functions read off, and their contracts: by program (wip/whole/gen2.py) -/
def f_X4_isWord_w4_L29_b (σ : MM)  (rec29 : Int32 → Option (Bool)) (x1 : Int32) : Option (Bool) :=
  if 6 ≤ x1 then some true else gd (inb ((m_from σ) + x1) 250) (gd (inb x1 6) (if ((m_tape σ) (Int32.toNatClampNeg ((m_from σ) + x1))) = (sch 4 x1) then lt (x1 + 1) (fun x2 => rec29 x2) else some false))
def f_X4_isWord_w4_L29 (σ : MM)  (x1 : Int32) : Option (Bool) :=
  lp (fun _ => none) (f_X4_isWord_w4_L29_b σ ) FU x1
def f_X4_isWord_w4 (σ : MM) : Option (Bool) :=
  if (m_token σ) = 119 then if ((m_to σ) - (m_from σ)) = 6 then f_X4_isWord_w4_L29 σ 0 else some false else some false
set_option maxHeartbeats 4000000 in
set_option maxRecDepth 100000 in
theorem c_X4_isWord_w4 (l : Launch) (ev : EV) (ad : Nat → Nat) (σ : MM)   (r : Bool)  (h : f_X4_isWord_w4 σ = some r) : Ct l yX4_isWord prog_6_method_37_code 3 (Option.some Jvm.ClassFile.FieldType.boolean) (rmk 8 300) ev 13 ad (mw ev ad σ) (mw ev ad σ) [.ref (ad 0), .ref (ev.2.2.2.1 4)] (some (.int (bi r))) := by
  refine Ct.of (by decide +kernel) (Nat.le_of_ble_eq_true rfl) ?_
  intro p e s m args below meth c Qc C hap hP hend ls hl
  have hAA : ∀ j, j < 13 → inA ad 13 (ad j) := fun j hj => ⟨j, hj, rfl⟩
  have hx := C.1
  have hb := C.2.1
  have hl : lv_has ls 3 [(0, .ref (ad 0)), (1, .ref (ev.2.2.2.1 4))] := hl
  have h := (f_X4_isWord_w4.eq_1 _ ).symm.trans h
  refine lv_aload_n hx hb dX4_isWord_0 rfl (lv_at hl 0 rfl) ?_
  refine r_get C hP (ci := 4) rfl uin_X4 15 (by decide) 0 (by decide) rfl qFL_RX4_137 rfl rfl dX4_isWord_1 ?_
  refine lv_bipush (v := 119) hx hb dX4_isWord_4 (by decide) ?_
  refine lv_icmp_ne (tgt := 25) hx hb dX4_isWord_6 (by decide) (fun c6 => ?_) (fun c6 => ?_)
  · have h := k_nf c6 h
    refine lv_iconst (v := 0) hx hb dX4_isWord_25 (by decide) ?_
    exact e_zret C hend hP (k_some h) rfl dX4_isWord_26 rfl
  · have h := k_if c6 h
    refine lv_aload_n hx hb dX4_isWord_9 rfl (lv_at hl 0 rfl) ?_
    refine r_get C hP (ci := 4) rfl uin_X4 14 (by decide) 0 (by decide) rfl qFL_RX4_131 rfl rfl dX4_isWord_10 ?_
    refine lv_aload_n hx hb dX4_isWord_13 rfl (lv_at hl 0 rfl) ?_
    refine r_get C hP (ci := 4) rfl uin_X4 13 (by decide) 0 (by decide) rfl qFL_RX4_134 rfl rfl dX4_isWord_14 ?_
    refine lv_isub hx hb dX4_isWord_17 ?_
    refine lv_aload_n hx hb dX4_isWord_18 rfl (lv_at hl 1 rfl) ?_
    refine r_slen C hP hap hAA 4 (by decide) qML_RX4_149 ⟨(Nat.le_of_ble_eq_true rfl), (Nat.le_of_ble_eq_true rfl)⟩ hl.1 (by exact (Nat.le_of_ble_eq_true rfl)) dX4_isWord_19 ⟨Nat.le_refl _, Nat.le_refl _⟩ (v := 6) rfl (fun H locs hP => ?_)
    refine lv_icmp_eq (tgt := 27) hx hb dX4_isWord_22 (by decide) (fun c22 => ?_) (fun c22 => ?_)
    · have h := k_if c22 h
      refine lv_iconst (v := 0) hx hb dX4_isWord_27 (by decide) ?_
      refine lv_istore_n (lv' := [(2, .int 0), (0, .ref (ad 0)), (1, .ref (ev.2.2.2.1 4))]) hx hb dX4_isWord_28 rfl hl (by decide) rfl (fun ls hl => ?_)
      have hL29 : ∀ (n : Nat) (x1 : Int32) (H : Heap) (locs : List Loc) (ls : Array Slot), lp (fun _ => none) (f_X4_isWord_w4_L29_b σ ) n x1 = some r → PS ev 13 ad (mw ev ad σ) (inA ad 13) s H locs → lv_has ls 3 [(0, .ref (ad 0)), (1, .ref (ev.2.2.2.1 4)), (2, .int x1)] → WW ev p l e (rmk 8 300) s m args below meth c Qc ad 13 H locs 29 ls [] := by
        intro n
        induction n with
        | zero =>
          intro x1 H locs ls h; exact k_none h
        | succ n ih =>
          intro x1 H locs ls h hP hl
          have h : f_X4_isWord_w4_L29_b σ  (lp (fun _ => none) (f_X4_isWord_w4_L29_b σ ) n) x1 = some r := h
          have h := (f_X4_isWord_w4_L29_b.eq_1 _ _ _ ).symm.trans h
          refine lv_iload_n hx hb dX4_isWord_29 rfl (lv_at hl 2 rfl) ?_
          refine lv_aload_n hx hb dX4_isWord_30 rfl (lv_at hl 1 rfl) ?_
          refine r_slen C hP hap hAA 4 (by decide) qML_RX4_149 ⟨(Nat.le_of_ble_eq_true rfl), (Nat.le_of_ble_eq_true rfl)⟩ hl.1 (by exact (Nat.le_of_ble_eq_true rfl)) dX4_isWord_31 ⟨Nat.le_refl _, Nat.le_refl _⟩ (v := 6) rfl (fun H locs hP => ?_)
          refine lv_icmp_ge (tgt := 64) hx hb dX4_isWord_34 (by decide) (fun c34 => ?_) (fun c34 => ?_)
          · have h := k_if c34 h
            refine lv_iconst (v := 1) hx hb dX4_isWord_64 (by decide) ?_
            exact e_zret C hend hP (k_some h) rfl dX4_isWord_65 rfl
          · have h := k_nf c34 h
            refine lv_aload_n hx hb dX4_isWord_37 rfl (lv_at hl 0 rfl) ?_
            refine r_get C hP (ci := 4) rfl uin_X4 12 (by decide) 0 (by decide) rfl qFL_RX4_26 rfl rfl dX4_isWord_38 ?_
            refine lv_aload_n hx hb dX4_isWord_41 rfl (lv_at hl 0 rfl) ?_
            refine r_get C hP (ci := 4) rfl uin_X4 13 (by decide) 0 (by decide) rfl qFL_RX4_134 rfl rfl dX4_isWord_42 ?_
            refine lv_iload_n hx hb dX4_isWord_45 rfl (lv_at hl 2 rfl) ?_
            refine lv_iadd hx hb dX4_isWord_46 ?_
            obtain ⟨hg, h⟩ := k_gd h
            refine r_iald C hP 6 (by decide) rfl hg dX4_isWord_47 ?_
            refine lv_aload_n hx hb dX4_isWord_48 rfl (lv_at hl 1 rfl) ?_
            refine lv_iload_n hx hb dX4_isWord_49 rfl (lv_at hl 2 rfl) ?_
            obtain ⟨hg, h⟩ := k_gd h
            refine r_schar C hP hap hAA 4 (by decide) hg qML_RX4_154 ⟨(Nat.le_of_ble_eq_true rfl), (Nat.le_of_ble_eq_true rfl)⟩ hl.1 (by exact (Nat.le_of_ble_eq_true rfl)) dX4_isWord_50 ⟨Nat.le_refl _, Nat.le_refl _⟩ rfl (fun H locs hP => ?_)
            refine lv_icmp_eq (tgt := 58) hx hb dX4_isWord_53 (by decide) (fun c53 => ?_) (fun c53 => ?_)
            · have h := k_if c53 h
              obtain ⟨x2, ex2, h⟩ := k_ltx h
              refine lv_iinc (v := x2) (lv' := [(2, .int x2), (0, .ref (ad 0)), (1, .ref (ev.2.2.2.1 4))]) hx hb dX4_isWord_58 hl (k := 2) rfl (by rw [ex2]; rfl) (by decide) rfl (fun ls hl => ?_)
              refine lv_goto (tgt := 29) hx hb dX4_isWord_61 (by decide) ?_
              exact ih _ _ _ _ h hP (lv_sub hl [1, 2, 0] rfl)
            · have h := k_nf c53 h
              refine lv_iconst (v := 0) hx hb dX4_isWord_56 (by decide) ?_
              exact e_zret C hend hP (k_some h) rfl dX4_isWord_57 rfl
      exact hL29 FU _ _ _ _ h hP (lv_sub hl [1, 2, 0] rfl)
    · have h := k_nf c22 h
      refine lv_iconst (v := 0) hx hb dX4_isWord_25 (by decide) ?_
      exact e_zret C hend hP (k_some h) rfl dX4_isWord_26 rfl
def f_X4_statement_b107  (x9 : Int32) (x10 : Int32) (σ11 : MM) : Option (Bool × MM) :=
  if (f_X4_isMove σ11 (x10 + x9)) = true then ob (f_X4_mayBe σ11 (x10 + x9)) (fun b12 => if b12 = true then ob2 (f_X4_makes σ11 (x10 + x9)) (fun x14 σ13 => some (true, σ13)) else some (false, σ11)) else some (false, σ11)
def f_X4_statement_b81  (x5 : Int32) (σ6 : MM) : Option (Bool × MM) :=
  ob2 (f_X4_number σ6 0 99) (fun x8 σ7 => if x8 = (-1) then some (false, σ7) else if x5 = 0 then if (f_X4_edges σ7) ≤ x8 then some (false, σ7) else f_X4_statement_b107 x8 x5 σ7 else f_X4_statement_b107 x8 x5 σ7)
def f_X4_statement_b66  (σ3 : MM) : Option (Bool × MM) :=
  ob (f_X4_isWord_w2 σ3) (fun b4 => if b4 = true then f_X4_statement_b81 100 σ3 else f_X4_statement_b81 0 σ3)
def f_X4_statement_b212  (x22 : Int32) (x23 : Int32) (σ24 : MM) : Option (Bool × MM) :=
  if x23 = (-1) then some (false, σ24) else ob2 (f_X4_newPlayer σ24 x22 x23) (fun x26 σ25 => some (true, σ25))
def f_X4_statement_b31  (x34 : Int32) (x35 : Int32) (σ36 : MM) : Option (Bool × MM) :=
  if x35 = (-1) then some (false, σ36) else ob2 (f_X4_sized σ36 x34 x35) (fun x38 σ37 => some (true, σ37))
def f_X4_statement (σ : MM) : Option (Bool × MM) :=
  ob (f_X4_isWord_w0 σ) (fun b1 => if b1 = true then ob2 (f_X4_number σ 1 4) (fun x31 σ30 => if x31 = (-1) then f_X4_statement_b31 x31 (-1) σ30 else ob2 (f_X4_number σ30 1 4) (fun x33 σ32 => f_X4_statement_b31 x31 x33 σ32)) else ob (f_X4_isWord_w1 σ) (fun b2 => if b2 = true then f_X4_statement_b66 σ else ob (f_X4_isWord_w2 σ) (fun b15 => if b15 = true then f_X4_statement_b66 σ else ob (f_X4_isWord_w3 σ) (fun b16 => if b16 = true then ob2 (f_X4_number σ 0 1) (fun x28 σ27 => if x28 = (-1) then some (false, σ27) else lt (m_turn' σ27 x28) (fun σ29 => some (true, σ29))) else ob (f_X4_isWord_w4 σ) (fun b17 => if b17 = true then if (m_players σ) = 6 then some (false, σ) else ob2 (f_X4_number σ 0 5) (fun x19 σ18 => if x19 = (-1) then f_X4_statement_b212 x19 (-1) σ18 else ob2 (f_X4_number σ18 0 9) (fun x21 σ20 => f_X4_statement_b212 x19 x21 σ20)) else some (false, σ))))))
set_option maxHeartbeats 4000000 in
set_option maxRecDepth 100000 in
theorem c_X4_statement (l : Launch) (ev : EV) (ad : Nat → Nat) (σ : MM)   (r : Bool) (σ' : MM) (h : f_X4_statement σ = some (r, σ')) : Ct l yX4_statement prog_6_method_39_code 4 (Option.some Jvm.ClassFile.FieldType.boolean) (rmk 9 322) ev 13 ad (mw ev ad σ) (mw ev ad σ') [.ref (ad 0)] (some (.int (bi r))) := by
  refine Ct.of (by decide +kernel) (Nat.le_of_ble_eq_true rfl) ?_
  intro p e s m args below meth c Qc C hap hP hend ls hl
  have hAA : ∀ j, j < 13 → inA ad 13 (ad j) := fun j hj => ⟨j, hj, rfl⟩
  have hx := C.1
  have hb := C.2.1
  have hl : lv_has ls 4 [(0, .ref (ad 0))] := hl
  have h := (f_X4_statement.eq_1 _ ).symm.trans h
  have hB107 : ∀ (x9 : Int32) (x10 : Int32) (σ11 : MM) (H : Heap) (locs : List Loc) (ls : Array Slot), f_X4_statement_b107  x9 x10 σ11 = some (r, σ') → PS ev 13 ad (mw ev ad σ11) (inA ad 13) s H locs → lv_has ls 4 [(0, .ref (ad 0)), (1, .int x9), (3, .int x10)] → WW ev p l e (rmk 9 322) s m args below meth c Qc ad 13 H locs 107 ls [] := by
    intro x9 x10 σ11 H locs ls h hP hl
    have h := (f_X4_statement_b107.eq_1 _ _ _ ).symm.trans h
    refine lv_aload_n hx hb dX4_statement_107 rfl (lv_at hl 0 rfl) ?_
    refine lv_iload_n hx hb dX4_statement_108 rfl (lv_at hl 2 rfl) ?_
    refine lv_iload_n hx hb dX4_statement_109 rfl (lv_at hl 1 rfl) ?_
    refine lv_iadd hx hb dX4_statement_110 ?_
    refine k_callVi C hP hap hAA (c_X4_isMove l ev ad σ11 (x10 + x9)   _ rfl) Emb.same hap gz_X4_isMove qML_RX4_173 qIM_yX4_isMove qSE_yX4_isMove ⟨(Nat.le_of_ble_eq_true rfl), (Nat.le_of_ble_eq_true rfl)⟩ (q0 := 0) rfl (by decide) rfl rfl rfl rfl hl.1 rfl (Nat.le_of_ble_eq_true rfl) dX4_statement_111 ⟨Nat.le_refl _, Nat.le_refl _⟩ (fun H locs hP => ?_)
    refine r_ifz_eq (tgt := 127) hx hb dX4_statement_114 (by decide) (fun c114 => ?_) (fun c114 => ?_)
    · have h := k_nf c114 h
      refine lv_iconst (v := 0) hx hb dX4_statement_127 (by decide) ?_
      exact e_zret C hend hP (k_some2 h).1 (congrArg (mw ev ad) (k_some2 h).2) dX4_statement_128 rfl
    · have h := k_if c114 h
      refine lv_aload_n hx hb dX4_statement_117 rfl (lv_at hl 0 rfl) ?_
      refine lv_iload_n hx hb dX4_statement_118 rfl (lv_at hl 2 rfl) ?_
      refine lv_iload_n hx hb dX4_statement_119 rfl (lv_at hl 1 rfl) ?_
      refine lv_iadd hx hb dX4_statement_120 ?_
      obtain ⟨b12, h1, h⟩ := k_ob h
      refine k_callVi C hP hap hAA (c_X4_mayBe l ev ad σ11 (x10 + x9)   _ h1) Emb.same hap gz_X4_mayBe qML_RX4_176 qIM_yX4_mayBe qSE_yX4_mayBe ⟨(Nat.le_of_ble_eq_true rfl), (Nat.le_of_ble_eq_true rfl)⟩ (q0 := 0) rfl (by decide) rfl rfl rfl rfl hl.1 rfl (Nat.le_of_ble_eq_true rfl) dX4_statement_121 ⟨Nat.le_refl _, Nat.le_refl _⟩ (fun H locs hP => ?_)
      refine r_ifz_ne (tgt := 129) hx hb dX4_statement_124 (by decide) (fun c124 => ?_) (fun c124 => ?_)
      · have h := k_if c124 h
        refine lv_aload_n hx hb dX4_statement_129 rfl (lv_at hl 0 rfl) ?_
        refine lv_iload_n hx hb dX4_statement_130 rfl (lv_at hl 2 rfl) ?_
        refine lv_iload_n hx hb dX4_statement_131 rfl (lv_at hl 1 rfl) ?_
        refine lv_iadd hx hb dX4_statement_132 ?_
        obtain ⟨x14, σ13, h1, h⟩ := k_ob2 h
        refine k_callVi C hP hap hAA (c_X4_makes l ev ad σ11 (x10 + x9)   _ _ h1) Emb.same hap gz_X4_makes qML_RX4_179 qIM_yX4_makes qSE_yX4_makes ⟨(Nat.le_of_ble_eq_true rfl), (Nat.le_of_ble_eq_true rfl)⟩ (q0 := 0) rfl (by decide) rfl rfl rfl rfl hl.1 rfl (Nat.le_of_ble_eq_true rfl) dX4_statement_133 ⟨Nat.le_refl _, Nat.le_refl _⟩ (fun H locs hP => ?_)
        refine lv_pop hx hb dX4_statement_136 rfl ?_
        refine lv_iconst (v := 1) hx hb dX4_statement_137 (by decide) ?_
        exact e_zret C hend hP (k_some2 h).1 (congrArg (mw ev ad) (k_some2 h).2) dX4_statement_138 rfl
      · have h := k_nf c124 h
        refine lv_iconst (v := 0) hx hb dX4_statement_127 (by decide) ?_
        exact e_zret C hend hP (k_some2 h).1 (congrArg (mw ev ad) (k_some2 h).2) dX4_statement_128 rfl
  have hB81 : ∀ (x5 : Int32) (σ6 : MM) (H : Heap) (locs : List Loc) (ls : Array Slot), f_X4_statement_b81  x5 σ6 = some (r, σ') → PS ev 13 ad (mw ev ad σ6) (inA ad 13) s H locs → lv_has ls 4 [(0, .ref (ad 0))] → WW ev p l e (rmk 9 322) s m args below meth c Qc ad 13 H locs 81 ls [.int x5] := by
    intro x5 σ6 H locs ls h hP hl
    have h := (f_X4_statement_b81.eq_1 _ _ ).symm.trans h
    refine lv_istore_n (lv' := [(3, .int x5), (0, .ref (ad 0))]) hx hb dX4_statement_81 rfl hl (by decide) rfl (fun ls hl => ?_)
    refine lv_aload_n hx hb dX4_statement_82 rfl (lv_at hl 1 rfl) ?_
    refine lv_iconst (v := 0) hx hb dX4_statement_83 (by decide) ?_
    refine lv_bipush (v := 99) hx hb dX4_statement_84 (by decide) ?_
    obtain ⟨x8, σ7, h1, h⟩ := k_ob2 h
    refine k_callVi C hP hap hAA (c_X4_number l ev ad σ6 0 99   _ _ h1) Emb.same hap gz_X4_number qML_RX4_167 qIM_yX4_number qSE_yX4_number ⟨(Nat.le_of_ble_eq_true rfl), (Nat.le_of_ble_eq_true rfl)⟩ (q0 := 0) rfl (by decide) rfl rfl rfl rfl hl.1 rfl (Nat.le_of_ble_eq_true rfl) dX4_statement_86 ⟨Nat.le_refl _, Nat.le_refl _⟩ (fun H locs hP => ?_)
    refine lv_istore_n (lv' := [(1, .int x8), (3, .int x5), (0, .ref (ad 0))]) hx hb dX4_statement_89 rfl hl (by decide) rfl (fun ls hl => ?_)
    refine lv_iload_n hx hb dX4_statement_90 rfl (lv_at hl 0 rfl) ?_
    refine lv_iconst (v := (-1)) hx hb dX4_statement_91 (by decide) ?_
    refine lv_icmp_eq (tgt := 127) hx hb dX4_statement_92 (by decide) (fun c92 => ?_) (fun c92 => ?_)
    · have h := k_if c92 h
      refine lv_iconst (v := 0) hx hb dX4_statement_127 (by decide) ?_
      exact e_zret C hend hP (k_some2 h).1 (congrArg (mw ev ad) (k_some2 h).2) dX4_statement_128 rfl
    · have h := k_nf c92 h
      refine lv_iload_n hx hb dX4_statement_95 rfl (lv_at hl 1 rfl) ?_
      refine lv_if_ne (tgt := 107) hx hb dX4_statement_96 (by decide) (fun c96 => ?_) (fun c96 => ?_)
      · have h := k_nf c96 h
        exact hB107 _ _ _ _ _ _ h hP (lv_sub hl [2, 0, 1] rfl)
      · have h := k_if c96 h
        refine lv_iload_n hx hb dX4_statement_99 rfl (lv_at hl 0 rfl) ?_
        refine lv_aload_n hx hb dX4_statement_100 rfl (lv_at hl 2 rfl) ?_
        refine k_callVi C hP hap hAA (c_X4_edges l ev ad σ7   _ rfl) Emb.same hap gz_X4_edges qML_RX4_107 qIM_yX4_edges qSE_yX4_edges ⟨(Nat.le_of_ble_eq_true rfl), (Nat.le_of_ble_eq_true rfl)⟩ (q0 := 0) rfl (by decide) rfl rfl rfl rfl hl.1 rfl (Nat.le_of_ble_eq_true rfl) dX4_statement_101 ⟨Nat.le_refl _, Nat.le_refl _⟩ (fun H locs hP => ?_)
        refine lv_icmp_ge (tgt := 127) hx hb dX4_statement_104 (by decide) (fun c104 => ?_) (fun c104 => ?_)
        · have h := k_if c104 h
          refine lv_iconst (v := 0) hx hb dX4_statement_127 (by decide) ?_
          exact e_zret C hend hP (k_some2 h).1 (congrArg (mw ev ad) (k_some2 h).2) dX4_statement_128 rfl
        · have h := k_nf c104 h
          exact hB107 _ _ _ _ _ _ h hP (lv_sub hl [2, 0, 1] rfl)
  have hB66 : ∀ (σ3 : MM) (H : Heap) (locs : List Loc) (ls : Array Slot), f_X4_statement_b66  σ3 = some (r, σ') → PS ev 13 ad (mw ev ad σ3) (inA ad 13) s H locs → lv_has ls 4 [(0, .ref (ad 0))] → WW ev p l e (rmk 9 322) s m args below meth c Qc ad 13 H locs 66 ls [] := by
    intro σ3 H locs ls h hP hl
    have h := (f_X4_statement_b66.eq_1 _ ).symm.trans h
    refine lv_aload_n hx hb dX4_statement_66 rfl (lv_at hl 0 rfl) ?_
    refine va_ldcS hx hb C.2.2.2.2.2.1 C.2.2.2.2.2.2.2.2.2.2.2.2.2.2.1.2.2.1 dX4_statement_67 ?_
    obtain ⟨b4, h1, h⟩ := k_ob h
    refine k_callVi C hP hap hAA (c_X4_isWord_w2 l ev ad σ3   _ h1) Emb.same hap gz_X4_isWord qML_RX4_163 qIM_yX4_isWord qSE_yX4_isWord ⟨(Nat.le_of_ble_eq_true rfl), (Nat.le_of_ble_eq_true rfl)⟩ (q0 := 0) rfl (by decide) rfl rfl rfl rfl hl.1 rfl (Nat.le_of_ble_eq_true rfl) dX4_statement_69 ⟨Nat.le_refl _, Nat.le_refl _⟩ (fun H locs hP => ?_)
    refine r_ifz_eq (tgt := 80) hx hb dX4_statement_72 (by decide) (fun c72 => ?_) (fun c72 => ?_)
    · have h := k_nf c72 h
      refine lv_iconst (v := 0) hx hb dX4_statement_80 (by decide) ?_
      exact hB81 _ _ _ _ _ h hP (lv_sub hl [0] rfl)
    · have h := k_if c72 h
      refine lv_bipush (v := 100) hx hb dX4_statement_75 (by decide) ?_
      refine lv_goto (tgt := 81) hx hb dX4_statement_77 (by decide) ?_
      exact hB81 _ _ _ _ _ h hP (lv_sub hl [0] rfl)
  have hB212 : ∀ (x22 : Int32) (x23 : Int32) (σ24 : MM) (H : Heap) (locs : List Loc) (ls : Array Slot), f_X4_statement_b212  x22 x23 σ24 = some (r, σ') → PS ev 13 ad (mw ev ad σ24) (inA ad 13) s H locs → lv_has ls 4 [(0, .ref (ad 0)), (1, .int x22)] → WW ev p l e (rmk 9 322) s m args below meth c Qc ad 13 H locs 212 ls [.int x23] := by
    intro x22 x23 σ24 H locs ls h hP hl
    have h := (f_X4_statement_b212.eq_1 _ _ _ ).symm.trans h
    refine lv_istore_n (lv' := [(2, .int x23), (0, .ref (ad 0)), (1, .int x22)]) hx hb dX4_statement_212 rfl hl (by decide) rfl (fun ls hl => ?_)
    refine lv_iload_n hx hb dX4_statement_213 rfl (lv_at hl 0 rfl) ?_
    refine lv_iconst (v := (-1)) hx hb dX4_statement_214 (by decide) ?_
    refine lv_icmp_ne (tgt := 220) hx hb dX4_statement_215 (by decide) (fun c215 => ?_) (fun c215 => ?_)
    · have h := k_nf c215 h
      refine lv_aload_n hx hb dX4_statement_220 rfl (lv_at hl 1 rfl) ?_
      refine lv_iload_n hx hb dX4_statement_221 rfl (lv_at hl 2 rfl) ?_
      refine lv_iload_n hx hb dX4_statement_222 rfl (lv_at hl 0 rfl) ?_
      obtain ⟨x26, σ25, h1, h⟩ := k_ob2 h
      refine k_callVi C hP hap hAA (c_X4_newPlayer l ev ad σ24 x22 x23   _ _ h1) Emb.same hap gz_X4_newPlayer qML_RX4_113 qIM_yX4_newPlayer qSE_yX4_newPlayer ⟨(Nat.le_of_ble_eq_true rfl), (Nat.le_of_ble_eq_true rfl)⟩ (q0 := 0) rfl (by decide) rfl rfl rfl rfl hl.1 rfl (Nat.le_of_ble_eq_true rfl) dX4_statement_223 ⟨Nat.le_refl _, Nat.le_refl _⟩ (fun H locs hP => ?_)
      refine lv_pop hx hb dX4_statement_226 rfl ?_
      refine lv_iconst (v := 1) hx hb dX4_statement_227 (by decide) ?_
      exact e_zret C hend hP (k_some2 h).1 (congrArg (mw ev ad) (k_some2 h).2) dX4_statement_228 rfl
    · have h := k_if c215 h
      refine lv_iconst (v := 0) hx hb dX4_statement_218 (by decide) ?_
      exact e_zret C hend hP (k_some2 h).1 (congrArg (mw ev ad) (k_some2 h).2) dX4_statement_219 rfl
  have hB31 : ∀ (x34 : Int32) (x35 : Int32) (σ36 : MM) (H : Heap) (locs : List Loc) (ls : Array Slot), f_X4_statement_b31  x34 x35 σ36 = some (r, σ') → PS ev 13 ad (mw ev ad σ36) (inA ad 13) s H locs → lv_has ls 4 [(0, .ref (ad 0)), (1, .int x34)] → WW ev p l e (rmk 9 322) s m args below meth c Qc ad 13 H locs 31 ls [.int x35] := by
    intro x34 x35 σ36 H locs ls h hP hl
    have h := (f_X4_statement_b31.eq_1 _ _ _ ).symm.trans h
    refine lv_istore_n (lv' := [(2, .int x35), (0, .ref (ad 0)), (1, .int x34)]) hx hb dX4_statement_31 rfl hl (by decide) rfl (fun ls hl => ?_)
    refine lv_iload_n hx hb dX4_statement_32 rfl (lv_at hl 0 rfl) ?_
    refine lv_iconst (v := (-1)) hx hb dX4_statement_33 (by decide) ?_
    refine lv_icmp_ne (tgt := 39) hx hb dX4_statement_34 (by decide) (fun c34 => ?_) (fun c34 => ?_)
    · have h := k_nf c34 h
      refine lv_aload_n hx hb dX4_statement_39 rfl (lv_at hl 1 rfl) ?_
      refine lv_iload_n hx hb dX4_statement_40 rfl (lv_at hl 2 rfl) ?_
      refine lv_iload_n hx hb dX4_statement_41 rfl (lv_at hl 0 rfl) ?_
      obtain ⟨x38, σ37, h1, h⟩ := k_ob2 h
      refine k_callVi C hP hap hAA (c_X4_sized l ev ad σ36 x34 x35   _ _ h1) Emb.same hap gz_X4_sized qML_RX4_52 qIM_yX4_sized qSE_yX4_sized ⟨(Nat.le_of_ble_eq_true rfl), (Nat.le_of_ble_eq_true rfl)⟩ (q0 := 0) rfl (by decide) rfl rfl rfl rfl hl.1 rfl (Nat.le_of_ble_eq_true rfl) dX4_statement_42 ⟨Nat.le_refl _, Nat.le_refl _⟩ (fun H locs hP => ?_)
      refine lv_pop hx hb dX4_statement_45 rfl ?_
      refine lv_iconst (v := 1) hx hb dX4_statement_46 (by decide) ?_
      exact e_zret C hend hP (k_some2 h).1 (congrArg (mw ev ad) (k_some2 h).2) dX4_statement_47 rfl
    · have h := k_if c34 h
      refine lv_iconst (v := 0) hx hb dX4_statement_37 (by decide) ?_
      exact e_zret C hend hP (k_some2 h).1 (congrArg (mw ev ad) (k_some2 h).2) dX4_statement_38 rfl
  refine lv_aload_n hx hb dX4_statement_0 rfl (lv_at hl 0 rfl) ?_
  refine va_ldcS hx hb C.2.2.2.2.2.1 C.2.2.2.2.2.2.2.2.2.2.2.2.2.2.1.1 dX4_statement_1 ?_
  obtain ⟨b1, h1, h⟩ := k_ob h
  refine k_callVi C hP hap hAA (c_X4_isWord_w0 l ev ad σ   _ h1) Emb.same hap gz_X4_isWord qML_RX4_163 qIM_yX4_isWord qSE_yX4_isWord ⟨(Nat.le_of_ble_eq_true rfl), (Nat.le_of_ble_eq_true rfl)⟩ (q0 := 0) rfl (by decide) rfl rfl rfl rfl hl.1 rfl (Nat.le_of_ble_eq_true rfl) dX4_statement_3 ⟨Nat.le_refl _, Nat.le_refl _⟩ (fun H locs hP => ?_)
  refine r_ifz_eq (tgt := 48) hx hb dX4_statement_6 (by decide) (fun c6 => ?_) (fun c6 => ?_)
  · have h := k_nf c6 h
    refine lv_aload_n hx hb dX4_statement_48 rfl (lv_at hl 0 rfl) ?_
    refine va_ldcS hx hb C.2.2.2.2.2.1 C.2.2.2.2.2.2.2.2.2.2.2.2.2.2.1.2.1 dX4_statement_49 ?_
    obtain ⟨b2, h1, h⟩ := k_ob h
    refine k_callVi C hP hap hAA (c_X4_isWord_w1 l ev ad σ   _ h1) Emb.same hap gz_X4_isWord qML_RX4_163 qIM_yX4_isWord qSE_yX4_isWord ⟨(Nat.le_of_ble_eq_true rfl), (Nat.le_of_ble_eq_true rfl)⟩ (q0 := 0) rfl (by decide) rfl rfl rfl rfl hl.1 rfl (Nat.le_of_ble_eq_true rfl) dX4_statement_51 ⟨Nat.le_refl _, Nat.le_refl _⟩ (fun H locs hP => ?_)
    refine r_ifz_ne (tgt := 66) hx hb dX4_statement_54 (by decide) (fun c54 => ?_) (fun c54 => ?_)
    · have h := k_if c54 h
      exact hB66 _ _ _ _ h hP (lv_sub hl [0] rfl)
    · have h := k_nf c54 h
      refine lv_aload_n hx hb dX4_statement_57 rfl (lv_at hl 0 rfl) ?_
      refine va_ldcS hx hb C.2.2.2.2.2.1 C.2.2.2.2.2.2.2.2.2.2.2.2.2.2.1.2.2.1 dX4_statement_58 ?_
      obtain ⟨b15, h1, h⟩ := k_ob h
      refine k_callVi C hP hap hAA (c_X4_isWord_w2 l ev ad σ   _ h1) Emb.same hap gz_X4_isWord qML_RX4_163 qIM_yX4_isWord qSE_yX4_isWord ⟨(Nat.le_of_ble_eq_true rfl), (Nat.le_of_ble_eq_true rfl)⟩ (q0 := 0) rfl (by decide) rfl rfl rfl rfl hl.1 rfl (Nat.le_of_ble_eq_true rfl) dX4_statement_60 ⟨Nat.le_refl _, Nat.le_refl _⟩ (fun H locs hP => ?_)
      refine r_ifz_eq (tgt := 139) hx hb dX4_statement_63 (by decide) (fun c63 => ?_) (fun c63 => ?_)
      · have h := k_nf c63 h
        refine lv_aload_n hx hb dX4_statement_139 rfl (lv_at hl 0 rfl) ?_
        refine va_ldcS hx hb C.2.2.2.2.2.1 C.2.2.2.2.2.2.2.2.2.2.2.2.2.2.1.2.2.2.1 dX4_statement_140 ?_
        obtain ⟨b16, h1, h⟩ := k_ob h
        refine k_callVi C hP hap hAA (c_X4_isWord_w3 l ev ad σ   _ h1) Emb.same hap gz_X4_isWord qML_RX4_163 qIM_yX4_isWord qSE_yX4_isWord ⟨(Nat.le_of_ble_eq_true rfl), (Nat.le_of_ble_eq_true rfl)⟩ (q0 := 0) rfl (by decide) rfl rfl rfl rfl hl.1 rfl (Nat.le_of_ble_eq_true rfl) dX4_statement_142 ⟨Nat.le_refl _, Nat.le_refl _⟩ (fun H locs hP => ?_)
        refine r_ifz_eq (tgt := 169) hx hb dX4_statement_145 (by decide) (fun c145 => ?_) (fun c145 => ?_)
        · have h := k_nf c145 h
          refine lv_aload_n hx hb dX4_statement_169 rfl (lv_at hl 0 rfl) ?_
          refine va_ldcS hx hb C.2.2.2.2.2.1 C.2.2.2.2.2.2.2.2.2.2.2.2.2.2.1.2.2.2.2 dX4_statement_170 ?_
          obtain ⟨b17, h1, h⟩ := k_ob h
          refine k_callVi C hP hap hAA (c_X4_isWord_w4 l ev ad σ   _ h1) Emb.same hap gz_X4_isWord qML_RX4_163 qIM_yX4_isWord qSE_yX4_isWord ⟨(Nat.le_of_ble_eq_true rfl), (Nat.le_of_ble_eq_true rfl)⟩ (q0 := 0) rfl (by decide) rfl rfl rfl rfl hl.1 rfl (Nat.le_of_ble_eq_true rfl) dX4_statement_172 ⟨Nat.le_refl _, Nat.le_refl _⟩ (fun H locs hP => ?_)
          refine r_ifz_eq (tgt := 187) hx hb dX4_statement_175 (by decide) (fun c175 => ?_) (fun c175 => ?_)
          · have h := k_nf c175 h
            refine lv_iconst (v := 0) hx hb dX4_statement_187 (by decide) ?_
            exact e_zret C hend hP (k_some2 h).1 (congrArg (mw ev ad) (k_some2 h).2) dX4_statement_188 rfl
          · have h := k_if c175 h
            refine lv_aload_n hx hb dX4_statement_178 rfl (lv_at hl 0 rfl) ?_
            refine r_get C hP (ci := 4) rfl uin_X4 7 (by decide) 0 (by decide) rfl qFL_RX4_60 rfl rfl dX4_statement_179 ?_
            refine lv_bipush (v := 6) hx hb dX4_statement_182 (by decide) ?_
            refine lv_icmp_ne (tgt := 189) hx hb dX4_statement_184 (by decide) (fun c184 => ?_) (fun c184 => ?_)
            · have h := k_nf c184 h
              refine lv_aload_n hx hb dX4_statement_189 rfl (lv_at hl 0 rfl) ?_
              refine lv_iconst (v := 0) hx hb dX4_statement_190 (by decide) ?_
              refine lv_iconst (v := 5) hx hb dX4_statement_191 (by decide) ?_
              obtain ⟨x19, σ18, h1, h⟩ := k_ob2 h
              refine k_callVi C hP hap hAA (c_X4_number l ev ad σ 0 5   _ _ h1) Emb.same hap gz_X4_number qML_RX4_167 qIM_yX4_number qSE_yX4_number ⟨(Nat.le_of_ble_eq_true rfl), (Nat.le_of_ble_eq_true rfl)⟩ (q0 := 0) rfl (by decide) rfl rfl rfl rfl hl.1 rfl (Nat.le_of_ble_eq_true rfl) dX4_statement_192 ⟨Nat.le_refl _, Nat.le_refl _⟩ (fun H locs hP => ?_)
              refine lv_istore_n (lv' := [(1, .int x19), (0, .ref (ad 0))]) hx hb dX4_statement_195 rfl hl (by decide) rfl (fun ls hl => ?_)
              refine lv_iload_n hx hb dX4_statement_196 rfl (lv_at hl 0 rfl) ?_
              refine lv_iconst (v := (-1)) hx hb dX4_statement_197 (by decide) ?_
              refine lv_icmp_ne (tgt := 205) hx hb dX4_statement_198 (by decide) (fun c198 => ?_) (fun c198 => ?_)
              · have h := k_nf c198 h
                refine lv_aload_n hx hb dX4_statement_205 rfl (lv_at hl 1 rfl) ?_
                refine lv_iconst (v := 0) hx hb dX4_statement_206 (by decide) ?_
                refine lv_bipush (v := 9) hx hb dX4_statement_207 (by decide) ?_
                obtain ⟨x21, σ20, h1, h⟩ := k_ob2 h
                refine k_callVi C hP hap hAA (c_X4_number l ev ad σ18 0 9   _ _ h1) Emb.same hap gz_X4_number qML_RX4_167 qIM_yX4_number qSE_yX4_number ⟨(Nat.le_of_ble_eq_true rfl), (Nat.le_of_ble_eq_true rfl)⟩ (q0 := 0) rfl (by decide) rfl rfl rfl rfl hl.1 rfl (Nat.le_of_ble_eq_true rfl) dX4_statement_209 ⟨Nat.le_refl _, Nat.le_refl _⟩ (fun H locs hP => ?_)
                exact hB212 _ _ _ _ _ _ h hP (lv_sub hl [1, 0] rfl)
              · have h := k_if c198 h
                refine lv_iconst (v := (-1)) hx hb dX4_statement_201 (by decide) ?_
                refine lv_goto (tgt := 212) hx hb dX4_statement_202 (by decide) ?_
                exact hB212 _ _ _ _ _ _ h hP (lv_sub hl [1, 0] rfl)
            · have h := k_if c184 h
              refine lv_iconst (v := 0) hx hb dX4_statement_187 (by decide) ?_
              exact e_zret C hend hP (k_some2 h).1 (congrArg (mw ev ad) (k_some2 h).2) dX4_statement_188 rfl
        · have h := k_if c145 h
          refine lv_aload_n hx hb dX4_statement_148 rfl (lv_at hl 0 rfl) ?_
          refine lv_iconst (v := 0) hx hb dX4_statement_149 (by decide) ?_
          refine lv_iconst (v := 1) hx hb dX4_statement_150 (by decide) ?_
          obtain ⟨x28, σ27, h1, h⟩ := k_ob2 h
          refine k_callVi C hP hap hAA (c_X4_number l ev ad σ 0 1   _ _ h1) Emb.same hap gz_X4_number qML_RX4_167 qIM_yX4_number qSE_yX4_number ⟨(Nat.le_of_ble_eq_true rfl), (Nat.le_of_ble_eq_true rfl)⟩ (q0 := 0) rfl (by decide) rfl rfl rfl rfl hl.1 rfl (Nat.le_of_ble_eq_true rfl) dX4_statement_151 ⟨Nat.le_refl _, Nat.le_refl _⟩ (fun H locs hP => ?_)
          refine lv_istore_n (lv' := [(1, .int x28), (0, .ref (ad 0))]) hx hb dX4_statement_154 rfl hl (by decide) rfl (fun ls hl => ?_)
          refine lv_iload_n hx hb dX4_statement_155 rfl (lv_at hl 0 rfl) ?_
          refine lv_iconst (v := (-1)) hx hb dX4_statement_156 (by decide) ?_
          refine lv_icmp_ne (tgt := 162) hx hb dX4_statement_157 (by decide) (fun c157 => ?_) (fun c157 => ?_)
          · have h := k_nf c157 h
            refine lv_aload_n hx hb dX4_statement_162 rfl (lv_at hl 1 rfl) ?_
            refine lv_iload_n hx hb dX4_statement_163 rfl (lv_at hl 0 rfl) ?_
            obtain ⟨σ29, eσ29, h⟩ := k_ltx h
            refine pt_M_X4_turn C hP hap hAA eσ29 qFL_RX4_101 dX4_statement_164 (fun H locs hP => ?_)
            refine lv_iconst (v := 1) hx hb dX4_statement_167 (by decide) ?_
            exact e_zret C hend hP (k_some2 h).1 (congrArg (mw ev ad) (k_some2 h).2) dX4_statement_168 rfl
          · have h := k_if c157 h
            refine lv_iconst (v := 0) hx hb dX4_statement_160 (by decide) ?_
            exact e_zret C hend hP (k_some2 h).1 (congrArg (mw ev ad) (k_some2 h).2) dX4_statement_161 rfl
      · have h := k_if c63 h
        exact hB66 _ _ _ _ h hP (lv_sub hl [0] rfl)
  · have h := k_if c6 h
    refine lv_aload_n hx hb dX4_statement_9 rfl (lv_at hl 0 rfl) ?_
    refine lv_iconst (v := 1) hx hb dX4_statement_10 (by decide) ?_
    refine lv_iconst (v := 4) hx hb dX4_statement_11 (by decide) ?_
    obtain ⟨x31, σ30, h1, h⟩ := k_ob2 h
    refine k_callVi C hP hap hAA (c_X4_number l ev ad σ 1 4   _ _ h1) Emb.same hap gz_X4_number qML_RX4_167 qIM_yX4_number qSE_yX4_number ⟨(Nat.le_of_ble_eq_true rfl), (Nat.le_of_ble_eq_true rfl)⟩ (q0 := 0) rfl (by decide) rfl rfl rfl rfl hl.1 rfl (Nat.le_of_ble_eq_true rfl) dX4_statement_12 ⟨Nat.le_refl _, Nat.le_refl _⟩ (fun H locs hP => ?_)
    refine lv_istore_n (lv' := [(1, .int x31), (0, .ref (ad 0))]) hx hb dX4_statement_15 rfl hl (by decide) rfl (fun ls hl => ?_)
    refine lv_iload_n hx hb dX4_statement_16 rfl (lv_at hl 0 rfl) ?_
    refine lv_iconst (v := (-1)) hx hb dX4_statement_17 (by decide) ?_
    refine lv_icmp_ne (tgt := 25) hx hb dX4_statement_18 (by decide) (fun c18 => ?_) (fun c18 => ?_)
    · have h := k_nf c18 h
      refine lv_aload_n hx hb dX4_statement_25 rfl (lv_at hl 1 rfl) ?_
      refine lv_iconst (v := 1) hx hb dX4_statement_26 (by decide) ?_
      refine lv_iconst (v := 4) hx hb dX4_statement_27 (by decide) ?_
      obtain ⟨x33, σ32, h1, h⟩ := k_ob2 h
      refine k_callVi C hP hap hAA (c_X4_number l ev ad σ30 1 4   _ _ h1) Emb.same hap gz_X4_number qML_RX4_167 qIM_yX4_number qSE_yX4_number ⟨(Nat.le_of_ble_eq_true rfl), (Nat.le_of_ble_eq_true rfl)⟩ (q0 := 0) rfl (by decide) rfl rfl rfl rfl hl.1 rfl (Nat.le_of_ble_eq_true rfl) dX4_statement_28 ⟨Nat.le_refl _, Nat.le_refl _⟩ (fun H locs hP => ?_)
      exact hB31 _ _ _ _ _ _ h hP (lv_sub hl [1, 0] rfl)
    · have h := k_if c18 h
      refine lv_iconst (v := (-1)) hx hb dX4_statement_21 (by decide) ?_
      refine lv_goto (tgt := 31) hx hb dX4_statement_22 (by decide) ?_
      exact hB31 _ _ _ _ _ _ h hP (lv_sub hl [1, 0] rfl)
def f_X4_keep_ahead_L2_b  (k31 : MM → Option MM) (rec2 : Int32 → MM → Option MM) (x1 : Int32) (σ2 : MM) : Option MM :=
  if 40 ≤ x1 then k31 σ2 else gd (inb x1 40) (if ((m_hedge σ2) (Int32.toNatClampNeg x1)) = 0 then gd (inb x1 90) (lt (m_ahead' σ2 (upd (m_ahead σ2) (Int32.toNatClampNeg x1) 0)) (fun σ3 => lt (x1 + 1) (fun x4 => rec2 x4 σ3))) else gd (inb x1 90) (lt (m_ahead' σ2 (upd (m_ahead σ2) (Int32.toNatClampNeg x1) 1)) (fun σ5 => lt (x1 + 1) (fun x6 => rec2 x6 σ5))))
def f_X4_keep_ahead_L2  (k31 : MM → Option MM) (x1 : Int32) (σ2 : MM) : Option MM :=
  lp (fun _ _ => none) (f_X4_keep_ahead_L2_b  k31) FU x1 σ2
def f_X4_keep_ahead_b58 (rec33 : Int32 → MM → Option MM) (x10 : Int32) (x11 : Int32) (x12 : Int32) (σ13 : MM) : Option MM :=
  gd (inb x12 90) (lt (m_ahead' σ13 (upd (m_ahead σ13) (Int32.toNatClampNeg x12) x11)) (fun σ14 => gd (inb x10 16) (gd (inb (56 + x10) 90) (lt (m_ahead' σ14 (upd (m_ahead σ14) (Int32.toNatClampNeg (56 + x10)) ((m_owner σ14) (Int32.toNatClampNeg x10)))) (fun σ15 => lt (x10 + 1) (fun x16 => rec33 x16 σ15))))))
def f_X4_keep_ahead_L33_b  (k77 : MM → Option MM) (rec33 : Int32 → MM → Option MM) (x8 : Int32) (σ9 : MM) : Option MM :=
  if 16 ≤ x8 then k77 σ9 else gd (inb x8 16) (if ((m_dug σ9) (Int32.toNatClampNeg x8)) = 0 then f_X4_keep_ahead_b58 rec33 x8 0 ((40 + x8)) σ9 else f_X4_keep_ahead_b58 rec33 x8 1 ((40 + x8)) σ9)
def f_X4_keep_ahead_L33  (k77 : MM → Option MM) (x8 : Int32) (σ9 : MM) : Option MM :=
  lp (fun _ _ => none) (f_X4_keep_ahead_L33_b  k77) FU x8 σ9
def f_X4_keep_ahead_L79_b  (k115 : MM → Option MM) (rec79 : Int32 → MM → Option MM) (x18 : Int32) (σ19 : MM) : Option MM :=
  if 6 ≤ x18 then k115 σ19 else gd (inb x18 6) (gd (inb (72 + x18) 90) (lt (m_ahead' σ19 (upd (m_ahead σ19) (Int32.toNatClampNeg (72 + x18)) ((m_kind σ19) (Int32.toNatClampNeg x18)))) (fun σ20 => gd (inb x18 6) (gd (inb (78 + x18) 90) (lt (m_ahead' σ20 (upd (m_ahead σ20) (Int32.toNatClampNeg (78 + x18)) ((m_own σ20) (Int32.toNatClampNeg x18)))) (fun σ21 => lt (x18 + 1) (fun x22 => rec79 x22 σ21)))))))
def f_X4_keep_ahead_L79  (k115 : MM → Option MM) (x18 : Int32) (σ19 : MM) : Option MM :=
  lp (fun _ _ => none) (f_X4_keep_ahead_L79_b  k115) FU x18 σ19
def f_X4_keep_ahead (σ : MM) : Option MM :=
  f_X4_keep_ahead_L2 (fun σ7 => f_X4_keep_ahead_L33 (fun σ17 => f_X4_keep_ahead_L79 (fun σ23 => gd (inb 84 90) (lt (m_ahead' σ23 (upd (m_ahead σ23) (Int32.toNatClampNeg 84) (m_w σ23))) (fun σ24 => gd (inb 85 90) (lt (m_ahead' σ24 (upd (m_ahead σ24) (Int32.toNatClampNeg 85) (m_h σ24))) (fun σ25 => gd (inb 86 90) (lt (m_ahead' σ25 (upd (m_ahead σ25) (Int32.toNatClampNeg 86) (m_turn σ25))) (fun σ26 => gd (inb 87 90) (lt (m_ahead' σ26 (upd (m_ahead σ26) (Int32.toNatClampNeg 87) (m_made σ26))) (fun σ27 => gd (inb 88 90) (lt (m_ahead' σ27 (upd (m_ahead σ27) (Int32.toNatClampNeg 88) (m_players σ27))) (fun σ28 => gd (inb 89 90) (lt (m_ahead' σ28 (upd (m_ahead σ28) (Int32.toNatClampNeg 89) (m_seed σ28))) (fun σ29 => some σ29))))))))))))) 0 σ17) 0 σ7) 0 σ
set_option maxHeartbeats 4000000 in
set_option maxRecDepth 100000 in
theorem c_X4_keep_ahead (l : Launch) (ev : EV) (ad : Nat → Nat) (σ : MM)    (σ' : MM) (h : f_X4_keep_ahead σ = some σ') : Ct l yX4_keep prog_6_method_116_code 3 (Option.none : Option Jvm.ClassFile.FieldType) (rmk 0 0) ev 13 ad (mw ev ad σ) (mw ev ad σ') [.ref (ad 0), .ref (ad 12)] none := by
  refine Ct.of (by decide +kernel) (Nat.le_of_ble_eq_true rfl) ?_
  intro p e s m args below meth c Qc C hap hP hend ls hl
  have hAA : ∀ j, j < 13 → inA ad 13 (ad j) := fun j hj => ⟨j, hj, rfl⟩
  have hx := C.1
  have hb := C.2.1
  have hl : lv_has ls 3 [(0, .ref (ad 0)), (1, .ref (ad 12))] := hl
  have h := (f_X4_keep_ahead.eq_1 _ ).symm.trans h
  refine lv_iconst (v := 0) hx hb dX4_keep_0 (by decide) ?_
  refine lv_istore_n (lv' := [(2, .int 0), (0, .ref (ad 0)), (1, .ref (ad 12))]) hx hb dX4_keep_1 rfl hl (by decide) rfl (fun ls hl => ?_)
  have hL2 : ∀ (k31 : MM → Option MM) (hk31 : ∀  (σk : MM) (H : Heap) (locs : List Loc) (ls : Array Slot), k31  σk = some σ' → PS ev 13 ad (mw ev ad σk) (inA ad 13) s H locs → lv_has ls 3 [(0, .ref (ad 0)), (1, .ref (ad 12))] → WW ev p l e (rmk 0 0) s m args below meth c Qc ad 13 H locs 31 ls []) (n : Nat) (x1 : Int32) (σ2 : MM) (H : Heap) (locs : List Loc) (ls : Array Slot), lp (fun _ _ => none) (f_X4_keep_ahead_L2_b  k31) n x1 σ2 = some σ' → PS ev 13 ad (mw ev ad σ2) (inA ad 13) s H locs → lv_has ls 3 [(0, .ref (ad 0)), (1, .ref (ad 12)), (2, .int x1)] → WW ev p l e (rmk 0 0) s m args below meth c Qc ad 13 H locs 2 ls [] := by
    intro k31 hk31 n
    induction n with
    | zero =>
      intro x1 σ2 H locs ls h; exact k_none h
    | succ n ih =>
      intro x1 σ2 H locs ls h hP hl
      have h : f_X4_keep_ahead_L2_b  k31 (lp (fun _ _ => none) (f_X4_keep_ahead_L2_b  k31) n) x1 σ2 = some σ' := h
      have h := (f_X4_keep_ahead_L2_b.eq_1 _ _ _ _ ).symm.trans h
      refine lv_iload_n hx hb dX4_keep_2 rfl (lv_at hl 2 rfl) ?_
      refine lv_bipush (v := 40) hx hb dX4_keep_3 (by decide) ?_
      refine lv_icmp_ge (tgt := 31) hx hb dX4_keep_5 (by decide) (fun c5 => ?_) (fun c5 => ?_)
      · have h := k_if c5 h
        exact hk31 _ _ _ _ h hP (lv_sub hl [0, 1] rfl)
      · have h := k_nf c5 h
        refine lv_aload_n hx hb dX4_keep_8 rfl (lv_at hl 1 rfl) ?_
        refine lv_iload_n hx hb dX4_keep_9 rfl (lv_at hl 2 rfl) ?_
        refine lv_aload_n hx hb dX4_keep_10 rfl (lv_at hl 0 rfl) ?_
        refine r_get C hP (ci := 4) rfl uin_X4 2 (by decide) 0 (by decide) rfl qFL_RX4_7 rfl rfl dX4_keep_11 ?_
        refine lv_iload_n hx hb dX4_keep_14 rfl (lv_at hl 2 rfl) ?_
        obtain ⟨hg, h⟩ := k_gd h
        refine r_zald C hP 1 (by decide) rfl hg dX4_keep_15 ?_
        refine lv_if_eq (tgt := 23) hx hb dX4_keep_16 (by decide) (fun c16 => ?_) (fun c16 => ?_)
        · have h := k_if c16 h
          refine lv_iconst (v := 0) hx hb dX4_keep_23 (by decide) ?_
          obtain ⟨hg, h⟩ := k_gd h
          obtain ⟨σ3, eσ3, h⟩ := k_ltx h
          refine st_M_ahead C hP hap hAA eσ3 hg dX4_keep_24 (fun H locs hP => ?_)
          obtain ⟨x4, ex4, h⟩ := k_ltx h
          refine lv_iinc (v := x4) (lv' := [(2, .int x4), (0, .ref (ad 0)), (1, .ref (ad 12))]) hx hb dX4_keep_25 hl (k := 2) rfl (by rw [ex4]; rfl) (by decide) rfl (fun ls hl => ?_)
          refine lv_goto (tgt := 2) hx hb dX4_keep_28 (by decide) ?_
          exact ih _ _ _ _ _ h hP (lv_sub hl [1, 2, 0] rfl)
        · have h := k_nf c16 h
          refine lv_iconst (v := 1) hx hb dX4_keep_19 (by decide) ?_
          refine lv_goto (tgt := 24) hx hb dX4_keep_20 (by decide) ?_
          obtain ⟨hg, h⟩ := k_gd h
          obtain ⟨σ5, eσ5, h⟩ := k_ltx h
          refine st_M_ahead C hP hap hAA eσ5 hg dX4_keep_24 (fun H locs hP => ?_)
          obtain ⟨x6, ex6, h⟩ := k_ltx h
          refine lv_iinc (v := x6) (lv' := [(2, .int x6), (0, .ref (ad 0)), (1, .ref (ad 12))]) hx hb dX4_keep_25 hl (k := 2) rfl (by rw [ex6]; rfl) (by decide) rfl (fun ls hl => ?_)
          refine lv_goto (tgt := 2) hx hb dX4_keep_28 (by decide) ?_
          exact ih _ _ _ _ _ h hP (lv_sub hl [1, 2, 0] rfl)
  refine hL2 _ (fun σ7 H locs ls h hP hl => ?_) FU _ _ _ _ _ h hP (lv_sub hl [1, 2, 0] rfl)
  refine lv_iconst (v := 0) hx hb dX4_keep_31 (by decide) ?_
  refine lv_istore_n (lv' := [(2, .int 0), (0, .ref (ad 0)), (1, .ref (ad 12))]) hx hb dX4_keep_32 rfl hl (by decide) rfl (fun ls hl => ?_)
  have hL33 : ∀ (k77 : MM → Option MM) (hk77 : ∀  (σk : MM) (H : Heap) (locs : List Loc) (ls : Array Slot), k77  σk = some σ' → PS ev 13 ad (mw ev ad σk) (inA ad 13) s H locs → lv_has ls 3 [(0, .ref (ad 0)), (1, .ref (ad 12))] → WW ev p l e (rmk 0 0) s m args below meth c Qc ad 13 H locs 77 ls []) (n : Nat) (x8 : Int32) (σ9 : MM) (H : Heap) (locs : List Loc) (ls : Array Slot), lp (fun _ _ => none) (f_X4_keep_ahead_L33_b  k77) n x8 σ9 = some σ' → PS ev 13 ad (mw ev ad σ9) (inA ad 13) s H locs → lv_has ls 3 [(0, .ref (ad 0)), (1, .ref (ad 12)), (2, .int x8)] → WW ev p l e (rmk 0 0) s m args below meth c Qc ad 13 H locs 33 ls [] := by
    intro k77 hk77 n
    induction n with
    | zero =>
      intro x8 σ9 H locs ls h; exact k_none h
    | succ n ih =>
      intro x8 σ9 H locs ls h hP hl
      have h : f_X4_keep_ahead_L33_b  k77 (lp (fun _ _ => none) (f_X4_keep_ahead_L33_b  k77) n) x8 σ9 = some σ' := h
      have h := (f_X4_keep_ahead_L33_b.eq_1 _ _ _ _ ).symm.trans h
      have hB58 : ∀ (x10 : Int32) (x11 : Int32) (x12 : Int32) (σ13 : MM) (H : Heap) (locs : List Loc) (ls : Array Slot), f_X4_keep_ahead_b58 (lp (fun _ _ => none) (f_X4_keep_ahead_L33_b  k77) n) x10 x11 x12 σ13 = some σ' → PS ev 13 ad (mw ev ad σ13) (inA ad 13) s H locs → lv_has ls 3 [(0, .ref (ad 0)), (1, .ref (ad 12)), (2, .int x10)] → WW ev p l e (rmk 0 0) s m args below meth c Qc ad 13 H locs 58 ls [.int x11, .int x12, .ref (ad 12)] := by
        intro x10 x11 x12 σ13 H locs ls h hP hl
        have h := (f_X4_keep_ahead_b58.eq_1 _ _ _ _ _ ).symm.trans h
        obtain ⟨hg, h⟩ := k_gd h
        obtain ⟨σ14, eσ14, h⟩ := k_ltx h
        refine st_M_ahead C hP hap hAA eσ14 hg dX4_keep_58 (fun H locs hP => ?_)
        refine lv_aload_n hx hb dX4_keep_59 rfl (lv_at hl 1 rfl) ?_
        refine lv_bipush (v := 56) hx hb dX4_keep_60 (by decide) ?_
        refine lv_iload_n hx hb dX4_keep_62 rfl (lv_at hl 2 rfl) ?_
        refine lv_iadd hx hb dX4_keep_63 ?_
        refine lv_aload_n hx hb dX4_keep_64 rfl (lv_at hl 0 rfl) ?_
        refine r_get C hP (ci := 4) rfl uin_X4 4 (by decide) 0 (by decide) rfl qFL_RX4_16 rfl rfl dX4_keep_65 ?_
        refine lv_iload_n hx hb dX4_keep_68 rfl (lv_at hl 2 rfl) ?_
        obtain ⟨hg, h⟩ := k_gd h
        refine r_iald C hP 3 (by decide) rfl hg dX4_keep_69 ?_
        obtain ⟨hg, h⟩ := k_gd h
        obtain ⟨σ15, eσ15, h⟩ := k_ltx h
        refine st_M_ahead C hP hap hAA eσ15 hg dX4_keep_70 (fun H locs hP => ?_)
        obtain ⟨x16, ex16, h⟩ := k_ltx h
        refine lv_iinc (v := x16) (lv' := [(2, .int x16), (0, .ref (ad 0)), (1, .ref (ad 12))]) hx hb dX4_keep_71 hl (k := 2) rfl (by rw [ex16]; rfl) (by decide) rfl (fun ls hl => ?_)
        refine lv_goto (tgt := 33) hx hb dX4_keep_74 (by decide) ?_
        exact ih _ _ _ _ _ h hP (lv_sub hl [1, 2, 0] rfl)
      refine lv_iload_n hx hb dX4_keep_33 rfl (lv_at hl 2 rfl) ?_
      refine lv_bipush (v := 16) hx hb dX4_keep_34 (by decide) ?_
      refine lv_icmp_ge (tgt := 77) hx hb dX4_keep_36 (by decide) (fun c36 => ?_) (fun c36 => ?_)
      · have h := k_if c36 h
        exact hk77 _ _ _ _ h hP (lv_sub hl [0, 1] rfl)
      · have h := k_nf c36 h
        refine lv_aload_n hx hb dX4_keep_39 rfl (lv_at hl 1 rfl) ?_
        refine lv_bipush (v := 40) hx hb dX4_keep_40 (by decide) ?_
        refine lv_iload_n hx hb dX4_keep_42 rfl (lv_at hl 2 rfl) ?_
        refine lv_iadd hx hb dX4_keep_43 ?_
        refine lv_aload_n hx hb dX4_keep_44 rfl (lv_at hl 0 rfl) ?_
        refine r_get C hP (ci := 4) rfl uin_X4 3 (by decide) 0 (by decide) rfl qFL_RX4_13 rfl rfl dX4_keep_45 ?_
        refine lv_iload_n hx hb dX4_keep_48 rfl (lv_at hl 2 rfl) ?_
        obtain ⟨hg, h⟩ := k_gd h
        refine r_zald C hP 2 (by decide) rfl hg dX4_keep_49 ?_
        refine lv_if_eq (tgt := 57) hx hb dX4_keep_50 (by decide) (fun c50 => ?_) (fun c50 => ?_)
        · have h := k_if c50 h
          refine lv_iconst (v := 0) hx hb dX4_keep_57 (by decide) ?_
          exact hB58 _ _ _ _ _ _ _ h hP (lv_sub hl [0, 1, 2] rfl)
        · have h := k_nf c50 h
          refine lv_iconst (v := 1) hx hb dX4_keep_53 (by decide) ?_
          refine lv_goto (tgt := 58) hx hb dX4_keep_54 (by decide) ?_
          exact hB58 _ _ _ _ _ _ _ h hP (lv_sub hl [0, 1, 2] rfl)
  refine hL33 _ (fun σ17 H locs ls h hP hl => ?_) FU _ _ _ _ _ h hP (lv_sub hl [1, 2, 0] rfl)
  refine lv_iconst (v := 0) hx hb dX4_keep_77 (by decide) ?_
  refine lv_istore_n (lv' := [(2, .int 0), (0, .ref (ad 0)), (1, .ref (ad 12))]) hx hb dX4_keep_78 rfl hl (by decide) rfl (fun ls hl => ?_)
  have hL79 : ∀ (k115 : MM → Option MM) (hk115 : ∀  (σk : MM) (H : Heap) (locs : List Loc) (ls : Array Slot), k115  σk = some σ' → PS ev 13 ad (mw ev ad σk) (inA ad 13) s H locs → lv_has ls 3 [(0, .ref (ad 0)), (1, .ref (ad 12))] → WW ev p l e (rmk 0 0) s m args below meth c Qc ad 13 H locs 115 ls []) (n : Nat) (x18 : Int32) (σ19 : MM) (H : Heap) (locs : List Loc) (ls : Array Slot), lp (fun _ _ => none) (f_X4_keep_ahead_L79_b  k115) n x18 σ19 = some σ' → PS ev 13 ad (mw ev ad σ19) (inA ad 13) s H locs → lv_has ls 3 [(0, .ref (ad 0)), (1, .ref (ad 12)), (2, .int x18)] → WW ev p l e (rmk 0 0) s m args below meth c Qc ad 13 H locs 79 ls [] := by
    intro k115 hk115 n
    induction n with
    | zero =>
      intro x18 σ19 H locs ls h; exact k_none h
    | succ n ih =>
      intro x18 σ19 H locs ls h hP hl
      have h : f_X4_keep_ahead_L79_b  k115 (lp (fun _ _ => none) (f_X4_keep_ahead_L79_b  k115) n) x18 σ19 = some σ' := h
      have h := (f_X4_keep_ahead_L79_b.eq_1 _ _ _ _ ).symm.trans h
      refine lv_iload_n hx hb dX4_keep_79 rfl (lv_at hl 2 rfl) ?_
      refine lv_bipush (v := 6) hx hb dX4_keep_80 (by decide) ?_
      refine lv_icmp_ge (tgt := 115) hx hb dX4_keep_82 (by decide) (fun c82 => ?_) (fun c82 => ?_)
      · have h := k_if c82 h
        exact hk115 _ _ _ _ h hP (lv_sub hl [0, 1] rfl)
      · have h := k_nf c82 h
        refine lv_aload_n hx hb dX4_keep_85 rfl (lv_at hl 1 rfl) ?_
        refine lv_bipush (v := 72) hx hb dX4_keep_86 (by decide) ?_
        refine lv_iload_n hx hb dX4_keep_88 rfl (lv_at hl 2 rfl) ?_
        refine lv_iadd hx hb dX4_keep_89 ?_
        refine lv_aload_n hx hb dX4_keep_90 rfl (lv_at hl 0 rfl) ?_
        refine r_get C hP (ci := 4) rfl uin_X4 8 (by decide) 0 (by decide) rfl qFL_RX4_20 rfl rfl dX4_keep_91 ?_
        refine lv_iload_n hx hb dX4_keep_94 rfl (lv_at hl 2 rfl) ?_
        obtain ⟨hg, h⟩ := k_gd h
        refine r_iald C hP 4 (by decide) rfl hg dX4_keep_95 ?_
        obtain ⟨hg, h⟩ := k_gd h
        obtain ⟨σ20, eσ20, h⟩ := k_ltx h
        refine st_M_ahead C hP hap hAA eσ20 hg dX4_keep_96 (fun H locs hP => ?_)
        refine lv_aload_n hx hb dX4_keep_97 rfl (lv_at hl 1 rfl) ?_
        refine lv_bipush (v := 78) hx hb dX4_keep_98 (by decide) ?_
        refine lv_iload_n hx hb dX4_keep_100 rfl (lv_at hl 2 rfl) ?_
        refine lv_iadd hx hb dX4_keep_101 ?_
        refine lv_aload_n hx hb dX4_keep_102 rfl (lv_at hl 0 rfl) ?_
        refine r_get C hP (ci := 4) rfl uin_X4 9 (by decide) 0 (by decide) rfl qFL_RX4_23 rfl rfl dX4_keep_103 ?_
        refine lv_iload_n hx hb dX4_keep_106 rfl (lv_at hl 2 rfl) ?_
        obtain ⟨hg, h⟩ := k_gd h
        refine r_iald C hP 5 (by decide) rfl hg dX4_keep_107 ?_
        obtain ⟨hg, h⟩ := k_gd h
        obtain ⟨σ21, eσ21, h⟩ := k_ltx h
        refine st_M_ahead C hP hap hAA eσ21 hg dX4_keep_108 (fun H locs hP => ?_)
        obtain ⟨x22, ex22, h⟩ := k_ltx h
        refine lv_iinc (v := x22) (lv' := [(2, .int x22), (0, .ref (ad 0)), (1, .ref (ad 12))]) hx hb dX4_keep_109 hl (k := 2) rfl (by rw [ex22]; rfl) (by decide) rfl (fun ls hl => ?_)
        refine lv_goto (tgt := 79) hx hb dX4_keep_112 (by decide) ?_
        exact ih _ _ _ _ _ h hP (lv_sub hl [1, 2, 0] rfl)
  refine hL79 _ (fun σ23 H locs ls h hP hl => ?_) FU _ _ _ _ _ h hP (lv_sub hl [1, 2, 0] rfl)
  refine lv_aload_n hx hb dX4_keep_115 rfl (lv_at hl 1 rfl) ?_
  refine lv_bipush (v := 84) hx hb dX4_keep_116 (by decide) ?_
  refine lv_aload_n hx hb dX4_keep_118 rfl (lv_at hl 0 rfl) ?_
  refine r_get C hP (ci := 4) rfl uin_X4 0 (by decide) 0 (by decide) rfl qFL_RX4_67 rfl rfl dX4_keep_119 ?_
  obtain ⟨hg, h⟩ := k_gd h
  obtain ⟨σ24, eσ24, h⟩ := k_ltx h
  refine st_M_ahead C hP hap hAA eσ24 hg dX4_keep_122 (fun H locs hP => ?_)
  refine lv_aload_n hx hb dX4_keep_123 rfl (lv_at hl 1 rfl) ?_
  refine lv_bipush (v := 85) hx hb dX4_keep_124 (by decide) ?_
  refine lv_aload_n hx hb dX4_keep_126 rfl (lv_at hl 0 rfl) ?_
  refine r_get C hP (ci := 4) rfl uin_X4 1 (by decide) 0 (by decide) rfl qFL_RX4_70 rfl rfl dX4_keep_127 ?_
  obtain ⟨hg, h⟩ := k_gd h
  obtain ⟨σ25, eσ25, h⟩ := k_ltx h
  refine st_M_ahead C hP hap hAA eσ25 hg dX4_keep_130 (fun H locs hP => ?_)
  refine lv_aload_n hx hb dX4_keep_131 rfl (lv_at hl 1 rfl) ?_
  refine lv_bipush (v := 86) hx hb dX4_keep_132 (by decide) ?_
  refine lv_aload_n hx hb dX4_keep_134 rfl (lv_at hl 0 rfl) ?_
  refine r_get C hP (ci := 4) rfl uin_X4 5 (by decide) 0 (by decide) rfl qFL_RX4_101 rfl rfl dX4_keep_135 ?_
  obtain ⟨hg, h⟩ := k_gd h
  obtain ⟨σ26, eσ26, h⟩ := k_ltx h
  refine st_M_ahead C hP hap hAA eσ26 hg dX4_keep_138 (fun H locs hP => ?_)
  refine lv_aload_n hx hb dX4_keep_139 rfl (lv_at hl 1 rfl) ?_
  refine lv_bipush (v := 87) hx hb dX4_keep_140 (by decide) ?_
  refine lv_aload_n hx hb dX4_keep_142 rfl (lv_at hl 0 rfl) ?_
  refine r_get C hP (ci := 4) rfl uin_X4 6 (by decide) 0 (by decide) rfl qFL_RX4_104 rfl rfl dX4_keep_143 ?_
  obtain ⟨hg, h⟩ := k_gd h
  obtain ⟨σ27, eσ27, h⟩ := k_ltx h
  refine st_M_ahead C hP hap hAA eσ27 hg dX4_keep_146 (fun H locs hP => ?_)
  refine lv_aload_n hx hb dX4_keep_147 rfl (lv_at hl 1 rfl) ?_
  refine lv_bipush (v := 88) hx hb dX4_keep_148 (by decide) ?_
  refine lv_aload_n hx hb dX4_keep_150 rfl (lv_at hl 0 rfl) ?_
  refine r_get C hP (ci := 4) rfl uin_X4 7 (by decide) 0 (by decide) rfl qFL_RX4_60 rfl rfl dX4_keep_151 ?_
  obtain ⟨hg, h⟩ := k_gd h
  obtain ⟨σ28, eσ28, h⟩ := k_ltx h
  refine st_M_ahead C hP hap hAA eσ28 hg dX4_keep_154 (fun H locs hP => ?_)
  refine lv_aload_n hx hb dX4_keep_155 rfl (lv_at hl 1 rfl) ?_
  refine lv_bipush (v := 89) hx hb dX4_keep_156 (by decide) ?_
  refine lv_aload_n hx hb dX4_keep_158 rfl (lv_at hl 0 rfl) ?_
  refine r_get C hP (ci := 4) rfl uin_X4 10 (by decide) 0 (by decide) rfl qFL_RX4_48 rfl rfl dX4_keep_159 ?_
  obtain ⟨hg, h⟩ := k_gd h
  obtain ⟨σ29, eσ29, h⟩ := k_ltx h
  refine st_M_ahead C hP hap hAA eσ29 hg dX4_keep_162 (fun H locs hP => ?_)
  exact e_vret C hend hP (congrArg (mw ev ad) (k_some h)) dX4_keep_163
def f_X4_again_ahead_L2_b  (k32 : MM → Option MM) (rec2 : Int32 → MM → Option MM) (x1 : Int32) (σ2 : MM) : Option MM :=
  if 40 ≤ x1 then k32 σ2 else gd (inb x1 90) (if ((m_ahead σ2) (Int32.toNatClampNeg x1)) = 1 then gd (inb x1 40) (lt (m_hedge' σ2 (upd (m_hedge σ2) (Int32.toNatClampNeg x1) (vp_nar .boolean 1))) (fun σ5 => lt (x1 + 1) (fun x6 => rec2 x6 σ5))) else gd (inb x1 40) (lt (m_hedge' σ2 (upd (m_hedge σ2) (Int32.toNatClampNeg x1) (vp_nar .boolean 0))) (fun σ3 => lt (x1 + 1) (fun x4 => rec2 x4 σ3))))
def f_X4_again_ahead_L2  (k32 : MM → Option MM) (x1 : Int32) (σ2 : MM) : Option MM :=
  lp (fun _ _ => none) (f_X4_again_ahead_L2_b  k32) FU x1 σ2
def f_X4_again_ahead_b60 (rec34 : Int32 → MM → Option MM) (x10 : Int32) (x11 : Int32) (x12 : Int32) (σ13 : MM) : Option MM :=
  gd (inb x12 16) (lt (m_dug' σ13 (upd (m_dug σ13) (Int32.toNatClampNeg x12) (vp_nar .boolean x11))) (fun σ14 => gd (inb (56 + x10) 90) (gd (inb x10 16) (lt (m_owner' σ14 (upd (m_owner σ14) (Int32.toNatClampNeg x10) ((m_ahead σ14) (Int32.toNatClampNeg (56 + x10))))) (fun σ15 => lt (x10 + 1) (fun x16 => rec34 x16 σ15))))))
def f_X4_again_ahead_L34_b  (k79 : MM → Option MM) (rec34 : Int32 → MM → Option MM) (x8 : Int32) (σ9 : MM) : Option MM :=
  if 16 ≤ x8 then k79 σ9 else gd (inb (40 + x8) 90) (if ((m_ahead σ9) (Int32.toNatClampNeg (40 + x8))) = 1 then f_X4_again_ahead_b60 rec34 x8 1 x8 σ9 else f_X4_again_ahead_b60 rec34 x8 0 x8 σ9)
def f_X4_again_ahead_L34  (k79 : MM → Option MM) (x8 : Int32) (σ9 : MM) : Option MM :=
  lp (fun _ _ => none) (f_X4_again_ahead_L34_b  k79) FU x8 σ9
def f_X4_again_ahead_L81_b  (k117 : MM → Option MM) (rec81 : Int32 → MM → Option MM) (x18 : Int32) (σ19 : MM) : Option MM :=
  if 6 ≤ x18 then k117 σ19 else gd (inb (72 + x18) 90) (gd (inb x18 6) (lt (m_kind' σ19 (upd (m_kind σ19) (Int32.toNatClampNeg x18) ((m_ahead σ19) (Int32.toNatClampNeg (72 + x18))))) (fun σ20 => gd (inb (78 + x18) 90) (gd (inb x18 6) (lt (m_own' σ20 (upd (m_own σ20) (Int32.toNatClampNeg x18) ((m_ahead σ20) (Int32.toNatClampNeg (78 + x18))))) (fun σ21 => lt (x18 + 1) (fun x22 => rec81 x22 σ21)))))))
def f_X4_again_ahead_L81  (k117 : MM → Option MM) (x18 : Int32) (σ19 : MM) : Option MM :=
  lp (fun _ _ => none) (f_X4_again_ahead_L81_b  k117) FU x18 σ19
def f_X4_again_ahead (σ : MM) : Option MM :=
  f_X4_again_ahead_L2 (fun σ7 => f_X4_again_ahead_L34 (fun σ17 => f_X4_again_ahead_L81 (fun σ23 => gd (inb 84 90) (lt (m_w' σ23 ((m_ahead σ23) (Int32.toNatClampNeg 84))) (fun σ24 => gd (inb 85 90) (lt (m_h' σ24 ((m_ahead σ24) (Int32.toNatClampNeg 85))) (fun σ25 => gd (inb 86 90) (lt (m_turn' σ25 ((m_ahead σ25) (Int32.toNatClampNeg 86))) (fun σ26 => gd (inb 87 90) (lt (m_made' σ26 ((m_ahead σ26) (Int32.toNatClampNeg 87))) (fun σ27 => gd (inb 88 90) (lt (m_players' σ27 ((m_ahead σ27) (Int32.toNatClampNeg 88))) (fun σ28 => gd (inb 89 90) (lt (m_seed' σ28 ((m_ahead σ28) (Int32.toNatClampNeg 89))) (fun σ29 => some σ29))))))))))))) 0 σ17) 0 σ7) 0 σ
set_option maxHeartbeats 4000000 in
set_option maxRecDepth 100000 in
theorem c_X4_again_ahead (l : Launch) (ev : EV) (ad : Nat → Nat) (σ : MM)    (σ' : MM) (h : f_X4_again_ahead σ = some σ') : Ct l yX4_again prog_6_method_117_code 3 (Option.none : Option Jvm.ClassFile.FieldType) (rmk 0 0) ev 13 ad (mw ev ad σ) (mw ev ad σ') [.ref (ad 0), .ref (ad 12)] none := by
  refine Ct.of (by decide +kernel) (Nat.le_of_ble_eq_true rfl) ?_
  intro p e s m args below meth c Qc C hap hP hend ls hl
  have hAA : ∀ j, j < 13 → inA ad 13 (ad j) := fun j hj => ⟨j, hj, rfl⟩
  have hx := C.1
  have hb := C.2.1
  have hl : lv_has ls 3 [(0, .ref (ad 0)), (1, .ref (ad 12))] := hl
  have h := (f_X4_again_ahead.eq_1 _ ).symm.trans h
  refine lv_iconst (v := 0) hx hb dX4_again_0 (by decide) ?_
  refine lv_istore_n (lv' := [(2, .int 0), (0, .ref (ad 0)), (1, .ref (ad 12))]) hx hb dX4_again_1 rfl hl (by decide) rfl (fun ls hl => ?_)
  have hL2 : ∀ (k32 : MM → Option MM) (hk32 : ∀  (σk : MM) (H : Heap) (locs : List Loc) (ls : Array Slot), k32  σk = some σ' → PS ev 13 ad (mw ev ad σk) (inA ad 13) s H locs → lv_has ls 3 [(0, .ref (ad 0)), (1, .ref (ad 12))] → WW ev p l e (rmk 0 0) s m args below meth c Qc ad 13 H locs 32 ls []) (n : Nat) (x1 : Int32) (σ2 : MM) (H : Heap) (locs : List Loc) (ls : Array Slot), lp (fun _ _ => none) (f_X4_again_ahead_L2_b  k32) n x1 σ2 = some σ' → PS ev 13 ad (mw ev ad σ2) (inA ad 13) s H locs → lv_has ls 3 [(0, .ref (ad 0)), (1, .ref (ad 12)), (2, .int x1)] → WW ev p l e (rmk 0 0) s m args below meth c Qc ad 13 H locs 2 ls [] := by
    intro k32 hk32 n
    induction n with
    | zero =>
      intro x1 σ2 H locs ls h; exact k_none h
    | succ n ih =>
      intro x1 σ2 H locs ls h hP hl
      have h : f_X4_again_ahead_L2_b  k32 (lp (fun _ _ => none) (f_X4_again_ahead_L2_b  k32) n) x1 σ2 = some σ' := h
      have h := (f_X4_again_ahead_L2_b.eq_1 _ _ _ _ ).symm.trans h
      refine lv_iload_n hx hb dX4_again_2 rfl (lv_at hl 2 rfl) ?_
      refine lv_bipush (v := 40) hx hb dX4_again_3 (by decide) ?_
      refine lv_icmp_ge (tgt := 32) hx hb dX4_again_5 (by decide) (fun c5 => ?_) (fun c5 => ?_)
      · have h := k_if c5 h
        exact hk32 _ _ _ _ h hP (lv_sub hl [0, 1] rfl)
      · have h := k_nf c5 h
        refine lv_aload_n hx hb dX4_again_8 rfl (lv_at hl 0 rfl) ?_
        refine r_get C hP (ci := 4) rfl uin_X4 2 (by decide) 0 (by decide) rfl qFL_RX4_7 rfl rfl dX4_again_9 ?_
        refine lv_iload_n hx hb dX4_again_12 rfl (lv_at hl 2 rfl) ?_
        refine lv_aload_n hx hb dX4_again_13 rfl (lv_at hl 1 rfl) ?_
        refine lv_iload_n hx hb dX4_again_14 rfl (lv_at hl 2 rfl) ?_
        obtain ⟨hg, h⟩ := k_gd h
        refine r_iald C hP 12 (by decide) rfl hg dX4_again_15 ?_
        refine lv_iconst (v := 1) hx hb dX4_again_16 (by decide) ?_
        refine lv_icmp_ne (tgt := 24) hx hb dX4_again_17 (by decide) (fun c17 => ?_) (fun c17 => ?_)
        · have h := k_nf c17 h
          refine lv_iconst (v := 0) hx hb dX4_again_24 (by decide) ?_
          obtain ⟨hg, h⟩ := k_gd h
          obtain ⟨σ3, eσ3, h⟩ := k_ltx h
          refine st_M_hedge C hP hap hAA eσ3 hg dX4_again_25 (fun H locs hP => ?_)
          obtain ⟨x4, ex4, h⟩ := k_ltx h
          refine lv_iinc (v := x4) (lv' := [(2, .int x4), (0, .ref (ad 0)), (1, .ref (ad 12))]) hx hb dX4_again_26 hl (k := 2) rfl (by rw [ex4]; rfl) (by decide) rfl (fun ls hl => ?_)
          refine lv_goto (tgt := 2) hx hb dX4_again_29 (by decide) ?_
          exact ih _ _ _ _ _ h hP (lv_sub hl [1, 2, 0] rfl)
        · have h := k_if c17 h
          refine lv_iconst (v := 1) hx hb dX4_again_20 (by decide) ?_
          refine lv_goto (tgt := 25) hx hb dX4_again_21 (by decide) ?_
          obtain ⟨hg, h⟩ := k_gd h
          obtain ⟨σ5, eσ5, h⟩ := k_ltx h
          refine st_M_hedge C hP hap hAA eσ5 hg dX4_again_25 (fun H locs hP => ?_)
          obtain ⟨x6, ex6, h⟩ := k_ltx h
          refine lv_iinc (v := x6) (lv' := [(2, .int x6), (0, .ref (ad 0)), (1, .ref (ad 12))]) hx hb dX4_again_26 hl (k := 2) rfl (by rw [ex6]; rfl) (by decide) rfl (fun ls hl => ?_)
          refine lv_goto (tgt := 2) hx hb dX4_again_29 (by decide) ?_
          exact ih _ _ _ _ _ h hP (lv_sub hl [1, 2, 0] rfl)
  refine hL2 _ (fun σ7 H locs ls h hP hl => ?_) FU _ _ _ _ _ h hP (lv_sub hl [1, 2, 0] rfl)
  refine lv_iconst (v := 0) hx hb dX4_again_32 (by decide) ?_
  refine lv_istore_n (lv' := [(2, .int 0), (0, .ref (ad 0)), (1, .ref (ad 12))]) hx hb dX4_again_33 rfl hl (by decide) rfl (fun ls hl => ?_)
  have hL34 : ∀ (k79 : MM → Option MM) (hk79 : ∀  (σk : MM) (H : Heap) (locs : List Loc) (ls : Array Slot), k79  σk = some σ' → PS ev 13 ad (mw ev ad σk) (inA ad 13) s H locs → lv_has ls 3 [(0, .ref (ad 0)), (1, .ref (ad 12))] → WW ev p l e (rmk 0 0) s m args below meth c Qc ad 13 H locs 79 ls []) (n : Nat) (x8 : Int32) (σ9 : MM) (H : Heap) (locs : List Loc) (ls : Array Slot), lp (fun _ _ => none) (f_X4_again_ahead_L34_b  k79) n x8 σ9 = some σ' → PS ev 13 ad (mw ev ad σ9) (inA ad 13) s H locs → lv_has ls 3 [(0, .ref (ad 0)), (1, .ref (ad 12)), (2, .int x8)] → WW ev p l e (rmk 0 0) s m args below meth c Qc ad 13 H locs 34 ls [] := by
    intro k79 hk79 n
    induction n with
    | zero =>
      intro x8 σ9 H locs ls h; exact k_none h
    | succ n ih =>
      intro x8 σ9 H locs ls h hP hl
      have h : f_X4_again_ahead_L34_b  k79 (lp (fun _ _ => none) (f_X4_again_ahead_L34_b  k79) n) x8 σ9 = some σ' := h
      have h := (f_X4_again_ahead_L34_b.eq_1 _ _ _ _ ).symm.trans h
      have hB60 : ∀ (x10 : Int32) (x11 : Int32) (x12 : Int32) (σ13 : MM) (H : Heap) (locs : List Loc) (ls : Array Slot), f_X4_again_ahead_b60 (lp (fun _ _ => none) (f_X4_again_ahead_L34_b  k79) n) x10 x11 x12 σ13 = some σ' → PS ev 13 ad (mw ev ad σ13) (inA ad 13) s H locs → lv_has ls 3 [(0, .ref (ad 0)), (1, .ref (ad 12)), (2, .int x10)] → WW ev p l e (rmk 0 0) s m args below meth c Qc ad 13 H locs 60 ls [.int x11, .int x12, .ref (ad 2)] := by
        intro x10 x11 x12 σ13 H locs ls h hP hl
        have h := (f_X4_again_ahead_b60.eq_1 _ _ _ _ _ ).symm.trans h
        obtain ⟨hg, h⟩ := k_gd h
        obtain ⟨σ14, eσ14, h⟩ := k_ltx h
        refine st_M_dug C hP hap hAA eσ14 hg dX4_again_60 (fun H locs hP => ?_)
        refine lv_aload_n hx hb dX4_again_61 rfl (lv_at hl 0 rfl) ?_
        refine r_get C hP (ci := 4) rfl uin_X4 4 (by decide) 0 (by decide) rfl qFL_RX4_16 rfl rfl dX4_again_62 ?_
        refine lv_iload_n hx hb dX4_again_65 rfl (lv_at hl 2 rfl) ?_
        refine lv_aload_n hx hb dX4_again_66 rfl (lv_at hl 1 rfl) ?_
        refine lv_bipush (v := 56) hx hb dX4_again_67 (by decide) ?_
        refine lv_iload_n hx hb dX4_again_69 rfl (lv_at hl 2 rfl) ?_
        refine lv_iadd hx hb dX4_again_70 ?_
        obtain ⟨hg, h⟩ := k_gd h
        refine r_iald C hP 12 (by decide) rfl hg dX4_again_71 ?_
        obtain ⟨hg, h⟩ := k_gd h
        obtain ⟨σ15, eσ15, h⟩ := k_ltx h
        refine st_M_owner C hP hap hAA eσ15 hg dX4_again_72 (fun H locs hP => ?_)
        obtain ⟨x16, ex16, h⟩ := k_ltx h
        refine lv_iinc (v := x16) (lv' := [(2, .int x16), (0, .ref (ad 0)), (1, .ref (ad 12))]) hx hb dX4_again_73 hl (k := 2) rfl (by rw [ex16]; rfl) (by decide) rfl (fun ls hl => ?_)
        refine lv_goto (tgt := 34) hx hb dX4_again_76 (by decide) ?_
        exact ih _ _ _ _ _ h hP (lv_sub hl [1, 2, 0] rfl)
      refine lv_iload_n hx hb dX4_again_34 rfl (lv_at hl 2 rfl) ?_
      refine lv_bipush (v := 16) hx hb dX4_again_35 (by decide) ?_
      refine lv_icmp_ge (tgt := 79) hx hb dX4_again_37 (by decide) (fun c37 => ?_) (fun c37 => ?_)
      · have h := k_if c37 h
        exact hk79 _ _ _ _ h hP (lv_sub hl [0, 1] rfl)
      · have h := k_nf c37 h
        refine lv_aload_n hx hb dX4_again_40 rfl (lv_at hl 0 rfl) ?_
        refine r_get C hP (ci := 4) rfl uin_X4 3 (by decide) 0 (by decide) rfl qFL_RX4_13 rfl rfl dX4_again_41 ?_
        refine lv_iload_n hx hb dX4_again_44 rfl (lv_at hl 2 rfl) ?_
        refine lv_aload_n hx hb dX4_again_45 rfl (lv_at hl 1 rfl) ?_
        refine lv_bipush (v := 40) hx hb dX4_again_46 (by decide) ?_
        refine lv_iload_n hx hb dX4_again_48 rfl (lv_at hl 2 rfl) ?_
        refine lv_iadd hx hb dX4_again_49 ?_
        obtain ⟨hg, h⟩ := k_gd h
        refine r_iald C hP 12 (by decide) rfl hg dX4_again_50 ?_
        refine lv_iconst (v := 1) hx hb dX4_again_51 (by decide) ?_
        refine lv_icmp_ne (tgt := 59) hx hb dX4_again_52 (by decide) (fun c52 => ?_) (fun c52 => ?_)
        · have h := k_nf c52 h
          refine lv_iconst (v := 0) hx hb dX4_again_59 (by decide) ?_
          exact hB60 _ _ _ _ _ _ _ h hP (lv_sub hl [0, 1, 2] rfl)
        · have h := k_if c52 h
          refine lv_iconst (v := 1) hx hb dX4_again_55 (by decide) ?_
          refine lv_goto (tgt := 60) hx hb dX4_again_56 (by decide) ?_
          exact hB60 _ _ _ _ _ _ _ h hP (lv_sub hl [0, 1, 2] rfl)
  refine hL34 _ (fun σ17 H locs ls h hP hl => ?_) FU _ _ _ _ _ h hP (lv_sub hl [1, 2, 0] rfl)
  refine lv_iconst (v := 0) hx hb dX4_again_79 (by decide) ?_
  refine lv_istore_n (lv' := [(2, .int 0), (0, .ref (ad 0)), (1, .ref (ad 12))]) hx hb dX4_again_80 rfl hl (by decide) rfl (fun ls hl => ?_)
  have hL81 : ∀ (k117 : MM → Option MM) (hk117 : ∀  (σk : MM) (H : Heap) (locs : List Loc) (ls : Array Slot), k117  σk = some σ' → PS ev 13 ad (mw ev ad σk) (inA ad 13) s H locs → lv_has ls 3 [(0, .ref (ad 0)), (1, .ref (ad 12))] → WW ev p l e (rmk 0 0) s m args below meth c Qc ad 13 H locs 117 ls []) (n : Nat) (x18 : Int32) (σ19 : MM) (H : Heap) (locs : List Loc) (ls : Array Slot), lp (fun _ _ => none) (f_X4_again_ahead_L81_b  k117) n x18 σ19 = some σ' → PS ev 13 ad (mw ev ad σ19) (inA ad 13) s H locs → lv_has ls 3 [(0, .ref (ad 0)), (1, .ref (ad 12)), (2, .int x18)] → WW ev p l e (rmk 0 0) s m args below meth c Qc ad 13 H locs 81 ls [] := by
    intro k117 hk117 n
    induction n with
    | zero =>
      intro x18 σ19 H locs ls h; exact k_none h
    | succ n ih =>
      intro x18 σ19 H locs ls h hP hl
      have h : f_X4_again_ahead_L81_b  k117 (lp (fun _ _ => none) (f_X4_again_ahead_L81_b  k117) n) x18 σ19 = some σ' := h
      have h := (f_X4_again_ahead_L81_b.eq_1 _ _ _ _ ).symm.trans h
      refine lv_iload_n hx hb dX4_again_81 rfl (lv_at hl 2 rfl) ?_
      refine lv_bipush (v := 6) hx hb dX4_again_82 (by decide) ?_
      refine lv_icmp_ge (tgt := 117) hx hb dX4_again_84 (by decide) (fun c84 => ?_) (fun c84 => ?_)
      · have h := k_if c84 h
        exact hk117 _ _ _ _ h hP (lv_sub hl [0, 1] rfl)
      · have h := k_nf c84 h
        refine lv_aload_n hx hb dX4_again_87 rfl (lv_at hl 0 rfl) ?_
        refine r_get C hP (ci := 4) rfl uin_X4 8 (by decide) 0 (by decide) rfl qFL_RX4_20 rfl rfl dX4_again_88 ?_
        refine lv_iload_n hx hb dX4_again_91 rfl (lv_at hl 2 rfl) ?_
        refine lv_aload_n hx hb dX4_again_92 rfl (lv_at hl 1 rfl) ?_
        refine lv_bipush (v := 72) hx hb dX4_again_93 (by decide) ?_
        refine lv_iload_n hx hb dX4_again_95 rfl (lv_at hl 2 rfl) ?_
        refine lv_iadd hx hb dX4_again_96 ?_
        obtain ⟨hg, h⟩ := k_gd h
        refine r_iald C hP 12 (by decide) rfl hg dX4_again_97 ?_
        obtain ⟨hg, h⟩ := k_gd h
        obtain ⟨σ20, eσ20, h⟩ := k_ltx h
        refine st_M_kind C hP hap hAA eσ20 hg dX4_again_98 (fun H locs hP => ?_)
        refine lv_aload_n hx hb dX4_again_99 rfl (lv_at hl 0 rfl) ?_
        refine r_get C hP (ci := 4) rfl uin_X4 9 (by decide) 0 (by decide) rfl qFL_RX4_23 rfl rfl dX4_again_100 ?_
        refine lv_iload_n hx hb dX4_again_103 rfl (lv_at hl 2 rfl) ?_
        refine lv_aload_n hx hb dX4_again_104 rfl (lv_at hl 1 rfl) ?_
        refine lv_bipush (v := 78) hx hb dX4_again_105 (by decide) ?_
        refine lv_iload_n hx hb dX4_again_107 rfl (lv_at hl 2 rfl) ?_
        refine lv_iadd hx hb dX4_again_108 ?_
        obtain ⟨hg, h⟩ := k_gd h
        refine r_iald C hP 12 (by decide) rfl hg dX4_again_109 ?_
        obtain ⟨hg, h⟩ := k_gd h
        obtain ⟨σ21, eσ21, h⟩ := k_ltx h
        refine st_M_own C hP hap hAA eσ21 hg dX4_again_110 (fun H locs hP => ?_)
        obtain ⟨x22, ex22, h⟩ := k_ltx h
        refine lv_iinc (v := x22) (lv' := [(2, .int x22), (0, .ref (ad 0)), (1, .ref (ad 12))]) hx hb dX4_again_111 hl (k := 2) rfl (by rw [ex22]; rfl) (by decide) rfl (fun ls hl => ?_)
        refine lv_goto (tgt := 81) hx hb dX4_again_114 (by decide) ?_
        exact ih _ _ _ _ _ h hP (lv_sub hl [1, 2, 0] rfl)
  refine hL81 _ (fun σ23 H locs ls h hP hl => ?_) FU _ _ _ _ _ h hP (lv_sub hl [1, 2, 0] rfl)
  refine lv_aload_n hx hb dX4_again_117 rfl (lv_at hl 0 rfl) ?_
  refine lv_aload_n hx hb dX4_again_118 rfl (lv_at hl 1 rfl) ?_
  refine lv_bipush (v := 84) hx hb dX4_again_119 (by decide) ?_
  obtain ⟨hg, h⟩ := k_gd h
  refine r_iald C hP 12 (by decide) rfl hg dX4_again_121 ?_
  obtain ⟨σ24, eσ24, h⟩ := k_ltx h
  refine pt_M_X4_w C hP hap hAA eσ24 qFL_RX4_67 dX4_again_122 (fun H locs hP => ?_)
  refine lv_aload_n hx hb dX4_again_125 rfl (lv_at hl 0 rfl) ?_
  refine lv_aload_n hx hb dX4_again_126 rfl (lv_at hl 1 rfl) ?_
  refine lv_bipush (v := 85) hx hb dX4_again_127 (by decide) ?_
  obtain ⟨hg, h⟩ := k_gd h
  refine r_iald C hP 12 (by decide) rfl hg dX4_again_129 ?_
  obtain ⟨σ25, eσ25, h⟩ := k_ltx h
  refine pt_M_X4_h C hP hap hAA eσ25 qFL_RX4_70 dX4_again_130 (fun H locs hP => ?_)
  refine lv_aload_n hx hb dX4_again_133 rfl (lv_at hl 0 rfl) ?_
  refine lv_aload_n hx hb dX4_again_134 rfl (lv_at hl 1 rfl) ?_
  refine lv_bipush (v := 86) hx hb dX4_again_135 (by decide) ?_
  obtain ⟨hg, h⟩ := k_gd h
  refine r_iald C hP 12 (by decide) rfl hg dX4_again_137 ?_
  obtain ⟨σ26, eσ26, h⟩ := k_ltx h
  refine pt_M_X4_turn C hP hap hAA eσ26 qFL_RX4_101 dX4_again_138 (fun H locs hP => ?_)
  refine lv_aload_n hx hb dX4_again_141 rfl (lv_at hl 0 rfl) ?_
  refine lv_aload_n hx hb dX4_again_142 rfl (lv_at hl 1 rfl) ?_
  refine lv_bipush (v := 87) hx hb dX4_again_143 (by decide) ?_
  obtain ⟨hg, h⟩ := k_gd h
  refine r_iald C hP 12 (by decide) rfl hg dX4_again_145 ?_
  obtain ⟨σ27, eσ27, h⟩ := k_ltx h
  refine pt_M_X4_made C hP hap hAA eσ27 qFL_RX4_104 dX4_again_146 (fun H locs hP => ?_)
  refine lv_aload_n hx hb dX4_again_149 rfl (lv_at hl 0 rfl) ?_
  refine lv_aload_n hx hb dX4_again_150 rfl (lv_at hl 1 rfl) ?_
  refine lv_bipush (v := 88) hx hb dX4_again_151 (by decide) ?_
  obtain ⟨hg, h⟩ := k_gd h
  refine r_iald C hP 12 (by decide) rfl hg dX4_again_153 ?_
  obtain ⟨σ28, eσ28, h⟩ := k_ltx h
  refine pt_M_X4_players C hP hap hAA eσ28 qFL_RX4_60 dX4_again_154 (fun H locs hP => ?_)
  refine lv_aload_n hx hb dX4_again_157 rfl (lv_at hl 0 rfl) ?_
  refine lv_aload_n hx hb dX4_again_158 rfl (lv_at hl 1 rfl) ?_
  refine lv_bipush (v := 89) hx hb dX4_again_159 (by decide) ?_
  obtain ⟨hg, h⟩ := k_gd h
  refine r_iald C hP 12 (by decide) rfl hg dX4_again_161 ?_
  obtain ⟨σ29, eσ29, h⟩ := k_ltx h
  refine pt_M_X4_seed C hP hap hAA eσ29 qFL_RX4_48 dX4_again_162 (fun H locs hP => ?_)
  exact e_vret C hend hP (congrArg (mw ev ad) (k_some h)) dX4_again_165
def f_X4_board_L17_b  (k78 : MM → Option (Int32 × MM)) (k53 : Int32 → MM → Option (Int32 × MM)) (rec17 : Int32 → Int32 → MM → Option (Int32 × MM)) (x3 : Int32) (x4 : Int32) (σ5 : MM) : Option (Int32 × MM) :=
  if x4 = 0 then k78 σ5 else ob (f_X4_next σ5) (fun σ6 => ob2 (f_X4_statement σ6) (fun b8 σ7 => if b8 = true then lt (x3 + 1) (fun x9 => ob (f_X4_next σ7) (fun σ10 => if (m_token σ10) = 101 then k53 x9 σ10 else if (m_token σ10) = 59 then rec17 x9 1 σ10 else rec17 x9 0 σ10)) else rec17 x3 ((bi b8)) σ7))
def f_X4_board_L17  (k78 : MM → Option (Int32 × MM)) (k53 : Int32 → MM → Option (Int32 × MM)) (x3 : Int32) (x4 : Int32) (σ5 : MM) : Option (Int32 × MM) :=
  lp (fun _ _ _ => none) (f_X4_board_L17_b  k78 k53) FU x3 x4 σ5
def f_X4_board (σ : MM) : Option (Int32 × MM) :=
  ob (f_X4_keep_ahead σ) (fun σ1 => lt (m_to' σ1 0) (fun σ2 => f_X4_board_L17 (fun σ12 => ob (f_X4_again_ahead σ12) (fun σ13 => lt (m_taped' σ13 0) (fun σ14 => ob2 (f_X4_no σ14 (-2)) (fun x16 σ15 => some (((-20) - (m_from σ15)), σ15))))) (fun x17 σ18 => lt (m_taped' σ18 0) (fun σ19 => some (x17, σ19))) 0 1 σ2))
set_option maxHeartbeats 4000000 in
set_option maxRecDepth 100000 in
theorem c_X4_board (l : Launch) (ev : EV) (ad : Nat → Nat) (σ : MM)   (r : Int32) (σ' : MM) (h : f_X4_board σ = some (r, σ')) : Ct l yX4_board prog_6_method_40_code 3 (Option.some Jvm.ClassFile.FieldType.int) (rmk 10 345) ev 13 ad (mw ev ad σ) (mw ev ad σ') [.ref (ad 0)] (some (.int r)) := by
  refine Ct.of (by decide +kernel) (Nat.le_of_ble_eq_true rfl) ?_
  intro p e s m args below meth c Qc C hap hP hend ls hl
  have hAA : ∀ j, j < 13 → inA ad 13 (ad j) := fun j hj => ⟨j, hj, rfl⟩
  have hx := C.1
  have hb := C.2.1
  have hl : lv_has ls 3 [(0, .ref (ad 0))] := hl
  have h := (f_X4_board.eq_1 _ ).symm.trans h
  refine lv_aload_n hx hb dX4_board_0 rfl (lv_at hl 0 rfl) ?_
  refine lv_aload_n hx hb dX4_board_1 rfl (lv_at hl 0 rfl) ?_
  refine r_get C hP (ci := 4) rfl uin_X4 23 (by decide) 0 (by decide) rfl qFL_RX4_45 rfl rfl dX4_board_2 ?_
  obtain ⟨σ1, h1, h⟩ := k_ob h
  refine k_callVv C hP hap hAA (c_X4_keep_ahead l ev ad σ   _ h1) Emb.same hap gz_X4_keep qML_RX4_185 qIM_yX4_keep qSE_yX4_keep ⟨(Nat.le_of_ble_eq_true rfl), (Nat.le_of_ble_eq_true rfl)⟩ (q0 := 0) rfl (by decide) rfl rfl rfl rfl hl.1 rfl (Nat.le_of_ble_eq_true rfl) dX4_board_5 ⟨Nat.le_refl _, Nat.le_refl _⟩ (fun H locs hP => ?_)
  refine lv_aload_n hx hb dX4_board_8 rfl (lv_at hl 0 rfl) ?_
  refine lv_iconst (v := 0) hx hb dX4_board_9 (by decide) ?_
  obtain ⟨σ2, eσ2, h⟩ := k_ltx h
  refine pt_M_X4_to C hP hap hAA eσ2 qFL_RX4_131 dX4_board_10 (fun H locs hP => ?_)
  refine lv_iconst (v := 0) hx hb dX4_board_13 (by decide) ?_
  refine lv_istore_n (lv' := [(1, .int 0), (0, .ref (ad 0))]) hx hb dX4_board_14 rfl hl (by decide) rfl (fun ls hl => ?_)
  refine lv_iconst (v := 1) hx hb dX4_board_15 (by decide) ?_
  refine lv_istore_n (lv' := [(2, .int 1), (1, .int 0), (0, .ref (ad 0))]) hx hb dX4_board_16 rfl hl (by decide) rfl (fun ls hl => ?_)
  have hL17 : ∀ (k78 : MM → Option (Int32 × MM)) (hk78 : ∀  (σk : MM) (H : Heap) (locs : List Loc) (ls : Array Slot), k78  σk = some (r, σ') → PS ev 13 ad (mw ev ad σk) (inA ad 13) s H locs → lv_has ls 3 [(0, .ref (ad 0))] → WW ev p l e (rmk 10 345) s m args below meth c Qc ad 13 H locs 78 ls []) (k53 : Int32 → MM → Option (Int32 × MM)) (hk53 : ∀ (z11 : Int32) (σk : MM) (H : Heap) (locs : List Loc) (ls : Array Slot), k53 z11 σk = some (r, σ') → PS ev 13 ad (mw ev ad σk) (inA ad 13) s H locs → lv_has ls 3 [(0, .ref (ad 0)), (1, .int z11)] → WW ev p l e (rmk 10 345) s m args below meth c Qc ad 13 H locs 53 ls []) (n : Nat) (x3 : Int32) (x4 : Int32) (σ5 : MM) (H : Heap) (locs : List Loc) (ls : Array Slot), lp (fun _ _ _ => none) (f_X4_board_L17_b  k78 k53) n x3 x4 σ5 = some (r, σ') → PS ev 13 ad (mw ev ad σ5) (inA ad 13) s H locs → lv_has ls 3 [(0, .ref (ad 0)), (1, .int x3), (2, .int x4)] → WW ev p l e (rmk 10 345) s m args below meth c Qc ad 13 H locs 17 ls [] := by
    intro k78 hk78 k53 hk53 n
    induction n with
    | zero =>
      intro x3 x4 σ5 H locs ls h; exact k_none h
    | succ n ih =>
      intro x3 x4 σ5 H locs ls h hP hl
      have h : f_X4_board_L17_b  k78 k53 (lp (fun _ _ _ => none) (f_X4_board_L17_b  k78 k53) n) x3 x4 σ5 = some (r, σ') := h
      have h := (f_X4_board_L17_b.eq_1 _ _ _ _ _ _ ).symm.trans h
      refine lv_iload_n hx hb dX4_board_17 rfl (lv_at hl 2 rfl) ?_
      refine lv_if_eq (tgt := 78) hx hb dX4_board_18 (by decide) (fun c18 => ?_) (fun c18 => ?_)
      · have h := k_if c18 h
        exact hk78 _ _ _ _ h hP (lv_sub hl [0] rfl)
      · have h := k_nf c18 h
        refine lv_aload_n hx hb dX4_board_21 rfl (lv_at hl 0 rfl) ?_
        obtain ⟨σ6, h1, h⟩ := k_ob h
        refine k_callVv C hP hap hAA (c_X4_next l ev ad σ5   _ h1) Emb.same hap gz_X4_next qML_RX4_158 qIM_yX4_next qSE_yX4_next ⟨(Nat.le_of_ble_eq_true rfl), (Nat.le_of_ble_eq_true rfl)⟩ (q0 := 0) rfl (by decide) rfl rfl rfl rfl hl.1 rfl (Nat.le_of_ble_eq_true rfl) dX4_board_22 ⟨Nat.le_refl _, Nat.le_refl _⟩ (fun H locs hP => ?_)
        refine lv_aload_n hx hb dX4_board_25 rfl (lv_at hl 0 rfl) ?_
        obtain ⟨b8, σ7, h1, h⟩ := k_ob2 h
        refine k_callVi C hP hap hAA (c_X4_statement l ev ad σ6   _ _ h1) Emb.same hap gz_X4_statement qML_RX4_189 qIM_yX4_statement qSE_yX4_statement ⟨(Nat.le_of_ble_eq_true rfl), (Nat.le_of_ble_eq_true rfl)⟩ (q0 := 0) rfl (by decide) rfl rfl rfl rfl hl.1 rfl (Nat.le_of_ble_eq_true rfl) dX4_board_26 ⟨Nat.le_refl _, Nat.le_refl _⟩ (fun H locs hP => ?_)
        refine lv_istore_n (lv' := [(2, .int (bi b8)), (0, .ref (ad 0)), (1, .int x3)]) hx hb dX4_board_29 rfl hl (by decide) rfl (fun ls hl => ?_)
        refine lv_iload_n hx hb dX4_board_30 rfl (lv_at hl 0 rfl) ?_
        refine r_ifz_ne (tgt := 37) hx hb dX4_board_31 (by decide) (fun c31 => ?_) (fun c31 => ?_)
        · have h := k_if c31 h
          obtain ⟨x9, ex9, h⟩ := k_ltx h
          refine lv_iinc (v := x9) (lv' := [(1, .int x9), (2, .int (bi b8)), (0, .ref (ad 0))]) hx hb dX4_board_37 hl (k := 2) rfl (by rw [ex9]; rfl) (by decide) rfl (fun ls hl => ?_)
          refine lv_aload_n hx hb dX4_board_40 rfl (lv_at hl 2 rfl) ?_
          obtain ⟨σ10, h1, h⟩ := k_ob h
          refine k_callVv C hP hap hAA (c_X4_next l ev ad σ7   _ h1) Emb.same hap gz_X4_next qML_RX4_158 qIM_yX4_next qSE_yX4_next ⟨(Nat.le_of_ble_eq_true rfl), (Nat.le_of_ble_eq_true rfl)⟩ (q0 := 0) rfl (by decide) rfl rfl rfl rfl hl.1 rfl (Nat.le_of_ble_eq_true rfl) dX4_board_41 ⟨Nat.le_refl _, Nat.le_refl _⟩ (fun H locs hP => ?_)
          refine lv_aload_n hx hb dX4_board_44 rfl (lv_at hl 2 rfl) ?_
          refine r_get C hP (ci := 4) rfl uin_X4 15 (by decide) 0 (by decide) rfl qFL_RX4_137 rfl rfl dX4_board_45 ?_
          refine lv_bipush (v := 101) hx hb dX4_board_48 (by decide) ?_
          refine lv_icmp_ne (tgt := 60) hx hb dX4_board_50 (by decide) (fun c50 => ?_) (fun c50 => ?_)
          · have h := k_nf c50 h
            refine lv_aload_n hx hb dX4_board_60 rfl (lv_at hl 2 rfl) ?_
            refine r_get C hP (ci := 4) rfl uin_X4 15 (by decide) 0 (by decide) rfl qFL_RX4_137 rfl rfl dX4_board_61 ?_
            refine lv_bipush (v := 59) hx hb dX4_board_64 (by decide) ?_
            refine lv_icmp_ne (tgt := 73) hx hb dX4_board_66 (by decide) (fun c66 => ?_) (fun c66 => ?_)
            · have h := k_nf c66 h
              refine lv_iconst (v := 0) hx hb dX4_board_73 (by decide) ?_
              refine lv_istore_n (lv' := [(2, .int 0), (1, .int x9), (0, .ref (ad 0))]) hx hb dX4_board_74 rfl hl (by decide) rfl (fun ls hl => ?_)
              refine lv_goto (tgt := 17) hx hb dX4_board_75 (by decide) ?_
              exact ih _ _ _ _ _ _ h hP (lv_sub hl [2, 1, 0] rfl)
            · have h := k_if c66 h
              refine lv_iconst (v := 1) hx hb dX4_board_69 (by decide) ?_
              refine lv_goto (tgt := 74) hx hb dX4_board_70 (by decide) ?_
              refine lv_istore_n (lv' := [(2, .int 1), (1, .int x9), (0, .ref (ad 0))]) hx hb dX4_board_74 rfl hl (by decide) rfl (fun ls hl => ?_)
              refine lv_goto (tgt := 17) hx hb dX4_board_75 (by decide) ?_
              exact ih _ _ _ _ _ _ h hP (lv_sub hl [2, 1, 0] rfl)
          · have h := k_if c50 h
            exact hk53 _ _ _ _ _ h hP (lv_sub hl [2, 0] rfl)
        · have h := k_nf c31 h
          refine lv_goto (tgt := 17) hx hb dX4_board_34 (by decide) ?_
          exact ih _ _ _ _ _ _ h hP (lv_sub hl [1, 2, 0] rfl)
  refine hL17 _ (fun σ12 H locs ls h hP hl => ?_) _ (fun x17 σ18 H locs ls h hP hl => ?_) FU _ _ _ _ _ _ h hP (lv_sub hl [2, 1, 0] rfl)
  · refine lv_aload_n hx hb dX4_board_78 rfl (lv_at hl 0 rfl) ?_
    refine lv_aload_n hx hb dX4_board_79 rfl (lv_at hl 0 rfl) ?_
    refine r_get C hP (ci := 4) rfl uin_X4 23 (by decide) 0 (by decide) rfl qFL_RX4_45 rfl rfl dX4_board_80 ?_
    obtain ⟨σ13, h1, h⟩ := k_ob h
    refine k_callVv C hP hap hAA (c_X4_again_ahead l ev ad σ12   _ h1) Emb.same hap gz_X4_again qML_RX4_193 qIM_yX4_again qSE_yX4_again ⟨(Nat.le_of_ble_eq_true rfl), (Nat.le_of_ble_eq_true rfl)⟩ (q0 := 0) rfl (by decide) rfl rfl rfl rfl hl.1 rfl (Nat.le_of_ble_eq_true rfl) dX4_board_83 ⟨Nat.le_refl _, Nat.le_refl _⟩ (fun H locs hP => ?_)
    refine lv_aload_n hx hb dX4_board_86 rfl (lv_at hl 0 rfl) ?_
    refine lv_iconst (v := 0) hx hb dX4_board_87 (by decide) ?_
    obtain ⟨σ14, eσ14, h⟩ := k_ltx h
    refine pt_M_X4_taped C hP hap hAA eσ14 qFL_RX4_128 dX4_board_88 (fun H locs hP => ?_)
    refine lv_aload_n hx hb dX4_board_91 rfl (lv_at hl 0 rfl) ?_
    refine lv_bipush (v := (-2)) hx hb dX4_board_92 (by decide) ?_
    obtain ⟨x16, σ15, h1, h⟩ := k_ob2 h
    refine k_callVi C hP hap hAA (c_X4_no l ev ad σ14 (-2)   _ _ h1) Emb.same hap gz_X4_no qML_RX4_56 qIM_yX4_no qSE_yX4_no ⟨(Nat.le_of_ble_eq_true rfl), (Nat.le_of_ble_eq_true rfl)⟩ (q0 := 0) rfl (by decide) rfl rfl rfl rfl hl.1 rfl (Nat.le_of_ble_eq_true rfl) dX4_board_94 ⟨Nat.le_refl _, Nat.le_refl _⟩ (fun H locs hP => ?_)
    refine lv_pop hx hb dX4_board_97 rfl ?_
    refine lv_bipush (v := (-20)) hx hb dX4_board_98 (by decide) ?_
    refine lv_aload_n hx hb dX4_board_100 rfl (lv_at hl 0 rfl) ?_
    refine r_get C hP (ci := 4) rfl uin_X4 13 (by decide) 0 (by decide) rfl qFL_RX4_134 rfl rfl dX4_board_101 ?_
    refine lv_isub hx hb dX4_board_104 ?_
    exact e_iret C hend hP (k_some2 h).1 (congrArg (mw ev ad) (k_some2 h).2) dX4_board_105
  · refine lv_aload_n hx hb dX4_board_53 rfl (lv_at hl 0 rfl) ?_
    refine lv_iconst (v := 0) hx hb dX4_board_54 (by decide) ?_
    obtain ⟨σ19, eσ19, h⟩ := k_ltx h
    refine pt_M_X4_taped C hP hap hAA eσ19 qFL_RX4_128 dX4_board_55 (fun H locs hP => ?_)
    refine lv_iload_n hx hb dX4_board_58 rfl (lv_at hl 1 rfl) ?_
    exact e_iret C hend hP (k_some2 h).1 (congrArg (mw ev ad) (k_some2 h).2) dX4_board_59
def f_X4_ditchOf_L33_b (σ : MM) (x2 : Int32) (x5 : Int32) (k88 : Int32 → Option (Int32)) (rec33 : Int32 → Int32 → Option (Int32)) (x6 : Int32) (x7 : Int32) : Option (Int32) :=
  if 4 ≤ x7 then k88 x6 else ob (f_X4_beside σ x5 x7) (fun x8 => if ((ishr x2 x5) &&& 1) = 1 then if x8 = (-1) then lt (x7 + 1) (fun x10 => rec33 x6 x10) else gd (inb x8 16) (if ((m_dug σ) (Int32.toNatClampNeg x8)) = 0 then lt (x7 + 1) (fun x11 => rec33 x6 x11) else lt (x6 ||| (ishl 1 x8)) (fun x12 => lt (x7 + 1) (fun x13 => rec33 x12 x13))) else lt (x7 + 1) (fun x9 => rec33 x6 x9))
def f_X4_ditchOf_L33 (σ : MM) (x2 : Int32) (x5 : Int32) (k88 : Int32 → Option (Int32)) (x6 : Int32) (x7 : Int32) : Option (Int32) :=
  lp (fun _ _ => none) (f_X4_ditchOf_L33_b σ x2 x5 k88) FU x6 x7
def f_X4_ditchOf_L16_b (σ : MM) (x2 : Int32) (k94 : Int32 → Option (Int32)) (rec16 : Int32 → Int32 → Option (Int32)) (x4 : Int32) (x5 : Int32) : Option (Int32) :=
  if ((m_w σ) * (m_h σ)) ≤ x5 then k94 x4 else f_X4_ditchOf_L33 σ x2 x5 (fun x15 => lt (x5 + 1) (fun x16 => rec16 x15 x16)) x4 0
def f_X4_ditchOf_L16 (σ : MM) (x2 : Int32) (k94 : Int32 → Option (Int32)) (x4 : Int32) (x5 : Int32) : Option (Int32) :=
  lp (fun _ _ => none) (f_X4_ditchOf_L16_b σ x2 k94) FU x4 x5
def f_X4_ditchOf_L6_b (σ : MM)  (rec6 : Int32 → Int32 → Option (Int32)) (x2 : Int32) (x3 : Int32) : Option (Int32) :=
  if x2 = x3 then some x2 else f_X4_ditchOf_L16 σ x2 (fun x18 => rec6 x18 x2) x2 0
def f_X4_ditchOf_L6 (σ : MM)  (x2 : Int32) (x3 : Int32) : Option (Int32) :=
  lp (fun _ _ => none) (f_X4_ditchOf_L6_b σ ) FU x2 x3
def f_X4_ditchOf (σ : MM) (a1 : Int32) : Option (Int32) :=
  lt (ishl 1 a1) (fun x1 => f_X4_ditchOf_L6 σ x1 0)
set_option maxHeartbeats 4000000 in
set_option maxRecDepth 100000 in
theorem c_X4_ditchOf (l : Launch) (ev : EV) (ad : Nat → Nat) (σ : MM) (a1 : Int32)   (r : Int32)  (h : f_X4_ditchOf σ a1 = some r) : Ct l yX4_ditchOf prog_6_method_51_code 7 (Option.some Jvm.ClassFile.FieldType.int) (rmk 4 89) ev 13 ad (mw ev ad σ) (mw ev ad σ) [.ref (ad 0), .int a1] (some (.int r)) := by
  refine Ct.of (by decide +kernel) (Nat.le_of_ble_eq_true rfl) ?_
  intro p e s m args below meth c Qc C hap hP hend ls hl
  have hAA : ∀ j, j < 13 → inA ad 13 (ad j) := fun j hj => ⟨j, hj, rfl⟩
  have hx := C.1
  have hb := C.2.1
  have hl : lv_has ls 7 [(0, .ref (ad 0)), (1, .int a1)] := hl
  have h := (f_X4_ditchOf.eq_1 _ _ ).symm.trans h
  refine lv_iconst (v := 1) hx hb dX4_ditchOf_0 (by decide) ?_
  refine lv_iload_n hx hb dX4_ditchOf_1 rfl (lv_at hl 1 rfl) ?_
  refine r_ishl hx hb dX4_ditchOf_2 ?_
  refine lv_topi (fun x1 ex1 => ?_)
  have h := k_lt ex1 h
  refine lv_istore_n (lv' := [(2, .int x1), (0, .ref (ad 0)), (1, .int a1)]) hx hb dX4_ditchOf_3 rfl hl (by decide) rfl (fun ls hl => ?_)
  refine lv_iconst (v := 0) hx hb dX4_ditchOf_4 (by decide) ?_
  refine lv_istore_n (lv' := [(3, .int 0), (2, .int x1), (0, .ref (ad 0)), (1, .int a1)]) hx hb dX4_ditchOf_5 rfl hl (by decide) rfl (fun ls hl => ?_)
  have hL6 : ∀ (n : Nat) (x2 : Int32) (x3 : Int32) (H : Heap) (locs : List Loc) (ls : Array Slot), lp (fun _ _ => none) (f_X4_ditchOf_L6_b σ ) n x2 x3 = some r → PS ev 13 ad (mw ev ad σ) (inA ad 13) s H locs → lv_has ls 7 [(0, .ref (ad 0)), (2, .int x2), (3, .int x3)] → WW ev p l e (rmk 4 89) s m args below meth c Qc ad 13 H locs 6 ls [] := by
    intro n
    induction n with
    | zero =>
      intro x2 x3 H locs ls h; exact k_none h
    | succ n ih =>
      intro x2 x3 H locs ls h hP hl
      have h : f_X4_ditchOf_L6_b σ  (lp (fun _ _ => none) (f_X4_ditchOf_L6_b σ ) n) x2 x3 = some r := h
      have h := (f_X4_ditchOf_L6_b.eq_1 _ _ _ _ ).symm.trans h
      refine lv_iload_n hx hb dX4_ditchOf_6 rfl (lv_at hl 1 rfl) ?_
      refine lv_iload_n hx hb dX4_ditchOf_7 rfl (lv_at hl 2 rfl) ?_
      refine lv_icmp_eq (tgt := 97) hx hb dX4_ditchOf_8 (by decide) (fun c8 => ?_) (fun c8 => ?_)
      · have h := k_if c8 h
        refine lv_iload_n hx hb dX4_ditchOf_97 rfl (lv_at hl 1 rfl) ?_
        exact e_iret C hend hP (k_some h) rfl dX4_ditchOf_98
      · have h := k_nf c8 h
        refine lv_iload_n hx hb dX4_ditchOf_11 rfl (lv_at hl 1 rfl) ?_
        refine lv_istore_n (lv' := [(3, .int x2), (0, .ref (ad 0)), (2, .int x2)]) hx hb dX4_ditchOf_12 rfl hl (by decide) rfl (fun ls hl => ?_)
        refine lv_iconst (v := 0) hx hb dX4_ditchOf_13 (by decide) ?_
        refine lv_istore (lv' := [(4, .int 0), (3, .int x2), (0, .ref (ad 0)), (2, .int x2)]) hx hb dX4_ditchOf_14 hl (by decide) rfl (fun ls hl => ?_)
        have hL16 : ∀ (k94 : Int32 → Option (Int32)) (hk94 : ∀ (z17 : Int32) (H : Heap) (locs : List Loc) (ls : Array Slot), k94 z17 = some r → PS ev 13 ad (mw ev ad σ) (inA ad 13) s H locs → lv_has ls 7 [(0, .ref (ad 0)), (2, .int z17), (3, .int x2)] → WW ev p l e (rmk 4 89) s m args below meth c Qc ad 13 H locs 94 ls []) (n : Nat) (x4 : Int32) (x5 : Int32) (H : Heap) (locs : List Loc) (ls : Array Slot), lp (fun _ _ => none) (f_X4_ditchOf_L16_b σ x2 k94) n x4 x5 = some r → PS ev 13 ad (mw ev ad σ) (inA ad 13) s H locs → lv_has ls 7 [(0, .ref (ad 0)), (2, .int x4), (3, .int x2), (4, .int x5)] → WW ev p l e (rmk 4 89) s m args below meth c Qc ad 13 H locs 16 ls [] := by
          intro k94 hk94 n
          induction n with
          | zero =>
            intro x4 x5 H locs ls h; exact k_none h
          | succ n ih =>
            intro x4 x5 H locs ls h hP hl
            have h : f_X4_ditchOf_L16_b σ x2 k94 (lp (fun _ _ => none) (f_X4_ditchOf_L16_b σ x2 k94) n) x4 x5 = some r := h
            have h := (f_X4_ditchOf_L16_b.eq_1 _ _ _ _ _ _ ).symm.trans h
            refine lv_iload hx hb dX4_ditchOf_16 (lv_at hl 3 rfl) ?_
            refine lv_aload_n hx hb dX4_ditchOf_18 rfl (lv_at hl 0 rfl) ?_
            refine r_get C hP (ci := 4) rfl uin_X4 0 (by decide) 0 (by decide) rfl qFL_RX4_67 rfl rfl dX4_ditchOf_19 ?_
            refine lv_aload_n hx hb dX4_ditchOf_22 rfl (lv_at hl 0 rfl) ?_
            refine r_get C hP (ci := 4) rfl uin_X4 1 (by decide) 0 (by decide) rfl qFL_RX4_70 rfl rfl dX4_ditchOf_23 ?_
            refine lv_imul hx hb dX4_ditchOf_26 ?_
            refine lv_icmp_ge (tgt := 94) hx hb dX4_ditchOf_27 (by decide) (fun c27 => ?_) (fun c27 => ?_)
            · have h := k_if c27 h
              exact hk94 _ _ _ _ h hP (lv_sub hl [0, 1, 2] rfl)
            · have h := k_nf c27 h
              refine lv_iconst (v := 0) hx hb dX4_ditchOf_30 (by decide) ?_
              refine lv_istore (lv' := [(5, .int 0), (0, .ref (ad 0)), (2, .int x4), (3, .int x2), (4, .int x5)]) hx hb dX4_ditchOf_31 hl (by decide) rfl (fun ls hl => ?_)
              have hL33 : ∀ (k88 : Int32 → Option (Int32)) (hk88 : ∀ (z14 : Int32) (H : Heap) (locs : List Loc) (ls : Array Slot), k88 z14 = some r → PS ev 13 ad (mw ev ad σ) (inA ad 13) s H locs → lv_has ls 7 [(0, .ref (ad 0)), (2, .int z14), (3, .int x2), (4, .int x5)] → WW ev p l e (rmk 4 89) s m args below meth c Qc ad 13 H locs 88 ls []) (n : Nat) (x6 : Int32) (x7 : Int32) (H : Heap) (locs : List Loc) (ls : Array Slot), lp (fun _ _ => none) (f_X4_ditchOf_L33_b σ x2 x5 k88) n x6 x7 = some r → PS ev 13 ad (mw ev ad σ) (inA ad 13) s H locs → lv_has ls 7 [(0, .ref (ad 0)), (2, .int x6), (3, .int x2), (4, .int x5), (5, .int x7)] → WW ev p l e (rmk 4 89) s m args below meth c Qc ad 13 H locs 33 ls [] := by
                intro k88 hk88 n
                induction n with
                | zero =>
                  intro x6 x7 H locs ls h; exact k_none h
                | succ n ih =>
                  intro x6 x7 H locs ls h hP hl
                  have h : f_X4_ditchOf_L33_b σ x2 x5 k88 (lp (fun _ _ => none) (f_X4_ditchOf_L33_b σ x2 x5 k88) n) x6 x7 = some r := h
                  have h := (f_X4_ditchOf_L33_b.eq_1 _ _ _ _ _ _ _ ).symm.trans h
                  refine lv_iload hx hb dX4_ditchOf_33 (lv_at hl 4 rfl) ?_
                  refine lv_iconst (v := 4) hx hb dX4_ditchOf_35 (by decide) ?_
                  refine lv_icmp_ge (tgt := 88) hx hb dX4_ditchOf_36 (by decide) (fun c36 => ?_) (fun c36 => ?_)
                  · have h := k_if c36 h
                    exact hk88 _ _ _ _ h hP (lv_sub hl [0, 1, 2, 3] rfl)
                  · have h := k_nf c36 h
                    refine lv_aload_n hx hb dX4_ditchOf_39 rfl (lv_at hl 0 rfl) ?_
                    refine lv_iload hx hb dX4_ditchOf_40 (lv_at hl 3 rfl) ?_
                    refine lv_iload hx hb dX4_ditchOf_42 (lv_at hl 4 rfl) ?_
                    obtain ⟨x8, h1, h⟩ := k_ob h
                    refine k_callVi C hP hap hAA (c_X4_beside l ev ad σ x5 x7   _ h1) Emb.same hap gz_X4_beside qML_RX4_211 qIM_yX4_beside qSE_yX4_beside ⟨(Nat.le_of_ble_eq_true rfl), (Nat.le_of_ble_eq_true rfl)⟩ (q0 := 0) rfl (by decide) rfl rfl rfl rfl hl.1 rfl (Nat.le_of_ble_eq_true rfl) dX4_ditchOf_44 ⟨Nat.le_refl _, Nat.le_refl _⟩ (fun H locs hP => ?_)
                    refine lv_istore (lv' := [(6, .int x8), (0, .ref (ad 0)), (2, .int x6), (3, .int x2), (4, .int x5), (5, .int x7)]) hx hb dX4_ditchOf_47 hl (by decide) rfl (fun ls hl => ?_)
                    refine lv_iload_n hx hb dX4_ditchOf_49 rfl (lv_at hl 3 rfl) ?_
                    refine lv_iload hx hb dX4_ditchOf_50 (lv_at hl 4 rfl) ?_
                    refine r_ishr hx hb dX4_ditchOf_52 ?_
                    refine lv_iconst (v := 1) hx hb dX4_ditchOf_53 (by decide) ?_
                    refine lv_iand hx hb dX4_ditchOf_54 ?_
                    refine lv_iconst (v := 1) hx hb dX4_ditchOf_55 (by decide) ?_
                    refine lv_icmp_ne (tgt := 82) hx hb dX4_ditchOf_56 (by decide) (fun c56 => ?_) (fun c56 => ?_)
                    · have h := k_nf c56 h
                      obtain ⟨x9, ex9, h⟩ := k_ltx h
                      refine lv_iinc (v := x9) (lv' := [(5, .int x9), (6, .int x8), (0, .ref (ad 0)), (2, .int x6), (3, .int x2), (4, .int x5)]) hx hb dX4_ditchOf_82 hl (k := 5) rfl (by rw [ex9]; rfl) (by decide) rfl (fun ls hl => ?_)
                      refine lv_goto (tgt := 33) hx hb dX4_ditchOf_85 (by decide) ?_
                      exact ih _ _ _ _ _ h hP (lv_sub hl [2, 3, 4, 5, 0] rfl)
                    · have h := k_if c56 h
                      refine lv_iload hx hb dX4_ditchOf_59 (lv_at hl 0 rfl) ?_
                      refine lv_iconst (v := (-1)) hx hb dX4_ditchOf_61 (by decide) ?_
                      refine lv_icmp_eq (tgt := 82) hx hb dX4_ditchOf_62 (by decide) (fun c62 => ?_) (fun c62 => ?_)
                      · have h := k_if c62 h
                        obtain ⟨x10, ex10, h⟩ := k_ltx h
                        refine lv_iinc (v := x10) (lv' := [(5, .int x10), (6, .int x8), (0, .ref (ad 0)), (2, .int x6), (3, .int x2), (4, .int x5)]) hx hb dX4_ditchOf_82 hl (k := 5) rfl (by rw [ex10]; rfl) (by decide) rfl (fun ls hl => ?_)
                        refine lv_goto (tgt := 33) hx hb dX4_ditchOf_85 (by decide) ?_
                        exact ih _ _ _ _ _ h hP (lv_sub hl [2, 3, 4, 5, 0] rfl)
                      · have h := k_nf c62 h
                        refine lv_aload_n hx hb dX4_ditchOf_65 rfl (lv_at hl 1 rfl) ?_
                        refine r_get C hP (ci := 4) rfl uin_X4 3 (by decide) 0 (by decide) rfl qFL_RX4_13 rfl rfl dX4_ditchOf_66 ?_
                        refine lv_iload hx hb dX4_ditchOf_69 (lv_at hl 0 rfl) ?_
                        obtain ⟨hg, h⟩ := k_gd h
                        refine r_zald C hP 2 (by decide) rfl hg dX4_ditchOf_71 ?_
                        refine lv_if_eq (tgt := 82) hx hb dX4_ditchOf_72 (by decide) (fun c72 => ?_) (fun c72 => ?_)
                        · have h := k_if c72 h
                          obtain ⟨x11, ex11, h⟩ := k_ltx h
                          refine lv_iinc (v := x11) (lv' := [(5, .int x11), (6, .int x8), (0, .ref (ad 0)), (2, .int x6), (3, .int x2), (4, .int x5)]) hx hb dX4_ditchOf_82 hl (k := 5) rfl (by rw [ex11]; rfl) (by decide) rfl (fun ls hl => ?_)
                          refine lv_goto (tgt := 33) hx hb dX4_ditchOf_85 (by decide) ?_
                          exact ih _ _ _ _ _ h hP (lv_sub hl [2, 3, 4, 5, 0] rfl)
                        · have h := k_nf c72 h
                          refine lv_iload_n hx hb dX4_ditchOf_75 rfl (lv_at hl 2 rfl) ?_
                          refine lv_iconst (v := 1) hx hb dX4_ditchOf_76 (by decide) ?_
                          refine lv_iload hx hb dX4_ditchOf_77 (lv_at hl 0 rfl) ?_
                          refine r_ishl hx hb dX4_ditchOf_79 ?_
                          refine lv_ior hx hb dX4_ditchOf_80 ?_
                          refine lv_topi (fun x12 ex12 => ?_)
                          have h := k_lt ex12 h
                          refine lv_istore_n (lv' := [(2, .int x12), (6, .int x8), (0, .ref (ad 0)), (3, .int x2), (4, .int x5), (5, .int x7)]) hx hb dX4_ditchOf_81 rfl hl (by decide) rfl (fun ls hl => ?_)
                          obtain ⟨x13, ex13, h⟩ := k_ltx h
                          refine lv_iinc (v := x13) (lv' := [(5, .int x13), (2, .int x12), (6, .int x8), (0, .ref (ad 0)), (3, .int x2), (4, .int x5)]) hx hb dX4_ditchOf_82 hl (k := 5) rfl (by rw [ex13]; rfl) (by decide) rfl (fun ls hl => ?_)
                          refine lv_goto (tgt := 33) hx hb dX4_ditchOf_85 (by decide) ?_
                          exact ih _ _ _ _ _ h hP (lv_sub hl [3, 1, 4, 5, 0] rfl)
              refine hL33 _ (fun x15 H locs ls h hP hl => ?_) FU _ _ _ _ _ h hP (lv_sub hl [1, 2, 3, 4, 0] rfl)
              obtain ⟨x16, ex16, h⟩ := k_ltx h
              refine lv_iinc (v := x16) (lv' := [(4, .int x16), (0, .ref (ad 0)), (2, .int x15), (3, .int x2)]) hx hb dX4_ditchOf_88 hl (k := 3) rfl (by rw [ex16]; rfl) (by decide) rfl (fun ls hl => ?_)
              refine lv_goto (tgt := 16) hx hb dX4_ditchOf_91 (by decide) ?_
              exact ih _ _ _ _ _ h hP (lv_sub hl [1, 2, 3, 0] rfl)
        refine hL16 _ (fun x18 H locs ls h hP hl => ?_) FU _ _ _ _ _ h hP (lv_sub hl [2, 3, 1, 0] rfl)
        refine lv_goto (tgt := 6) hx hb dX4_ditchOf_94 (by decide) ?_
        exact ih _ _ _ _ _ h hP (lv_sub hl [0, 1, 2] rfl)
  exact hL6 FU _ _ _ _ _ h hP (lv_sub hl [2, 1, 0] rfl)
