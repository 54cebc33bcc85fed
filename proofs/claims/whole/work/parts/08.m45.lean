/-! functions read off, and their contracts: by program (wip/whole/gen2.py) -/
def f_X4_statement_b107  (x9 : Int32) (x10 : Int32) (σ11 : MM) : Option (Bool × MM) :=
  if (f_X4_isMove σ11 (x10 + x9)) = true then ob (f_X4_mayBe σ11 (x10 + x9)) (fun b12 => if b12 = true then ob2 (f_X4_makes σ11 (x10 + x9)) (fun x14 σ13 => some (true, σ13)) else some (false, σ11)) else some (false, σ11)
def f_X4_statement_b81  (x5 : Int32) (σ6 : MM) : Option (Bool × MM) :=
  ob2 (f_X4_number σ6 0 99) (fun x8 σ7 => if x8 = (-1) then some (false, σ7) else if x5 = 0 then if (f_X4_edges σ7) ≤ x8 then some (false, σ7) else f_X4_statement_b107 x8 x5 σ7 else f_X4_statement_b107 x8 x5 σ7)
def f_X4_statement_b66  (σ3 : MM) : Option (Bool × MM) :=
  ob (f_X4_isWord_w2 σ3) (fun b4 => if b4 = true then f_X4_statement_b81 100 σ3 else f_X4_statement_b81 0 σ3)
def f_X4_statement_b212  (x22 : Int32) (x23 : Int32) (σ24 : MM) : Option (Bool × MM) :=
  if x23 = (-1) then some (false, σ24) else ob2 (f_X4_newPlayer σ24 x22 x23) (fun x26 σ25 => some (true, σ25))
def f_X4_statement_b31  (x34 : Int32) (x35 : Int32) (σ36 : MM) : Option (Bool × MM) :=
  if x35 = (-1) then some (false, σ36) else ob2 (f_X4_sized σ36 x34 x35) (fun x38 σ37 => some (true, σ37))
def f_X4_statement (σ : MM) : Option (Bool × MM) :=
  ob (f_X4_isWord_w0 σ) (fun b1 => if b1 = true then ob2 (f_X4_number σ 1 4) (fun x31 σ30 => if x31 = (-1) then f_X4_statement_b31 x31 (-1) σ30 else ob2 (f_X4_number σ30 1 4) (fun x33 σ32 => f_X4_statement_b31 x31 x33 σ32)) else ob (f_X4_isWord_w1 σ) (fun b2 => if b2 = true then f_X4_statement_b66 σ else ob (f_X4_isWord_w2 σ) (fun b15 => if b15 = true then f_X4_statement_b66 σ else ob (f_X4_isWord_w3 σ) (fun b16 => if b16 = true then ob2 (f_X4_number σ 0 1) (fun x28 σ27 => if x28 = (-1) then some (false, σ27) else lt (m_turn' σ27 x28) (fun σ29 => some (true, σ29))) else ob (f_X4_isWord_w4 σ) (fun b17 => if b17 = true then if (m_players σ) = 6 then some (false, σ) else ob2 (f_X4_number σ 0 5) (fun x19 σ18 => if x19 = (-1) then f_X4_statement_b212 x19 (-1) σ18 else ob2 (f_X4_number σ18 0 9) (fun x21 σ20 => f_X4_statement_b212 x19 x21 σ20)) else some (false, σ))))))
set_option maxHeartbeats 4000000 in
set_option maxRecDepth 100000 in
theorem c_X4_statement (l : Launch) (ev : EV) (ad : Nat → Nat) (σ : MM)   (r : Bool) (σ' : MM) (h : f_X4_statement σ = some (r, σ')) : Ct l yX4_statement prog_6_method_39_code 4 (Option.some Jvm.ClassFile.FieldType.boolean) (rmk 9 322) ev 13 ad (mw ev ad σ) (mw ev ad σ') [.ref (ad 0)] (some (.int (bi r))) := by
  refine Ct.of (by decide +kernel) (Nat.le_of_ble_eq_true rfl) ?_
  intro p e s m args below meth c Qc C hap hP hend ls hl
  have hAA : ∀ j, j < 13 → inA ad 13 (ad j) := fun j hj => ⟨j, hj, rfl⟩
  have hx := C.1
  have hb := C.2.1
  have hl : lv_has ls 4 [(0, .ref (ad 0))] := hl
  have h := (f_X4_statement.eq_1 _ ).symm.trans h
  have hB107 : ∀ (x9 : Int32) (x10 : Int32) (σ11 : MM) (H : Heap) (locs : List Loc) (ls : Array Slot), f_X4_statement_b107  x9 x10 σ11 = some (r, σ') → PS ev 13 ad (mw ev ad σ11) (inA ad 13) s H locs → lv_has ls 4 [(0, .ref (ad 0)), (1, .int x9), (3, .int x10)] → WW ev p l e (rmk 9 322) s m args below meth c Qc ad 13 H locs 107 ls [] := by
    intro x9 x10 σ11 H locs ls h hP hl
    have h := (f_X4_statement_b107.eq_1 _ _ _ ).symm.trans h
    refine lv_aload_n hx hb dX4_statement_107 rfl (lv_at hl 0 rfl) ?_
    refine lv_iload_n hx hb dX4_statement_108 rfl (lv_at hl 2 rfl) ?_
    refine lv_iload_n hx hb dX4_statement_109 rfl (lv_at hl 1 rfl) ?_
    refine lv_iadd hx hb dX4_statement_110 ?_
    refine k_callVi C hP hap hAA (c_X4_isMove l ev ad σ11 (x10 + x9)   _ rfl) Emb.same hap gz_X4_isMove qML_RX4_173 qIM_yX4_isMove qSE_yX4_isMove ⟨(Nat.le_of_ble_eq_true rfl), (Nat.le_of_ble_eq_true rfl)⟩ (q0 := 0) rfl (by decide) rfl rfl rfl rfl hl.1 rfl (Nat.le_of_ble_eq_true rfl) dX4_statement_111 ⟨Nat.le_refl _, Nat.le_refl _⟩ (fun H locs hP => ?_)
    refine r_ifz_eq (tgt := 127) hx hb dX4_statement_114 (by decide) (fun c114 => ?_) (fun c114 => ?_)
    · have h := k_nf c114 h
      refine lv_iconst (v := 0) hx hb dX4_statement_127 (by decide) ?_
      exact e_zret C hend hP (k_some2 h).1 (congrArg (mw ev ad) (k_some2 h).2) dX4_statement_128 rfl
    · have h := k_if c114 h
      refine lv_aload_n hx hb dX4_statement_117 rfl (lv_at hl 0 rfl) ?_
      refine lv_iload_n hx hb dX4_statement_118 rfl (lv_at hl 2 rfl) ?_
      refine lv_iload_n hx hb dX4_statement_119 rfl (lv_at hl 1 rfl) ?_
      refine lv_iadd hx hb dX4_statement_120 ?_
      obtain ⟨b12, h1, h⟩ := k_ob h
      refine k_callVi C hP hap hAA (c_X4_mayBe l ev ad σ11 (x10 + x9)   _ h1) Emb.same hap gz_X4_mayBe qML_RX4_176 qIM_yX4_mayBe qSE_yX4_mayBe ⟨(Nat.le_of_ble_eq_true rfl), (Nat.le_of_ble_eq_true rfl)⟩ (q0 := 0) rfl (by decide) rfl rfl rfl rfl hl.1 rfl (Nat.le_of_ble_eq_true rfl) dX4_statement_121 ⟨Nat.le_refl _, Nat.le_refl _⟩ (fun H locs hP => ?_)
      refine r_ifz_ne (tgt := 129) hx hb dX4_statement_124 (by decide) (fun c124 => ?_) (fun c124 => ?_)
      · have h := k_if c124 h
        refine lv_aload_n hx hb dX4_statement_129 rfl (lv_at hl 0 rfl) ?_
        refine lv_iload_n hx hb dX4_statement_130 rfl (lv_at hl 2 rfl) ?_
        refine lv_iload_n hx hb dX4_statement_131 rfl (lv_at hl 1 rfl) ?_
        refine lv_iadd hx hb dX4_statement_132 ?_
        obtain ⟨x14, σ13, h1, h⟩ := k_ob2 h
        refine k_callVi C hP hap hAA (c_X4_makes l ev ad σ11 (x10 + x9)   _ _ h1) Emb.same hap gz_X4_makes qML_RX4_179 qIM_yX4_makes qSE_yX4_makes ⟨(Nat.le_of_ble_eq_true rfl), (Nat.le_of_ble_eq_true rfl)⟩ (q0 := 0) rfl (by decide) rfl rfl rfl rfl hl.1 rfl (Nat.le_of_ble_eq_true rfl) dX4_statement_133 ⟨Nat.le_refl _, Nat.le_refl _⟩ (fun H locs hP => ?_)
        refine lv_pop hx hb dX4_statement_136 rfl ?_
        refine lv_iconst (v := 1) hx hb dX4_statement_137 (by decide) ?_
        exact e_zret C hend hP (k_some2 h).1 (congrArg (mw ev ad) (k_some2 h).2) dX4_statement_138 rfl
      · have h := k_nf c124 h
        refine lv_iconst (v := 0) hx hb dX4_statement_127 (by decide) ?_
        exact e_zret C hend hP (k_some2 h).1 (congrArg (mw ev ad) (k_some2 h).2) dX4_statement_128 rfl
  have hB81 : ∀ (x5 : Int32) (σ6 : MM) (H : Heap) (locs : List Loc) (ls : Array Slot), f_X4_statement_b81  x5 σ6 = some (r, σ') → PS ev 13 ad (mw ev ad σ6) (inA ad 13) s H locs → lv_has ls 4 [(0, .ref (ad 0))] → WW ev p l e (rmk 9 322) s m args below meth c Qc ad 13 H locs 81 ls [.int x5] := by
    intro x5 σ6 H locs ls h hP hl
    have h := (f_X4_statement_b81.eq_1 _ _ ).symm.trans h
    refine lv_istore_n (lv' := [(3, .int x5), (0, .ref (ad 0))]) hx hb dX4_statement_81 rfl hl (by decide) rfl (fun ls hl => ?_)
    refine lv_aload_n hx hb dX4_statement_82 rfl (lv_at hl 1 rfl) ?_
    refine lv_iconst (v := 0) hx hb dX4_statement_83 (by decide) ?_
    refine lv_bipush (v := 99) hx hb dX4_statement_84 (by decide) ?_
    obtain ⟨x8, σ7, h1, h⟩ := k_ob2 h
    refine k_callVi C hP hap hAA (c_X4_number l ev ad σ6 0 99   _ _ h1) Emb.same hap gz_X4_number qML_RX4_167 qIM_yX4_number qSE_yX4_number ⟨(Nat.le_of_ble_eq_true rfl), (Nat.le_of_ble_eq_true rfl)⟩ (q0 := 0) rfl (by decide) rfl rfl rfl rfl hl.1 rfl (Nat.le_of_ble_eq_true rfl) dX4_statement_86 ⟨Nat.le_refl _, Nat.le_refl _⟩ (fun H locs hP => ?_)
    refine lv_istore_n (lv' := [(1, .int x8), (3, .int x5), (0, .ref (ad 0))]) hx hb dX4_statement_89 rfl hl (by decide) rfl (fun ls hl => ?_)
    refine lv_iload_n hx hb dX4_statement_90 rfl (lv_at hl 0 rfl) ?_
    refine lv_iconst (v := (-1)) hx hb dX4_statement_91 (by decide) ?_
    refine lv_icmp_eq (tgt := 127) hx hb dX4_statement_92 (by decide) (fun c92 => ?_) (fun c92 => ?_)
    · have h := k_if c92 h
      refine lv_iconst (v := 0) hx hb dX4_statement_127 (by decide) ?_
      exact e_zret C hend hP (k_some2 h).1 (congrArg (mw ev ad) (k_some2 h).2) dX4_statement_128 rfl
    · have h := k_nf c92 h
      refine lv_iload_n hx hb dX4_statement_95 rfl (lv_at hl 1 rfl) ?_
      refine lv_if_ne (tgt := 107) hx hb dX4_statement_96 (by decide) (fun c96 => ?_) (fun c96 => ?_)
      · have h := k_nf c96 h
        exact hB107 _ _ _ _ _ _ h hP (lv_sub hl [2, 0, 1] rfl)
      · have h := k_if c96 h
        refine lv_iload_n hx hb dX4_statement_99 rfl (lv_at hl 0 rfl) ?_
        refine lv_aload_n hx hb dX4_statement_100 rfl (lv_at hl 2 rfl) ?_
        refine k_callVi C hP hap hAA (c_X4_edges l ev ad σ7   _ rfl) Emb.same hap gz_X4_edges qML_RX4_107 qIM_yX4_edges qSE_yX4_edges ⟨(Nat.le_of_ble_eq_true rfl), (Nat.le_of_ble_eq_true rfl)⟩ (q0 := 0) rfl (by decide) rfl rfl rfl rfl hl.1 rfl (Nat.le_of_ble_eq_true rfl) dX4_statement_101 ⟨Nat.le_refl _, Nat.le_refl _⟩ (fun H locs hP => ?_)
        refine lv_icmp_ge (tgt := 127) hx hb dX4_statement_104 (by decide) (fun c104 => ?_) (fun c104 => ?_)
        · have h := k_if c104 h
          refine lv_iconst (v := 0) hx hb dX4_statement_127 (by decide) ?_
          exact e_zret C hend hP (k_some2 h).1 (congrArg (mw ev ad) (k_some2 h).2) dX4_statement_128 rfl
        · have h := k_nf c104 h
          exact hB107 _ _ _ _ _ _ h hP (lv_sub hl [2, 0, 1] rfl)
  have hB66 : ∀ (σ3 : MM) (H : Heap) (locs : List Loc) (ls : Array Slot), f_X4_statement_b66  σ3 = some (r, σ') → PS ev 13 ad (mw ev ad σ3) (inA ad 13) s H locs → lv_has ls 4 [(0, .ref (ad 0))] → WW ev p l e (rmk 9 322) s m args below meth c Qc ad 13 H locs 66 ls [] := by
    intro σ3 H locs ls h hP hl
    have h := (f_X4_statement_b66.eq_1 _ ).symm.trans h
    refine lv_aload_n hx hb dX4_statement_66 rfl (lv_at hl 0 rfl) ?_
    refine va_ldcS hx hb C.2.2.2.2.2.1 C.2.2.2.2.2.2.2.2.2.2.2.2.2.2.1.2.2.1 dX4_statement_67 ?_
    obtain ⟨b4, h1, h⟩ := k_ob h
    refine k_callVi C hP hap hAA (c_X4_isWord_w2 l ev ad σ3   _ h1) Emb.same hap gz_X4_isWord qML_RX4_163 qIM_yX4_isWord qSE_yX4_isWord ⟨(Nat.le_of_ble_eq_true rfl), (Nat.le_of_ble_eq_true rfl)⟩ (q0 := 0) rfl (by decide) rfl rfl rfl rfl hl.1 rfl (Nat.le_of_ble_eq_true rfl) dX4_statement_69 ⟨Nat.le_refl _, Nat.le_refl _⟩ (fun H locs hP => ?_)
    refine r_ifz_eq (tgt := 80) hx hb dX4_statement_72 (by decide) (fun c72 => ?_) (fun c72 => ?_)
    · have h := k_nf c72 h
      refine lv_iconst (v := 0) hx hb dX4_statement_80 (by decide) ?_
      exact hB81 _ _ _ _ _ h hP (lv_sub hl [0] rfl)
    · have h := k_if c72 h
      refine lv_bipush (v := 100) hx hb dX4_statement_75 (by decide) ?_
      refine lv_goto (tgt := 81) hx hb dX4_statement_77 (by decide) ?_
      exact hB81 _ _ _ _ _ h hP (lv_sub hl [0] rfl)
  have hB212 : ∀ (x22 : Int32) (x23 : Int32) (σ24 : MM) (H : Heap) (locs : List Loc) (ls : Array Slot), f_X4_statement_b212  x22 x23 σ24 = some (r, σ') → PS ev 13 ad (mw ev ad σ24) (inA ad 13) s H locs → lv_has ls 4 [(0, .ref (ad 0)), (1, .int x22)] → WW ev p l e (rmk 9 322) s m args below meth c Qc ad 13 H locs 212 ls [.int x23] := by
    intro x22 x23 σ24 H locs ls h hP hl
    have h := (f_X4_statement_b212.eq_1 _ _ _ ).symm.trans h
    refine lv_istore_n (lv' := [(2, .int x23), (0, .ref (ad 0)), (1, .int x22)]) hx hb dX4_statement_212 rfl hl (by decide) rfl (fun ls hl => ?_)
    refine lv_iload_n hx hb dX4_statement_213 rfl (lv_at hl 0 rfl) ?_
    refine lv_iconst (v := (-1)) hx hb dX4_statement_214 (by decide) ?_
    refine lv_icmp_ne (tgt := 220) hx hb dX4_statement_215 (by decide) (fun c215 => ?_) (fun c215 => ?_)
    · have h := k_nf c215 h
      refine lv_aload_n hx hb dX4_statement_220 rfl (lv_at hl 1 rfl) ?_
      refine lv_iload_n hx hb dX4_statement_221 rfl (lv_at hl 2 rfl) ?_
      refine lv_iload_n hx hb dX4_statement_222 rfl (lv_at hl 0 rfl) ?_
      obtain ⟨x26, σ25, h1, h⟩ := k_ob2 h
      refine k_callVi C hP hap hAA (c_X4_newPlayer l ev ad σ24 x22 x23   _ _ h1) Emb.same hap gz_X4_newPlayer qML_RX4_113 qIM_yX4_newPlayer qSE_yX4_newPlayer ⟨(Nat.le_of_ble_eq_true rfl), (Nat.le_of_ble_eq_true rfl)⟩ (q0 := 0) rfl (by decide) rfl rfl rfl rfl hl.1 rfl (Nat.le_of_ble_eq_true rfl) dX4_statement_223 ⟨Nat.le_refl _, Nat.le_refl _⟩ (fun H locs hP => ?_)
      refine lv_pop hx hb dX4_statement_226 rfl ?_
      refine lv_iconst (v := 1) hx hb dX4_statement_227 (by decide) ?_
      exact e_zret C hend hP (k_some2 h).1 (congrArg (mw ev ad) (k_some2 h).2) dX4_statement_228 rfl
    · have h := k_if c215 h
      refine lv_iconst (v := 0) hx hb dX4_statement_218 (by decide) ?_
      exact e_zret C hend hP (k_some2 h).1 (congrArg (mw ev ad) (k_some2 h).2) dX4_statement_219 rfl
  have hB31 : ∀ (x34 : Int32) (x35 : Int32) (σ36 : MM) (H : Heap) (locs : List Loc) (ls : Array Slot), f_X4_statement_b31  x34 x35 σ36 = some (r, σ') → PS ev 13 ad (mw ev ad σ36) (inA ad 13) s H locs → lv_has ls 4 [(0, .ref (ad 0)), (1, .int x34)] → WW ev p l e (rmk 9 322) s m args below meth c Qc ad 13 H locs 31 ls [.int x35] := by
    intro x34 x35 σ36 H locs ls h hP hl
    have h := (f_X4_statement_b31.eq_1 _ _ _ ).symm.trans h
    refine lv_istore_n (lv' := [(2, .int x35), (0, .ref (ad 0)), (1, .int x34)]) hx hb dX4_statement_31 rfl hl (by decide) rfl (fun ls hl => ?_)
    refine lv_iload_n hx hb dX4_statement_32 rfl (lv_at hl 0 rfl) ?_
    refine lv_iconst (v := (-1)) hx hb dX4_statement_33 (by decide) ?_
    refine lv_icmp_ne (tgt := 39) hx hb dX4_statement_34 (by decide) (fun c34 => ?_) (fun c34 => ?_)
    · have h := k_nf c34 h
      refine lv_aload_n hx hb dX4_statement_39 rfl (lv_at hl 1 rfl) ?_
      refine lv_iload_n hx hb dX4_statement_40 rfl (lv_at hl 2 rfl) ?_
      refine lv_iload_n hx hb dX4_statement_41 rfl (lv_at hl 0 rfl) ?_
      obtain ⟨x38, σ37, h1, h⟩ := k_ob2 h
      refine k_callVi C hP hap hAA (c_X4_sized l ev ad σ36 x34 x35   _ _ h1) Emb.same hap gz_X4_sized qML_RX4_52 qIM_yX4_sized qSE_yX4_sized ⟨(Nat.le_of_ble_eq_true rfl), (Nat.le_of_ble_eq_true rfl)⟩ (q0 := 0) rfl (by decide) rfl rfl rfl rfl hl.1 rfl (Nat.le_of_ble_eq_true rfl) dX4_statement_42 ⟨Nat.le_refl _, Nat.le_refl _⟩ (fun H locs hP => ?_)
      refine lv_pop hx hb dX4_statement_45 rfl ?_
      refine lv_iconst (v := 1) hx hb dX4_statement_46 (by decide) ?_
      exact e_zret C hend hP (k_some2 h).1 (congrArg (mw ev ad) (k_some2 h).2) dX4_statement_47 rfl
    · have h := k_if c34 h
      refine lv_iconst (v := 0) hx hb dX4_statement_37 (by decide) ?_
      exact e_zret C hend hP (k_some2 h).1 (congrArg (mw ev ad) (k_some2 h).2) dX4_statement_38 rfl
  refine lv_aload_n hx hb dX4_statement_0 rfl (lv_at hl 0 rfl) ?_
  refine va_ldcS hx hb C.2.2.2.2.2.1 C.2.2.2.2.2.2.2.2.2.2.2.2.2.2.1.1 dX4_statement_1 ?_
  obtain ⟨b1, h1, h⟩ := k_ob h
  refine k_callVi C hP hap hAA (c_X4_isWord_w0 l ev ad σ   _ h1) Emb.same hap gz_X4_isWord qML_RX4_163 qIM_yX4_isWord qSE_yX4_isWord ⟨(Nat.le_of_ble_eq_true rfl), (Nat.le_of_ble_eq_true rfl)⟩ (q0 := 0) rfl (by decide) rfl rfl rfl rfl hl.1 rfl (Nat.le_of_ble_eq_true rfl) dX4_statement_3 ⟨Nat.le_refl _, Nat.le_refl _⟩ (fun H locs hP => ?_)
  refine r_ifz_eq (tgt := 48) hx hb dX4_statement_6 (by decide) (fun c6 => ?_) (fun c6 => ?_)
  · have h := k_nf c6 h
    refine lv_aload_n hx hb dX4_statement_48 rfl (lv_at hl 0 rfl) ?_
    refine va_ldcS hx hb C.2.2.2.2.2.1 C.2.2.2.2.2.2.2.2.2.2.2.2.2.2.1.2.1 dX4_statement_49 ?_
    obtain ⟨b2, h1, h⟩ := k_ob h
    refine k_callVi C hP hap hAA (c_X4_isWord_w1 l ev ad σ   _ h1) Emb.same hap gz_X4_isWord qML_RX4_163 qIM_yX4_isWord qSE_yX4_isWord ⟨(Nat.le_of_ble_eq_true rfl), (Nat.le_of_ble_eq_true rfl)⟩ (q0 := 0) rfl (by decide) rfl rfl rfl rfl hl.1 rfl (Nat.le_of_ble_eq_true rfl) dX4_statement_51 ⟨Nat.le_refl _, Nat.le_refl _⟩ (fun H locs hP => ?_)
    refine r_ifz_ne (tgt := 66) hx hb dX4_statement_54 (by decide) (fun c54 => ?_) (fun c54 => ?_)
    · have h := k_if c54 h
      exact hB66 _ _ _ _ h hP (lv_sub hl [0] rfl)
    · have h := k_nf c54 h
      refine lv_aload_n hx hb dX4_statement_57 rfl (lv_at hl 0 rfl) ?_
      refine va_ldcS hx hb C.2.2.2.2.2.1 C.2.2.2.2.2.2.2.2.2.2.2.2.2.2.1.2.2.1 dX4_statement_58 ?_
      obtain ⟨b15, h1, h⟩ := k_ob h
      refine k_callVi C hP hap hAA (c_X4_isWord_w2 l ev ad σ   _ h1) Emb.same hap gz_X4_isWord qML_RX4_163 qIM_yX4_isWord qSE_yX4_isWord ⟨(Nat.le_of_ble_eq_true rfl), (Nat.le_of_ble_eq_true rfl)⟩ (q0 := 0) rfl (by decide) rfl rfl rfl rfl hl.1 rfl (Nat.le_of_ble_eq_true rfl) dX4_statement_60 ⟨Nat.le_refl _, Nat.le_refl _⟩ (fun H locs hP => ?_)
      refine r_ifz_eq (tgt := 139) hx hb dX4_statement_63 (by decide) (fun c63 => ?_) (fun c63 => ?_)
      · have h := k_nf c63 h
        refine lv_aload_n hx hb dX4_statement_139 rfl (lv_at hl 0 rfl) ?_
        refine va_ldcS hx hb C.2.2.2.2.2.1 C.2.2.2.2.2.2.2.2.2.2.2.2.2.2.1.2.2.2.1 dX4_statement_140 ?_
        obtain ⟨b16, h1, h⟩ := k_ob h
        refine k_callVi C hP hap hAA (c_X4_isWord_w3 l ev ad σ   _ h1) Emb.same hap gz_X4_isWord qML_RX4_163 qIM_yX4_isWord qSE_yX4_isWord ⟨(Nat.le_of_ble_eq_true rfl), (Nat.le_of_ble_eq_true rfl)⟩ (q0 := 0) rfl (by decide) rfl rfl rfl rfl hl.1 rfl (Nat.le_of_ble_eq_true rfl) dX4_statement_142 ⟨Nat.le_refl _, Nat.le_refl _⟩ (fun H locs hP => ?_)
        refine r_ifz_eq (tgt := 169) hx hb dX4_statement_145 (by decide) (fun c145 => ?_) (fun c145 => ?_)
        · have h := k_nf c145 h
          refine lv_aload_n hx hb dX4_statement_169 rfl (lv_at hl 0 rfl) ?_
          refine va_ldcS hx hb C.2.2.2.2.2.1 C.2.2.2.2.2.2.2.2.2.2.2.2.2.2.1.2.2.2.2 dX4_statement_170 ?_
          obtain ⟨b17, h1, h⟩ := k_ob h
          refine k_callVi C hP hap hAA (c_X4_isWord_w4 l ev ad σ   _ h1) Emb.same hap gz_X4_isWord qML_RX4_163 qIM_yX4_isWord qSE_yX4_isWord ⟨(Nat.le_of_ble_eq_true rfl), (Nat.le_of_ble_eq_true rfl)⟩ (q0 := 0) rfl (by decide) rfl rfl rfl rfl hl.1 rfl (Nat.le_of_ble_eq_true rfl) dX4_statement_172 ⟨Nat.le_refl _, Nat.le_refl _⟩ (fun H locs hP => ?_)
          refine r_ifz_eq (tgt := 187) hx hb dX4_statement_175 (by decide) (fun c175 => ?_) (fun c175 => ?_)
          · have h := k_nf c175 h
            refine lv_iconst (v := 0) hx hb dX4_statement_187 (by decide) ?_
            exact e_zret C hend hP (k_some2 h).1 (congrArg (mw ev ad) (k_some2 h).2) dX4_statement_188 rfl
          · have h := k_if c175 h
            refine lv_aload_n hx hb dX4_statement_178 rfl (lv_at hl 0 rfl) ?_
            refine r_get C hP (ci := 4) rfl uin_X4 7 (by decide) 0 (by decide) rfl qFL_RX4_60 rfl rfl dX4_statement_179 ?_
            refine lv_bipush (v := 6) hx hb dX4_statement_182 (by decide) ?_
            refine lv_icmp_ne (tgt := 189) hx hb dX4_statement_184 (by decide) (fun c184 => ?_) (fun c184 => ?_)
            · have h := k_nf c184 h
              refine lv_aload_n hx hb dX4_statement_189 rfl (lv_at hl 0 rfl) ?_
              refine lv_iconst (v := 0) hx hb dX4_statement_190 (by decide) ?_
              refine lv_iconst (v := 5) hx hb dX4_statement_191 (by decide) ?_
              obtain ⟨x19, σ18, h1, h⟩ := k_ob2 h
              refine k_callVi C hP hap hAA (c_X4_number l ev ad σ 0 5   _ _ h1) Emb.same hap gz_X4_number qML_RX4_167 qIM_yX4_number qSE_yX4_number ⟨(Nat.le_of_ble_eq_true rfl), (Nat.le_of_ble_eq_true rfl)⟩ (q0 := 0) rfl (by decide) rfl rfl rfl rfl hl.1 rfl (Nat.le_of_ble_eq_true rfl) dX4_statement_192 ⟨Nat.le_refl _, Nat.le_refl _⟩ (fun H locs hP => ?_)
              refine lv_istore_n (lv' := [(1, .int x19), (0, .ref (ad 0))]) hx hb dX4_statement_195 rfl hl (by decide) rfl (fun ls hl => ?_)
              refine lv_iload_n hx hb dX4_statement_196 rfl (lv_at hl 0 rfl) ?_
              refine lv_iconst (v := (-1)) hx hb dX4_statement_197 (by decide) ?_
              refine lv_icmp_ne (tgt := 205) hx hb dX4_statement_198 (by decide) (fun c198 => ?_) (fun c198 => ?_)
              · have h := k_nf c198 h
                refine lv_aload_n hx hb dX4_statement_205 rfl (lv_at hl 1 rfl) ?_
                refine lv_iconst (v := 0) hx hb dX4_statement_206 (by decide) ?_
                refine lv_bipush (v := 9) hx hb dX4_statement_207 (by decide) ?_
                obtain ⟨x21, σ20, h1, h⟩ := k_ob2 h
                refine k_callVi C hP hap hAA (c_X4_number l ev ad σ18 0 9   _ _ h1) Emb.same hap gz_X4_number qML_RX4_167 qIM_yX4_number qSE_yX4_number ⟨(Nat.le_of_ble_eq_true rfl), (Nat.le_of_ble_eq_true rfl)⟩ (q0 := 0) rfl (by decide) rfl rfl rfl rfl hl.1 rfl (Nat.le_of_ble_eq_true rfl) dX4_statement_209 ⟨Nat.le_refl _, Nat.le_refl _⟩ (fun H locs hP => ?_)
                exact hB212 _ _ _ _ _ _ h hP (lv_sub hl [1, 0] rfl)
              · have h := k_if c198 h
                refine lv_iconst (v := (-1)) hx hb dX4_statement_201 (by decide) ?_
                refine lv_goto (tgt := 212) hx hb dX4_statement_202 (by decide) ?_
                exact hB212 _ _ _ _ _ _ h hP (lv_sub hl [1, 0] rfl)
            · have h := k_if c184 h
              refine lv_iconst (v := 0) hx hb dX4_statement_187 (by decide) ?_
              exact e_zret C hend hP (k_some2 h).1 (congrArg (mw ev ad) (k_some2 h).2) dX4_statement_188 rfl
        · have h := k_if c145 h
          refine lv_aload_n hx hb dX4_statement_148 rfl (lv_at hl 0 rfl) ?_
          refine lv_iconst (v := 0) hx hb dX4_statement_149 (by decide) ?_
          refine lv_iconst (v := 1) hx hb dX4_statement_150 (by decide) ?_
          obtain ⟨x28, σ27, h1, h⟩ := k_ob2 h
          refine k_callVi C hP hap hAA (c_X4_number l ev ad σ 0 1   _ _ h1) Emb.same hap gz_X4_number qML_RX4_167 qIM_yX4_number qSE_yX4_number ⟨(Nat.le_of_ble_eq_true rfl), (Nat.le_of_ble_eq_true rfl)⟩ (q0 := 0) rfl (by decide) rfl rfl rfl rfl hl.1 rfl (Nat.le_of_ble_eq_true rfl) dX4_statement_151 ⟨Nat.le_refl _, Nat.le_refl _⟩ (fun H locs hP => ?_)
          refine lv_istore_n (lv' := [(1, .int x28), (0, .ref (ad 0))]) hx hb dX4_statement_154 rfl hl (by decide) rfl (fun ls hl => ?_)
          refine lv_iload_n hx hb dX4_statement_155 rfl (lv_at hl 0 rfl) ?_
          refine lv_iconst (v := (-1)) hx hb dX4_statement_156 (by decide) ?_
          refine lv_icmp_ne (tgt := 162) hx hb dX4_statement_157 (by decide) (fun c157 => ?_) (fun c157 => ?_)
          · have h := k_nf c157 h
            refine lv_aload_n hx hb dX4_statement_162 rfl (lv_at hl 1 rfl) ?_
            refine lv_iload_n hx hb dX4_statement_163 rfl (lv_at hl 0 rfl) ?_
            obtain ⟨σ29, eσ29, h⟩ := k_ltx h
            refine pt_M_X4_turn C hP hap hAA eσ29 qFL_RX4_101 dX4_statement_164 (fun H locs hP => ?_)
            refine lv_iconst (v := 1) hx hb dX4_statement_167 (by decide) ?_
            exact e_zret C hend hP (k_some2 h).1 (congrArg (mw ev ad) (k_some2 h).2) dX4_statement_168 rfl
          · have h := k_if c157 h
            refine lv_iconst (v := 0) hx hb dX4_statement_160 (by decide) ?_
            exact e_zret C hend hP (k_some2 h).1 (congrArg (mw ev ad) (k_some2 h).2) dX4_statement_161 rfl
      · have h := k_if c63 h
        exact hB66 _ _ _ _ h hP (lv_sub hl [0] rfl)
  · have h := k_if c6 h
    refine lv_aload_n hx hb dX4_statement_9 rfl (lv_at hl 0 rfl) ?_
    refine lv_iconst (v := 1) hx hb dX4_statement_10 (by decide) ?_
    refine lv_iconst (v := 4) hx hb dX4_statement_11 (by decide) ?_
    obtain ⟨x31, σ30, h1, h⟩ := k_ob2 h
    refine k_callVi C hP hap hAA (c_X4_number l ev ad σ 1 4   _ _ h1) Emb.same hap gz_X4_number qML_RX4_167 qIM_yX4_number qSE_yX4_number ⟨(Nat.le_of_ble_eq_true rfl), (Nat.le_of_ble_eq_true rfl)⟩ (q0 := 0) rfl (by decide) rfl rfl rfl rfl hl.1 rfl (Nat.le_of_ble_eq_true rfl) dX4_statement_12 ⟨Nat.le_refl _, Nat.le_refl _⟩ (fun H locs hP => ?_)
    refine lv_istore_n (lv' := [(1, .int x31), (0, .ref (ad 0))]) hx hb dX4_statement_15 rfl hl (by decide) rfl (fun ls hl => ?_)
    refine lv_iload_n hx hb dX4_statement_16 rfl (lv_at hl 0 rfl) ?_
    refine lv_iconst (v := (-1)) hx hb dX4_statement_17 (by decide) ?_
    refine lv_icmp_ne (tgt := 25) hx hb dX4_statement_18 (by decide) (fun c18 => ?_) (fun c18 => ?_)
    · have h := k_nf c18 h
      refine lv_aload_n hx hb dX4_statement_25 rfl (lv_at hl 1 rfl) ?_
      refine lv_iconst (v := 1) hx hb dX4_statement_26 (by decide) ?_
      refine lv_iconst (v := 4) hx hb dX4_statement_27 (by decide) ?_
      obtain ⟨x33, σ32, h1, h⟩ := k_ob2 h
      refine k_callVi C hP hap hAA (c_X4_number l ev ad σ30 1 4   _ _ h1) Emb.same hap gz_X4_number qML_RX4_167 qIM_yX4_number qSE_yX4_number ⟨(Nat.le_of_ble_eq_true rfl), (Nat.le_of_ble_eq_true rfl)⟩ (q0 := 0) rfl (by decide) rfl rfl rfl rfl hl.1 rfl (Nat.le_of_ble_eq_true rfl) dX4_statement_28 ⟨Nat.le_refl _, Nat.le_refl _⟩ (fun H locs hP => ?_)
      exact hB31 _ _ _ _ _ _ h hP (lv_sub hl [1, 0] rfl)
    · have h := k_if c18 h
      refine lv_iconst (v := (-1)) hx hb dX4_statement_21 (by decide) ?_
      refine lv_goto (tgt := 31) hx hb dX4_statement_22 (by decide) ?_
      exact hB31 _ _ _ _ _ _ h hP (lv_sub hl [1, 0] rfl)
def f_X4_keep_ahead_L2_b  (k31 : MM → Option MM) (rec2 : Int32 → MM → Option MM) (x1 : Int32) (σ2 : MM) : Option MM :=
  if 40 ≤ x1 then k31 σ2 else gd (inb x1 40) (if ((m_hedge σ2) (Int32.toNatClampNeg x1)) = 0 then gd (inb x1 90) (lt (m_ahead' σ2 (upd (m_ahead σ2) (Int32.toNatClampNeg x1) 0)) (fun σ3 => lt (x1 + 1) (fun x4 => rec2 x4 σ3))) else gd (inb x1 90) (lt (m_ahead' σ2 (upd (m_ahead σ2) (Int32.toNatClampNeg x1) 1)) (fun σ5 => lt (x1 + 1) (fun x6 => rec2 x6 σ5))))
def f_X4_keep_ahead_L2  (k31 : MM → Option MM) (x1 : Int32) (σ2 : MM) : Option MM :=
  lp (fun _ _ => none) (f_X4_keep_ahead_L2_b  k31) FU x1 σ2
def f_X4_keep_ahead_b58 (rec33 : Int32 → MM → Option MM) (x10 : Int32) (x11 : Int32) (x12 : Int32) (σ13 : MM) : Option MM :=
  gd (inb x12 90) (lt (m_ahead' σ13 (upd (m_ahead σ13) (Int32.toNatClampNeg x12) x11)) (fun σ14 => gd (inb x10 16) (gd (inb (56 + x10) 90) (lt (m_ahead' σ14 (upd (m_ahead σ14) (Int32.toNatClampNeg (56 + x10)) ((m_owner σ14) (Int32.toNatClampNeg x10)))) (fun σ15 => lt (x10 + 1) (fun x16 => rec33 x16 σ15))))))
def f_X4_keep_ahead_L33_b  (k77 : MM → Option MM) (rec33 : Int32 → MM → Option MM) (x8 : Int32) (σ9 : MM) : Option MM :=
  if 16 ≤ x8 then k77 σ9 else gd (inb x8 16) (if ((m_dug σ9) (Int32.toNatClampNeg x8)) = 0 then f_X4_keep_ahead_b58 rec33 x8 0 ((40 + x8)) σ9 else f_X4_keep_ahead_b58 rec33 x8 1 ((40 + x8)) σ9)
def f_X4_keep_ahead_L33  (k77 : MM → Option MM) (x8 : Int32) (σ9 : MM) : Option MM :=
  lp (fun _ _ => none) (f_X4_keep_ahead_L33_b  k77) FU x8 σ9
def f_X4_keep_ahead_L79_b  (k115 : MM → Option MM) (rec79 : Int32 → MM → Option MM) (x18 : Int32) (σ19 : MM) : Option MM :=
  if 6 ≤ x18 then k115 σ19 else gd (inb x18 6) (gd (inb (72 + x18) 90) (lt (m_ahead' σ19 (upd (m_ahead σ19) (Int32.toNatClampNeg (72 + x18)) ((m_kind σ19) (Int32.toNatClampNeg x18)))) (fun σ20 => gd (inb x18 6) (gd (inb (78 + x18) 90) (lt (m_ahead' σ20 (upd (m_ahead σ20) (Int32.toNatClampNeg (78 + x18)) ((m_own σ20) (Int32.toNatClampNeg x18)))) (fun σ21 => lt (x18 + 1) (fun x22 => rec79 x22 σ21)))))))
def f_X4_keep_ahead_L79  (k115 : MM → Option MM) (x18 : Int32) (σ19 : MM) : Option MM :=
  lp (fun _ _ => none) (f_X4_keep_ahead_L79_b  k115) FU x18 σ19
def f_X4_keep_ahead (σ : MM) : Option MM :=
  f_X4_keep_ahead_L2 (fun σ7 => f_X4_keep_ahead_L33 (fun σ17 => f_X4_keep_ahead_L79 (fun σ23 => gd (inb 84 90) (lt (m_ahead' σ23 (upd (m_ahead σ23) (Int32.toNatClampNeg 84) (m_w σ23))) (fun σ24 => gd (inb 85 90) (lt (m_ahead' σ24 (upd (m_ahead σ24) (Int32.toNatClampNeg 85) (m_h σ24))) (fun σ25 => gd (inb 86 90) (lt (m_ahead' σ25 (upd (m_ahead σ25) (Int32.toNatClampNeg 86) (m_turn σ25))) (fun σ26 => gd (inb 87 90) (lt (m_ahead' σ26 (upd (m_ahead σ26) (Int32.toNatClampNeg 87) (m_made σ26))) (fun σ27 => gd (inb 88 90) (lt (m_ahead' σ27 (upd (m_ahead σ27) (Int32.toNatClampNeg 88) (m_players σ27))) (fun σ28 => gd (inb 89 90) (lt (m_ahead' σ28 (upd (m_ahead σ28) (Int32.toNatClampNeg 89) (m_seed σ28))) (fun σ29 => some σ29))))))))))))) 0 σ17) 0 σ7) 0 σ
set_option maxHeartbeats 4000000 in
set_option maxRecDepth 100000 in
theorem c_X4_keep_ahead (l : Launch) (ev : EV) (ad : Nat → Nat) (σ : MM)    (σ' : MM) (h : f_X4_keep_ahead σ = some σ') : Ct l yX4_keep prog_6_method_116_code 3 (Option.none : Option Jvm.ClassFile.FieldType) (rmk 0 0) ev 13 ad (mw ev ad σ) (mw ev ad σ') [.ref (ad 0), .ref (ad 12)] none := by
  refine Ct.of (by decide +kernel) (Nat.le_of_ble_eq_true rfl) ?_
  intro p e s m args below meth c Qc C hap hP hend ls hl
  have hAA : ∀ j, j < 13 → inA ad 13 (ad j) := fun j hj => ⟨j, hj, rfl⟩
  have hx := C.1
  have hb := C.2.1
  have hl : lv_has ls 3 [(0, .ref (ad 0)), (1, .ref (ad 12))] := hl
  have h := (f_X4_keep_ahead.eq_1 _ ).symm.trans h
  refine lv_iconst (v := 0) hx hb dX4_keep_0 (by decide) ?_
  refine lv_istore_n (lv' := [(2, .int 0), (0, .ref (ad 0)), (1, .ref (ad 12))]) hx hb dX4_keep_1 rfl hl (by decide) rfl (fun ls hl => ?_)
  have hL2 : ∀ (k31 : MM → Option MM) (hk31 : ∀  (σk : MM) (H : Heap) (locs : List Loc) (ls : Array Slot), k31  σk = some σ' → PS ev 13 ad (mw ev ad σk) (inA ad 13) s H locs → lv_has ls 3 [(0, .ref (ad 0)), (1, .ref (ad 12))] → WW ev p l e (rmk 0 0) s m args below meth c Qc ad 13 H locs 31 ls []) (n : Nat) (x1 : Int32) (σ2 : MM) (H : Heap) (locs : List Loc) (ls : Array Slot), lp (fun _ _ => none) (f_X4_keep_ahead_L2_b  k31) n x1 σ2 = some σ' → PS ev 13 ad (mw ev ad σ2) (inA ad 13) s H locs → lv_has ls 3 [(0, .ref (ad 0)), (1, .ref (ad 12)), (2, .int x1)] → WW ev p l e (rmk 0 0) s m args below meth c Qc ad 13 H locs 2 ls [] := by
    intro k31 hk31 n
    induction n with
    | zero =>
      intro x1 σ2 H locs ls h; exact k_none h
    | succ n ih =>
      intro x1 σ2 H locs ls h hP hl
      have h : f_X4_keep_ahead_L2_b  k31 (lp (fun _ _ => none) (f_X4_keep_ahead_L2_b  k31) n) x1 σ2 = some σ' := h
      have h := (f_X4_keep_ahead_L2_b.eq_1 _ _ _ _ ).symm.trans h
      refine lv_iload_n hx hb dX4_keep_2 rfl (lv_at hl 2 rfl) ?_
      refine lv_bipush (v := 40) hx hb dX4_keep_3 (by decide) ?_
      refine lv_icmp_ge (tgt := 31) hx hb dX4_keep_5 (by decide) (fun c5 => ?_) (fun c5 => ?_)
      · have h := k_if c5 h
        exact hk31 _ _ _ _ h hP (lv_sub hl [0, 1] rfl)
      · have h := k_nf c5 h
        refine lv_aload_n hx hb dX4_keep_8 rfl (lv_at hl 1 rfl) ?_
        refine lv_iload_n hx hb dX4_keep_9 rfl (lv_at hl 2 rfl) ?_
        refine lv_aload_n hx hb dX4_keep_10 rfl (lv_at hl 0 rfl) ?_
        refine r_get C hP (ci := 4) rfl uin_X4 2 (by decide) 0 (by decide) rfl qFL_RX4_7 rfl rfl dX4_keep_11 ?_
        refine lv_iload_n hx hb dX4_keep_14 rfl (lv_at hl 2 rfl) ?_
        obtain ⟨hg, h⟩ := k_gd h
        refine r_zald C hP 1 (by decide) rfl hg dX4_keep_15 ?_
        refine lv_if_eq (tgt := 23) hx hb dX4_keep_16 (by decide) (fun c16 => ?_) (fun c16 => ?_)
        · have h := k_if c16 h
          refine lv_iconst (v := 0) hx hb dX4_keep_23 (by decide) ?_
          obtain ⟨hg, h⟩ := k_gd h
          obtain ⟨σ3, eσ3, h⟩ := k_ltx h
          refine st_M_ahead C hP hap hAA eσ3 hg dX4_keep_24 (fun H locs hP => ?_)
          obtain ⟨x4, ex4, h⟩ := k_ltx h
          refine lv_iinc (v := x4) (lv' := [(2, .int x4), (0, .ref (ad 0)), (1, .ref (ad 12))]) hx hb dX4_keep_25 hl (k := 2) rfl (by rw [ex4]; rfl) (by decide) rfl (fun ls hl => ?_)
          refine lv_goto (tgt := 2) hx hb dX4_keep_28 (by decide) ?_
          exact ih _ _ _ _ _ h hP (lv_sub hl [1, 2, 0] rfl)
        · have h := k_nf c16 h
          refine lv_iconst (v := 1) hx hb dX4_keep_19 (by decide) ?_
          refine lv_goto (tgt := 24) hx hb dX4_keep_20 (by decide) ?_
          obtain ⟨hg, h⟩ := k_gd h
          obtain ⟨σ5, eσ5, h⟩ := k_ltx h
          refine st_M_ahead C hP hap hAA eσ5 hg dX4_keep_24 (fun H locs hP => ?_)
          obtain ⟨x6, ex6, h⟩ := k_ltx h
          refine lv_iinc (v := x6) (lv' := [(2, .int x6), (0, .ref (ad 0)), (1, .ref (ad 12))]) hx hb dX4_keep_25 hl (k := 2) rfl (by rw [ex6]; rfl) (by decide) rfl (fun ls hl => ?_)
          refine lv_goto (tgt := 2) hx hb dX4_keep_28 (by decide) ?_
          exact ih _ _ _ _ _ h hP (lv_sub hl [1, 2, 0] rfl)
  refine hL2 _ (fun σ7 H locs ls h hP hl => ?_) FU _ _ _ _ _ h hP (lv_sub hl [1, 2, 0] rfl)
  refine lv_iconst (v := 0) hx hb dX4_keep_31 (by decide) ?_
  refine lv_istore_n (lv' := [(2, .int 0), (0, .ref (ad 0)), (1, .ref (ad 12))]) hx hb dX4_keep_32 rfl hl (by decide) rfl (fun ls hl => ?_)
  have hL33 : ∀ (k77 : MM → Option MM) (hk77 : ∀  (σk : MM) (H : Heap) (locs : List Loc) (ls : Array Slot), k77  σk = some σ' → PS ev 13 ad (mw ev ad σk) (inA ad 13) s H locs → lv_has ls 3 [(0, .ref (ad 0)), (1, .ref (ad 12))] → WW ev p l e (rmk 0 0) s m args below meth c Qc ad 13 H locs 77 ls []) (n : Nat) (x8 : Int32) (σ9 : MM) (H : Heap) (locs : List Loc) (ls : Array Slot), lp (fun _ _ => none) (f_X4_keep_ahead_L33_b  k77) n x8 σ9 = some σ' → PS ev 13 ad (mw ev ad σ9) (inA ad 13) s H locs → lv_has ls 3 [(0, .ref (ad 0)), (1, .ref (ad 12)), (2, .int x8)] → WW ev p l e (rmk 0 0) s m args below meth c Qc ad 13 H locs 33 ls [] := by
    intro k77 hk77 n
    induction n with
    | zero =>
      intro x8 σ9 H locs ls h; exact k_none h
    | succ n ih =>
      intro x8 σ9 H locs ls h hP hl
      have h : f_X4_keep_ahead_L33_b  k77 (lp (fun _ _ => none) (f_X4_keep_ahead_L33_b  k77) n) x8 σ9 = some σ' := h
      have h := (f_X4_keep_ahead_L33_b.eq_1 _ _ _ _ ).symm.trans h
      have hB58 : ∀ (x10 : Int32) (x11 : Int32) (x12 : Int32) (σ13 : MM) (H : Heap) (locs : List Loc) (ls : Array Slot), f_X4_keep_ahead_b58 (lp (fun _ _ => none) (f_X4_keep_ahead_L33_b  k77) n) x10 x11 x12 σ13 = some σ' → PS ev 13 ad (mw ev ad σ13) (inA ad 13) s H locs → lv_has ls 3 [(0, .ref (ad 0)), (1, .ref (ad 12)), (2, .int x10)] → WW ev p l e (rmk 0 0) s m args below meth c Qc ad 13 H locs 58 ls [.int x11, .int x12, .ref (ad 12)] := by
        intro x10 x11 x12 σ13 H locs ls h hP hl
        have h := (f_X4_keep_ahead_b58.eq_1 _ _ _ _ _ ).symm.trans h
        obtain ⟨hg, h⟩ := k_gd h
        obtain ⟨σ14, eσ14, h⟩ := k_ltx h
        refine st_M_ahead C hP hap hAA eσ14 hg dX4_keep_58 (fun H locs hP => ?_)
        refine lv_aload_n hx hb dX4_keep_59 rfl (lv_at hl 1 rfl) ?_
        refine lv_bipush (v := 56) hx hb dX4_keep_60 (by decide) ?_
        refine lv_iload_n hx hb dX4_keep_62 rfl (lv_at hl 2 rfl) ?_
        refine lv_iadd hx hb dX4_keep_63 ?_
        refine lv_aload_n hx hb dX4_keep_64 rfl (lv_at hl 0 rfl) ?_
        refine r_get C hP (ci := 4) rfl uin_X4 4 (by decide) 0 (by decide) rfl qFL_RX4_16 rfl rfl dX4_keep_65 ?_
        refine lv_iload_n hx hb dX4_keep_68 rfl (lv_at hl 2 rfl) ?_
        obtain ⟨hg, h⟩ := k_gd h
        refine r_iald C hP 3 (by decide) rfl hg dX4_keep_69 ?_
        obtain ⟨hg, h⟩ := k_gd h
        obtain ⟨σ15, eσ15, h⟩ := k_ltx h
        refine st_M_ahead C hP hap hAA eσ15 hg dX4_keep_70 (fun H locs hP => ?_)
        obtain ⟨x16, ex16, h⟩ := k_ltx h
        refine lv_iinc (v := x16) (lv' := [(2, .int x16), (0, .ref (ad 0)), (1, .ref (ad 12))]) hx hb dX4_keep_71 hl (k := 2) rfl (by rw [ex16]; rfl) (by decide) rfl (fun ls hl => ?_)
        refine lv_goto (tgt := 33) hx hb dX4_keep_74 (by decide) ?_
        exact ih _ _ _ _ _ h hP (lv_sub hl [1, 2, 0] rfl)
      refine lv_iload_n hx hb dX4_keep_33 rfl (lv_at hl 2 rfl) ?_
      refine lv_bipush (v := 16) hx hb dX4_keep_34 (by decide) ?_
      refine lv_icmp_ge (tgt := 77) hx hb dX4_keep_36 (by decide) (fun c36 => ?_) (fun c36 => ?_)
      · have h := k_if c36 h
        exact hk77 _ _ _ _ h hP (lv_sub hl [0, 1] rfl)
      · have h := k_nf c36 h
        refine lv_aload_n hx hb dX4_keep_39 rfl (lv_at hl 1 rfl) ?_
        refine lv_bipush (v := 40) hx hb dX4_keep_40 (by decide) ?_
        refine lv_iload_n hx hb dX4_keep_42 rfl (lv_at hl 2 rfl) ?_
        refine lv_iadd hx hb dX4_keep_43 ?_
        refine lv_aload_n hx hb dX4_keep_44 rfl (lv_at hl 0 rfl) ?_
        refine r_get C hP (ci := 4) rfl uin_X4 3 (by decide) 0 (by decide) rfl qFL_RX4_13 rfl rfl dX4_keep_45 ?_
        refine lv_iload_n hx hb dX4_keep_48 rfl (lv_at hl 2 rfl) ?_
        obtain ⟨hg, h⟩ := k_gd h
        refine r_zald C hP 2 (by decide) rfl hg dX4_keep_49 ?_
        refine lv_if_eq (tgt := 57) hx hb dX4_keep_50 (by decide) (fun c50 => ?_) (fun c50 => ?_)
        · have h := k_if c50 h
          refine lv_iconst (v := 0) hx hb dX4_keep_57 (by decide) ?_
          exact hB58 _ _ _ _ _ _ _ h hP (lv_sub hl [0, 1, 2] rfl)
        · have h := k_nf c50 h
          refine lv_iconst (v := 1) hx hb dX4_keep_53 (by decide) ?_
          refine lv_goto (tgt := 58) hx hb dX4_keep_54 (by decide) ?_
          exact hB58 _ _ _ _ _ _ _ h hP (lv_sub hl [0, 1, 2] rfl)
  refine hL33 _ (fun σ17 H locs ls h hP hl => ?_) FU _ _ _ _ _ h hP (lv_sub hl [1, 2, 0] rfl)
  refine lv_iconst (v := 0) hx hb dX4_keep_77 (by decide) ?_
  refine lv_istore_n (lv' := [(2, .int 0), (0, .ref (ad 0)), (1, .ref (ad 12))]) hx hb dX4_keep_78 rfl hl (by decide) rfl (fun ls hl => ?_)
  have hL79 : ∀ (k115 : MM → Option MM) (hk115 : ∀  (σk : MM) (H : Heap) (locs : List Loc) (ls : Array Slot), k115  σk = some σ' → PS ev 13 ad (mw ev ad σk) (inA ad 13) s H locs → lv_has ls 3 [(0, .ref (ad 0)), (1, .ref (ad 12))] → WW ev p l e (rmk 0 0) s m args below meth c Qc ad 13 H locs 115 ls []) (n : Nat) (x18 : Int32) (σ19 : MM) (H : Heap) (locs : List Loc) (ls : Array Slot), lp (fun _ _ => none) (f_X4_keep_ahead_L79_b  k115) n x18 σ19 = some σ' → PS ev 13 ad (mw ev ad σ19) (inA ad 13) s H locs → lv_has ls 3 [(0, .ref (ad 0)), (1, .ref (ad 12)), (2, .int x18)] → WW ev p l e (rmk 0 0) s m args below meth c Qc ad 13 H locs 79 ls [] := by
    intro k115 hk115 n
    induction n with
    | zero =>
      intro x18 σ19 H locs ls h; exact k_none h
    | succ n ih =>
      intro x18 σ19 H locs ls h hP hl
      have h : f_X4_keep_ahead_L79_b  k115 (lp (fun _ _ => none) (f_X4_keep_ahead_L79_b  k115) n) x18 σ19 = some σ' := h
      have h := (f_X4_keep_ahead_L79_b.eq_1 _ _ _ _ ).symm.trans h
      refine lv_iload_n hx hb dX4_keep_79 rfl (lv_at hl 2 rfl) ?_
      refine lv_bipush (v := 6) hx hb dX4_keep_80 (by decide) ?_
      refine lv_icmp_ge (tgt := 115) hx hb dX4_keep_82 (by decide) (fun c82 => ?_) (fun c82 => ?_)
      · have h := k_if c82 h
        exact hk115 _ _ _ _ h hP (lv_sub hl [0, 1] rfl)
      · have h := k_nf c82 h
        refine lv_aload_n hx hb dX4_keep_85 rfl (lv_at hl 1 rfl) ?_
        refine lv_bipush (v := 72) hx hb dX4_keep_86 (by decide) ?_
        refine lv_iload_n hx hb dX4_keep_88 rfl (lv_at hl 2 rfl) ?_
        refine lv_iadd hx hb dX4_keep_89 ?_
        refine lv_aload_n hx hb dX4_keep_90 rfl (lv_at hl 0 rfl) ?_
        refine r_get C hP (ci := 4) rfl uin_X4 8 (by decide) 0 (by decide) rfl qFL_RX4_20 rfl rfl dX4_keep_91 ?_
        refine lv_iload_n hx hb dX4_keep_94 rfl (lv_at hl 2 rfl) ?_
        obtain ⟨hg, h⟩ := k_gd h
        refine r_iald C hP 4 (by decide) rfl hg dX4_keep_95 ?_
        obtain ⟨hg, h⟩ := k_gd h
        obtain ⟨σ20, eσ20, h⟩ := k_ltx h
        refine st_M_ahead C hP hap hAA eσ20 hg dX4_keep_96 (fun H locs hP => ?_)
        refine lv_aload_n hx hb dX4_keep_97 rfl (lv_at hl 1 rfl) ?_
        refine lv_bipush (v := 78) hx hb dX4_keep_98 (by decide) ?_
        refine lv_iload_n hx hb dX4_keep_100 rfl (lv_at hl 2 rfl) ?_
        refine lv_iadd hx hb dX4_keep_101 ?_
        refine lv_aload_n hx hb dX4_keep_102 rfl (lv_at hl 0 rfl) ?_
        refine r_get C hP (ci := 4) rfl uin_X4 9 (by decide) 0 (by decide) rfl qFL_RX4_23 rfl rfl dX4_keep_103 ?_
        refine lv_iload_n hx hb dX4_keep_106 rfl (lv_at hl 2 rfl) ?_
        obtain ⟨hg, h⟩ := k_gd h
        refine r_iald C hP 5 (by decide) rfl hg dX4_keep_107 ?_
        obtain ⟨hg, h⟩ := k_gd h
        obtain ⟨σ21, eσ21, h⟩ := k_ltx h
        refine st_M_ahead C hP hap hAA eσ21 hg dX4_keep_108 (fun H locs hP => ?_)
        obtain ⟨x22, ex22, h⟩ := k_ltx h
        refine lv_iinc (v := x22) (lv' := [(2, .int x22), (0, .ref (ad 0)), (1, .ref (ad 12))]) hx hb dX4_keep_109 hl (k := 2) rfl (by rw [ex22]; rfl) (by decide) rfl (fun ls hl => ?_)
        refine lv_goto (tgt := 79) hx hb dX4_keep_112 (by decide) ?_
        exact ih _ _ _ _ _ h hP (lv_sub hl [1, 2, 0] rfl)
  refine hL79 _ (fun σ23 H locs ls h hP hl => ?_) FU _ _ _ _ _ h hP (lv_sub hl [1, 2, 0] rfl)
  refine lv_aload_n hx hb dX4_keep_115 rfl (lv_at hl 1 rfl) ?_
  refine lv_bipush (v := 84) hx hb dX4_keep_116 (by decide) ?_
  refine lv_aload_n hx hb dX4_keep_118 rfl (lv_at hl 0 rfl) ?_
  refine r_get C hP (ci := 4) rfl uin_X4 0 (by decide) 0 (by decide) rfl qFL_RX4_67 rfl rfl dX4_keep_119 ?_
  obtain ⟨hg, h⟩ := k_gd h
  obtain ⟨σ24, eσ24, h⟩ := k_ltx h
  refine st_M_ahead C hP hap hAA eσ24 hg dX4_keep_122 (fun H locs hP => ?_)
  refine lv_aload_n hx hb dX4_keep_123 rfl (lv_at hl 1 rfl) ?_
  refine lv_bipush (v := 85) hx hb dX4_keep_124 (by decide) ?_
  refine lv_aload_n hx hb dX4_keep_126 rfl (lv_at hl 0 rfl) ?_
  refine r_get C hP (ci := 4) rfl uin_X4 1 (by decide) 0 (by decide) rfl qFL_RX4_70 rfl rfl dX4_keep_127 ?_
  obtain ⟨hg, h⟩ := k_gd h
  obtain ⟨σ25, eσ25, h⟩ := k_ltx h
  refine st_M_ahead C hP hap hAA eσ25 hg dX4_keep_130 (fun H locs hP => ?_)
  refine lv_aload_n hx hb dX4_keep_131 rfl (lv_at hl 1 rfl) ?_
  refine lv_bipush (v := 86) hx hb dX4_keep_132 (by decide) ?_
  refine lv_aload_n hx hb dX4_keep_134 rfl (lv_at hl 0 rfl) ?_
  refine r_get C hP (ci := 4) rfl uin_X4 5 (by decide) 0 (by decide) rfl qFL_RX4_101 rfl rfl dX4_keep_135 ?_
  obtain ⟨hg, h⟩ := k_gd h
  obtain ⟨σ26, eσ26, h⟩ := k_ltx h
  refine st_M_ahead C hP hap hAA eσ26 hg dX4_keep_138 (fun H locs hP => ?_)
  refine lv_aload_n hx hb dX4_keep_139 rfl (lv_at hl 1 rfl) ?_
  refine lv_bipush (v := 87) hx hb dX4_keep_140 (by decide) ?_
  refine lv_aload_n hx hb dX4_keep_142 rfl (lv_at hl 0 rfl) ?_
  refine r_get C hP (ci := 4) rfl uin_X4 6 (by decide) 0 (by decide) rfl qFL_RX4_104 rfl rfl dX4_keep_143 ?_
  obtain ⟨hg, h⟩ := k_gd h
  obtain ⟨σ27, eσ27, h⟩ := k_ltx h
  refine st_M_ahead C hP hap hAA eσ27 hg dX4_keep_146 (fun H locs hP => ?_)
  refine lv_aload_n hx hb dX4_keep_147 rfl (lv_at hl 1 rfl) ?_
  refine lv_bipush (v := 88) hx hb dX4_keep_148 (by decide) ?_
  refine lv_aload_n hx hb dX4_keep_150 rfl (lv_at hl 0 rfl) ?_
  refine r_get C hP (ci := 4) rfl uin_X4 7 (by decide) 0 (by decide) rfl qFL_RX4_60 rfl rfl dX4_keep_151 ?_
  obtain ⟨hg, h⟩ := k_gd h
  obtain ⟨σ28, eσ28, h⟩ := k_ltx h
  refine st_M_ahead C hP hap hAA eσ28 hg dX4_keep_154 (fun H locs hP => ?_)
  refine lv_aload_n hx hb dX4_keep_155 rfl (lv_at hl 1 rfl) ?_
  refine lv_bipush (v := 89) hx hb dX4_keep_156 (by decide) ?_
  refine lv_aload_n hx hb dX4_keep_158 rfl (lv_at hl 0 rfl) ?_
  refine r_get C hP (ci := 4) rfl uin_X4 10 (by decide) 0 (by decide) rfl qFL_RX4_48 rfl rfl dX4_keep_159 ?_
  obtain ⟨hg, h⟩ := k_gd h
  obtain ⟨σ29, eσ29, h⟩ := k_ltx h
  refine st_M_ahead C hP hap hAA eσ29 hg dX4_keep_162 (fun H locs hP => ?_)
  exact e_vret C hend hP (congrArg (mw ev ad) (k_some h)) dX4_keep_163
