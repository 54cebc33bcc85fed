/-! functions read off, and their contracts: by program (wip/whole/gen2.py) -/
def f_X4_copy_L225_b (a1 : Int32) (a2 : Int32) (a3 : Int32) (a4 : Int32) (a5 : Int32)  (rec225 : Int32 → MM → Option (Int32 × MM)) (x20 : Int32) (σ21 : MM) : Option (Int32 × MM) :=
  if a5 ≤ x20 then some (a5, σ21) else gd (inb (((40 * a1) + a3) + x20) 320) (gd (inb (((40 * a2) + a4) + x20) 320) (lt (m_rowOf' σ21 (vp_updL (m_rowOf σ21) (Int32.toNatClampNeg (((40 * a2) + a4) + x20)) ((m_rowOf σ21) (Int32.toNatClampNeg (((40 * a1) + a3) + x20))))) (fun σ22 => lt (x20 + 1) (fun x23 => rec225 x23 σ22))))
def f_X4_copy_L225 (a1 : Int32) (a2 : Int32) (a3 : Int32) (a4 : Int32) (a5 : Int32)  (x20 : Int32) (σ21 : MM) : Option (Int32 × MM) :=
  lp (fun _ _ => none) (f_X4_copy_L225_b a1 a2 a3 a4 a5 ) FU x20 σ21
def f_X4_copy_b222 (a1 : Int32) (a2 : Int32) (a3 : Int32) (a4 : Int32) (a5 : Int32) (σ19 : MM) : Option (Int32 × MM) :=
  f_X4_copy_L225 a1 a2 a3 a4 a5 0 σ19
def f_X4_copy_L179_b (a1 : Int32) (a2 : Int32) (a3 : Int32) (a4 : Int32) (a5 : Int32)  (rec179 : Int32 → MM → Option (Int32 × MM)) (x25 : Int32) (σ26 : MM) : Option (Int32 × MM) :=
  if x25 < 0 then some (a5, σ26) else gd (inb (((40 * a1) + a3) + x25) 320) (gd (inb (((40 * a2) + a4) + x25) 320) (lt (m_rowOf' σ26 (vp_updL (m_rowOf σ26) (Int32.toNatClampNeg (((40 * a2) + a4) + x25)) ((m_rowOf σ26) (Int32.toNatClampNeg (((40 * a1) + a3) + x25))))) (fun σ27 => lt (x25 + (-1)) (fun x28 => rec179 x28 σ27))))
def f_X4_copy_L179 (a1 : Int32) (a2 : Int32) (a3 : Int32) (a4 : Int32) (a5 : Int32)  (x25 : Int32) (σ26 : MM) : Option (Int32 × MM) :=
  lp (fun _ _ => none) (f_X4_copy_L179_b a1 a2 a3 a4 a5 ) FU x25 σ26
def f_X4_copy_b81 (a1 : Int32) (a2 : Int32) (a3 : Int32) (a4 : Int32) (a5 : Int32) (σ8 : MM) : Option (Int32 × MM) :=
  gd (inb a1 8) (if ((m_holding σ8) (Int32.toNatClampNeg a1)) < 0 then ob2 (f_X4_no σ8 (-4)) (fun x10 σ9 => some (x10, σ9)) else gd (inb a2 8) (if 0 ≤ ((m_holding σ8) (Int32.toNatClampNeg a2)) then if a5 < 0 then ob2 (f_X4_no σ8 (-2)) (fun x12 σ11 => some (x12, σ11)) else if a3 < 0 then ob2 (f_X4_no σ8 (-2)) (fun x14 σ13 => some (x14, σ13)) else if a4 < 0 then ob2 (f_X4_no σ8 (-2)) (fun x16 σ15 => some (x16, σ15)) else gd (inb a1 8) (if 0 < (lg_cmp ((Int32.toInt64 a3) + (Int32.toInt64 a5)) (Int32.toInt64 ((m_rowLength σ8) (Int32.toNatClampNeg a1)))) then ob2 (f_X4_no σ8 (-2)) (fun x18 σ17 => some (x18, σ17)) else gd (inb a2 8) (if (lg_cmp ((Int32.toInt64 a4) + (Int32.toInt64 a5)) (Int32.toInt64 ((m_rowLength σ8) (Int32.toNatClampNeg a2)))) ≤ 0 then if a1 = a2 then if a4 ≤ a3 then f_X4_copy_b222 a1 a2 a3 a4 a5 σ8 else lt (a5 - 1) (fun x24 => f_X4_copy_L179 a1 a2 a3 a4 a5 x24 σ8) else f_X4_copy_b222 a1 a2 a3 a4 a5 σ8 else ob2 (f_X4_no σ8 (-2)) (fun x30 σ29 => some (x30, σ29)))) else ob2 (f_X4_no σ8 (-4)) (fun x32 σ31 => some (x32, σ31))))
def f_X4_copy (σ : MM) (a1 : Int32) (a2 : Int32) (a3 : Int32) (a4 : Int32) (a5 : Int32) : Option (Int32 × MM) :=
  if (f_X4_isShelf a1) = true then if (f_X4_isShelf a2) = true then gd (inb a1 8) (if 10 ≤ ((m_holding σ) (Int32.toNatClampNeg a1)) then ob2 (f_X4_no σ (-3)) (fun x4 σ3 => some (x4, σ3)) else gd (inb a2 8) (if 10 ≤ ((m_holding σ) (Int32.toNatClampNeg a2)) then ob2 (f_X4_no σ (-3)) (fun x6 σ5 => some (x6, σ5)) else ob (f_X4_isRow σ a1) (fun b7 => if b7 = true then ob (f_X4_isRow σ a2) (fun b33 => if b33 = true then gd (inb a1 8) (gd (inb a2 8) (if ((m_holding σ) (Int32.toNatClampNeg a1)) = ((m_holding σ) (Int32.toNatClampNeg a2)) then f_X4_copy_b81 a1 a2 a3 a4 a5 σ else ob2 (f_X4_no σ (-3)) (fun x35 σ34 => some (x35, σ34)))) else f_X4_copy_b81 a1 a2 a3 a4 a5 σ) else f_X4_copy_b81 a1 a2 a3 a4 a5 σ))) else ob2 (f_X4_no σ (-2)) (fun x37 σ36 => some (x37, σ36)) else ob2 (f_X4_no σ (-2)) (fun x2 σ1 => some (x2, σ1))
set_option maxHeartbeats 4000000 in
set_option maxRecDepth 100000 in
theorem c_X4_copy (l : Launch) (ev : EV) (ad : Nat → Nat) (σ : MM) (a1 : Int32) (a2 : Int32) (a3 : Int32) (a4 : Int32) (a5 : Int32)   (r : Int32) (σ' : MM) (h : f_X4_copy σ a1 a2 a3 a4 a5 = some (r, σ')) : Ct l yX4_copy prog_6_method_13_code 7 (Option.some Jvm.ClassFile.FieldType.int) (rmk 2 43) ev 13 ad (mw ev ad σ) (mw ev ad σ') [.ref (ad 0), .int a1, .int a2, .int a3, .int a4, .int a5] (some (.int r)) := by
  refine Ct.of (by decide +kernel) (Nat.le_of_ble_eq_true rfl) ?_
  intro p e s m args below meth c Qc C hap hP hend ls hl
  have hAA : ∀ j, j < 13 → inA ad 13 (ad j) := fun j hj => ⟨j, hj, rfl⟩
  have hx := C.1
  have hb := C.2.1
  have hl : lv_has ls 7 [(0, .ref (ad 0)), (1, .int a1), (2, .int a2), (3, .int a3), (4, .int a4), (5, .int a5)] := hl
  have h := (f_X4_copy.eq_1 _ _ _ _ _ _ ).symm.trans h
  have hB222 : ∀ (σ19 : MM) (H : Heap) (locs : List Loc) (ls : Array Slot), f_X4_copy_b222 a1 a2 a3 a4 a5 σ19 = some (r, σ') → PS ev 13 ad (mw ev ad σ19) (inA ad 13) s H locs → lv_has ls 7 [(0, .ref (ad 0)), (1, .int a1), (2, .int a2), (3, .int a3), (4, .int a4), (5, .int a5)] → WW ev p l e (rmk 2 43) s m args below meth c Qc ad 13 H locs 222 ls [] := by
    intro σ19 H locs ls h hP hl
    have h := (f_X4_copy_b222.eq_1 _ _ _ _ _ _ ).symm.trans h
    refine lv_iconst (v := 0) hx hb dX4_copy_222 (by decide) ?_
    refine lv_istore (lv' := [(6, .int 0), (0, .ref (ad 0)), (1, .int a1), (2, .int a2), (3, .int a3), (4, .int a4), (5, .int a5)]) hx hb dX4_copy_223 hl (by decide) rfl (fun ls hl => ?_)
    have hL225 : ∀ (n : Nat) (x20 : Int32) (σ21 : MM) (H : Heap) (locs : List Loc) (ls : Array Slot), lp (fun _ _ => none) (f_X4_copy_L225_b a1 a2 a3 a4 a5 ) n x20 σ21 = some (r, σ') → PS ev 13 ad (mw ev ad σ21) (inA ad 13) s H locs → lv_has ls 7 [(0, .ref (ad 0)), (1, .int a1), (2, .int a2), (3, .int a3), (4, .int a4), (5, .int a5), (6, .int x20)] → WW ev p l e (rmk 2 43) s m args below meth c Qc ad 13 H locs 225 ls [] := by
      intro n
      induction n with
      | zero =>
        intro x20 σ21 H locs ls h; exact k_none h
      | succ n ih =>
        intro x20 σ21 H locs ls h hP hl
        have h : f_X4_copy_L225_b a1 a2 a3 a4 a5  (lp (fun _ _ => none) (f_X4_copy_L225_b a1 a2 a3 a4 a5 ) n) x20 σ21 = some (r, σ') := h
        have h := (f_X4_copy_L225_b.eq_1 _ _ _ _ _ _ _ _ ).symm.trans h
        refine lv_iload hx hb dX4_copy_225 (lv_at hl 6 rfl) ?_
        refine lv_iload hx hb dX4_copy_227 (lv_at hl 5 rfl) ?_
        refine lv_icmp_ge (tgt := 267) hx hb dX4_copy_229 (by decide) (fun c229 => ?_) (fun c229 => ?_)
        · have h := k_if c229 h
          refine lv_iload hx hb dX4_copy_267 (lv_at hl 5 rfl) ?_
          exact e_iret C hend hP (k_some2 h).1 (congrArg (mw ev ad) (k_some2 h).2) dX4_copy_269
        · have h := k_nf c229 h
          refine lv_aload_n hx hb dX4_copy_232 rfl (lv_at hl 0 rfl) ?_
          refine r_get C hP (ci := 4) rfl uin_X4 19 (by decide) 0 (by decide) rfl qFL_RX4_35 rfl rfl dX4_copy_233 ?_
          refine lv_bipush (v := 40) hx hb dX4_copy_236 (by decide) ?_
          refine lv_iload_n hx hb dX4_copy_238 rfl (lv_at hl 2 rfl) ?_
          refine lv_imul hx hb dX4_copy_239 ?_
          refine lv_iload hx hb dX4_copy_240 (lv_at hl 4 rfl) ?_
          refine lv_iadd hx hb dX4_copy_242 ?_
          refine lv_iload hx hb dX4_copy_243 (lv_at hl 6 rfl) ?_
          refine lv_iadd hx hb dX4_copy_245 ?_
          refine lv_aload_n hx hb dX4_copy_246 rfl (lv_at hl 0 rfl) ?_
          refine r_get C hP (ci := 4) rfl uin_X4 19 (by decide) 0 (by decide) rfl qFL_RX4_35 rfl rfl dX4_copy_247 ?_
          refine lv_bipush (v := 40) hx hb dX4_copy_250 (by decide) ?_
          refine lv_iload_n hx hb dX4_copy_252 rfl (lv_at hl 1 rfl) ?_
          refine lv_imul hx hb dX4_copy_253 ?_
          refine lv_iload_n hx hb dX4_copy_254 rfl (lv_at hl 3 rfl) ?_
          refine lv_iadd hx hb dX4_copy_255 ?_
          refine lv_iload hx hb dX4_copy_256 (lv_at hl 6 rfl) ?_
          refine lv_iadd hx hb dX4_copy_258 ?_
          obtain ⟨hg, h⟩ := k_gd h
          refine r_lald C hP 9 (by decide) rfl hg dX4_copy_259 ?_
          obtain ⟨hg, h⟩ := k_gd h
          obtain ⟨σ22, eσ22, h⟩ := k_ltx h
          refine st_M_rowOf C hP hap hAA eσ22 hg dX4_copy_260 (fun H locs hP => ?_)
          obtain ⟨x23, ex23, h⟩ := k_ltx h
          refine lv_iinc (v := x23) (lv' := [(6, .int x23), (0, .ref (ad 0)), (1, .int a1), (2, .int a2), (3, .int a3), (4, .int a4), (5, .int a5)]) hx hb dX4_copy_261 hl (k := 6) rfl (by rw [ex23]; rfl) (by decide) rfl (fun ls hl => ?_)
          refine lv_goto (tgt := 225) hx hb dX4_copy_264 (by decide) ?_
          exact ih _ _ _ _ _ h hP (lv_sub hl [1, 2, 3, 4, 5, 6, 0] rfl)
    exact hL225 FU _ _ _ _ _ h hP (lv_sub hl [1, 2, 3, 4, 5, 6, 0] rfl)
  have hB81 : ∀ (σ8 : MM) (H : Heap) (locs : List Loc) (ls : Array Slot), f_X4_copy_b81 a1 a2 a3 a4 a5 σ8 = some (r, σ') → PS ev 13 ad (mw ev ad σ8) (inA ad 13) s H locs → lv_has ls 7 [(0, .ref (ad 0)), (1, .int a1), (2, .int a2), (3, .int a3), (4, .int a4), (5, .int a5)] → WW ev p l e (rmk 2 43) s m args below meth c Qc ad 13 H locs 81 ls [] := by
    intro σ8 H locs ls h hP hl
    have h := (f_X4_copy_b81.eq_1 _ _ _ _ _ _ ).symm.trans h
    refine lv_aload_n hx hb dX4_copy_81 rfl (lv_at hl 0 rfl) ?_
    refine r_get C hP (ci := 4) rfl uin_X4 17 (by decide) 0 (by decide) rfl qFL_RX4_29 rfl rfl dX4_copy_82 ?_
    refine lv_iload_n hx hb dX4_copy_85 rfl (lv_at hl 1 rfl) ?_
    obtain ⟨hg, h⟩ := k_gd h
    refine r_iald C hP 7 (by decide) rfl hg dX4_copy_86 ?_
    refine lv_if_lt (tgt := 99) hx hb dX4_copy_87 (by decide) (fun c87 => ?_) (fun c87 => ?_)
    · have h := k_if c87 h
      refine lv_aload_n hx hb dX4_copy_99 rfl (lv_at hl 0 rfl) ?_
      refine lv_bipush (v := (-4)) hx hb dX4_copy_100 (by decide) ?_
      obtain ⟨x10, σ9, h1, h⟩ := k_ob2 h
      refine k_callVi C hP hap hAA (c_X4_no l ev ad σ8 (-4)   _ _ h1) Emb.same hap gz_X4_no qML_RX4_56 qIM_yX4_no qSE_yX4_no ⟨(Nat.le_of_ble_eq_true rfl), (Nat.le_of_ble_eq_true rfl)⟩ (q0 := 0) rfl (by decide) rfl rfl rfl rfl hl.1 rfl (Nat.le_of_ble_eq_true rfl) dX4_copy_102 ⟨Nat.le_refl _, Nat.le_refl _⟩ (fun H locs hP => ?_)
      exact e_iret C hend hP (k_some2 h).1 (congrArg (mw ev ad) (k_some2 h).2) dX4_copy_105
    · have h := k_nf c87 h
      refine lv_aload_n hx hb dX4_copy_90 rfl (lv_at hl 0 rfl) ?_
      refine r_get C hP (ci := 4) rfl uin_X4 17 (by decide) 0 (by decide) rfl qFL_RX4_29 rfl rfl dX4_copy_91 ?_
      refine lv_iload_n hx hb dX4_copy_94 rfl (lv_at hl 2 rfl) ?_
      obtain ⟨hg, h⟩ := k_gd h
      refine r_iald C hP 7 (by decide) rfl hg dX4_copy_95 ?_
      refine lv_if_ge (tgt := 106) hx hb dX4_copy_96 (by decide) (fun c96 => ?_) (fun c96 => ?_)
      · have h := k_if c96 h
        refine lv_iload hx hb dX4_copy_106 (lv_at hl 5 rfl) ?_
        refine lv_if_lt (tgt := 155) hx hb dX4_copy_108 (by decide) (fun c108 => ?_) (fun c108 => ?_)
        · have h := k_if c108 h
          refine lv_aload_n hx hb dX4_copy_155 rfl (lv_at hl 0 rfl) ?_
          refine lv_bipush (v := (-2)) hx hb dX4_copy_156 (by decide) ?_
          obtain ⟨x12, σ11, h1, h⟩ := k_ob2 h
          refine k_callVi C hP hap hAA (c_X4_no l ev ad σ8 (-2)   _ _ h1) Emb.same hap gz_X4_no qML_RX4_56 qIM_yX4_no qSE_yX4_no ⟨(Nat.le_of_ble_eq_true rfl), (Nat.le_of_ble_eq_true rfl)⟩ (q0 := 0) rfl (by decide) rfl rfl rfl rfl hl.1 rfl (Nat.le_of_ble_eq_true rfl) dX4_copy_158 ⟨Nat.le_refl _, Nat.le_refl _⟩ (fun H locs hP => ?_)
          exact e_iret C hend hP (k_some2 h).1 (congrArg (mw ev ad) (k_some2 h).2) dX4_copy_161
        · have h := k_nf c108 h
          refine lv_iload_n hx hb dX4_copy_111 rfl (lv_at hl 3 rfl) ?_
          refine lv_if_lt (tgt := 155) hx hb dX4_copy_112 (by decide) (fun c112 => ?_) (fun c112 => ?_)
          · have h := k_if c112 h
            refine lv_aload_n hx hb dX4_copy_155 rfl (lv_at hl 0 rfl) ?_
            refine lv_bipush (v := (-2)) hx hb dX4_copy_156 (by decide) ?_
            obtain ⟨x14, σ13, h1, h⟩ := k_ob2 h
            refine k_callVi C hP hap hAA (c_X4_no l ev ad σ8 (-2)   _ _ h1) Emb.same hap gz_X4_no qML_RX4_56 qIM_yX4_no qSE_yX4_no ⟨(Nat.le_of_ble_eq_true rfl), (Nat.le_of_ble_eq_true rfl)⟩ (q0 := 0) rfl (by decide) rfl rfl rfl rfl hl.1 rfl (Nat.le_of_ble_eq_true rfl) dX4_copy_158 ⟨Nat.le_refl _, Nat.le_refl _⟩ (fun H locs hP => ?_)
            exact e_iret C hend hP (k_some2 h).1 (congrArg (mw ev ad) (k_some2 h).2) dX4_copy_161
          · have h := k_nf c112 h
            refine lv_iload hx hb dX4_copy_115 (lv_at hl 4 rfl) ?_
            refine lv_if_lt (tgt := 155) hx hb dX4_copy_117 (by decide) (fun c117 => ?_) (fun c117 => ?_)
            · have h := k_if c117 h
              refine lv_aload_n hx hb dX4_copy_155 rfl (lv_at hl 0 rfl) ?_
              refine lv_bipush (v := (-2)) hx hb dX4_copy_156 (by decide) ?_
              obtain ⟨x16, σ15, h1, h⟩ := k_ob2 h
              refine k_callVi C hP hap hAA (c_X4_no l ev ad σ8 (-2)   _ _ h1) Emb.same hap gz_X4_no qML_RX4_56 qIM_yX4_no qSE_yX4_no ⟨(Nat.le_of_ble_eq_true rfl), (Nat.le_of_ble_eq_true rfl)⟩ (q0 := 0) rfl (by decide) rfl rfl rfl rfl hl.1 rfl (Nat.le_of_ble_eq_true rfl) dX4_copy_158 ⟨Nat.le_refl _, Nat.le_refl _⟩ (fun H locs hP => ?_)
              exact e_iret C hend hP (k_some2 h).1 (congrArg (mw ev ad) (k_some2 h).2) dX4_copy_161
            · have h := k_nf c117 h
              refine lv_iload_n hx hb dX4_copy_120 rfl (lv_at hl 3 rfl) ?_
              refine lv_i2l hx hb dX4_copy_121 rfl ?_
              refine lv_iload hx hb dX4_copy_122 (lv_at hl 5 rfl) ?_
              refine lv_i2l hx hb dX4_copy_124 rfl ?_
              refine lv_ladd hx hb dX4_copy_125 ?_
              refine lv_aload_n hx hb dX4_copy_126 rfl (lv_at hl 0 rfl) ?_
              refine r_get C hP (ci := 4) rfl uin_X4 18 (by decide) 0 (by decide) rfl qFL_RX4_32 rfl rfl dX4_copy_127 ?_
              refine lv_iload_n hx hb dX4_copy_130 rfl (lv_at hl 1 rfl) ?_
              obtain ⟨hg, h⟩ := k_gd h
              refine r_iald C hP 8 (by decide) rfl hg dX4_copy_131 ?_
              refine lv_i2l hx hb dX4_copy_132 rfl ?_
              refine W.lcmp hx hb dX4_copy_133 ?_
              refine lv_if_gt (tgt := 155) hx hb dX4_copy_134 (by decide) (fun c134 => ?_) (fun c134 => ?_)
              · have h := k_if c134 h
                refine lv_aload_n hx hb dX4_copy_155 rfl (lv_at hl 0 rfl) ?_
                refine lv_bipush (v := (-2)) hx hb dX4_copy_156 (by decide) ?_
                obtain ⟨x18, σ17, h1, h⟩ := k_ob2 h
                refine k_callVi C hP hap hAA (c_X4_no l ev ad σ8 (-2)   _ _ h1) Emb.same hap gz_X4_no qML_RX4_56 qIM_yX4_no qSE_yX4_no ⟨(Nat.le_of_ble_eq_true rfl), (Nat.le_of_ble_eq_true rfl)⟩ (q0 := 0) rfl (by decide) rfl rfl rfl rfl hl.1 rfl (Nat.le_of_ble_eq_true rfl) dX4_copy_158 ⟨Nat.le_refl _, Nat.le_refl _⟩ (fun H locs hP => ?_)
                exact e_iret C hend hP (k_some2 h).1 (congrArg (mw ev ad) (k_some2 h).2) dX4_copy_161
              · have h := k_nf c134 h
                refine lv_iload hx hb dX4_copy_137 (lv_at hl 4 rfl) ?_
                refine lv_i2l hx hb dX4_copy_139 rfl ?_
                refine lv_iload hx hb dX4_copy_140 (lv_at hl 5 rfl) ?_
                refine lv_i2l hx hb dX4_copy_142 rfl ?_
                refine lv_ladd hx hb dX4_copy_143 ?_
                refine lv_aload_n hx hb dX4_copy_144 rfl (lv_at hl 0 rfl) ?_
                refine r_get C hP (ci := 4) rfl uin_X4 18 (by decide) 0 (by decide) rfl qFL_RX4_32 rfl rfl dX4_copy_145 ?_
                refine lv_iload_n hx hb dX4_copy_148 rfl (lv_at hl 2 rfl) ?_
                obtain ⟨hg, h⟩ := k_gd h
                refine r_iald C hP 8 (by decide) rfl hg dX4_copy_149 ?_
                refine lv_i2l hx hb dX4_copy_150 rfl ?_
                refine W.lcmp hx hb dX4_copy_151 ?_
                refine lv_if_le (tgt := 162) hx hb dX4_copy_152 (by decide) (fun c152 => ?_) (fun c152 => ?_)
                · have h := k_if c152 h
                  refine lv_iload_n hx hb dX4_copy_162 rfl (lv_at hl 1 rfl) ?_
                  refine lv_iload_n hx hb dX4_copy_163 rfl (lv_at hl 2 rfl) ?_
                  refine lv_icmp_ne (tgt := 222) hx hb dX4_copy_164 (by decide) (fun c164 => ?_) (fun c164 => ?_)
                  · have h := k_nf c164 h
                    exact hB222 _ _ _ _ h hP (lv_sub hl [0, 1, 2, 3, 4, 5] rfl)
                  · have h := k_if c164 h
                    refine lv_iload_n hx hb dX4_copy_167 rfl (lv_at hl 3 rfl) ?_
                    refine lv_iload hx hb dX4_copy_168 (lv_at hl 4 rfl) ?_
                    refine lv_icmp_ge (tgt := 222) hx hb dX4_copy_170 (by decide) (fun c170 => ?_) (fun c170 => ?_)
                    · have h := k_if c170 h
                      exact hB222 _ _ _ _ h hP (lv_sub hl [0, 1, 2, 3, 4, 5] rfl)
                    · have h := k_nf c170 h
                      refine lv_iload hx hb dX4_copy_173 (lv_at hl 5 rfl) ?_
                      refine lv_iconst (v := 1) hx hb dX4_copy_175 (by decide) ?_
                      refine lv_isub hx hb dX4_copy_176 ?_
                      refine lv_topi (fun x24 ex24 => ?_)
                      have h := k_lt ex24 h
                      refine lv_istore (lv' := [(6, .int x24), (0, .ref (ad 0)), (1, .int a1), (2, .int a2), (3, .int a3), (4, .int a4), (5, .int a5)]) hx hb dX4_copy_177 hl (by decide) rfl (fun ls hl => ?_)
                      have hL179 : ∀ (n : Nat) (x25 : Int32) (σ26 : MM) (H : Heap) (locs : List Loc) (ls : Array Slot), lp (fun _ _ => none) (f_X4_copy_L179_b a1 a2 a3 a4 a5 ) n x25 σ26 = some (r, σ') → PS ev 13 ad (mw ev ad σ26) (inA ad 13) s H locs → lv_has ls 7 [(0, .ref (ad 0)), (1, .int a1), (2, .int a2), (3, .int a3), (4, .int a4), (5, .int a5), (6, .int x25)] → WW ev p l e (rmk 2 43) s m args below meth c Qc ad 13 H locs 179 ls [] := by
                        intro n
                        induction n with
                        | zero =>
                          intro x25 σ26 H locs ls h; exact k_none h
                        | succ n ih =>
                          intro x25 σ26 H locs ls h hP hl
                          have h : f_X4_copy_L179_b a1 a2 a3 a4 a5  (lp (fun _ _ => none) (f_X4_copy_L179_b a1 a2 a3 a4 a5 ) n) x25 σ26 = some (r, σ') := h
                          have h := (f_X4_copy_L179_b.eq_1 _ _ _ _ _ _ _ _ ).symm.trans h
                          refine lv_iload hx hb dX4_copy_179 (lv_at hl 6 rfl) ?_
                          refine lv_if_lt (tgt := 219) hx hb dX4_copy_181 (by decide) (fun c181 => ?_) (fun c181 => ?_)
                          · have h := k_if c181 h
                            refine lv_goto (tgt := 267) hx hb dX4_copy_219 (by decide) ?_
                            refine lv_iload hx hb dX4_copy_267 (lv_at hl 5 rfl) ?_
                            exact e_iret C hend hP (k_some2 h).1 (congrArg (mw ev ad) (k_some2 h).2) dX4_copy_269
                          · have h := k_nf c181 h
                            refine lv_aload_n hx hb dX4_copy_184 rfl (lv_at hl 0 rfl) ?_
                            refine r_get C hP (ci := 4) rfl uin_X4 19 (by decide) 0 (by decide) rfl qFL_RX4_35 rfl rfl dX4_copy_185 ?_
                            refine lv_bipush (v := 40) hx hb dX4_copy_188 (by decide) ?_
                            refine lv_iload_n hx hb dX4_copy_190 rfl (lv_at hl 2 rfl) ?_
                            refine lv_imul hx hb dX4_copy_191 ?_
                            refine lv_iload hx hb dX4_copy_192 (lv_at hl 4 rfl) ?_
                            refine lv_iadd hx hb dX4_copy_194 ?_
                            refine lv_iload hx hb dX4_copy_195 (lv_at hl 6 rfl) ?_
                            refine lv_iadd hx hb dX4_copy_197 ?_
                            refine lv_aload_n hx hb dX4_copy_198 rfl (lv_at hl 0 rfl) ?_
                            refine r_get C hP (ci := 4) rfl uin_X4 19 (by decide) 0 (by decide) rfl qFL_RX4_35 rfl rfl dX4_copy_199 ?_
                            refine lv_bipush (v := 40) hx hb dX4_copy_202 (by decide) ?_
                            refine lv_iload_n hx hb dX4_copy_204 rfl (lv_at hl 1 rfl) ?_
                            refine lv_imul hx hb dX4_copy_205 ?_
                            refine lv_iload_n hx hb dX4_copy_206 rfl (lv_at hl 3 rfl) ?_
                            refine lv_iadd hx hb dX4_copy_207 ?_
                            refine lv_iload hx hb dX4_copy_208 (lv_at hl 6 rfl) ?_
                            refine lv_iadd hx hb dX4_copy_210 ?_
                            obtain ⟨hg, h⟩ := k_gd h
                            refine r_lald C hP 9 (by decide) rfl hg dX4_copy_211 ?_
                            obtain ⟨hg, h⟩ := k_gd h
                            obtain ⟨σ27, eσ27, h⟩ := k_ltx h
                            refine st_M_rowOf C hP hap hAA eσ27 hg dX4_copy_212 (fun H locs hP => ?_)
                            obtain ⟨x28, ex28, h⟩ := k_ltx h
                            refine lv_iinc (v := x28) (lv' := [(6, .int x28), (0, .ref (ad 0)), (1, .int a1), (2, .int a2), (3, .int a3), (4, .int a4), (5, .int a5)]) hx hb dX4_copy_213 hl (k := 6) rfl (by rw [ex28]; rfl) (by decide) rfl (fun ls hl => ?_)
                            refine lv_goto (tgt := 179) hx hb dX4_copy_216 (by decide) ?_
                            exact ih _ _ _ _ _ h hP (lv_sub hl [1, 2, 3, 4, 5, 6, 0] rfl)
                      exact hL179 FU _ _ _ _ _ h hP (lv_sub hl [1, 2, 3, 4, 5, 6, 0] rfl)
                · have h := k_nf c152 h
                  refine lv_aload_n hx hb dX4_copy_155 rfl (lv_at hl 0 rfl) ?_
                  refine lv_bipush (v := (-2)) hx hb dX4_copy_156 (by decide) ?_
                  obtain ⟨x30, σ29, h1, h⟩ := k_ob2 h
                  refine k_callVi C hP hap hAA (c_X4_no l ev ad σ8 (-2)   _ _ h1) Emb.same hap gz_X4_no qML_RX4_56 qIM_yX4_no qSE_yX4_no ⟨(Nat.le_of_ble_eq_true rfl), (Nat.le_of_ble_eq_true rfl)⟩ (q0 := 0) rfl (by decide) rfl rfl rfl rfl hl.1 rfl (Nat.le_of_ble_eq_true rfl) dX4_copy_158 ⟨Nat.le_refl _, Nat.le_refl _⟩ (fun H locs hP => ?_)
                  exact e_iret C hend hP (k_some2 h).1 (congrArg (mw ev ad) (k_some2 h).2) dX4_copy_161
      · have h := k_nf c96 h
        refine lv_aload_n hx hb dX4_copy_99 rfl (lv_at hl 0 rfl) ?_
        refine lv_bipush (v := (-4)) hx hb dX4_copy_100 (by decide) ?_
        obtain ⟨x32, σ31, h1, h⟩ := k_ob2 h
        refine k_callVi C hP hap hAA (c_X4_no l ev ad σ8 (-4)   _ _ h1) Emb.same hap gz_X4_no qML_RX4_56 qIM_yX4_no qSE_yX4_no ⟨(Nat.le_of_ble_eq_true rfl), (Nat.le_of_ble_eq_true rfl)⟩ (q0 := 0) rfl (by decide) rfl rfl rfl rfl hl.1 rfl (Nat.le_of_ble_eq_true rfl) dX4_copy_102 ⟨Nat.le_refl _, Nat.le_refl _⟩ (fun H locs hP => ?_)
        exact e_iret C hend hP (k_some2 h).1 (congrArg (mw ev ad) (k_some2 h).2) dX4_copy_105
  refine lv_iload_n hx hb dX4_copy_0 rfl (lv_at hl 1 rfl) ?_
  refine k_callSi C hP hap hAA (c_X4_isShelf l ev ad a1   _ rfl) Emb.none (apart_0 _) gz_X4_isShelf qML_RX4_73 qSM_yX4_isShelf ⟨(Nat.le_of_ble_eq_true rfl), (Nat.le_of_ble_eq_true rfl)⟩ rfl hl.1 rfl (Nat.le_of_ble_eq_true rfl) dX4_copy_1 ⟨Nat.le_refl _, Nat.le_refl _⟩ (fun H locs hP => ?_)
  refine r_ifz_eq (tgt := 14) hx hb dX4_copy_4 (by decide) (fun c4 => ?_) (fun c4 => ?_)
  · have h := k_nf c4 h
    refine lv_aload_n hx hb dX4_copy_14 rfl (lv_at hl 0 rfl) ?_
    refine lv_bipush (v := (-2)) hx hb dX4_copy_15 (by decide) ?_
    obtain ⟨x2, σ1, h1, h⟩ := k_ob2 h
    refine k_callVi C hP hap hAA (c_X4_no l ev ad σ (-2)   _ _ h1) Emb.same hap gz_X4_no qML_RX4_56 qIM_yX4_no qSE_yX4_no ⟨(Nat.le_of_ble_eq_true rfl), (Nat.le_of_ble_eq_true rfl)⟩ (q0 := 0) rfl (by decide) rfl rfl rfl rfl hl.1 rfl (Nat.le_of_ble_eq_true rfl) dX4_copy_17 ⟨Nat.le_refl _, Nat.le_refl _⟩ (fun H locs hP => ?_)
    exact e_iret C hend hP (k_some2 h).1 (congrArg (mw ev ad) (k_some2 h).2) dX4_copy_20
  · have h := k_if c4 h
    refine lv_iload_n hx hb dX4_copy_7 rfl (lv_at hl 2 rfl) ?_
    refine k_callSi C hP hap hAA (c_X4_isShelf l ev ad a2   _ rfl) Emb.none (apart_0 _) gz_X4_isShelf qML_RX4_73 qSM_yX4_isShelf ⟨(Nat.le_of_ble_eq_true rfl), (Nat.le_of_ble_eq_true rfl)⟩ rfl hl.1 rfl (Nat.le_of_ble_eq_true rfl) dX4_copy_8 ⟨Nat.le_refl _, Nat.le_refl _⟩ (fun H locs hP => ?_)
    refine r_ifz_ne (tgt := 21) hx hb dX4_copy_11 (by decide) (fun c11 => ?_) (fun c11 => ?_)
    · have h := k_if c11 h
      refine lv_aload_n hx hb dX4_copy_21 rfl (lv_at hl 0 rfl) ?_
      refine r_get C hP (ci := 4) rfl uin_X4 17 (by decide) 0 (by decide) rfl qFL_RX4_29 rfl rfl dX4_copy_22 ?_
      refine lv_iload_n hx hb dX4_copy_25 rfl (lv_at hl 1 rfl) ?_
      obtain ⟨hg, h⟩ := k_gd h
      refine r_iald C hP 7 (by decide) rfl hg dX4_copy_26 ?_
      refine lv_bipush (v := 10) hx hb dX4_copy_27 (by decide) ?_
      refine lv_icmp_ge (tgt := 74) hx hb dX4_copy_29 (by decide) (fun c29 => ?_) (fun c29 => ?_)
      · have h := k_if c29 h
        refine lv_aload_n hx hb dX4_copy_74 rfl (lv_at hl 0 rfl) ?_
        refine lv_bipush (v := (-3)) hx hb dX4_copy_75 (by decide) ?_
        obtain ⟨x4, σ3, h1, h⟩ := k_ob2 h
        refine k_callVi C hP hap hAA (c_X4_no l ev ad σ (-3)   _ _ h1) Emb.same hap gz_X4_no qML_RX4_56 qIM_yX4_no qSE_yX4_no ⟨(Nat.le_of_ble_eq_true rfl), (Nat.le_of_ble_eq_true rfl)⟩ (q0 := 0) rfl (by decide) rfl rfl rfl rfl hl.1 rfl (Nat.le_of_ble_eq_true rfl) dX4_copy_77 ⟨Nat.le_refl _, Nat.le_refl _⟩ (fun H locs hP => ?_)
        exact e_iret C hend hP (k_some2 h).1 (congrArg (mw ev ad) (k_some2 h).2) dX4_copy_80
      · have h := k_nf c29 h
        refine lv_aload_n hx hb dX4_copy_32 rfl (lv_at hl 0 rfl) ?_
        refine r_get C hP (ci := 4) rfl uin_X4 17 (by decide) 0 (by decide) rfl qFL_RX4_29 rfl rfl dX4_copy_33 ?_
        refine lv_iload_n hx hb dX4_copy_36 rfl (lv_at hl 2 rfl) ?_
        obtain ⟨hg, h⟩ := k_gd h
        refine r_iald C hP 7 (by decide) rfl hg dX4_copy_37 ?_
        refine lv_bipush (v := 10) hx hb dX4_copy_38 (by decide) ?_
        refine lv_icmp_ge (tgt := 74) hx hb dX4_copy_40 (by decide) (fun c40 => ?_) (fun c40 => ?_)
        · have h := k_if c40 h
          refine lv_aload_n hx hb dX4_copy_74 rfl (lv_at hl 0 rfl) ?_
          refine lv_bipush (v := (-3)) hx hb dX4_copy_75 (by decide) ?_
          obtain ⟨x6, σ5, h1, h⟩ := k_ob2 h
          refine k_callVi C hP hap hAA (c_X4_no l ev ad σ (-3)   _ _ h1) Emb.same hap gz_X4_no qML_RX4_56 qIM_yX4_no qSE_yX4_no ⟨(Nat.le_of_ble_eq_true rfl), (Nat.le_of_ble_eq_true rfl)⟩ (q0 := 0) rfl (by decide) rfl rfl rfl rfl hl.1 rfl (Nat.le_of_ble_eq_true rfl) dX4_copy_77 ⟨Nat.le_refl _, Nat.le_refl _⟩ (fun H locs hP => ?_)
          exact e_iret C hend hP (k_some2 h).1 (congrArg (mw ev ad) (k_some2 h).2) dX4_copy_80
        · have h := k_nf c40 h
          refine lv_aload_n hx hb dX4_copy_43 rfl (lv_at hl 0 rfl) ?_
          refine lv_iload_n hx hb dX4_copy_44 rfl (lv_at hl 1 rfl) ?_
          obtain ⟨b7, h1, h⟩ := k_ob h
          refine k_callVi C hP hap hAA (c_X4_isRow l ev ad σ a1   _ h1) Emb.same hap gz_X4_isRow qML_RX4_77 qIM_yX4_isRow qSE_yX4_isRow ⟨(Nat.le_of_ble_eq_true rfl), (Nat.le_of_ble_eq_true rfl)⟩ (q0 := 0) rfl (by decide) rfl rfl rfl rfl hl.1 rfl (Nat.le_of_ble_eq_true rfl) dX4_copy_45 ⟨Nat.le_refl _, Nat.le_refl _⟩ (fun H locs hP => ?_)
          refine r_ifz_eq (tgt := 81) hx hb dX4_copy_48 (by decide) (fun c48 => ?_) (fun c48 => ?_)
          · have h := k_nf c48 h
            exact hB81 _ _ _ _ h hP (lv_sub hl [0, 1, 2, 3, 4, 5] rfl)
          · have h := k_if c48 h
            refine lv_aload_n hx hb dX4_copy_51 rfl (lv_at hl 0 rfl) ?_
            refine lv_iload_n hx hb dX4_copy_52 rfl (lv_at hl 2 rfl) ?_
            obtain ⟨b33, h1, h⟩ := k_ob h
            refine k_callVi C hP hap hAA (c_X4_isRow l ev ad σ a2   _ h1) Emb.same hap gz_X4_isRow qML_RX4_77 qIM_yX4_isRow qSE_yX4_isRow ⟨(Nat.le_of_ble_eq_true rfl), (Nat.le_of_ble_eq_true rfl)⟩ (q0 := 0) rfl (by decide) rfl rfl rfl rfl hl.1 rfl (Nat.le_of_ble_eq_true rfl) dX4_copy_53 ⟨Nat.le_refl _, Nat.le_refl _⟩ (fun H locs hP => ?_)
            refine r_ifz_eq (tgt := 81) hx hb dX4_copy_56 (by decide) (fun c56 => ?_) (fun c56 => ?_)
            · have h := k_nf c56 h
              exact hB81 _ _ _ _ h hP (lv_sub hl [0, 1, 2, 3, 4, 5] rfl)
            · have h := k_if c56 h
              refine lv_aload_n hx hb dX4_copy_59 rfl (lv_at hl 0 rfl) ?_
              refine r_get C hP (ci := 4) rfl uin_X4 17 (by decide) 0 (by decide) rfl qFL_RX4_29 rfl rfl dX4_copy_60 ?_
              refine lv_iload_n hx hb dX4_copy_63 rfl (lv_at hl 1 rfl) ?_
              obtain ⟨hg, h⟩ := k_gd h
              refine r_iald C hP 7 (by decide) rfl hg dX4_copy_64 ?_
              refine lv_aload_n hx hb dX4_copy_65 rfl (lv_at hl 0 rfl) ?_
              refine r_get C hP (ci := 4) rfl uin_X4 17 (by decide) 0 (by decide) rfl qFL_RX4_29 rfl rfl dX4_copy_66 ?_
              refine lv_iload_n hx hb dX4_copy_69 rfl (lv_at hl 2 rfl) ?_
              obtain ⟨hg, h⟩ := k_gd h
              refine r_iald C hP 7 (by decide) rfl hg dX4_copy_70 ?_
              refine lv_icmp_eq (tgt := 81) hx hb dX4_copy_71 (by decide) (fun c71 => ?_) (fun c71 => ?_)
              · have h := k_if c71 h
                exact hB81 _ _ _ _ h hP (lv_sub hl [0, 1, 2, 3, 4, 5] rfl)
              · have h := k_nf c71 h
                refine lv_aload_n hx hb dX4_copy_74 rfl (lv_at hl 0 rfl) ?_
                refine lv_bipush (v := (-3)) hx hb dX4_copy_75 (by decide) ?_
                obtain ⟨x35, σ34, h1, h⟩ := k_ob2 h
                refine k_callVi C hP hap hAA (c_X4_no l ev ad σ (-3)   _ _ h1) Emb.same hap gz_X4_no qML_RX4_56 qIM_yX4_no qSE_yX4_no ⟨(Nat.le_of_ble_eq_true rfl), (Nat.le_of_ble_eq_true rfl)⟩ (q0 := 0) rfl (by decide) rfl rfl rfl rfl hl.1 rfl (Nat.le_of_ble_eq_true rfl) dX4_copy_77 ⟨Nat.le_refl _, Nat.le_refl _⟩ (fun H locs hP => ?_)
                exact e_iret C hend hP (k_some2 h).1 (congrArg (mw ev ad) (k_some2 h).2) dX4_copy_80
    · have h := k_nf c11 h
      refine lv_aload_n hx hb dX4_copy_14 rfl (lv_at hl 0 rfl) ?_
      refine lv_bipush (v := (-2)) hx hb dX4_copy_15 (by decide) ?_
      obtain ⟨x37, σ36, h1, h⟩ := k_ob2 h
      refine k_callVi C hP hap hAA (c_X4_no l ev ad σ (-2)   _ _ h1) Emb.same hap gz_X4_no qML_RX4_56 qIM_yX4_no qSE_yX4_no ⟨(Nat.le_of_ble_eq_true rfl), (Nat.le_of_ble_eq_true rfl)⟩ (q0 := 0) rfl (by decide) rfl rfl rfl rfl hl.1 rfl (Nat.le_of_ble_eq_true rfl) dX4_copy_17 ⟨Nat.le_refl _, Nat.le_refl _⟩ (fun H locs hP => ?_)
      exact e_iret C hend hP (k_some2 h).1 (congrArg (mw ev ad) (k_some2 h).2) dX4_copy_20
