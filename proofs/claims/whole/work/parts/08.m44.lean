/-! functions read off, and their contracts: by program (wip/whole/gen2.py) -/
def f_X4_makes_b82  (x2 : Int32) (σ3 : MM) : Option (Int32 × MM) :=
  lt (m_turn' σ3 (1 - (m_turn σ3))) (fun σ4 => lt (m_made' σ4 ((m_made σ4) + 1)) (fun σ5 => some (x2, σ5)))
def f_X4_makes_L17_b (a1 : Int32) (k69 : Int32 → MM → Option (Int32 × MM)) (rec17 : Int32 → Int32 → MM → Option (Int32 × MM)) (x7 : Int32) (x8 : Int32) (σ9 : MM) : Option (Int32 × MM) :=
  if 2 ≤ x8 then k69 x7 σ9 else ob (f_X4_field σ9 a1 x8) (fun x10 => if x10 = (-1) then lt (x8 + 1) (fun x11 => rec17 x7 x11 σ9) else ob (f_X4_hedges σ9 x10) (fun x12 => if 4 ≤ x12 then gd (inb x10 16) (lt (m_owner' σ9 (upd (m_owner σ9) (Int32.toNatClampNeg x10) (m_turn σ9))) (fun σ13 => lt (x7 + 1) (fun x14 => lt (x8 + 1) (fun x15 => rec17 x14 x15 σ13)))) else lt (x8 + 1) (fun x16 => rec17 x7 x16 σ9)))
def f_X4_makes_L17 (a1 : Int32) (k69 : Int32 → MM → Option (Int32 × MM)) (x7 : Int32) (x8 : Int32) (σ9 : MM) : Option (Int32 × MM) :=
  lp (fun _ _ _ => none) (f_X4_makes_L17_b a1 k69) FU x7 x8 σ9
def f_X4_makes (σ : MM) (a1 : Int32) : Option (Int32 × MM) :=
  if 100 ≤ a1 then gd (inb (a1 - 100) 16) (lt (m_dug' σ (upd (m_dug σ) (Int32.toNatClampNeg (a1 - 100)) (vp_nar .boolean 1))) (fun σ1 => f_X4_makes_b82 0 σ1)) else gd (inb a1 40) (lt (m_hedge' σ (upd (m_hedge σ) (Int32.toNatClampNeg a1) (vp_nar .boolean 1))) (fun σ6 => f_X4_makes_L17 a1 (fun x18 σ19 => f_X4_makes_b82 x18 σ19) 0 0 σ6))
set_option maxHeartbeats 4000000 in
set_option maxRecDepth 100000 in
theorem c_X4_makes (l : Launch) (ev : EV) (ad : Nat → Nat) (σ : MM) (a1 : Int32)   (r : Int32) (σ' : MM) (h : f_X4_makes σ a1 = some (r, σ')) : Ct l yX4_makes prog_6_method_43_code 5 (Option.some Jvm.ClassFile.FieldType.int) (rmk 3 67) ev 13 ad (mw ev ad σ) (mw ev ad σ') [.ref (ad 0), .int a1] (some (.int r)) := by
  refine Ct.of (by decide +kernel) (Nat.le_of_ble_eq_true rfl) ?_
  intro p e s m args below meth c Qc C hap hP hend ls hl
  have hAA : ∀ j, j < 13 → inA ad 13 (ad j) := fun j hj => ⟨j, hj, rfl⟩
  have hx := C.1
  have hb := C.2.1
  have hl : lv_has ls 5 [(0, .ref (ad 0)), (1, .int a1)] := hl
  have h := (f_X4_makes.eq_1 _ _ ).symm.trans h
  have hB82 : ∀ (x2 : Int32) (σ3 : MM) (H : Heap) (locs : List Loc) (ls : Array Slot), f_X4_makes_b82  x2 σ3 = some (r, σ') → PS ev 13 ad (mw ev ad σ3) (inA ad 13) s H locs → lv_has ls 5 [(0, .ref (ad 0)), (2, .int x2)] → WW ev p l e (rmk 3 67) s m args below meth c Qc ad 13 H locs 82 ls [] := by
    intro x2 σ3 H locs ls h hP hl
    have h := (f_X4_makes_b82.eq_1 _ _ ).symm.trans h
    refine lv_aload_n hx hb dX4_makes_82 rfl (lv_at hl 0 rfl) ?_
    refine lv_iconst (v := 1) hx hb dX4_makes_83 (by decide) ?_
    refine lv_aload_n hx hb dX4_makes_84 rfl (lv_at hl 0 rfl) ?_
    refine r_get C hP (ci := 4) rfl uin_X4 5 (by decide) 0 (by decide) rfl qFL_RX4_101 rfl rfl dX4_makes_85 ?_
    refine lv_isub hx hb dX4_makes_88 ?_
    obtain ⟨σ4, eσ4, h⟩ := k_ltx h
    refine pt_M_X4_turn C hP hap hAA eσ4 qFL_RX4_101 dX4_makes_89 (fun H locs hP => ?_)
    refine lv_aload_n hx hb dX4_makes_92 rfl (lv_at hl 0 rfl) ?_
    refine lv_dup hx hb dX4_makes_93 rfl ?_
    refine r_get C hP (ci := 4) rfl uin_X4 6 (by decide) 0 (by decide) rfl qFL_RX4_104 rfl rfl dX4_makes_94 ?_
    refine lv_iconst (v := 1) hx hb dX4_makes_97 (by decide) ?_
    refine lv_iadd hx hb dX4_makes_98 ?_
    obtain ⟨σ5, eσ5, h⟩ := k_ltx h
    refine pt_M_X4_made C hP hap hAA eσ5 qFL_RX4_104 dX4_makes_99 (fun H locs hP => ?_)
    refine lv_iload_n hx hb dX4_makes_102 rfl (lv_at hl 1 rfl) ?_
    exact e_iret C hend hP (k_some2 h).1 (congrArg (mw ev ad) (k_some2 h).2) dX4_makes_103
  refine lv_iconst (v := 0) hx hb dX4_makes_0 (by decide) ?_
  refine lv_istore_n (lv' := [(2, .int 0), (0, .ref (ad 0)), (1, .int a1)]) hx hb dX4_makes_1 rfl hl (by decide) rfl (fun ls hl => ?_)
  refine lv_iload_n hx hb dX4_makes_2 rfl (lv_at hl 2 rfl) ?_
  refine lv_bipush (v := 100) hx hb dX4_makes_3 (by decide) ?_
  refine lv_icmp_ge (tgt := 72) hx hb dX4_makes_5 (by decide) (fun c5 => ?_) (fun c5 => ?_)
  · have h := k_if c5 h
    refine lv_aload_n hx hb dX4_makes_72 rfl (lv_at hl 1 rfl) ?_
    refine r_get C hP (ci := 4) rfl uin_X4 3 (by decide) 0 (by decide) rfl qFL_RX4_13 rfl rfl dX4_makes_73 ?_
    refine lv_iload_n hx hb dX4_makes_76 rfl (lv_at hl 2 rfl) ?_
    refine lv_bipush (v := 100) hx hb dX4_makes_77 (by decide) ?_
    refine lv_isub hx hb dX4_makes_79 ?_
    refine lv_iconst (v := 1) hx hb dX4_makes_80 (by decide) ?_
    obtain ⟨hg, h⟩ := k_gd h
    obtain ⟨σ1, eσ1, h⟩ := k_ltx h
    refine st_M_dug C hP hap hAA eσ1 hg dX4_makes_81 (fun H locs hP => ?_)
    exact hB82 _ _ _ _ _ h hP (lv_sub hl [1, 0] rfl)
  · have h := k_nf c5 h
    refine lv_aload_n hx hb dX4_makes_8 rfl (lv_at hl 1 rfl) ?_
    refine r_get C hP (ci := 4) rfl uin_X4 2 (by decide) 0 (by decide) rfl qFL_RX4_7 rfl rfl dX4_makes_9 ?_
    refine lv_iload_n hx hb dX4_makes_12 rfl (lv_at hl 2 rfl) ?_
    refine lv_iconst (v := 1) hx hb dX4_makes_13 (by decide) ?_
    obtain ⟨hg, h⟩ := k_gd h
    obtain ⟨σ6, eσ6, h⟩ := k_ltx h
    refine st_M_hedge C hP hap hAA eσ6 hg dX4_makes_14 (fun H locs hP => ?_)
    refine lv_iconst (v := 0) hx hb dX4_makes_15 (by decide) ?_
    refine lv_istore_n (lv' := [(3, .int 0), (2, .int 0), (0, .ref (ad 0)), (1, .int a1)]) hx hb dX4_makes_16 rfl hl (by decide) rfl (fun ls hl => ?_)
    have hL17 : ∀ (k69 : Int32 → MM → Option (Int32 × MM)) (hk69 : ∀ (z17 : Int32) (σk : MM) (H : Heap) (locs : List Loc) (ls : Array Slot), k69 z17 σk = some (r, σ') → PS ev 13 ad (mw ev ad σk) (inA ad 13) s H locs → lv_has ls 5 [(0, .ref (ad 0)), (2, .int z17)] → WW ev p l e (rmk 3 67) s m args below meth c Qc ad 13 H locs 69 ls []) (n : Nat) (x7 : Int32) (x8 : Int32) (σ9 : MM) (H : Heap) (locs : List Loc) (ls : Array Slot), lp (fun _ _ _ => none) (f_X4_makes_L17_b a1 k69) n x7 x8 σ9 = some (r, σ') → PS ev 13 ad (mw ev ad σ9) (inA ad 13) s H locs → lv_has ls 5 [(0, .ref (ad 0)), (1, .int a1), (2, .int x7), (3, .int x8)] → WW ev p l e (rmk 3 67) s m args below meth c Qc ad 13 H locs 17 ls [] := by
      intro k69 hk69 n
      induction n with
      | zero =>
        intro x7 x8 σ9 H locs ls h; exact k_none h
      | succ n ih =>
        intro x7 x8 σ9 H locs ls h hP hl
        have h : f_X4_makes_L17_b a1 k69 (lp (fun _ _ _ => none) (f_X4_makes_L17_b a1 k69) n) x7 x8 σ9 = some (r, σ') := h
        have h := (f_X4_makes_L17_b.eq_1 _ _ _ _ _ _ ).symm.trans h
        refine lv_iload_n hx hb dX4_makes_17 rfl (lv_at hl 3 rfl) ?_
        refine lv_iconst (v := 2) hx hb dX4_makes_18 (by decide) ?_
        refine lv_icmp_ge (tgt := 69) hx hb dX4_makes_19 (by decide) (fun c19 => ?_) (fun c19 => ?_)
        · have h := k_if c19 h
          exact hk69 _ _ _ _ _ h hP (lv_sub hl [0, 2] rfl)
        · have h := k_nf c19 h
          refine lv_aload_n hx hb dX4_makes_22 rfl (lv_at hl 0 rfl) ?_
          refine lv_iload_n hx hb dX4_makes_23 rfl (lv_at hl 1 rfl) ?_
          refine lv_iload_n hx hb dX4_makes_24 rfl (lv_at hl 3 rfl) ?_
          obtain ⟨x10, h1, h⟩ := k_ob h
          refine k_callVi C hP hap hAA (c_X4_field l ev ad σ9 a1 x8   _ h1) Emb.same hap gz_X4_field qML_RX4_119 qIM_yX4_field qSE_yX4_field ⟨(Nat.le_of_ble_eq_true rfl), (Nat.le_of_ble_eq_true rfl)⟩ (q0 := 0) rfl (by decide) rfl rfl rfl rfl hl.1 rfl (Nat.le_of_ble_eq_true rfl) dX4_makes_25 ⟨Nat.le_refl _, Nat.le_refl _⟩ (fun H locs hP => ?_)
          refine lv_istore (lv' := [(4, .int x10), (0, .ref (ad 0)), (1, .int a1), (2, .int x7), (3, .int x8)]) hx hb dX4_makes_28 hl (by decide) rfl (fun ls hl => ?_)
          refine lv_iload hx hb dX4_makes_30 (lv_at hl 0 rfl) ?_
          refine lv_iconst (v := (-1)) hx hb dX4_makes_32 (by decide) ?_
          refine lv_icmp_eq (tgt := 63) hx hb dX4_makes_33 (by decide) (fun c33 => ?_) (fun c33 => ?_)
          · have h := k_if c33 h
            obtain ⟨x11, ex11, h⟩ := k_ltx h
            refine lv_iinc (v := x11) (lv' := [(3, .int x11), (4, .int x10), (0, .ref (ad 0)), (1, .int a1), (2, .int x7)]) hx hb dX4_makes_63 hl (k := 4) rfl (by rw [ex11]; rfl) (by decide) rfl (fun ls hl => ?_)
            refine lv_goto (tgt := 17) hx hb dX4_makes_66 (by decide) ?_
            exact ih _ _ _ _ _ _ h hP (lv_sub hl [2, 3, 4, 0] rfl)
          · have h := k_nf c33 h
            refine lv_aload_n hx hb dX4_makes_36 rfl (lv_at hl 1 rfl) ?_
            refine lv_iload hx hb dX4_makes_37 (lv_at hl 0 rfl) ?_
            obtain ⟨x12, h1, h⟩ := k_ob h
            refine k_callVi C hP hap hAA (c_X4_hedges l ev ad σ9 x10   _ h1) Emb.same hap gz_X4_hedges qML_RX4_196 qIM_yX4_hedges qSE_yX4_hedges ⟨(Nat.le_of_ble_eq_true rfl), (Nat.le_of_ble_eq_true rfl)⟩ (q0 := 0) rfl (by decide) rfl rfl rfl rfl hl.1 rfl (Nat.le_of_ble_eq_true rfl) dX4_makes_39 ⟨Nat.le_refl _, Nat.le_refl _⟩ (fun H locs hP => ?_)
            refine lv_iconst (v := 4) hx hb dX4_makes_42 (by decide) ?_
            refine lv_icmp_ge (tgt := 49) hx hb dX4_makes_43 (by decide) (fun c43 => ?_) (fun c43 => ?_)
            · have h := k_if c43 h
              refine lv_aload_n hx hb dX4_makes_49 rfl (lv_at hl 1 rfl) ?_
              refine r_get C hP (ci := 4) rfl uin_X4 4 (by decide) 0 (by decide) rfl qFL_RX4_16 rfl rfl dX4_makes_50 ?_
              refine lv_iload hx hb dX4_makes_53 (lv_at hl 0 rfl) ?_
              refine lv_aload_n hx hb dX4_makes_55 rfl (lv_at hl 1 rfl) ?_
              refine r_get C hP (ci := 4) rfl uin_X4 5 (by decide) 0 (by decide) rfl qFL_RX4_101 rfl rfl dX4_makes_56 ?_
              obtain ⟨hg, h⟩ := k_gd h
              obtain ⟨σ13, eσ13, h⟩ := k_ltx h
              refine st_M_owner C hP hap hAA eσ13 hg dX4_makes_59 (fun H locs hP => ?_)
              obtain ⟨x14, ex14, h⟩ := k_ltx h
              refine lv_iinc (v := x14) (lv' := [(2, .int x14), (4, .int x10), (0, .ref (ad 0)), (1, .int a1), (3, .int x8)]) hx hb dX4_makes_60 hl (k := 3) rfl (by rw [ex14]; rfl) (by decide) rfl (fun ls hl => ?_)
              obtain ⟨x15, ex15, h⟩ := k_ltx h
              refine lv_iinc (v := x15) (lv' := [(3, .int x15), (2, .int x14), (4, .int x10), (0, .ref (ad 0)), (1, .int a1)]) hx hb dX4_makes_63 hl (k := 4) rfl (by rw [ex15]; rfl) (by decide) rfl (fun ls hl => ?_)
              refine lv_goto (tgt := 17) hx hb dX4_makes_66 (by decide) ?_
              exact ih _ _ _ _ _ _ h hP (lv_sub hl [3, 4, 1, 0] rfl)
            · have h := k_nf c43 h
              refine lv_goto (tgt := 63) hx hb dX4_makes_46 (by decide) ?_
              obtain ⟨x16, ex16, h⟩ := k_ltx h
              refine lv_iinc (v := x16) (lv' := [(3, .int x16), (4, .int x10), (0, .ref (ad 0)), (1, .int a1), (2, .int x7)]) hx hb dX4_makes_63 hl (k := 4) rfl (by rw [ex16]; rfl) (by decide) rfl (fun ls hl => ?_)
              refine lv_goto (tgt := 17) hx hb dX4_makes_66 (by decide) ?_
              exact ih _ _ _ _ _ _ h hP (lv_sub hl [2, 3, 4, 0] rfl)
    refine hL17 _ (fun x18 σ19 H locs ls h hP hl => ?_) FU _ _ _ _ _ _ h hP (lv_sub hl [2, 3, 1, 0] rfl)
    refine lv_goto (tgt := 82) hx hb dX4_makes_69 (by decide) ?_
    exact hB82 _ _ _ _ _ h hP (lv_sub hl [0, 1] rfl)
def f_X4_isWord_w3_L29_b (σ : MM)  (rec29 : Int32 → Option (Bool)) (x1 : Int32) : Option (Bool) :=
  if 4 ≤ x1 then some true else gd (inb ((m_from σ) + x1) 250) (gd (inb x1 4) (if ((m_tape σ) (Int32.toNatClampNeg ((m_from σ) + x1))) = (sch 3 x1) then lt (x1 + 1) (fun x2 => rec29 x2) else some false))
def f_X4_isWord_w3_L29 (σ : MM)  (x1 : Int32) : Option (Bool) :=
  lp (fun _ => none) (f_X4_isWord_w3_L29_b σ ) FU x1
def f_X4_isWord_w3 (σ : MM) : Option (Bool) :=
  if (m_token σ) = 119 then if ((m_to σ) - (m_from σ)) = 4 then f_X4_isWord_w3_L29 σ 0 else some false else some false
set_option maxHeartbeats 4000000 in
set_option maxRecDepth 100000 in
theorem c_X4_isWord_w3 (l : Launch) (ev : EV) (ad : Nat → Nat) (σ : MM)   (r : Bool)  (h : f_X4_isWord_w3 σ = some r) : Ct l yX4_isWord prog_6_method_37_code 3 (Option.some Jvm.ClassFile.FieldType.boolean) (rmk 8 300) ev 13 ad (mw ev ad σ) (mw ev ad σ) [.ref (ad 0), .ref (ev.2.2.2.1 3)] (some (.int (bi r))) := by
  refine Ct.of (by decide +kernel) (Nat.le_of_ble_eq_true rfl) ?_
  intro p e s m args below meth c Qc C hap hP hend ls hl
  have hAA : ∀ j, j < 13 → inA ad 13 (ad j) := fun j hj => ⟨j, hj, rfl⟩
  have hx := C.1
  have hb := C.2.1
  have hl : lv_has ls 3 [(0, .ref (ad 0)), (1, .ref (ev.2.2.2.1 3))] := hl
  have h := (f_X4_isWord_w3.eq_1 _ ).symm.trans h
  refine lv_aload_n hx hb dX4_isWord_0 rfl (lv_at hl 0 rfl) ?_
  refine r_get C hP (ci := 4) rfl uin_X4 15 (by decide) 0 (by decide) rfl qFL_RX4_137 rfl rfl dX4_isWord_1 ?_
  refine lv_bipush (v := 119) hx hb dX4_isWord_4 (by decide) ?_
  refine lv_icmp_ne (tgt := 25) hx hb dX4_isWord_6 (by decide) (fun c6 => ?_) (fun c6 => ?_)
  · have h := k_nf c6 h
    refine lv_iconst (v := 0) hx hb dX4_isWord_25 (by decide) ?_
    exact e_zret C hend hP (k_some h) rfl dX4_isWord_26 rfl
  · have h := k_if c6 h
    refine lv_aload_n hx hb dX4_isWord_9 rfl (lv_at hl 0 rfl) ?_
    refine r_get C hP (ci := 4) rfl uin_X4 14 (by decide) 0 (by decide) rfl qFL_RX4_131 rfl rfl dX4_isWord_10 ?_
    refine lv_aload_n hx hb dX4_isWord_13 rfl (lv_at hl 0 rfl) ?_
    refine r_get C hP (ci := 4) rfl uin_X4 13 (by decide) 0 (by decide) rfl qFL_RX4_134 rfl rfl dX4_isWord_14 ?_
    refine lv_isub hx hb dX4_isWord_17 ?_
    refine lv_aload_n hx hb dX4_isWord_18 rfl (lv_at hl 1 rfl) ?_
    refine r_slen C hP hap hAA 3 (by decide) qML_RX4_149 ⟨(Nat.le_of_ble_eq_true rfl), (Nat.le_of_ble_eq_true rfl)⟩ hl.1 (by exact (Nat.le_of_ble_eq_true rfl)) dX4_isWord_19 ⟨Nat.le_refl _, Nat.le_refl _⟩ (v := 4) rfl (fun H locs hP => ?_)
    refine lv_icmp_eq (tgt := 27) hx hb dX4_isWord_22 (by decide) (fun c22 => ?_) (fun c22 => ?_)
    · have h := k_if c22 h
      refine lv_iconst (v := 0) hx hb dX4_isWord_27 (by decide) ?_
      refine lv_istore_n (lv' := [(2, .int 0), (0, .ref (ad 0)), (1, .ref (ev.2.2.2.1 3))]) hx hb dX4_isWord_28 rfl hl (by decide) rfl (fun ls hl => ?_)
      have hL29 : ∀ (n : Nat) (x1 : Int32) (H : Heap) (locs : List Loc) (ls : Array Slot), lp (fun _ => none) (f_X4_isWord_w3_L29_b σ ) n x1 = some r → PS ev 13 ad (mw ev ad σ) (inA ad 13) s H locs → lv_has ls 3 [(0, .ref (ad 0)), (1, .ref (ev.2.2.2.1 3)), (2, .int x1)] → WW ev p l e (rmk 8 300) s m args below meth c Qc ad 13 H locs 29 ls [] := by
        intro n
        induction n with
        | zero =>
          intro x1 H locs ls h; exact k_none h
        | succ n ih =>
          intro x1 H locs ls h hP hl
          have h : f_X4_isWord_w3_L29_b σ  (lp (fun _ => none) (f_X4_isWord_w3_L29_b σ ) n) x1 = some r := h
          have h := (f_X4_isWord_w3_L29_b.eq_1 _ _ _ ).symm.trans h
          refine lv_iload_n hx hb dX4_isWord_29 rfl (lv_at hl 2 rfl) ?_
          refine lv_aload_n hx hb dX4_isWord_30 rfl (lv_at hl 1 rfl) ?_
          refine r_slen C hP hap hAA 3 (by decide) qML_RX4_149 ⟨(Nat.le_of_ble_eq_true rfl), (Nat.le_of_ble_eq_true rfl)⟩ hl.1 (by exact (Nat.le_of_ble_eq_true rfl)) dX4_isWord_31 ⟨Nat.le_refl _, Nat.le_refl _⟩ (v := 4) rfl (fun H locs hP => ?_)
          refine lv_icmp_ge (tgt := 64) hx hb dX4_isWord_34 (by decide) (fun c34 => ?_) (fun c34 => ?_)
          · have h := k_if c34 h
            refine lv_iconst (v := 1) hx hb dX4_isWord_64 (by decide) ?_
            exact e_zret C hend hP (k_some h) rfl dX4_isWord_65 rfl
          · have h := k_nf c34 h
            refine lv_aload_n hx hb dX4_isWord_37 rfl (lv_at hl 0 rfl) ?_
            refine r_get C hP (ci := 4) rfl uin_X4 12 (by decide) 0 (by decide) rfl qFL_RX4_26 rfl rfl dX4_isWord_38 ?_
            refine lv_aload_n hx hb dX4_isWord_41 rfl (lv_at hl 0 rfl) ?_
            refine r_get C hP (ci := 4) rfl uin_X4 13 (by decide) 0 (by decide) rfl qFL_RX4_134 rfl rfl dX4_isWord_42 ?_
            refine lv_iload_n hx hb dX4_isWord_45 rfl (lv_at hl 2 rfl) ?_
            refine lv_iadd hx hb dX4_isWord_46 ?_
            obtain ⟨hg, h⟩ := k_gd h
            refine r_iald C hP 6 (by decide) rfl hg dX4_isWord_47 ?_
            refine lv_aload_n hx hb dX4_isWord_48 rfl (lv_at hl 1 rfl) ?_
            refine lv_iload_n hx hb dX4_isWord_49 rfl (lv_at hl 2 rfl) ?_
            obtain ⟨hg, h⟩ := k_gd h
            refine r_schar C hP hap hAA 3 (by decide) hg qML_RX4_154 ⟨(Nat.le_of_ble_eq_true rfl), (Nat.le_of_ble_eq_true rfl)⟩ hl.1 (by exact (Nat.le_of_ble_eq_true rfl)) dX4_isWord_50 ⟨Nat.le_refl _, Nat.le_refl _⟩ rfl (fun H locs hP => ?_)
            refine lv_icmp_eq (tgt := 58) hx hb dX4_isWord_53 (by decide) (fun c53 => ?_) (fun c53 => ?_)
            · have h := k_if c53 h
              obtain ⟨x2, ex2, h⟩ := k_ltx h
              refine lv_iinc (v := x2) (lv' := [(2, .int x2), (0, .ref (ad 0)), (1, .ref (ev.2.2.2.1 3))]) hx hb dX4_isWord_58 hl (k := 2) rfl (by rw [ex2]; rfl) (by decide) rfl (fun ls hl => ?_)
              refine lv_goto (tgt := 29) hx hb dX4_isWord_61 (by decide) ?_
              exact ih _ _ _ _ h hP (lv_sub hl [1, 2, 0] rfl)
            · have h := k_nf c53 h
              refine lv_iconst (v := 0) hx hb dX4_isWord_56 (by decide) ?_
              exact e_zret C hend hP (k_some h) rfl dX4_isWord_57 rfl
      exact hL29 FU _ _ _ _ h hP (lv_sub hl [1, 2, 0] rfl)
    · have h := k_nf c22 h
      refine lv_iconst (v := 0) hx hb dX4_isWord_25 (by decide) ?_
      exact e_zret C hend hP (k_some h) rfl dX4_isWord_26 rfl
def f_X4_isWord_w4_L29_b (σ : MM)  (rec29 : Int32 → Option (Bool)) (x1 : Int32) : Option (Bool) :=
  if 6 ≤ x1 then some true else gd (inb ((m_from σ) + x1) 250) (gd (inb x1 6) (if ((m_tape σ) (Int32.toNatClampNeg ((m_from σ) + x1))) = (sch 4 x1) then lt (x1 + 1) (fun x2 => rec29 x2) else some false))
def f_X4_isWord_w4_L29 (σ : MM)  (x1 : Int32) : Option (Bool) :=
  lp (fun _ => none) (f_X4_isWord_w4_L29_b σ ) FU x1
def f_X4_isWord_w4 (σ : MM) : Option (Bool) :=
  if (m_token σ) = 119 then if ((m_to σ) - (m_from σ)) = 6 then f_X4_isWord_w4_L29 σ 0 else some false else some false
set_option maxHeartbeats 4000000 in
set_option maxRecDepth 100000 in
theorem c_X4_isWord_w4 (l : Launch) (ev : EV) (ad : Nat → Nat) (σ : MM)   (r : Bool)  (h : f_X4_isWord_w4 σ = some r) : Ct l yX4_isWord prog_6_method_37_code 3 (Option.some Jvm.ClassFile.FieldType.boolean) (rmk 8 300) ev 13 ad (mw ev ad σ) (mw ev ad σ) [.ref (ad 0), .ref (ev.2.2.2.1 4)] (some (.int (bi r))) := by
  refine Ct.of (by decide +kernel) (Nat.le_of_ble_eq_true rfl) ?_
  intro p e s m args below meth c Qc C hap hP hend ls hl
  have hAA : ∀ j, j < 13 → inA ad 13 (ad j) := fun j hj => ⟨j, hj, rfl⟩
  have hx := C.1
  have hb := C.2.1
  have hl : lv_has ls 3 [(0, .ref (ad 0)), (1, .ref (ev.2.2.2.1 4))] := hl
  have h := (f_X4_isWord_w4.eq_1 _ ).symm.trans h
  refine lv_aload_n hx hb dX4_isWord_0 rfl (lv_at hl 0 rfl) ?_
  refine r_get C hP (ci := 4) rfl uin_X4 15 (by decide) 0 (by decide) rfl qFL_RX4_137 rfl rfl dX4_isWord_1 ?_
  refine lv_bipush (v := 119) hx hb dX4_isWord_4 (by decide) ?_
  refine lv_icmp_ne (tgt := 25) hx hb dX4_isWord_6 (by decide) (fun c6 => ?_) (fun c6 => ?_)
  · have h := k_nf c6 h
    refine lv_iconst (v := 0) hx hb dX4_isWord_25 (by decide) ?_
    exact e_zret C hend hP (k_some h) rfl dX4_isWord_26 rfl
  · have h := k_if c6 h
    refine lv_aload_n hx hb dX4_isWord_9 rfl (lv_at hl 0 rfl) ?_
    refine r_get C hP (ci := 4) rfl uin_X4 14 (by decide) 0 (by decide) rfl qFL_RX4_131 rfl rfl dX4_isWord_10 ?_
    refine lv_aload_n hx hb dX4_isWord_13 rfl (lv_at hl 0 rfl) ?_
    refine r_get C hP (ci := 4) rfl uin_X4 13 (by decide) 0 (by decide) rfl qFL_RX4_134 rfl rfl dX4_isWord_14 ?_
    refine lv_isub hx hb dX4_isWord_17 ?_
    refine lv_aload_n hx hb dX4_isWord_18 rfl (lv_at hl 1 rfl) ?_
    refine r_slen C hP hap hAA 4 (by decide) qML_RX4_149 ⟨(Nat.le_of_ble_eq_true rfl), (Nat.le_of_ble_eq_true rfl)⟩ hl.1 (by exact (Nat.le_of_ble_eq_true rfl)) dX4_isWord_19 ⟨Nat.le_refl _, Nat.le_refl _⟩ (v := 6) rfl (fun H locs hP => ?_)
    refine lv_icmp_eq (tgt := 27) hx hb dX4_isWord_22 (by decide) (fun c22 => ?_) (fun c22 => ?_)
    · have h := k_if c22 h
      refine lv_iconst (v := 0) hx hb dX4_isWord_27 (by decide) ?_
      refine lv_istore_n (lv' := [(2, .int 0), (0, .ref (ad 0)), (1, .ref (ev.2.2.2.1 4))]) hx hb dX4_isWord_28 rfl hl (by decide) rfl (fun ls hl => ?_)
      have hL29 : ∀ (n : Nat) (x1 : Int32) (H : Heap) (locs : List Loc) (ls : Array Slot), lp (fun _ => none) (f_X4_isWord_w4_L29_b σ ) n x1 = some r → PS ev 13 ad (mw ev ad σ) (inA ad 13) s H locs → lv_has ls 3 [(0, .ref (ad 0)), (1, .ref (ev.2.2.2.1 4)), (2, .int x1)] → WW ev p l e (rmk 8 300) s m args below meth c Qc ad 13 H locs 29 ls [] := by
        intro n
        induction n with
        | zero =>
          intro x1 H locs ls h; exact k_none h
        | succ n ih =>
          intro x1 H locs ls h hP hl
          have h : f_X4_isWord_w4_L29_b σ  (lp (fun _ => none) (f_X4_isWord_w4_L29_b σ ) n) x1 = some r := h
          have h := (f_X4_isWord_w4_L29_b.eq_1 _ _ _ ).symm.trans h
          refine lv_iload_n hx hb dX4_isWord_29 rfl (lv_at hl 2 rfl) ?_
          refine lv_aload_n hx hb dX4_isWord_30 rfl (lv_at hl 1 rfl) ?_
          refine r_slen C hP hap hAA 4 (by decide) qML_RX4_149 ⟨(Nat.le_of_ble_eq_true rfl), (Nat.le_of_ble_eq_true rfl)⟩ hl.1 (by exact (Nat.le_of_ble_eq_true rfl)) dX4_isWord_31 ⟨Nat.le_refl _, Nat.le_refl _⟩ (v := 6) rfl (fun H locs hP => ?_)
          refine lv_icmp_ge (tgt := 64) hx hb dX4_isWord_34 (by decide) (fun c34 => ?_) (fun c34 => ?_)
          · have h := k_if c34 h
            refine lv_iconst (v := 1) hx hb dX4_isWord_64 (by decide) ?_
            exact e_zret C hend hP (k_some h) rfl dX4_isWord_65 rfl
          · have h := k_nf c34 h
            refine lv_aload_n hx hb dX4_isWord_37 rfl (lv_at hl 0 rfl) ?_
            refine r_get C hP (ci := 4) rfl uin_X4 12 (by decide) 0 (by decide) rfl qFL_RX4_26 rfl rfl dX4_isWord_38 ?_
            refine lv_aload_n hx hb dX4_isWord_41 rfl (lv_at hl 0 rfl) ?_
            refine r_get C hP (ci := 4) rfl uin_X4 13 (by decide) 0 (by decide) rfl qFL_RX4_134 rfl rfl dX4_isWord_42 ?_
            refine lv_iload_n hx hb dX4_isWord_45 rfl (lv_at hl 2 rfl) ?_
            refine lv_iadd hx hb dX4_isWord_46 ?_
            obtain ⟨hg, h⟩ := k_gd h
            refine r_iald C hP 6 (by decide) rfl hg dX4_isWord_47 ?_
            refine lv_aload_n hx hb dX4_isWord_48 rfl (lv_at hl 1 rfl) ?_
            refine lv_iload_n hx hb dX4_isWord_49 rfl (lv_at hl 2 rfl) ?_
            obtain ⟨hg, h⟩ := k_gd h
            refine r_schar C hP hap hAA 4 (by decide) hg qML_RX4_154 ⟨(Nat.le_of_ble_eq_true rfl), (Nat.le_of_ble_eq_true rfl)⟩ hl.1 (by exact (Nat.le_of_ble_eq_true rfl)) dX4_isWord_50 ⟨Nat.le_refl _, Nat.le_refl _⟩ rfl (fun H locs hP => ?_)
            refine lv_icmp_eq (tgt := 58) hx hb dX4_isWord_53 (by decide) (fun c53 => ?_) (fun c53 => ?_)
            · have h := k_if c53 h
              obtain ⟨x2, ex2, h⟩ := k_ltx h
              refine lv_iinc (v := x2) (lv' := [(2, .int x2), (0, .ref (ad 0)), (1, .ref (ev.2.2.2.1 4))]) hx hb dX4_isWord_58 hl (k := 2) rfl (by rw [ex2]; rfl) (by decide) rfl (fun ls hl => ?_)
              refine lv_goto (tgt := 29) hx hb dX4_isWord_61 (by decide) ?_
              exact ih _ _ _ _ h hP (lv_sub hl [1, 2, 0] rfl)
            · have h := k_nf c53 h
              refine lv_iconst (v := 0) hx hb dX4_isWord_56 (by decide) ?_
              exact e_zret C hend hP (k_some h) rfl dX4_isWord_57 rfl
      exact hL29 FU _ _ _ _ h hP (lv_sub hl [1, 2, 0] rfl)
    · have h := k_nf c22 h
      refine lv_iconst (v := 0) hx hb dX4_isWord_25 (by decide) ?_
      exact e_zret C hend hP (k_some h) rfl dX4_isWord_26 rfl
