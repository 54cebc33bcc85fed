/-! functions read off, and their contracts: by program (wip/whole/gen2.py) -/
def f_X4_keep_ahead_L2_b  (k31 : MM → Option MM) (rec2 : Int32 → MM → Option MM) (x1 : Int32) (σ2 : MM) : Option MM :=
  if 40 ≤ x1 then k31 σ2 else gd (inb x1 40) (if ((m_hedge σ2) (x1).toNatClampNeg) = 0 then gd (inb x1 90) (lt (m_ahead' σ2 (upd (m_ahead σ2) (x1).toNatClampNeg 0)) (fun σ3 => lt (x1 + 1) (fun x4 => rec2 x4 σ3))) else gd (inb x1 90) (lt (m_ahead' σ2 (upd (m_ahead σ2) (x1).toNatClampNeg 1)) (fun σ5 => lt (x1 + 1) (fun x6 => rec2 x6 σ5))))
def f_X4_keep_ahead_L2  (k31 : MM → Option MM) (x1 : Int32) (σ2 : MM) : Option MM :=
  lp (fun _ _ => none) (f_X4_keep_ahead_L2_b  k31) FU x1 σ2
def f_X4_keep_ahead_b58 (rec33 : Int32 → MM → Option MM) (x10 : Int32) (x11 : Int32) (x12 : Int32) (σ13 : MM) : Option MM :=
  gd (inb x12 90) (lt (m_ahead' σ13 (upd (m_ahead σ13) (x12).toNatClampNeg x11)) (fun σ14 => gd (inb x10 16) (gd (inb (56 + x10) 90) (lt (m_ahead' σ14 (upd (m_ahead σ14) ((56 + x10)).toNatClampNeg ((m_owner σ14) (x10).toNatClampNeg))) (fun σ15 => lt (x10 + 1) (fun x16 => rec33 x16 σ15))))))
def f_X4_keep_ahead_L33_b  (k77 : MM → Option MM) (rec33 : Int32 → MM → Option MM) (x8 : Int32) (σ9 : MM) : Option MM :=
  if 16 ≤ x8 then k77 σ9 else gd (inb x8 16) (if ((m_dug σ9) (x8).toNatClampNeg) = 0 then f_X4_keep_ahead_b58 rec33 x8 0 ((40 + x8)) σ9 else f_X4_keep_ahead_b58 rec33 x8 1 ((40 + x8)) σ9)
def f_X4_keep_ahead_L33  (k77 : MM → Option MM) (x8 : Int32) (σ9 : MM) : Option MM :=
  lp (fun _ _ => none) (f_X4_keep_ahead_L33_b  k77) FU x8 σ9
def f_X4_keep_ahead_L79_b  (k115 : MM → Option MM) (rec79 : Int32 → MM → Option MM) (x18 : Int32) (σ19 : MM) : Option MM :=
  if 6 ≤ x18 then k115 σ19 else gd (inb x18 6) (gd (inb (72 + x18) 90) (lt (m_ahead' σ19 (upd (m_ahead σ19) ((72 + x18)).toNatClampNeg ((m_kind σ19) (x18).toNatClampNeg))) (fun σ20 => gd (inb x18 6) (gd (inb (78 + x18) 90) (lt (m_ahead' σ20 (upd (m_ahead σ20) ((78 + x18)).toNatClampNeg ((m_own σ20) (x18).toNatClampNeg))) (fun σ21 => lt (x18 + 1) (fun x22 => rec79 x22 σ21)))))))
def f_X4_keep_ahead_L79  (k115 : MM → Option MM) (x18 : Int32) (σ19 : MM) : Option MM :=
  lp (fun _ _ => none) (f_X4_keep_ahead_L79_b  k115) FU x18 σ19
def f_X4_keep_ahead (σ : MM) : Option MM :=
  f_X4_keep_ahead_L2 (fun σ7 => f_X4_keep_ahead_L33 (fun σ17 => f_X4_keep_ahead_L79 (fun σ23 => gd (inb 84 90) (lt (m_ahead' σ23 (upd (m_ahead σ23) (84).toNatClampNeg (m_w σ23))) (fun σ24 => gd (inb 85 90) (lt (m_ahead' σ24 (upd (m_ahead σ24) (85).toNatClampNeg (m_h σ24))) (fun σ25 => gd (inb 86 90) (lt (m_ahead' σ25 (upd (m_ahead σ25) (86).toNatClampNeg (m_turn σ25))) (fun σ26 => gd (inb 87 90) (lt (m_ahead' σ26 (upd (m_ahead σ26) (87).toNatClampNeg (m_made σ26))) (fun σ27 => gd (inb 88 90) (lt (m_ahead' σ27 (upd (m_ahead σ27) (88).toNatClampNeg (m_players σ27))) (fun σ28 => gd (inb 89 90) (lt (m_ahead' σ28 (upd (m_ahead σ28) (89).toNatClampNeg (m_seed σ28))) (fun σ29 => some σ29))))))))))))) 0 σ17) 0 σ7) 0 σ
set_option maxHeartbeats 4000000 in
set_option maxRecDepth 100000 in
theorem c_X4_keep_ahead (l : Launch) (ev : EV) (ad : Nat → Nat) (σ : MM)    (σ' : MM) (h : f_X4_keep_ahead σ = some σ') : Ct l yX4_keep prog_6_method_116_code 3 (Option.none : Option Jvm.ClassFile.FieldType) (rmk 0 0) ev 13 ad (mw ev ad σ) (mw ev ad σ') [.ref (ad 0), .ref (ad 12)] none := by
  refine Ct.of (by decide +kernel) (Nat.le_of_ble_eq_true rfl) ?_
  intro p e s m args below meth c Qc C hap hP hend ls hl
  have hAA : ∀ j, j < 13 → inA ad 13 (ad j) := fun j hj => ⟨j, hj, rfl⟩
  have hx := C.1
  have hb := C.2.1
  have hl : lv_has ls 3 [(0, .ref (ad 0)), (1, .ref (ad 12))] := hl
  have h := (f_X4_keep_ahead.eq_1 _ ).symm.trans h
  refine lv_iconst (v := 0) hx hb dX4_keep_0 (by decide) ?_
  refine lv_istore_n (lv' := [(2, .int 0), (0, .ref (ad 0)), (1, .ref (ad 12))]) hx hb dX4_keep_1 rfl hl (by decide) rfl (fun ls hl => ?_)
  have hL2 : ∀ (k31 : MM → Option MM) (hk31 : ∀  (σk : MM) (H : Heap) (locs : List Loc) (ls : Array Slot), k31  σk = some σ' → PS ev 13 ad (mw ev ad σk) (inA ad 13) s H locs → lv_has ls 3 [(0, .ref (ad 0)), (1, .ref (ad 12))] → WW ev p l e (rmk 0 0) s m args below meth c Qc ad 13 H locs 31 ls []) (n : Nat) (x1 : Int32) (σ2 : MM) (H : Heap) (locs : List Loc) (ls : Array Slot), lp (fun _ _ => none) (f_X4_keep_ahead_L2_b  k31) n x1 σ2 = some σ' → PS ev 13 ad (mw ev ad σ2) (inA ad 13) s H locs → lv_has ls 3 [(0, .ref (ad 0)), (1, .ref (ad 12)), (2, .int x1)] → WW ev p l e (rmk 0 0) s m args below meth c Qc ad 13 H locs 2 ls [] := by
    intro k31 hk31 n
    induction n with
    | zero =>
      intro x1 σ2 H locs ls h; exact k_none h
    | succ n ih =>
      intro x1 σ2 H locs ls h hP hl
      have h : f_X4_keep_ahead_L2_b  k31 (lp (fun _ _ => none) (f_X4_keep_ahead_L2_b  k31) n) x1 σ2 = some σ' := h
      have h := (f_X4_keep_ahead_L2_b.eq_1 _ _ _ _ ).symm.trans h
      refine lv_iload_n hx hb dX4_keep_2 rfl (lv_at hl 2 rfl) ?_
      refine lv_bipush (v := 40) hx hb dX4_keep_3 (by decide) ?_
      refine lv_icmp_ge (tgt := 31) hx hb dX4_keep_5 (by decide) (fun c5 => ?_) (fun c5 => ?_)
      · have h := k_if c5 h
        exact hk31 _ _ _ _ h hP (lv_sub hl [0, 1] rfl)
      · have h := k_nf c5 h
        refine lv_aload_n hx hb dX4_keep_8 rfl (lv_at hl 1 rfl) ?_
        refine lv_iload_n hx hb dX4_keep_9 rfl (lv_at hl 2 rfl) ?_
        refine lv_aload_n hx hb dX4_keep_10 rfl (lv_at hl 0 rfl) ?_
        refine r_get C hP (ci := 4) rfl uin_X4 2 (by decide) 0 (by decide) rfl qFL_RX4_7 rfl rfl dX4_keep_11 ?_
        refine lv_iload_n hx hb dX4_keep_14 rfl (lv_at hl 2 rfl) ?_
        obtain ⟨hg, h⟩ := k_gd h
        refine r_zald C hP 1 (by decide) rfl hg dX4_keep_15 ?_
        refine lv_if_eq (tgt := 23) hx hb dX4_keep_16 (by decide) (fun c16 => ?_) (fun c16 => ?_)
        · have h := k_if c16 h
          refine lv_iconst (v := 0) hx hb dX4_keep_23 (by decide) ?_
          obtain ⟨hg, h⟩ := k_gd h
          obtain ⟨σ3, eσ3, h⟩ := k_ltx h
          refine st_M_ahead C hP hap hAA eσ3 hg dX4_keep_24 (fun H locs hP => ?_)
          obtain ⟨x4, ex4, h⟩ := k_ltx h
          refine lv_iinc (v := x4) (lv' := [(2, .int x4), (0, .ref (ad 0)), (1, .ref (ad 12))]) hx hb dX4_keep_25 hl (k := 2) rfl (by rw [ex4]; rfl) (by decide) rfl (fun ls hl => ?_)
          refine lv_goto (tgt := 2) hx hb dX4_keep_28 (by decide) ?_
          exact ih _ _ _ _ _ h hP (lv_sub hl [1, 2, 0] rfl)
        · have h := k_nf c16 h
          refine lv_iconst (v := 1) hx hb dX4_keep_19 (by decide) ?_
          refine lv_goto (tgt := 24) hx hb dX4_keep_20 (by decide) ?_
          obtain ⟨hg, h⟩ := k_gd h
          obtain ⟨σ5, eσ5, h⟩ := k_ltx h
          refine st_M_ahead C hP hap hAA eσ5 hg dX4_keep_24 (fun H locs hP => ?_)
          obtain ⟨x6, ex6, h⟩ := k_ltx h
          refine lv_iinc (v := x6) (lv' := [(2, .int x6), (0, .ref (ad 0)), (1, .ref (ad 12))]) hx hb dX4_keep_25 hl (k := 2) rfl (by rw [ex6]; rfl) (by decide) rfl (fun ls hl => ?_)
          refine lv_goto (tgt := 2) hx hb dX4_keep_28 (by decide) ?_
          exact ih _ _ _ _ _ h hP (lv_sub hl [1, 2, 0] rfl)
  refine hL2 _ (fun σ7 H locs ls h hP hl => ?_) FU _ _ _ _ _ h hP (lv_sub hl [1, 2, 0] rfl)
  refine lv_iconst (v := 0) hx hb dX4_keep_31 (by decide) ?_
  refine lv_istore_n (lv' := [(2, .int 0), (0, .ref (ad 0)), (1, .ref (ad 12))]) hx hb dX4_keep_32 rfl hl (by decide) rfl (fun ls hl => ?_)
  have hL33 : ∀ (k77 : MM → Option MM) (hk77 : ∀  (σk : MM) (H : Heap) (locs : List Loc) (ls : Array Slot), k77  σk = some σ' → PS ev 13 ad (mw ev ad σk) (inA ad 13) s H locs → lv_has ls 3 [(0, .ref (ad 0)), (1, .ref (ad 12))] → WW ev p l e (rmk 0 0) s m args below meth c Qc ad 13 H locs 77 ls []) (n : Nat) (x8 : Int32) (σ9 : MM) (H : Heap) (locs : List Loc) (ls : Array Slot), lp (fun _ _ => none) (f_X4_keep_ahead_L33_b  k77) n x8 σ9 = some σ' → PS ev 13 ad (mw ev ad σ9) (inA ad 13) s H locs → lv_has ls 3 [(0, .ref (ad 0)), (1, .ref (ad 12)), (2, .int x8)] → WW ev p l e (rmk 0 0) s m args below meth c Qc ad 13 H locs 33 ls [] := by
    intro k77 hk77 n
    induction n with
    | zero =>
      intro x8 σ9 H locs ls h; exact k_none h
    | succ n ih =>
      intro x8 σ9 H locs ls h hP hl
      have h : f_X4_keep_ahead_L33_b  k77 (lp (fun _ _ => none) (f_X4_keep_ahead_L33_b  k77) n) x8 σ9 = some σ' := h
      have h := (f_X4_keep_ahead_L33_b.eq_1 _ _ _ _ ).symm.trans h
      have hB58 : ∀ (x10 : Int32) (x11 : Int32) (x12 : Int32) (σ13 : MM) (H : Heap) (locs : List Loc) (ls : Array Slot), f_X4_keep_ahead_b58 (lp (fun _ _ => none) (f_X4_keep_ahead_L33_b  k77) n) x10 x11 x12 σ13 = some σ' → PS ev 13 ad (mw ev ad σ13) (inA ad 13) s H locs → lv_has ls 3 [(0, .ref (ad 0)), (1, .ref (ad 12)), (2, .int x10)] → WW ev p l e (rmk 0 0) s m args below meth c Qc ad 13 H locs 58 ls [.int x11, .int x12, .ref (ad 12)] := by
        intro x10 x11 x12 σ13 H locs ls h hP hl
        have h := (f_X4_keep_ahead_b58.eq_1 _ _ _ _ _ ).symm.trans h
        obtain ⟨hg, h⟩ := k_gd h
        obtain ⟨σ14, eσ14, h⟩ := k_ltx h
        refine st_M_ahead C hP hap hAA eσ14 hg dX4_keep_58 (fun H locs hP => ?_)
        refine lv_aload_n hx hb dX4_keep_59 rfl (lv_at hl 1 rfl) ?_
        refine lv_bipush (v := 56) hx hb dX4_keep_60 (by decide) ?_
        refine lv_iload_n hx hb dX4_keep_62 rfl (lv_at hl 2 rfl) ?_
        refine lv_iadd hx hb dX4_keep_63 ?_
        refine lv_aload_n hx hb dX4_keep_64 rfl (lv_at hl 0 rfl) ?_
        refine r_get C hP (ci := 4) rfl uin_X4 4 (by decide) 0 (by decide) rfl qFL_RX4_16 rfl rfl dX4_keep_65 ?_
        refine lv_iload_n hx hb dX4_keep_68 rfl (lv_at hl 2 rfl) ?_
        obtain ⟨hg, h⟩ := k_gd h
        refine r_iald C hP 3 (by decide) rfl hg dX4_keep_69 ?_
        obtain ⟨hg, h⟩ := k_gd h
        obtain ⟨σ15, eσ15, h⟩ := k_ltx h
        refine st_M_ahead C hP hap hAA eσ15 hg dX4_keep_70 (fun H locs hP => ?_)
        obtain ⟨x16, ex16, h⟩ := k_ltx h
        refine lv_iinc (v := x16) (lv' := [(2, .int x16), (0, .ref (ad 0)), (1, .ref (ad 12))]) hx hb dX4_keep_71 hl (k := 2) rfl (by rw [ex16]; rfl) (by decide) rfl (fun ls hl => ?_)
        refine lv_goto (tgt := 33) hx hb dX4_keep_74 (by decide) ?_
        exact ih _ _ _ _ _ h hP (lv_sub hl [1, 2, 0] rfl)
      refine lv_iload_n hx hb dX4_keep_33 rfl (lv_at hl 2 rfl) ?_
      refine lv_bipush (v := 16) hx hb dX4_keep_34 (by decide) ?_
      refine lv_icmp_ge (tgt := 77) hx hb dX4_keep_36 (by decide) (fun c36 => ?_) (fun c36 => ?_)
      · have h := k_if c36 h
        exact hk77 _ _ _ _ h hP (lv_sub hl [0, 1] rfl)
      · have h := k_nf c36 h
        refine lv_aload_n hx hb dX4_keep_39 rfl (lv_at hl 1 rfl) ?_
        refine lv_bipush (v := 40) hx hb dX4_keep_40 (by decide) ?_
        refine lv_iload_n hx hb dX4_keep_42 rfl (lv_at hl 2 rfl) ?_
        refine lv_iadd hx hb dX4_keep_43 ?_
        refine lv_aload_n hx hb dX4_keep_44 rfl (lv_at hl 0 rfl) ?_
        refine r_get C hP (ci := 4) rfl uin_X4 3 (by decide) 0 (by decide) rfl qFL_RX4_13 rfl rfl dX4_keep_45 ?_
        refine lv_iload_n hx hb dX4_keep_48 rfl (lv_at hl 2 rfl) ?_
        obtain ⟨hg, h⟩ := k_gd h
        refine r_zald C hP 2 (by decide) rfl hg dX4_keep_49 ?_
        refine lv_if_eq (tgt := 57) hx hb dX4_keep_50 (by decide) (fun c50 => ?_) (fun c50 => ?_)
        · have h := k_if c50 h
          refine lv_iconst (v := 0) hx hb dX4_keep_57 (by decide) ?_
          exact hB58 _ _ _ _ _ _ _ h hP (lv_sub hl [0, 1, 2] rfl)
        · have h := k_nf c50 h
          refine lv_iconst (v := 1) hx hb dX4_keep_53 (by decide) ?_
          refine lv_goto (tgt := 58) hx hb dX4_keep_54 (by decide) ?_
          exact hB58 _ _ _ _ _ _ _ h hP (lv_sub hl [0, 1, 2] rfl)
  refine hL33 _ (fun σ17 H locs ls h hP hl => ?_) FU _ _ _ _ _ h hP (lv_sub hl [1, 2, 0] rfl)
  refine lv_iconst (v := 0) hx hb dX4_keep_77 (by decide) ?_
  refine lv_istore_n (lv' := [(2, .int 0), (0, .ref (ad 0)), (1, .ref (ad 12))]) hx hb dX4_keep_78 rfl hl (by decide) rfl (fun ls hl => ?_)
  have hL79 : ∀ (k115 : MM → Option MM) (hk115 : ∀  (σk : MM) (H : Heap) (locs : List Loc) (ls : Array Slot), k115  σk = some σ' → PS ev 13 ad (mw ev ad σk) (inA ad 13) s H locs → lv_has ls 3 [(0, .ref (ad 0)), (1, .ref (ad 12))] → WW ev p l e (rmk 0 0) s m args below meth c Qc ad 13 H locs 115 ls []) (n : Nat) (x18 : Int32) (σ19 : MM) (H : Heap) (locs : List Loc) (ls : Array Slot), lp (fun _ _ => none) (f_X4_keep_ahead_L79_b  k115) n x18 σ19 = some σ' → PS ev 13 ad (mw ev ad σ19) (inA ad 13) s H locs → lv_has ls 3 [(0, .ref (ad 0)), (1, .ref (ad 12)), (2, .int x18)] → WW ev p l e (rmk 0 0) s m args below meth c Qc ad 13 H locs 79 ls [] := by
    intro k115 hk115 n
    induction n with
    | zero =>
      intro x18 σ19 H locs ls h; exact k_none h
    | succ n ih =>
      intro x18 σ19 H locs ls h hP hl
      have h : f_X4_keep_ahead_L79_b  k115 (lp (fun _ _ => none) (f_X4_keep_ahead_L79_b  k115) n) x18 σ19 = some σ' := h
      have h := (f_X4_keep_ahead_L79_b.eq_1 _ _ _ _ ).symm.trans h
      refine lv_iload_n hx hb dX4_keep_79 rfl (lv_at hl 2 rfl) ?_
      refine lv_bipush (v := 6) hx hb dX4_keep_80 (by decide) ?_
      refine lv_icmp_ge (tgt := 115) hx hb dX4_keep_82 (by decide) (fun c82 => ?_) (fun c82 => ?_)
      · have h := k_if c82 h
        exact hk115 _ _ _ _ h hP (lv_sub hl [0, 1] rfl)
      · have h := k_nf c82 h
        refine lv_aload_n hx hb dX4_keep_85 rfl (lv_at hl 1 rfl) ?_
        refine lv_bipush (v := 72) hx hb dX4_keep_86 (by decide) ?_
        refine lv_iload_n hx hb dX4_keep_88 rfl (lv_at hl 2 rfl) ?_
        refine lv_iadd hx hb dX4_keep_89 ?_
        refine lv_aload_n hx hb dX4_keep_90 rfl (lv_at hl 0 rfl) ?_
        refine r_get C hP (ci := 4) rfl uin_X4 8 (by decide) 0 (by decide) rfl qFL_RX4_20 rfl rfl dX4_keep_91 ?_
        refine lv_iload_n hx hb dX4_keep_94 rfl (lv_at hl 2 rfl) ?_
        obtain ⟨hg, h⟩ := k_gd h
        refine r_iald C hP 4 (by decide) rfl hg dX4_keep_95 ?_
        obtain ⟨hg, h⟩ := k_gd h
        obtain ⟨σ20, eσ20, h⟩ := k_ltx h
        refine st_M_ahead C hP hap hAA eσ20 hg dX4_keep_96 (fun H locs hP => ?_)
        refine lv_aload_n hx hb dX4_keep_97 rfl (lv_at hl 1 rfl) ?_
        refine lv_bipush (v := 78) hx hb dX4_keep_98 (by decide) ?_
        refine lv_iload_n hx hb dX4_keep_100 rfl (lv_at hl 2 rfl) ?_
        refine lv_iadd hx hb dX4_keep_101 ?_
        refine lv_aload_n hx hb dX4_keep_102 rfl (lv_at hl 0 rfl) ?_
        refine r_get C hP (ci := 4) rfl uin_X4 9 (by decide) 0 (by decide) rfl qFL_RX4_23 rfl rfl dX4_keep_103 ?_
        refine lv_iload_n hx hb dX4_keep_106 rfl (lv_at hl 2 rfl) ?_
        obtain ⟨hg, h⟩ := k_gd h
        refine r_iald C hP 5 (by decide) rfl hg dX4_keep_107 ?_
        obtain ⟨hg, h⟩ := k_gd h
        obtain ⟨σ21, eσ21, h⟩ := k_ltx h
        refine st_M_ahead C hP hap hAA eσ21 hg dX4_keep_108 (fun H locs hP => ?_)
        obtain ⟨x22, ex22, h⟩ := k_ltx h
        refine lv_iinc (v := x22) (lv' := [(2, .int x22), (0, .ref (ad 0)), (1, .ref (ad 12))]) hx hb dX4_keep_109 hl (k := 2) rfl (by rw [ex22]; rfl) (by decide) rfl (fun ls hl => ?_)
        refine lv_goto (tgt := 79) hx hb dX4_keep_112 (by decide) ?_
        exact ih _ _ _ _ _ h hP (lv_sub hl [1, 2, 0] rfl)
  refine hL79 _ (fun σ23 H locs ls h hP hl => ?_) FU _ _ _ _ _ h hP (lv_sub hl [1, 2, 0] rfl)
  refine lv_aload_n hx hb dX4_keep_115 rfl (lv_at hl 1 rfl) ?_
  refine lv_bipush (v := 84) hx hb dX4_keep_116 (by decide) ?_
  refine lv_aload_n hx hb dX4_keep_118 rfl (lv_at hl 0 rfl) ?_
  refine r_get C hP (ci := 4) rfl uin_X4 0 (by decide) 0 (by decide) rfl qFL_RX4_67 rfl rfl dX4_keep_119 ?_
  obtain ⟨hg, h⟩ := k_gd h
  obtain ⟨σ24, eσ24, h⟩ := k_ltx h
  refine st_M_ahead C hP hap hAA eσ24 hg dX4_keep_122 (fun H locs hP => ?_)
  refine lv_aload_n hx hb dX4_keep_123 rfl (lv_at hl 1 rfl) ?_
  refine lv_bipush (v := 85) hx hb dX4_keep_124 (by decide) ?_
  refine lv_aload_n hx hb dX4_keep_126 rfl (lv_at hl 0 rfl) ?_
  refine r_get C hP (ci := 4) rfl uin_X4 1 (by decide) 0 (by decide) rfl qFL_RX4_70 rfl rfl dX4_keep_127 ?_
  obtain ⟨hg, h⟩ := k_gd h
  obtain ⟨σ25, eσ25, h⟩ := k_ltx h
  refine st_M_ahead C hP hap hAA eσ25 hg dX4_keep_130 (fun H locs hP => ?_)
  refine lv_aload_n hx hb dX4_keep_131 rfl (lv_at hl 1 rfl) ?_
  refine lv_bipush (v := 86) hx hb dX4_keep_132 (by decide) ?_
  refine lv_aload_n hx hb dX4_keep_134 rfl (lv_at hl 0 rfl) ?_
  refine r_get C hP (ci := 4) rfl uin_X4 5 (by decide) 0 (by decide) rfl qFL_RX4_101 rfl rfl dX4_keep_135 ?_
  obtain ⟨hg, h⟩ := k_gd h
  obtain ⟨σ26, eσ26, h⟩ := k_ltx h
  refine st_M_ahead C hP hap hAA eσ26 hg dX4_keep_138 (fun H locs hP => ?_)
  refine lv_aload_n hx hb dX4_keep_139 rfl (lv_at hl 1 rfl) ?_
  refine lv_bipush (v := 87) hx hb dX4_keep_140 (by decide) ?_
  refine lv_aload_n hx hb dX4_keep_142 rfl (lv_at hl 0 rfl) ?_
  refine r_get C hP (ci := 4) rfl uin_X4 6 (by decide) 0 (by decide) rfl qFL_RX4_104 rfl rfl dX4_keep_143 ?_
  obtain ⟨hg, h⟩ := k_gd h
  obtain ⟨σ27, eσ27, h⟩ := k_ltx h
  refine st_M_ahead C hP hap hAA eσ27 hg dX4_keep_146 (fun H locs hP => ?_)
  refine lv_aload_n hx hb dX4_keep_147 rfl (lv_at hl 1 rfl) ?_
  refine lv_bipush (v := 88) hx hb dX4_keep_148 (by decide) ?_
  refine lv_aload_n hx hb dX4_keep_150 rfl (lv_at hl 0 rfl) ?_
  refine r_get C hP (ci := 4) rfl uin_X4 7 (by decide) 0 (by decide) rfl qFL_RX4_60 rfl rfl dX4_keep_151 ?_
  obtain ⟨hg, h⟩ := k_gd h
  obtain ⟨σ28, eσ28, h⟩ := k_ltx h
  refine st_M_ahead C hP hap hAA eσ28 hg dX4_keep_154 (fun H locs hP => ?_)
  refine lv_aload_n hx hb dX4_keep_155 rfl (lv_at hl 1 rfl) ?_
  refine lv_bipush (v := 89) hx hb dX4_keep_156 (by decide) ?_
  refine lv_aload_n hx hb dX4_keep_158 rfl (lv_at hl 0 rfl) ?_
  refine r_get C hP (ci := 4) rfl uin_X4 10 (by decide) 0 (by decide) rfl qFL_RX4_48 rfl rfl dX4_keep_159 ?_
  obtain ⟨hg, h⟩ := k_gd h
  obtain ⟨σ29, eσ29, h⟩ := k_ltx h
  refine st_M_ahead C hP hap hAA eσ29 hg dX4_keep_162 (fun H locs hP => ?_)
  exact e_vret C hend hP (congrArg (mw ev ad) (k_some h)) dX4_keep_163
def f_X4_again_ahead_L2_b  (k32 : MM → Option MM) (rec2 : Int32 → MM → Option MM) (x1 : Int32) (σ2 : MM) : Option MM :=
  if 40 ≤ x1 then k32 σ2 else gd (inb x1 90) (if ((m_ahead σ2) (x1).toNatClampNeg) = 1 then gd (inb x1 40) (lt (m_hedge' σ2 (upd (m_hedge σ2) (x1).toNatClampNeg (vp_nar .boolean 1))) (fun σ5 => lt (x1 + 1) (fun x6 => rec2 x6 σ5))) else gd (inb x1 40) (lt (m_hedge' σ2 (upd (m_hedge σ2) (x1).toNatClampNeg (vp_nar .boolean 0))) (fun σ3 => lt (x1 + 1) (fun x4 => rec2 x4 σ3))))
def f_X4_again_ahead_L2  (k32 : MM → Option MM) (x1 : Int32) (σ2 : MM) : Option MM :=
  lp (fun _ _ => none) (f_X4_again_ahead_L2_b  k32) FU x1 σ2
def f_X4_again_ahead_b60 (rec34 : Int32 → MM → Option MM) (x10 : Int32) (x11 : Int32) (x12 : Int32) (σ13 : MM) : Option MM :=
  gd (inb x12 16) (lt (m_dug' σ13 (upd (m_dug σ13) (x12).toNatClampNeg (vp_nar .boolean x11))) (fun σ14 => gd (inb (56 + x10) 90) (gd (inb x10 16) (lt (m_owner' σ14 (upd (m_owner σ14) (x10).toNatClampNeg ((m_ahead σ14) ((56 + x10)).toNatClampNeg))) (fun σ15 => lt (x10 + 1) (fun x16 => rec34 x16 σ15))))))
def f_X4_again_ahead_L34_b  (k79 : MM → Option MM) (rec34 : Int32 → MM → Option MM) (x8 : Int32) (σ9 : MM) : Option MM :=
  if 16 ≤ x8 then k79 σ9 else gd (inb (40 + x8) 90) (if ((m_ahead σ9) ((40 + x8)).toNatClampNeg) = 1 then f_X4_again_ahead_b60 rec34 x8 1 x8 σ9 else f_X4_again_ahead_b60 rec34 x8 0 x8 σ9)
def f_X4_again_ahead_L34  (k79 : MM → Option MM) (x8 : Int32) (σ9 : MM) : Option MM :=
  lp (fun _ _ => none) (f_X4_again_ahead_L34_b  k79) FU x8 σ9
def f_X4_again_ahead_L81_b  (k117 : MM → Option MM) (rec81 : Int32 → MM → Option MM) (x18 : Int32) (σ19 : MM) : Option MM :=
  if 6 ≤ x18 then k117 σ19 else gd (inb (72 + x18) 90) (gd (inb x18 6) (lt (m_kind' σ19 (upd (m_kind σ19) (x18).toNatClampNeg ((m_ahead σ19) ((72 + x18)).toNatClampNeg))) (fun σ20 => gd (inb (78 + x18) 90) (gd (inb x18 6) (lt (m_own' σ20 (upd (m_own σ20) (x18).toNatClampNeg ((m_ahead σ20) ((78 + x18)).toNatClampNeg))) (fun σ21 => lt (x18 + 1) (fun x22 => rec81 x22 σ21)))))))
def f_X4_again_ahead_L81  (k117 : MM → Option MM) (x18 : Int32) (σ19 : MM) : Option MM :=
  lp (fun _ _ => none) (f_X4_again_ahead_L81_b  k117) FU x18 σ19
def f_X4_again_ahead (σ : MM) : Option MM :=
  f_X4_again_ahead_L2 (fun σ7 => f_X4_again_ahead_L34 (fun σ17 => f_X4_again_ahead_L81 (fun σ23 => gd (inb 84 90) (lt (m_w' σ23 ((m_ahead σ23) (84).toNatClampNeg)) (fun σ24 => gd (inb 85 90) (lt (m_h' σ24 ((m_ahead σ24) (85).toNatClampNeg)) (fun σ25 => gd (inb 86 90) (lt (m_turn' σ25 ((m_ahead σ25) (86).toNatClampNeg)) (fun σ26 => gd (inb 87 90) (lt (m_made' σ26 ((m_ahead σ26) (87).toNatClampNeg)) (fun σ27 => gd (inb 88 90) (lt (m_players' σ27 ((m_ahead σ27) (88).toNatClampNeg)) (fun σ28 => gd (inb 89 90) (lt (m_seed' σ28 ((m_ahead σ28) (89).toNatClampNeg)) (fun σ29 => some σ29))))))))))))) 0 σ17) 0 σ7) 0 σ
set_option maxHeartbeats 4000000 in
set_option maxRecDepth 100000 in
theorem c_X4_again_ahead (l : Launch) (ev : EV) (ad : Nat → Nat) (σ : MM)    (σ' : MM) (h : f_X4_again_ahead σ = some σ') : Ct l yX4_again prog_6_method_117_code 3 (Option.none : Option Jvm.ClassFile.FieldType) (rmk 0 0) ev 13 ad (mw ev ad σ) (mw ev ad σ') [.ref (ad 0), .ref (ad 12)] none := by
  refine Ct.of (by decide +kernel) (Nat.le_of_ble_eq_true rfl) ?_
  intro p e s m args below meth c Qc C hap hP hend ls hl
  have hAA : ∀ j, j < 13 → inA ad 13 (ad j) := fun j hj => ⟨j, hj, rfl⟩
  have hx := C.1
  have hb := C.2.1
  have hl : lv_has ls 3 [(0, .ref (ad 0)), (1, .ref (ad 12))] := hl
  have h := (f_X4_again_ahead.eq_1 _ ).symm.trans h
  refine lv_iconst (v := 0) hx hb dX4_again_0 (by decide) ?_
  refine lv_istore_n (lv' := [(2, .int 0), (0, .ref (ad 0)), (1, .ref (ad 12))]) hx hb dX4_again_1 rfl hl (by decide) rfl (fun ls hl => ?_)
  have hL2 : ∀ (k32 : MM → Option MM) (hk32 : ∀  (σk : MM) (H : Heap) (locs : List Loc) (ls : Array Slot), k32  σk = some σ' → PS ev 13 ad (mw ev ad σk) (inA ad 13) s H locs → lv_has ls 3 [(0, .ref (ad 0)), (1, .ref (ad 12))] → WW ev p l e (rmk 0 0) s m args below meth c Qc ad 13 H locs 32 ls []) (n : Nat) (x1 : Int32) (σ2 : MM) (H : Heap) (locs : List Loc) (ls : Array Slot), lp (fun _ _ => none) (f_X4_again_ahead_L2_b  k32) n x1 σ2 = some σ' → PS ev 13 ad (mw ev ad σ2) (inA ad 13) s H locs → lv_has ls 3 [(0, .ref (ad 0)), (1, .ref (ad 12)), (2, .int x1)] → WW ev p l e (rmk 0 0) s m args below meth c Qc ad 13 H locs 2 ls [] := by
    intro k32 hk32 n
    induction n with
    | zero =>
      intro x1 σ2 H locs ls h; exact k_none h
    | succ n ih =>
      intro x1 σ2 H locs ls h hP hl
      have h : f_X4_again_ahead_L2_b  k32 (lp (fun _ _ => none) (f_X4_again_ahead_L2_b  k32) n) x1 σ2 = some σ' := h
      have h := (f_X4_again_ahead_L2_b.eq_1 _ _ _ _ ).symm.trans h
      refine lv_iload_n hx hb dX4_again_2 rfl (lv_at hl 2 rfl) ?_
      refine lv_bipush (v := 40) hx hb dX4_again_3 (by decide) ?_
      refine lv_icmp_ge (tgt := 32) hx hb dX4_again_5 (by decide) (fun c5 => ?_) (fun c5 => ?_)
      · have h := k_if c5 h
        exact hk32 _ _ _ _ h hP (lv_sub hl [0, 1] rfl)
      · have h := k_nf c5 h
        refine lv_aload_n hx hb dX4_again_8 rfl (lv_at hl 0 rfl) ?_
        refine r_get C hP (ci := 4) rfl uin_X4 2 (by decide) 0 (by decide) rfl qFL_RX4_7 rfl rfl dX4_again_9 ?_
        refine lv_iload_n hx hb dX4_again_12 rfl (lv_at hl 2 rfl) ?_
        refine lv_aload_n hx hb dX4_again_13 rfl (lv_at hl 1 rfl) ?_
        refine lv_iload_n hx hb dX4_again_14 rfl (lv_at hl 2 rfl) ?_
        obtain ⟨hg, h⟩ := k_gd h
        refine r_iald C hP 12 (by decide) rfl hg dX4_again_15 ?_
        refine lv_iconst (v := 1) hx hb dX4_again_16 (by decide) ?_
        refine lv_icmp_ne (tgt := 24) hx hb dX4_again_17 (by decide) (fun c17 => ?_) (fun c17 => ?_)
        · have h := k_nf c17 h
          refine lv_iconst (v := 0) hx hb dX4_again_24 (by decide) ?_
          obtain ⟨hg, h⟩ := k_gd h
          obtain ⟨σ3, eσ3, h⟩ := k_ltx h
          refine st_M_hedge C hP hap hAA eσ3 hg dX4_again_25 (fun H locs hP => ?_)
          obtain ⟨x4, ex4, h⟩ := k_ltx h
          refine lv_iinc (v := x4) (lv' := [(2, .int x4), (0, .ref (ad 0)), (1, .ref (ad 12))]) hx hb dX4_again_26 hl (k := 2) rfl (by rw [ex4]; rfl) (by decide) rfl (fun ls hl => ?_)
          refine lv_goto (tgt := 2) hx hb dX4_again_29 (by decide) ?_
          exact ih _ _ _ _ _ h hP (lv_sub hl [1, 2, 0] rfl)
        · have h := k_if c17 h
          refine lv_iconst (v := 1) hx hb dX4_again_20 (by decide) ?_
          refine lv_goto (tgt := 25) hx hb dX4_again_21 (by decide) ?_
          obtain ⟨hg, h⟩ := k_gd h
          obtain ⟨σ5, eσ5, h⟩ := k_ltx h
          refine st_M_hedge C hP hap hAA eσ5 hg dX4_again_25 (fun H locs hP => ?_)
          obtain ⟨x6, ex6, h⟩ := k_ltx h
          refine lv_iinc (v := x6) (lv' := [(2, .int x6), (0, .ref (ad 0)), (1, .ref (ad 12))]) hx hb dX4_again_26 hl (k := 2) rfl (by rw [ex6]; rfl) (by decide) rfl (fun ls hl => ?_)
          refine lv_goto (tgt := 2) hx hb dX4_again_29 (by decide) ?_
          exact ih _ _ _ _ _ h hP (lv_sub hl [1, 2, 0] rfl)
  refine hL2 _ (fun σ7 H locs ls h hP hl => ?_) FU _ _ _ _ _ h hP (lv_sub hl [1, 2, 0] rfl)
  refine lv_iconst (v := 0) hx hb dX4_again_32 (by decide) ?_
  refine lv_istore_n (lv' := [(2, .int 0), (0, .ref (ad 0)), (1, .ref (ad 12))]) hx hb dX4_again_33 rfl hl (by decide) rfl (fun ls hl => ?_)
  have hL34 : ∀ (k79 : MM → Option MM) (hk79 : ∀  (σk : MM) (H : Heap) (locs : List Loc) (ls : Array Slot), k79  σk = some σ' → PS ev 13 ad (mw ev ad σk) (inA ad 13) s H locs → lv_has ls 3 [(0, .ref (ad 0)), (1, .ref (ad 12))] → WW ev p l e (rmk 0 0) s m args below meth c Qc ad 13 H locs 79 ls []) (n : Nat) (x8 : Int32) (σ9 : MM) (H : Heap) (locs : List Loc) (ls : Array Slot), lp (fun _ _ => none) (f_X4_again_ahead_L34_b  k79) n x8 σ9 = some σ' → PS ev 13 ad (mw ev ad σ9) (inA ad 13) s H locs → lv_has ls 3 [(0, .ref (ad 0)), (1, .ref (ad 12)), (2, .int x8)] → WW ev p l e (rmk 0 0) s m args below meth c Qc ad 13 H locs 34 ls [] := by
    intro k79 hk79 n
    induction n with
    | zero =>
      intro x8 σ9 H locs ls h; exact k_none h
    | succ n ih =>
      intro x8 σ9 H locs ls h hP hl
      have h : f_X4_again_ahead_L34_b  k79 (lp (fun _ _ => none) (f_X4_again_ahead_L34_b  k79) n) x8 σ9 = some σ' := h
      have h := (f_X4_again_ahead_L34_b.eq_1 _ _ _ _ ).symm.trans h
      have hB60 : ∀ (x10 : Int32) (x11 : Int32) (x12 : Int32) (σ13 : MM) (H : Heap) (locs : List Loc) (ls : Array Slot), f_X4_again_ahead_b60 (lp (fun _ _ => none) (f_X4_again_ahead_L34_b  k79) n) x10 x11 x12 σ13 = some σ' → PS ev 13 ad (mw ev ad σ13) (inA ad 13) s H locs → lv_has ls 3 [(0, .ref (ad 0)), (1, .ref (ad 12)), (2, .int x10)] → WW ev p l e (rmk 0 0) s m args below meth c Qc ad 13 H locs 60 ls [.int x11, .int x12, .ref (ad 2)] := by
        intro x10 x11 x12 σ13 H locs ls h hP hl
        have h := (f_X4_again_ahead_b60.eq_1 _ _ _ _ _ ).symm.trans h
        obtain ⟨hg, h⟩ := k_gd h
        obtain ⟨σ14, eσ14, h⟩ := k_ltx h
        refine st_M_dug C hP hap hAA eσ14 hg dX4_again_60 (fun H locs hP => ?_)
        refine lv_aload_n hx hb dX4_again_61 rfl (lv_at hl 0 rfl) ?_
        refine r_get C hP (ci := 4) rfl uin_X4 4 (by decide) 0 (by decide) rfl qFL_RX4_16 rfl rfl dX4_again_62 ?_
        refine lv_iload_n hx hb dX4_again_65 rfl (lv_at hl 2 rfl) ?_
        refine lv_aload_n hx hb dX4_again_66 rfl (lv_at hl 1 rfl) ?_
        refine lv_bipush (v := 56) hx hb dX4_again_67 (by decide) ?_
        refine lv_iload_n hx hb dX4_again_69 rfl (lv_at hl 2 rfl) ?_
        refine lv_iadd hx hb dX4_again_70 ?_
        obtain ⟨hg, h⟩ := k_gd h
        refine r_iald C hP 12 (by decide) rfl hg dX4_again_71 ?_
        obtain ⟨hg, h⟩ := k_gd h
        obtain ⟨σ15, eσ15, h⟩ := k_ltx h
        refine st_M_owner C hP hap hAA eσ15 hg dX4_again_72 (fun H locs hP => ?_)
        obtain ⟨x16, ex16, h⟩ := k_ltx h
        refine lv_iinc (v := x16) (lv' := [(2, .int x16), (0, .ref (ad 0)), (1, .ref (ad 12))]) hx hb dX4_again_73 hl (k := 2) rfl (by rw [ex16]; rfl) (by decide) rfl (fun ls hl => ?_)
        refine lv_goto (tgt := 34) hx hb dX4_again_76 (by decide) ?_
        exact ih _ _ _ _ _ h hP (lv_sub hl [1, 2, 0] rfl)
      refine lv_iload_n hx hb dX4_again_34 rfl (lv_at hl 2 rfl) ?_
      refine lv_bipush (v := 16) hx hb dX4_again_35 (by decide) ?_
      refine lv_icmp_ge (tgt := 79) hx hb dX4_again_37 (by decide) (fun c37 => ?_) (fun c37 => ?_)
      · have h := k_if c37 h
        exact hk79 _ _ _ _ h hP (lv_sub hl [0, 1] rfl)
      · have h := k_nf c37 h
        refine lv_aload_n hx hb dX4_again_40 rfl (lv_at hl 0 rfl) ?_
        refine r_get C hP (ci := 4) rfl uin_X4 3 (by decide) 0 (by decide) rfl qFL_RX4_13 rfl rfl dX4_again_41 ?_
        refine lv_iload_n hx hb dX4_again_44 rfl (lv_at hl 2 rfl) ?_
        refine lv_aload_n hx hb dX4_again_45 rfl (lv_at hl 1 rfl) ?_
        refine lv_bipush (v := 40) hx hb dX4_again_46 (by decide) ?_
        refine lv_iload_n hx hb dX4_again_48 rfl (lv_at hl 2 rfl) ?_
        refine lv_iadd hx hb dX4_again_49 ?_
        obtain ⟨hg, h⟩ := k_gd h
        refine r_iald C hP 12 (by decide) rfl hg dX4_again_50 ?_
        refine lv_iconst (v := 1) hx hb dX4_again_51 (by decide) ?_
        refine lv_icmp_ne (tgt := 59) hx hb dX4_again_52 (by decide) (fun c52 => ?_) (fun c52 => ?_)
        · have h := k_nf c52 h
          refine lv_iconst (v := 0) hx hb dX4_again_59 (by decide) ?_
          exact hB60 _ _ _ _ _ _ _ h hP (lv_sub hl [0, 1, 2] rfl)
        · have h := k_if c52 h
          refine lv_iconst (v := 1) hx hb dX4_again_55 (by decide) ?_
          refine lv_goto (tgt := 60) hx hb dX4_again_56 (by decide) ?_
          exact hB60 _ _ _ _ _ _ _ h hP (lv_sub hl [0, 1, 2] rfl)
  refine hL34 _ (fun σ17 H locs ls h hP hl => ?_) FU _ _ _ _ _ h hP (lv_sub hl [1, 2, 0] rfl)
  refine lv_iconst (v := 0) hx hb dX4_again_79 (by decide) ?_
  refine lv_istore_n (lv' := [(2, .int 0), (0, .ref (ad 0)), (1, .ref (ad 12))]) hx hb dX4_again_80 rfl hl (by decide) rfl (fun ls hl => ?_)
  have hL81 : ∀ (k117 : MM → Option MM) (hk117 : ∀  (σk : MM) (H : Heap) (locs : List Loc) (ls : Array Slot), k117  σk = some σ' → PS ev 13 ad (mw ev ad σk) (inA ad 13) s H locs → lv_has ls 3 [(0, .ref (ad 0)), (1, .ref (ad 12))] → WW ev p l e (rmk 0 0) s m args below meth c Qc ad 13 H locs 117 ls []) (n : Nat) (x18 : Int32) (σ19 : MM) (H : Heap) (locs : List Loc) (ls : Array Slot), lp (fun _ _ => none) (f_X4_again_ahead_L81_b  k117) n x18 σ19 = some σ' → PS ev 13 ad (mw ev ad σ19) (inA ad 13) s H locs → lv_has ls 3 [(0, .ref (ad 0)), (1, .ref (ad 12)), (2, .int x18)] → WW ev p l e (rmk 0 0) s m args below meth c Qc ad 13 H locs 81 ls [] := by
    intro k117 hk117 n
    induction n with
    | zero =>
      intro x18 σ19 H locs ls h; exact k_none h
    | succ n ih =>
      intro x18 σ19 H locs ls h hP hl
      have h : f_X4_again_ahead_L81_b  k117 (lp (fun _ _ => none) (f_X4_again_ahead_L81_b  k117) n) x18 σ19 = some σ' := h
      have h := (f_X4_again_ahead_L81_b.eq_1 _ _ _ _ ).symm.trans h
      refine lv_iload_n hx hb dX4_again_81 rfl (lv_at hl 2 rfl) ?_
      refine lv_bipush (v := 6) hx hb dX4_again_82 (by decide) ?_
      refine lv_icmp_ge (tgt := 117) hx hb dX4_again_84 (by decide) (fun c84 => ?_) (fun c84 => ?_)
      · have h := k_if c84 h
        exact hk117 _ _ _ _ h hP (lv_sub hl [0, 1] rfl)
      · have h := k_nf c84 h
        refine lv_aload_n hx hb dX4_again_87 rfl (lv_at hl 0 rfl) ?_
        refine r_get C hP (ci := 4) rfl uin_X4 8 (by decide) 0 (by decide) rfl qFL_RX4_20 rfl rfl dX4_again_88 ?_
        refine lv_iload_n hx hb dX4_again_91 rfl (lv_at hl 2 rfl) ?_
        refine lv_aload_n hx hb dX4_again_92 rfl (lv_at hl 1 rfl) ?_
        refine lv_bipush (v := 72) hx hb dX4_again_93 (by decide) ?_
        refine lv_iload_n hx hb dX4_again_95 rfl (lv_at hl 2 rfl) ?_
        refine lv_iadd hx hb dX4_again_96 ?_
        obtain ⟨hg, h⟩ := k_gd h
        refine r_iald C hP 12 (by decide) rfl hg dX4_again_97 ?_
        obtain ⟨hg, h⟩ := k_gd h
        obtain ⟨σ20, eσ20, h⟩ := k_ltx h
        refine st_M_kind C hP hap hAA eσ20 hg dX4_again_98 (fun H locs hP => ?_)
        refine lv_aload_n hx hb dX4_again_99 rfl (lv_at hl 0 rfl) ?_
        refine r_get C hP (ci := 4) rfl uin_X4 9 (by decide) 0 (by decide) rfl qFL_RX4_23 rfl rfl dX4_again_100 ?_
        refine lv_iload_n hx hb dX4_again_103 rfl (lv_at hl 2 rfl) ?_
        refine lv_aload_n hx hb dX4_again_104 rfl (lv_at hl 1 rfl) ?_
        refine lv_bipush (v := 78) hx hb dX4_again_105 (by decide) ?_
        refine lv_iload_n hx hb dX4_again_107 rfl (lv_at hl 2 rfl) ?_
        refine lv_iadd hx hb dX4_again_108 ?_
        obtain ⟨hg, h⟩ := k_gd h
        refine r_iald C hP 12 (by decide) rfl hg dX4_again_109 ?_
        obtain ⟨hg, h⟩ := k_gd h
        obtain ⟨σ21, eσ21, h⟩ := k_ltx h
        refine st_M_own C hP hap hAA eσ21 hg dX4_again_110 (fun H locs hP => ?_)
        obtain ⟨x22, ex22, h⟩ := k_ltx h
        refine lv_iinc (v := x22) (lv' := [(2, .int x22), (0, .ref (ad 0)), (1, .ref (ad 12))]) hx hb dX4_again_111 hl (k := 2) rfl (by rw [ex22]; rfl) (by decide) rfl (fun ls hl => ?_)
        refine lv_goto (tgt := 81) hx hb dX4_again_114 (by decide) ?_
        exact ih _ _ _ _ _ h hP (lv_sub hl [1, 2, 0] rfl)
  refine hL81 _ (fun σ23 H locs ls h hP hl => ?_) FU _ _ _ _ _ h hP (lv_sub hl [1, 2, 0] rfl)
  refine lv_aload_n hx hb dX4_again_117 rfl (lv_at hl 0 rfl) ?_
  refine lv_aload_n hx hb dX4_again_118 rfl (lv_at hl 1 rfl) ?_
  refine lv_bipush (v := 84) hx hb dX4_again_119 (by decide) ?_
  obtain ⟨hg, h⟩ := k_gd h
  refine r_iald C hP 12 (by decide) rfl hg dX4_again_121 ?_
  obtain ⟨σ24, eσ24, h⟩ := k_ltx h
  refine pt_M_X4_w C hP hap hAA eσ24 qFL_RX4_67 dX4_again_122 (fun H locs hP => ?_)
  refine lv_aload_n hx hb dX4_again_125 rfl (lv_at hl 0 rfl) ?_
  refine lv_aload_n hx hb dX4_again_126 rfl (lv_at hl 1 rfl) ?_
  refine lv_bipush (v := 85) hx hb dX4_again_127 (by decide) ?_
  obtain ⟨hg, h⟩ := k_gd h
  refine r_iald C hP 12 (by decide) rfl hg dX4_again_129 ?_
  obtain ⟨σ25, eσ25, h⟩ := k_ltx h
  refine pt_M_X4_h C hP hap hAA eσ25 qFL_RX4_70 dX4_again_130 (fun H locs hP => ?_)
  refine lv_aload_n hx hb dX4_again_133 rfl (lv_at hl 0 rfl) ?_
  refine lv_aload_n hx hb dX4_again_134 rfl (lv_at hl 1 rfl) ?_
  refine lv_bipush (v := 86) hx hb dX4_again_135 (by decide) ?_
  obtain ⟨hg, h⟩ := k_gd h
  refine r_iald C hP 12 (by decide) rfl hg dX4_again_137 ?_
  obtain ⟨σ26, eσ26, h⟩ := k_ltx h
  refine pt_M_X4_turn C hP hap hAA eσ26 qFL_RX4_101 dX4_again_138 (fun H locs hP => ?_)
  refine lv_aload_n hx hb dX4_again_141 rfl (lv_at hl 0 rfl) ?_
  refine lv_aload_n hx hb dX4_again_142 rfl (lv_at hl 1 rfl) ?_
  refine lv_bipush (v := 87) hx hb dX4_again_143 (by decide) ?_
  obtain ⟨hg, h⟩ := k_gd h
  refine r_iald C hP 12 (by decide) rfl hg dX4_again_145 ?_
  obtain ⟨σ27, eσ27, h⟩ := k_ltx h
  refine pt_M_X4_made C hP hap hAA eσ27 qFL_RX4_104 dX4_again_146 (fun H locs hP => ?_)
  refine lv_aload_n hx hb dX4_again_149 rfl (lv_at hl 0 rfl) ?_
  refine lv_aload_n hx hb dX4_again_150 rfl (lv_at hl 1 rfl) ?_
  refine lv_bipush (v := 88) hx hb dX4_again_151 (by decide) ?_
  obtain ⟨hg, h⟩ := k_gd h
  refine r_iald C hP 12 (by decide) rfl hg dX4_again_153 ?_
  obtain ⟨σ28, eσ28, h⟩ := k_ltx h
  refine pt_M_X4_players C hP hap hAA eσ28 qFL_RX4_60 dX4_again_154 (fun H locs hP => ?_)
  refine lv_aload_n hx hb dX4_again_157 rfl (lv_at hl 0 rfl) ?_
  refine lv_aload_n hx hb dX4_again_158 rfl (lv_at hl 1 rfl) ?_
  refine lv_bipush (v := 89) hx hb dX4_again_159 (by decide) ?_
  obtain ⟨hg, h⟩ := k_gd h
  refine r_iald C hP 12 (by decide) rfl hg dX4_again_161 ?_
  obtain ⟨σ29, eσ29, h⟩ := k_ltx h
  refine pt_M_X4_seed C hP hap hAA eσ29 qFL_RX4_48 dX4_again_162 (fun H locs hP => ?_)
  exact e_vret C hend hP (congrArg (mw ev ad) (k_some h)) dX4_again_165
def f_X4_board_L17_b  (k78 : MM → Option (Int32 × MM)) (k53 : Int32 → MM → Option (Int32 × MM)) (rec17 : Int32 → Int32 → MM → Option (Int32 × MM)) (x3 : Int32) (x4 : Int32) (σ5 : MM) : Option (Int32 × MM) :=
  if x4 = 0 then k78 σ5 else ob (f_X4_next σ5) (fun σ6 => ob2 (f_X4_statement σ6) (fun b8 σ7 => if b8 = true then lt (x3 + 1) (fun x9 => ob (f_X4_next σ7) (fun σ10 => if (m_token σ10) = 101 then k53 x9 σ10 else if (m_token σ10) = 59 then rec17 x9 1 σ10 else rec17 x9 0 σ10)) else rec17 x3 ((bi b8)) σ7))
def f_X4_board_L17  (k78 : MM → Option (Int32 × MM)) (k53 : Int32 → MM → Option (Int32 × MM)) (x3 : Int32) (x4 : Int32) (σ5 : MM) : Option (Int32 × MM) :=
  lp (fun _ _ _ => none) (f_X4_board_L17_b  k78 k53) FU x3 x4 σ5
def f_X4_board (σ : MM) : Option (Int32 × MM) :=
  ob (f_X4_keep_ahead σ) (fun σ1 => lt (m_to' σ1 0) (fun σ2 => f_X4_board_L17 (fun σ12 => ob (f_X4_again_ahead σ12) (fun σ13 => lt (m_taped' σ13 0) (fun σ14 => ob2 (f_X4_no σ14 (-2)) (fun x16 σ15 => some (((-20) - (m_from σ15)), σ15))))) (fun x17 σ18 => lt (m_taped' σ18 0) (fun σ19 => some (x17, σ19))) 0 1 σ2))
set_option maxHeartbeats 4000000 in
set_option maxRecDepth 100000 in
theorem c_X4_board (l : Launch) (ev : EV) (ad : Nat → Nat) (σ : MM)   (r : Int32) (σ' : MM) (h : f_X4_board σ = some (r, σ')) : Ct l yX4_board prog_6_method_40_code 3 (Option.some Jvm.ClassFile.FieldType.int) (rmk 10 345) ev 13 ad (mw ev ad σ) (mw ev ad σ') [.ref (ad 0)] (some (.int r)) := by
  refine Ct.of (by decide +kernel) (Nat.le_of_ble_eq_true rfl) ?_
  intro p e s m args below meth c Qc C hap hP hend ls hl
  have hAA : ∀ j, j < 13 → inA ad 13 (ad j) := fun j hj => ⟨j, hj, rfl⟩
  have hx := C.1
  have hb := C.2.1
  have hl : lv_has ls 3 [(0, .ref (ad 0))] := hl
  have h := (f_X4_board.eq_1 _ ).symm.trans h
  refine lv_aload_n hx hb dX4_board_0 rfl (lv_at hl 0 rfl) ?_
  refine lv_aload_n hx hb dX4_board_1 rfl (lv_at hl 0 rfl) ?_
  refine r_get C hP (ci := 4) rfl uin_X4 23 (by decide) 0 (by decide) rfl qFL_RX4_45 rfl rfl dX4_board_2 ?_
  obtain ⟨σ1, h1, h⟩ := k_ob h
  refine k_callVv C hP hap hAA (c_X4_keep_ahead l ev ad σ   _ h1) Emb.same hap gz_X4_keep qML_RX4_185 qIM_yX4_keep qSE_yX4_keep ⟨(Nat.le_of_ble_eq_true rfl), (Nat.le_of_ble_eq_true rfl)⟩ (q0 := 0) rfl (by decide) rfl rfl rfl rfl hl.1 rfl (Nat.le_of_ble_eq_true rfl) dX4_board_5 ⟨Nat.le_refl _, Nat.le_refl _⟩ (fun H locs hP => ?_)
  refine lv_aload_n hx hb dX4_board_8 rfl (lv_at hl 0 rfl) ?_
  refine lv_iconst (v := 0) hx hb dX4_board_9 (by decide) ?_
  obtain ⟨σ2, eσ2, h⟩ := k_ltx h
  refine pt_M_X4_to C hP hap hAA eσ2 qFL_RX4_131 dX4_board_10 (fun H locs hP => ?_)
  refine lv_iconst (v := 0) hx hb dX4_board_13 (by decide) ?_
  refine lv_istore_n (lv' := [(1, .int 0), (0, .ref (ad 0))]) hx hb dX4_board_14 rfl hl (by decide) rfl (fun ls hl => ?_)
  refine lv_iconst (v := 1) hx hb dX4_board_15 (by decide) ?_
  refine lv_istore_n (lv' := [(2, .int 1), (1, .int 0), (0, .ref (ad 0))]) hx hb dX4_board_16 rfl hl (by decide) rfl (fun ls hl => ?_)
  have hL17 : ∀ (k78 : MM → Option (Int32 × MM)) (hk78 : ∀  (σk : MM) (H : Heap) (locs : List Loc) (ls : Array Slot), k78  σk = some (r, σ') → PS ev 13 ad (mw ev ad σk) (inA ad 13) s H locs → lv_has ls 3 [(0, .ref (ad 0))] → WW ev p l e (rmk 10 345) s m args below meth c Qc ad 13 H locs 78 ls []) (k53 : Int32 → MM → Option (Int32 × MM)) (hk53 : ∀ (z11 : Int32) (σk : MM) (H : Heap) (locs : List Loc) (ls : Array Slot), k53 z11 σk = some (r, σ') → PS ev 13 ad (mw ev ad σk) (inA ad 13) s H locs → lv_has ls 3 [(0, .ref (ad 0)), (1, .int z11)] → WW ev p l e (rmk 10 345) s m args below meth c Qc ad 13 H locs 53 ls []) (n : Nat) (x3 : Int32) (x4 : Int32) (σ5 : MM) (H : Heap) (locs : List Loc) (ls : Array Slot), lp (fun _ _ _ => none) (f_X4_board_L17_b  k78 k53) n x3 x4 σ5 = some (r, σ') → PS ev 13 ad (mw ev ad σ5) (inA ad 13) s H locs → lv_has ls 3 [(0, .ref (ad 0)), (1, .int x3), (2, .int x4)] → WW ev p l e (rmk 10 345) s m args below meth c Qc ad 13 H locs 17 ls [] := by
    intro k78 hk78 k53 hk53 n
    induction n with
    | zero =>
      intro x3 x4 σ5 H locs ls h; exact k_none h
    | succ n ih =>
      intro x3 x4 σ5 H locs ls h hP hl
      have h : f_X4_board_L17_b  k78 k53 (lp (fun _ _ _ => none) (f_X4_board_L17_b  k78 k53) n) x3 x4 σ5 = some (r, σ') := h
      have h := (f_X4_board_L17_b.eq_1 _ _ _ _ _ _ ).symm.trans h
      refine lv_iload_n hx hb dX4_board_17 rfl (lv_at hl 2 rfl) ?_
      refine lv_if_eq (tgt := 78) hx hb dX4_board_18 (by decide) (fun c18 => ?_) (fun c18 => ?_)
      · have h := k_if c18 h
        exact hk78 _ _ _ _ h hP (lv_sub hl [0] rfl)
      · have h := k_nf c18 h
        refine lv_aload_n hx hb dX4_board_21 rfl (lv_at hl 0 rfl) ?_
        obtain ⟨σ6, h1, h⟩ := k_ob h
        refine k_callVv C hP hap hAA (c_X4_next l ev ad σ5   _ h1) Emb.same hap gz_X4_next qML_RX4_158 qIM_yX4_next qSE_yX4_next ⟨(Nat.le_of_ble_eq_true rfl), (Nat.le_of_ble_eq_true rfl)⟩ (q0 := 0) rfl (by decide) rfl rfl rfl rfl hl.1 rfl (Nat.le_of_ble_eq_true rfl) dX4_board_22 ⟨Nat.le_refl _, Nat.le_refl _⟩ (fun H locs hP => ?_)
        refine lv_aload_n hx hb dX4_board_25 rfl (lv_at hl 0 rfl) ?_
        obtain ⟨b8, σ7, h1, h⟩ := k_ob2 h
        refine k_callVi C hP hap hAA (c_X4_statement l ev ad σ6   _ _ h1) Emb.same hap gz_X4_statement qML_RX4_189 qIM_yX4_statement qSE_yX4_statement ⟨(Nat.le_of_ble_eq_true rfl), (Nat.le_of_ble_eq_true rfl)⟩ (q0 := 0) rfl (by decide) rfl rfl rfl rfl hl.1 rfl (Nat.le_of_ble_eq_true rfl) dX4_board_26 ⟨Nat.le_refl _, Nat.le_refl _⟩ (fun H locs hP => ?_)
        refine lv_istore_n (lv' := [(2, .int (bi b8)), (0, .ref (ad 0)), (1, .int x3)]) hx hb dX4_board_29 rfl hl (by decide) rfl (fun ls hl => ?_)
        refine lv_iload_n hx hb dX4_board_30 rfl (lv_at hl 0 rfl) ?_
        refine r_ifz_ne (tgt := 37) hx hb dX4_board_31 (by decide) (fun c31 => ?_) (fun c31 => ?_)
        · have h := k_if c31 h
          obtain ⟨x9, ex9, h⟩ := k_ltx h
          refine lv_iinc (v := x9) (lv' := [(1, .int x9), (2, .int (bi b8)), (0, .ref (ad 0))]) hx hb dX4_board_37 hl (k := 2) rfl (by rw [ex9]; rfl) (by decide) rfl (fun ls hl => ?_)
          refine lv_aload_n hx hb dX4_board_40 rfl (lv_at hl 2 rfl) ?_
          obtain ⟨σ10, h1, h⟩ := k_ob h
          refine k_callVv C hP hap hAA (c_X4_next l ev ad σ7   _ h1) Emb.same hap gz_X4_next qML_RX4_158 qIM_yX4_next qSE_yX4_next ⟨(Nat.le_of_ble_eq_true rfl), (Nat.le_of_ble_eq_true rfl)⟩ (q0 := 0) rfl (by decide) rfl rfl rfl rfl hl.1 rfl (Nat.le_of_ble_eq_true rfl) dX4_board_41 ⟨Nat.le_refl _, Nat.le_refl _⟩ (fun H locs hP => ?_)
          refine lv_aload_n hx hb dX4_board_44 rfl (lv_at hl 2 rfl) ?_
          refine r_get C hP (ci := 4) rfl uin_X4 15 (by decide) 0 (by decide) rfl qFL_RX4_137 rfl rfl dX4_board_45 ?_
          refine lv_bipush (v := 101) hx hb dX4_board_48 (by decide) ?_
          refine lv_icmp_ne (tgt := 60) hx hb dX4_board_50 (by decide) (fun c50 => ?_) (fun c50 => ?_)
          · have h := k_nf c50 h
            refine lv_aload_n hx hb dX4_board_60 rfl (lv_at hl 2 rfl) ?_
            refine r_get C hP (ci := 4) rfl uin_X4 15 (by decide) 0 (by decide) rfl qFL_RX4_137 rfl rfl dX4_board_61 ?_
            refine lv_bipush (v := 59) hx hb dX4_board_64 (by decide) ?_
            refine lv_icmp_ne (tgt := 73) hx hb dX4_board_66 (by decide) (fun c66 => ?_) (fun c66 => ?_)
            · have h := k_nf c66 h
              refine lv_iconst (v := 0) hx hb dX4_board_73 (by decide) ?_
              refine lv_istore_n (lv' := [(2, .int 0), (1, .int x9), (0, .ref (ad 0))]) hx hb dX4_board_74 rfl hl (by decide) rfl (fun ls hl => ?_)
              refine lv_goto (tgt := 17) hx hb dX4_board_75 (by decide) ?_
              exact ih _ _ _ _ _ _ h hP (lv_sub hl [2, 1, 0] rfl)
            · have h := k_if c66 h
              refine lv_iconst (v := 1) hx hb dX4_board_69 (by decide) ?_
              refine lv_goto (tgt := 74) hx hb dX4_board_70 (by decide) ?_
              refine lv_istore_n (lv' := [(2, .int 1), (1, .int x9), (0, .ref (ad 0))]) hx hb dX4_board_74 rfl hl (by decide) rfl (fun ls hl => ?_)
              refine lv_goto (tgt := 17) hx hb dX4_board_75 (by decide) ?_
              exact ih _ _ _ _ _ _ h hP (lv_sub hl [2, 1, 0] rfl)
          · have h := k_if c50 h
            exact hk53 _ _ _ _ _ h hP (lv_sub hl [2, 0] rfl)
        · have h := k_nf c31 h
          refine lv_goto (tgt := 17) hx hb dX4_board_34 (by decide) ?_
          exact ih _ _ _ _ _ _ h hP (lv_sub hl [1, 2, 0] rfl)
  refine hL17 _ (fun σ12 H locs ls h hP hl => ?_) _ (fun x17 σ18 H locs ls h hP hl => ?_) FU _ _ _ _ _ _ h hP (lv_sub hl [2, 1, 0] rfl)
  · refine lv_aload_n hx hb dX4_board_78 rfl (lv_at hl 0 rfl) ?_
    refine lv_aload_n hx hb dX4_board_79 rfl (lv_at hl 0 rfl) ?_
    refine r_get C hP (ci := 4) rfl uin_X4 23 (by decide) 0 (by decide) rfl qFL_RX4_45 rfl rfl dX4_board_80 ?_
    obtain ⟨σ13, h1, h⟩ := k_ob h
    refine k_callVv C hP hap hAA (c_X4_again_ahead l ev ad σ12   _ h1) Emb.same hap gz_X4_again qML_RX4_193 qIM_yX4_again qSE_yX4_again ⟨(Nat.le_of_ble_eq_true rfl), (Nat.le_of_ble_eq_true rfl)⟩ (q0 := 0) rfl (by decide) rfl rfl rfl rfl hl.1 rfl (Nat.le_of_ble_eq_true rfl) dX4_board_83 ⟨Nat.le_refl _, Nat.le_refl _⟩ (fun H locs hP => ?_)
    refine lv_aload_n hx hb dX4_board_86 rfl (lv_at hl 0 rfl) ?_
    refine lv_iconst (v := 0) hx hb dX4_board_87 (by decide) ?_
    obtain ⟨σ14, eσ14, h⟩ := k_ltx h
    refine pt_M_X4_taped C hP hap hAA eσ14 qFL_RX4_128 dX4_board_88 (fun H locs hP => ?_)
    refine lv_aload_n hx hb dX4_board_91 rfl (lv_at hl 0 rfl) ?_
    refine lv_bipush (v := (-2)) hx hb dX4_board_92 (by decide) ?_
    obtain ⟨x16, σ15, h1, h⟩ := k_ob2 h
    refine k_callVi C hP hap hAA (c_X4_no l ev ad σ14 (-2)   _ _ h1) Emb.same hap gz_X4_no qML_RX4_56 qIM_yX4_no qSE_yX4_no ⟨(Nat.le_of_ble_eq_true rfl), (Nat.le_of_ble_eq_true rfl)⟩ (q0 := 0) rfl (by decide) rfl rfl rfl rfl hl.1 rfl (Nat.le_of_ble_eq_true rfl) dX4_board_94 ⟨Nat.le_refl _, Nat.le_refl _⟩ (fun H locs hP => ?_)
    refine lv_pop hx hb dX4_board_97 rfl ?_
    refine lv_bipush (v := (-20)) hx hb dX4_board_98 (by decide) ?_
    refine lv_aload_n hx hb dX4_board_100 rfl (lv_at hl 0 rfl) ?_
    refine r_get C hP (ci := 4) rfl uin_X4 13 (by decide) 0 (by decide) rfl qFL_RX4_134 rfl rfl dX4_board_101 ?_
    refine lv_isub hx hb dX4_board_104 ?_
    exact e_iret C hend hP (k_some2 h).1 (congrArg (mw ev ad) (k_some2 h).2) dX4_board_105
  · refine lv_aload_n hx hb dX4_board_53 rfl (lv_at hl 0 rfl) ?_
    refine lv_iconst (v := 0) hx hb dX4_board_54 (by decide) ?_
    obtain ⟨σ19, eσ19, h⟩ := k_ltx h
    refine pt_M_X4_taped C hP hap hAA eσ19 qFL_RX4_128 dX4_board_55 (fun H locs hP => ?_)
    refine lv_iload_n hx hb dX4_board_58 rfl (lv_at hl 1 rfl) ?_
    exact e_iret C hend hP (k_some2 h).1 (congrArg (mw ev ad) (k_some2 h).2) dX4_board_59
def f_X4_ditchOf_L33_b (σ : MM) (x2 : Int32) (x5 : Int32) (k88 : Int32 → Option (Int32)) (rec33 : Int32 → Int32 → Option (Int32)) (x6 : Int32) (x7 : Int32) : Option (Int32) :=
  if 4 ≤ x7 then k88 x6 else ob (f_X4_beside σ x5 x7) (fun x8 => if ((ishr x2 x5) &&& 1) = 1 then if x8 = (-1) then lt (x7 + 1) (fun x10 => rec33 x6 x10) else gd (inb x8 16) (if ((m_dug σ) (x8).toNatClampNeg) = 0 then lt (x7 + 1) (fun x11 => rec33 x6 x11) else lt (x6 ||| (ishl 1 x8)) (fun x12 => lt (x7 + 1) (fun x13 => rec33 x12 x13))) else lt (x7 + 1) (fun x9 => rec33 x6 x9))
def f_X4_ditchOf_L33 (σ : MM) (x2 : Int32) (x5 : Int32) (k88 : Int32 → Option (Int32)) (x6 : Int32) (x7 : Int32) : Option (Int32) :=
  lp (fun _ _ => none) (f_X4_ditchOf_L33_b σ x2 x5 k88) FU x6 x7
def f_X4_ditchOf_L16_b (σ : MM) (x2 : Int32) (k94 : Int32 → Option (Int32)) (rec16 : Int32 → Int32 → Option (Int32)) (x4 : Int32) (x5 : Int32) : Option (Int32) :=
  if ((m_w σ) * (m_h σ)) ≤ x5 then k94 x4 else f_X4_ditchOf_L33 σ x2 x5 (fun x15 => lt (x5 + 1) (fun x16 => rec16 x15 x16)) x4 0
def f_X4_ditchOf_L16 (σ : MM) (x2 : Int32) (k94 : Int32 → Option (Int32)) (x4 : Int32) (x5 : Int32) : Option (Int32) :=
  lp (fun _ _ => none) (f_X4_ditchOf_L16_b σ x2 k94) FU x4 x5
def f_X4_ditchOf_L6_b (σ : MM)  (rec6 : Int32 → Int32 → Option (Int32)) (x2 : Int32) (x3 : Int32) : Option (Int32) :=
  if x2 = x3 then some x2 else f_X4_ditchOf_L16 σ x2 (fun x18 => rec6 x18 x2) x2 0
def f_X4_ditchOf_L6 (σ : MM)  (x2 : Int32) (x3 : Int32) : Option (Int32) :=
  lp (fun _ _ => none) (f_X4_ditchOf_L6_b σ ) FU x2 x3
def f_X4_ditchOf (σ : MM) (a1 : Int32) : Option (Int32) :=
  lt (ishl 1 a1) (fun x1 => f_X4_ditchOf_L6 σ x1 0)
set_option maxHeartbeats 4000000 in
set_option maxRecDepth 100000 in
theorem c_X4_ditchOf (l : Launch) (ev : EV) (ad : Nat → Nat) (σ : MM) (a1 : Int32)   (r : Int32)  (h : f_X4_ditchOf σ a1 = some r) : Ct l yX4_ditchOf prog_6_method_51_code 7 (Option.some Jvm.ClassFile.FieldType.int) (rmk 4 89) ev 13 ad (mw ev ad σ) (mw ev ad σ) [.ref (ad 0), .int a1] (some (.int r)) := by
  refine Ct.of (by decide +kernel) (Nat.le_of_ble_eq_true rfl) ?_
  intro p e s m args below meth c Qc C hap hP hend ls hl
  have hAA : ∀ j, j < 13 → inA ad 13 (ad j) := fun j hj => ⟨j, hj, rfl⟩
  have hx := C.1
  have hb := C.2.1
  have hl : lv_has ls 7 [(0, .ref (ad 0)), (1, .int a1)] := hl
  have h := (f_X4_ditchOf.eq_1 _ _ ).symm.trans h
  refine lv_iconst (v := 1) hx hb dX4_ditchOf_0 (by decide) ?_
  refine lv_iload_n hx hb dX4_ditchOf_1 rfl (lv_at hl 1 rfl) ?_
  refine r_ishl hx hb dX4_ditchOf_2 ?_
  refine lv_topi (fun x1 ex1 => ?_)
  have h := k_lt ex1 h
  refine lv_istore_n (lv' := [(2, .int x1), (0, .ref (ad 0)), (1, .int a1)]) hx hb dX4_ditchOf_3 rfl hl (by decide) rfl (fun ls hl => ?_)
  refine lv_iconst (v := 0) hx hb dX4_ditchOf_4 (by decide) ?_
  refine lv_istore_n (lv' := [(3, .int 0), (2, .int x1), (0, .ref (ad 0)), (1, .int a1)]) hx hb dX4_ditchOf_5 rfl hl (by decide) rfl (fun ls hl => ?_)
  have hL6 : ∀ (n : Nat) (x2 : Int32) (x3 : Int32) (H : Heap) (locs : List Loc) (ls : Array Slot), lp (fun _ _ => none) (f_X4_ditchOf_L6_b σ ) n x2 x3 = some r → PS ev 13 ad (mw ev ad σ) (inA ad 13) s H locs → lv_has ls 7 [(0, .ref (ad 0)), (2, .int x2), (3, .int x3)] → WW ev p l e (rmk 4 89) s m args below meth c Qc ad 13 H locs 6 ls [] := by
    intro n
    induction n with
    | zero =>
      intro x2 x3 H locs ls h; exact k_none h
    | succ n ih =>
      intro x2 x3 H locs ls h hP hl
      have h : f_X4_ditchOf_L6_b σ  (lp (fun _ _ => none) (f_X4_ditchOf_L6_b σ ) n) x2 x3 = some r := h
      have h := (f_X4_ditchOf_L6_b.eq_1 _ _ _ _ ).symm.trans h
      refine lv_iload_n hx hb dX4_ditchOf_6 rfl (lv_at hl 1 rfl) ?_
      refine lv_iload_n hx hb dX4_ditchOf_7 rfl (lv_at hl 2 rfl) ?_
      refine lv_icmp_eq (tgt := 97) hx hb dX4_ditchOf_8 (by decide) (fun c8 => ?_) (fun c8 => ?_)
      · have h := k_if c8 h
        refine lv_iload_n hx hb dX4_ditchOf_97 rfl (lv_at hl 1 rfl) ?_
        exact e_iret C hend hP (k_some h) rfl dX4_ditchOf_98
      · have h := k_nf c8 h
        refine lv_iload_n hx hb dX4_ditchOf_11 rfl (lv_at hl 1 rfl) ?_
        refine lv_istore_n (lv' := [(3, .int x2), (0, .ref (ad 0)), (2, .int x2)]) hx hb dX4_ditchOf_12 rfl hl (by decide) rfl (fun ls hl => ?_)
        refine lv_iconst (v := 0) hx hb dX4_ditchOf_13 (by decide) ?_
        refine lv_istore (lv' := [(4, .int 0), (3, .int x2), (0, .ref (ad 0)), (2, .int x2)]) hx hb dX4_ditchOf_14 hl (by decide) rfl (fun ls hl => ?_)
        have hL16 : ∀ (k94 : Int32 → Option (Int32)) (hk94 : ∀ (z17 : Int32) (H : Heap) (locs : List Loc) (ls : Array Slot), k94 z17 = some r → PS ev 13 ad (mw ev ad σ) (inA ad 13) s H locs → lv_has ls 7 [(0, .ref (ad 0)), (2, .int z17), (3, .int x2)] → WW ev p l e (rmk 4 89) s m args below meth c Qc ad 13 H locs 94 ls []) (n : Nat) (x4 : Int32) (x5 : Int32) (H : Heap) (locs : List Loc) (ls : Array Slot), lp (fun _ _ => none) (f_X4_ditchOf_L16_b σ x2 k94) n x4 x5 = some r → PS ev 13 ad (mw ev ad σ) (inA ad 13) s H locs → lv_has ls 7 [(0, .ref (ad 0)), (2, .int x4), (3, .int x2), (4, .int x5)] → WW ev p l e (rmk 4 89) s m args below meth c Qc ad 13 H locs 16 ls [] := by
          intro k94 hk94 n
          induction n with
          | zero =>
            intro x4 x5 H locs ls h; exact k_none h
          | succ n ih =>
            intro x4 x5 H locs ls h hP hl
            have h : f_X4_ditchOf_L16_b σ x2 k94 (lp (fun _ _ => none) (f_X4_ditchOf_L16_b σ x2 k94) n) x4 x5 = some r := h
            have h := (f_X4_ditchOf_L16_b.eq_1 _ _ _ _ _ _ ).symm.trans h
            refine lv_iload hx hb dX4_ditchOf_16 (lv_at hl 3 rfl) ?_
            refine lv_aload_n hx hb dX4_ditchOf_18 rfl (lv_at hl 0 rfl) ?_
            refine r_get C hP (ci := 4) rfl uin_X4 0 (by decide) 0 (by decide) rfl qFL_RX4_67 rfl rfl dX4_ditchOf_19 ?_
            refine lv_aload_n hx hb dX4_ditchOf_22 rfl (lv_at hl 0 rfl) ?_
            refine r_get C hP (ci := 4) rfl uin_X4 1 (by decide) 0 (by decide) rfl qFL_RX4_70 rfl rfl dX4_ditchOf_23 ?_
            refine lv_imul hx hb dX4_ditchOf_26 ?_
            refine lv_icmp_ge (tgt := 94) hx hb dX4_ditchOf_27 (by decide) (fun c27 => ?_) (fun c27 => ?_)
            · have h := k_if c27 h
              exact hk94 _ _ _ _ h hP (lv_sub hl [0, 1, 2] rfl)
            · have h := k_nf c27 h
              refine lv_iconst (v := 0) hx hb dX4_ditchOf_30 (by decide) ?_
              refine lv_istore (lv' := [(5, .int 0), (0, .ref (ad 0)), (2, .int x4), (3, .int x2), (4, .int x5)]) hx hb dX4_ditchOf_31 hl (by decide) rfl (fun ls hl => ?_)
              have hL33 : ∀ (k88 : Int32 → Option (Int32)) (hk88 : ∀ (z14 : Int32) (H : Heap) (locs : List Loc) (ls : Array Slot), k88 z14 = some r → PS ev 13 ad (mw ev ad σ) (inA ad 13) s H locs → lv_has ls 7 [(0, .ref (ad 0)), (2, .int z14), (3, .int x2), (4, .int x5)] → WW ev p l e (rmk 4 89) s m args below meth c Qc ad 13 H locs 88 ls []) (n : Nat) (x6 : Int32) (x7 : Int32) (H : Heap) (locs : List Loc) (ls : Array Slot), lp (fun _ _ => none) (f_X4_ditchOf_L33_b σ x2 x5 k88) n x6 x7 = some r → PS ev 13 ad (mw ev ad σ) (inA ad 13) s H locs → lv_has ls 7 [(0, .ref (ad 0)), (2, .int x6), (3, .int x2), (4, .int x5), (5, .int x7)] → WW ev p l e (rmk 4 89) s m args below meth c Qc ad 13 H locs 33 ls [] := by
                intro k88 hk88 n
                induction n with
                | zero =>
                  intro x6 x7 H locs ls h; exact k_none h
                | succ n ih =>
                  intro x6 x7 H locs ls h hP hl
                  have h : f_X4_ditchOf_L33_b σ x2 x5 k88 (lp (fun _ _ => none) (f_X4_ditchOf_L33_b σ x2 x5 k88) n) x6 x7 = some r := h
                  have h := (f_X4_ditchOf_L33_b.eq_1 _ _ _ _ _ _ _ ).symm.trans h
                  refine lv_iload hx hb dX4_ditchOf_33 (lv_at hl 4 rfl) ?_
                  refine lv_iconst (v := 4) hx hb dX4_ditchOf_35 (by decide) ?_
                  refine lv_icmp_ge (tgt := 88) hx hb dX4_ditchOf_36 (by decide) (fun c36 => ?_) (fun c36 => ?_)
                  · have h := k_if c36 h
                    exact hk88 _ _ _ _ h hP (lv_sub hl [0, 1, 2, 3] rfl)
                  · have h := k_nf c36 h
                    refine lv_aload_n hx hb dX4_ditchOf_39 rfl (lv_at hl 0 rfl) ?_
                    refine lv_iload hx hb dX4_ditchOf_40 (lv_at hl 3 rfl) ?_
                    refine lv_iload hx hb dX4_ditchOf_42 (lv_at hl 4 rfl) ?_
                    obtain ⟨x8, h1, h⟩ := k_ob h
                    refine k_callVi C hP hap hAA (c_X4_beside l ev ad σ x5 x7   _ h1) Emb.same hap gz_X4_beside qML_RX4_211 qIM_yX4_beside qSE_yX4_beside ⟨(Nat.le_of_ble_eq_true rfl), (Nat.le_of_ble_eq_true rfl)⟩ (q0 := 0) rfl (by decide) rfl rfl rfl rfl hl.1 rfl (Nat.le_of_ble_eq_true rfl) dX4_ditchOf_44 ⟨Nat.le_refl _, Nat.le_refl _⟩ (fun H locs hP => ?_)
                    refine lv_istore (lv' := [(6, .int x8), (0, .ref (ad 0)), (2, .int x6), (3, .int x2), (4, .int x5), (5, .int x7)]) hx hb dX4_ditchOf_47 hl (by decide) rfl (fun ls hl => ?_)
                    refine lv_iload_n hx hb dX4_ditchOf_49 rfl (lv_at hl 3 rfl) ?_
                    refine lv_iload hx hb dX4_ditchOf_50 (lv_at hl 4 rfl) ?_
                    refine r_ishr hx hb dX4_ditchOf_52 ?_
                    refine lv_iconst (v := 1) hx hb dX4_ditchOf_53 (by decide) ?_
                    refine lv_iand hx hb dX4_ditchOf_54 ?_
                    refine lv_iconst (v := 1) hx hb dX4_ditchOf_55 (by decide) ?_
                    refine lv_icmp_ne (tgt := 82) hx hb dX4_ditchOf_56 (by decide) (fun c56 => ?_) (fun c56 => ?_)
                    · have h := k_nf c56 h
                      obtain ⟨x9, ex9, h⟩ := k_ltx h
                      refine lv_iinc (v := x9) (lv' := [(5, .int x9), (6, .int x8), (0, .ref (ad 0)), (2, .int x6), (3, .int x2), (4, .int x5)]) hx hb dX4_ditchOf_82 hl (k := 5) rfl (by rw [ex9]; rfl) (by decide) rfl (fun ls hl => ?_)
                      refine lv_goto (tgt := 33) hx hb dX4_ditchOf_85 (by decide) ?_
                      exact ih _ _ _ _ _ h hP (lv_sub hl [2, 3, 4, 5, 0] rfl)
                    · have h := k_if c56 h
                      refine lv_iload hx hb dX4_ditchOf_59 (lv_at hl 0 rfl) ?_
                      refine lv_iconst (v := (-1)) hx hb dX4_ditchOf_61 (by decide) ?_
                      refine lv_icmp_eq (tgt := 82) hx hb dX4_ditchOf_62 (by decide) (fun c62 => ?_) (fun c62 => ?_)
                      · have h := k_if c62 h
                        obtain ⟨x10, ex10, h⟩ := k_ltx h
                        refine lv_iinc (v := x10) (lv' := [(5, .int x10), (6, .int x8), (0, .ref (ad 0)), (2, .int x6), (3, .int x2), (4, .int x5)]) hx hb dX4_ditchOf_82 hl (k := 5) rfl (by rw [ex10]; rfl) (by decide) rfl (fun ls hl => ?_)
                        refine lv_goto (tgt := 33) hx hb dX4_ditchOf_85 (by decide) ?_
                        exact ih _ _ _ _ _ h hP (lv_sub hl [2, 3, 4, 5, 0] rfl)
                      · have h := k_nf c62 h
                        refine lv_aload_n hx hb dX4_ditchOf_65 rfl (lv_at hl 1 rfl) ?_
                        refine r_get C hP (ci := 4) rfl uin_X4 3 (by decide) 0 (by decide) rfl qFL_RX4_13 rfl rfl dX4_ditchOf_66 ?_
                        refine lv_iload hx hb dX4_ditchOf_69 (lv_at hl 0 rfl) ?_
                        obtain ⟨hg, h⟩ := k_gd h
                        refine r_zald C hP 2 (by decide) rfl hg dX4_ditchOf_71 ?_
                        refine lv_if_eq (tgt := 82) hx hb dX4_ditchOf_72 (by decide) (fun c72 => ?_) (fun c72 => ?_)
                        · have h := k_if c72 h
                          obtain ⟨x11, ex11, h⟩ := k_ltx h
                          refine lv_iinc (v := x11) (lv' := [(5, .int x11), (6, .int x8), (0, .ref (ad 0)), (2, .int x6), (3, .int x2), (4, .int x5)]) hx hb dX4_ditchOf_82 hl (k := 5) rfl (by rw [ex11]; rfl) (by decide) rfl (fun ls hl => ?_)
                          refine lv_goto (tgt := 33) hx hb dX4_ditchOf_85 (by decide) ?_
                          exact ih _ _ _ _ _ h hP (lv_sub hl [2, 3, 4, 5, 0] rfl)
                        · have h := k_nf c72 h
                          refine lv_iload_n hx hb dX4_ditchOf_75 rfl (lv_at hl 2 rfl) ?_
                          refine lv_iconst (v := 1) hx hb dX4_ditchOf_76 (by decide) ?_
                          refine lv_iload hx hb dX4_ditchOf_77 (lv_at hl 0 rfl) ?_
                          refine r_ishl hx hb dX4_ditchOf_79 ?_
                          refine lv_ior hx hb dX4_ditchOf_80 ?_
                          refine lv_topi (fun x12 ex12 => ?_)
                          have h := k_lt ex12 h
                          refine lv_istore_n (lv' := [(2, .int x12), (6, .int x8), (0, .ref (ad 0)), (3, .int x2), (4, .int x5), (5, .int x7)]) hx hb dX4_ditchOf_81 rfl hl (by decide) rfl (fun ls hl => ?_)
                          obtain ⟨x13, ex13, h⟩ := k_ltx h
                          refine lv_iinc (v := x13) (lv' := [(5, .int x13), (2, .int x12), (6, .int x8), (0, .ref (ad 0)), (3, .int x2), (4, .int x5)]) hx hb dX4_ditchOf_82 hl (k := 5) rfl (by rw [ex13]; rfl) (by decide) rfl (fun ls hl => ?_)
                          refine lv_goto (tgt := 33) hx hb dX4_ditchOf_85 (by decide) ?_
                          exact ih _ _ _ _ _ h hP (lv_sub hl [3, 1, 4, 5, 0] rfl)
              refine hL33 _ (fun x15 H locs ls h hP hl => ?_) FU _ _ _ _ _ h hP (lv_sub hl [1, 2, 3, 4, 0] rfl)
              obtain ⟨x16, ex16, h⟩ := k_ltx h
              refine lv_iinc (v := x16) (lv' := [(4, .int x16), (0, .ref (ad 0)), (2, .int x15), (3, .int x2)]) hx hb dX4_ditchOf_88 hl (k := 3) rfl (by rw [ex16]; rfl) (by decide) rfl (fun ls hl => ?_)
              refine lv_goto (tgt := 16) hx hb dX4_ditchOf_91 (by decide) ?_
              exact ih _ _ _ _ _ h hP (lv_sub hl [1, 2, 3, 0] rfl)
        refine hL16 _ (fun x18 H locs ls h hP hl => ?_) FU _ _ _ _ _ h hP (lv_sub hl [2, 3, 1, 0] rfl)
        refine lv_goto (tgt := 6) hx hb dX4_ditchOf_94 (by decide) ?_
        exact ih _ _ _ _ _ h hP (lv_sub hl [0, 1, 2] rfl)
  exact hL6 FU _ _ _ _ _ h hP (lv_sub hl [2, 1, 0] rfl)
def f_X4_isOpen_L17_b (σ : MM) (a1 : Int32) (x1 : Int32) (k66 : Option (Bool)) (rec17 : Int32 → Option (Bool)) (x2 : Int32) : Option (Bool) :=
  if 4 ≤ x2 then k66 else if ((ishr a1 x1) &&& 1) = 1 then ob (f_X4_edge σ x1 x2) (fun x4 => ob (f_X4_isRim σ x4) (fun b5 => if b5 = true then ob (f_X4_edge σ x1 x2) (fun x7 => gd (inb x7 40) (if ((m_hedge σ) (x7).toNatClampNeg) = 0 then some true else lt (x2 + 1) (fun x8 => rec17 x8))) else lt (x2 + 1) (fun x6 => rec17 x6))) else lt (x2 + 1) (fun x3 => rec17 x3)
def f_X4_isOpen_L17 (σ : MM) (a1 : Int32) (x1 : Int32) (k66 : Option (Bool)) (x2 : Int32) : Option (Bool) :=
  lp (fun _ => none) (f_X4_isOpen_L17_b σ a1 x1 k66) FU x2
def f_X4_isOpen_L2_b (σ : MM) (a1 : Int32)  (rec2 : Int32 → Option (Bool)) (x1 : Int32) : Option (Bool) :=
  if ((m_w σ) * (m_h σ)) ≤ x1 then some false else f_X4_isOpen_L17 σ a1 x1 (lt (x1 + 1) (fun x9 => rec2 x9)) 0
def f_X4_isOpen_L2 (σ : MM) (a1 : Int32)  (x1 : Int32) : Option (Bool) :=
  lp (fun _ => none) (f_X4_isOpen_L2_b σ a1 ) FU x1
def f_X4_isOpen (σ : MM) (a1 : Int32) : Option (Bool) :=
  f_X4_isOpen_L2 σ a1 0
set_option maxHeartbeats 4000000 in
set_option maxRecDepth 100000 in
theorem c_X4_isOpen (l : Launch) (ev : EV) (ad : Nat → Nat) (σ : MM) (a1 : Int32)   (r : Bool)  (h : f_X4_isOpen σ a1 = some r) : Ct l yX4_isOpen prog_6_method_52_code 4 (Option.some Jvm.ClassFile.FieldType.boolean) (rmk 4 88) ev 13 ad (mw ev ad σ) (mw ev ad σ) [.ref (ad 0), .int a1] (some (.int (bi r))) := by
  refine Ct.of (by decide +kernel) (Nat.le_of_ble_eq_true rfl) ?_
  intro p e s m args below meth c Qc C hap hP hend ls hl
  have hAA : ∀ j, j < 13 → inA ad 13 (ad j) := fun j hj => ⟨j, hj, rfl⟩
  have hx := C.1
  have hb := C.2.1
  have hl : lv_has ls 4 [(0, .ref (ad 0)), (1, .int a1)] := hl
  have h := (f_X4_isOpen.eq_1 _ _ ).symm.trans h
  refine lv_iconst (v := 0) hx hb dX4_isOpen_0 (by decide) ?_
  refine lv_istore_n (lv' := [(2, .int 0), (0, .ref (ad 0)), (1, .int a1)]) hx hb dX4_isOpen_1 rfl hl (by decide) rfl (fun ls hl => ?_)
  have hL2 : ∀ (n : Nat) (x1 : Int32) (H : Heap) (locs : List Loc) (ls : Array Slot), lp (fun _ => none) (f_X4_isOpen_L2_b σ a1 ) n x1 = some r → PS ev 13 ad (mw ev ad σ) (inA ad 13) s H locs → lv_has ls 4 [(0, .ref (ad 0)), (1, .int a1), (2, .int x1)] → WW ev p l e (rmk 4 88) s m args below meth c Qc ad 13 H locs 2 ls [] := by
    intro n
    induction n with
    | zero =>
      intro x1 H locs ls h; exact k_none h
    | succ n ih =>
      intro x1 H locs ls h hP hl
      have h : f_X4_isOpen_L2_b σ a1  (lp (fun _ => none) (f_X4_isOpen_L2_b σ a1 ) n) x1 = some r := h
      have h := (f_X4_isOpen_L2_b.eq_1 _ _ _ _ ).symm.trans h
      refine lv_iload_n hx hb dX4_isOpen_2 rfl (lv_at hl 2 rfl) ?_
      refine lv_aload_n hx hb dX4_isOpen_3 rfl (lv_at hl 0 rfl) ?_
      refine r_get C hP (ci := 4) rfl uin_X4 0 (by decide) 0 (by decide) rfl qFL_RX4_67 rfl rfl dX4_isOpen_4 ?_
      refine lv_aload_n hx hb dX4_isOpen_7 rfl (lv_at hl 0 rfl) ?_
      refine r_get C hP (ci := 4) rfl uin_X4 1 (by decide) 0 (by decide) rfl qFL_RX4_70 rfl rfl dX4_isOpen_8 ?_
      refine lv_imul hx hb dX4_isOpen_11 ?_
      refine lv_icmp_ge (tgt := 72) hx hb dX4_isOpen_12 (by decide) (fun c12 => ?_) (fun c12 => ?_)
      · have h := k_if c12 h
        refine lv_iconst (v := 0) hx hb dX4_isOpen_72 (by decide) ?_
        exact e_zret C hend hP (k_some h) rfl dX4_isOpen_73 rfl
      · have h := k_nf c12 h
        refine lv_iconst (v := 0) hx hb dX4_isOpen_15 (by decide) ?_
        refine lv_istore_n (lv' := [(3, .int 0), (0, .ref (ad 0)), (1, .int a1), (2, .int x1)]) hx hb dX4_isOpen_16 rfl hl (by decide) rfl (fun ls hl => ?_)
        have hL17 : ∀ (k66 : Option (Bool)) (hk66 : ∀  (H : Heap) (locs : List Loc) (ls : Array Slot), k66  = some r → PS ev 13 ad (mw ev ad σ) (inA ad 13) s H locs → lv_has ls 4 [(0, .ref (ad 0)), (1, .int a1), (2, .int x1)] → WW ev p l e (rmk 4 88) s m args below meth c Qc ad 13 H locs 66 ls []) (n : Nat) (x2 : Int32) (H : Heap) (locs : List Loc) (ls : Array Slot), lp (fun _ => none) (f_X4_isOpen_L17_b σ a1 x1 k66) n x2 = some r → PS ev 13 ad (mw ev ad σ) (inA ad 13) s H locs → lv_has ls 4 [(0, .ref (ad 0)), (1, .int a1), (2, .int x1), (3, .int x2)] → WW ev p l e (rmk 4 88) s m args below meth c Qc ad 13 H locs 17 ls [] := by
          intro k66 hk66 n
          induction n with
          | zero =>
            intro x2 H locs ls h; exact k_none h
          | succ n ih =>
            intro x2 H locs ls h hP hl
            have h : f_X4_isOpen_L17_b σ a1 x1 k66 (lp (fun _ => none) (f_X4_isOpen_L17_b σ a1 x1 k66) n) x2 = some r := h
            have h := (f_X4_isOpen_L17_b.eq_1 _ _ _ _ _ _ ).symm.trans h
            refine lv_iload_n hx hb dX4_isOpen_17 rfl (lv_at hl 3 rfl) ?_
            refine lv_iconst (v := 4) hx hb dX4_isOpen_18 (by decide) ?_
            refine lv_icmp_ge (tgt := 66) hx hb dX4_isOpen_19 (by decide) (fun c19 => ?_) (fun c19 => ?_)
            · have h := k_if c19 h
              exact hk66 _ _ _ h hP (lv_sub hl [0, 1, 2] rfl)
            · have h := k_nf c19 h
              refine lv_iload_n hx hb dX4_isOpen_22 rfl (lv_at hl 1 rfl) ?_
              refine lv_iload_n hx hb dX4_isOpen_23 rfl (lv_at hl 2 rfl) ?_
              refine r_ishr hx hb dX4_isOpen_24 ?_
              refine lv_iconst (v := 1) hx hb dX4_isOpen_25 (by decide) ?_
              refine lv_iand hx hb dX4_isOpen_26 ?_
              refine lv_iconst (v := 1) hx hb dX4_isOpen_27 (by decide) ?_
              refine lv_icmp_ne (tgt := 60) hx hb dX4_isOpen_28 (by decide) (fun c28 => ?_) (fun c28 => ?_)
              · have h := k_nf c28 h
                obtain ⟨x3, ex3, h⟩ := k_ltx h
                refine lv_iinc (v := x3) (lv' := [(3, .int x3), (0, .ref (ad 0)), (1, .int a1), (2, .int x1)]) hx hb dX4_isOpen_60 hl (k := 3) rfl (by rw [ex3]; rfl) (by decide) rfl (fun ls hl => ?_)
                refine lv_goto (tgt := 17) hx hb dX4_isOpen_63 (by decide) ?_
                exact ih _ _ _ _ h hP (lv_sub hl [1, 2, 3, 0] rfl)
              · have h := k_if c28 h
                refine lv_aload_n hx hb dX4_isOpen_31 rfl (lv_at hl 0 rfl) ?_
                refine lv_aload_n hx hb dX4_isOpen_32 rfl (lv_at hl 0 rfl) ?_
                refine lv_iload_n hx hb dX4_isOpen_33 rfl (lv_at hl 2 rfl) ?_
                refine lv_iload_n hx hb dX4_isOpen_34 rfl (lv_at hl 3 rfl) ?_
                obtain ⟨x4, h1, h⟩ := k_ob h
                refine k_callVi C hP hap hAA (c_X4_edge l ev ad σ x1 x2   _ h1) Emb.same hap gz_X4_edge qML_RX4_122 qIM_yX4_edge qSE_yX4_edge ⟨(Nat.le_of_ble_eq_true rfl), (Nat.le_of_ble_eq_true rfl)⟩ (q0 := 0) rfl (by decide) rfl rfl rfl rfl hl.1 rfl (Nat.le_of_ble_eq_true rfl) dX4_isOpen_35 ⟨Nat.le_refl _, Nat.le_refl _⟩ (fun H locs hP => ?_)
                obtain ⟨b5, h1, h⟩ := k_ob h
                refine k_callVi C hP hap hAA (c_X4_isRim l ev ad σ x4   _ h1) Emb.same hap gz_X4_isRim qML_RX4_125 qIM_yX4_isRim qSE_yX4_isRim ⟨(Nat.le_of_ble_eq_true rfl), (Nat.le_of_ble_eq_true rfl)⟩ (q0 := 0) rfl (by decide) rfl rfl rfl rfl hl.1 rfl (Nat.le_of_ble_eq_true rfl) dX4_isOpen_38 ⟨Nat.le_refl _, Nat.le_refl _⟩ (fun H locs hP => ?_)
                refine r_ifz_eq (tgt := 60) hx hb dX4_isOpen_41 (by decide) (fun c41 => ?_) (fun c41 => ?_)
                · have h := k_nf c41 h
                  obtain ⟨x6, ex6, h⟩ := k_ltx h
                  refine lv_iinc (v := x6) (lv' := [(3, .int x6), (0, .ref (ad 0)), (1, .int a1), (2, .int x1)]) hx hb dX4_isOpen_60 hl (k := 3) rfl (by rw [ex6]; rfl) (by decide) rfl (fun ls hl => ?_)
                  refine lv_goto (tgt := 17) hx hb dX4_isOpen_63 (by decide) ?_
                  exact ih _ _ _ _ h hP (lv_sub hl [1, 2, 3, 0] rfl)
                · have h := k_if c41 h
                  refine lv_aload_n hx hb dX4_isOpen_44 rfl (lv_at hl 0 rfl) ?_
                  refine r_get C hP (ci := 4) rfl uin_X4 2 (by decide) 0 (by decide) rfl qFL_RX4_7 rfl rfl dX4_isOpen_45 ?_
                  refine lv_aload_n hx hb dX4_isOpen_48 rfl (lv_at hl 0 rfl) ?_
                  refine lv_iload_n hx hb dX4_isOpen_49 rfl (lv_at hl 2 rfl) ?_
                  refine lv_iload_n hx hb dX4_isOpen_50 rfl (lv_at hl 3 rfl) ?_
                  obtain ⟨x7, h1, h⟩ := k_ob h
                  refine k_callVi C hP hap hAA (c_X4_edge l ev ad σ x1 x2   _ h1) Emb.same hap gz_X4_edge qML_RX4_122 qIM_yX4_edge qSE_yX4_edge ⟨(Nat.le_of_ble_eq_true rfl), (Nat.le_of_ble_eq_true rfl)⟩ (q0 := 0) rfl (by decide) rfl rfl rfl rfl hl.1 rfl (Nat.le_of_ble_eq_true rfl) dX4_isOpen_51 ⟨Nat.le_refl _, Nat.le_refl _⟩ (fun H locs hP => ?_)
                  obtain ⟨hg, h⟩ := k_gd h
                  refine r_zald C hP 1 (by decide) rfl hg dX4_isOpen_54 ?_
                  refine lv_if_ne (tgt := 60) hx hb dX4_isOpen_55 (by decide) (fun c55 => ?_) (fun c55 => ?_)
                  · have h := k_nf c55 h
                    obtain ⟨x8, ex8, h⟩ := k_ltx h
                    refine lv_iinc (v := x8) (lv' := [(3, .int x8), (0, .ref (ad 0)), (1, .int a1), (2, .int x1)]) hx hb dX4_isOpen_60 hl (k := 3) rfl (by rw [ex8]; rfl) (by decide) rfl (fun ls hl => ?_)
                    refine lv_goto (tgt := 17) hx hb dX4_isOpen_63 (by decide) ?_
                    exact ih _ _ _ _ h hP (lv_sub hl [1, 2, 3, 0] rfl)
                  · have h := k_if c55 h
                    refine lv_iconst (v := 1) hx hb dX4_isOpen_58 (by decide) ?_
                    exact e_zret C hend hP (k_some h) rfl dX4_isOpen_59 rfl
        refine hL17 _ (fun  H locs ls h hP hl => ?_) FU _ _ _ _ h hP (lv_sub hl [1, 2, 3, 0] rfl)
        obtain ⟨x9, ex9, h⟩ := k_ltx h
        refine lv_iinc (v := x9) (lv' := [(2, .int x9), (0, .ref (ad 0)), (1, .int a1)]) hx hb dX4_isOpen_66 hl (k := 2) rfl (by rw [ex9]; rfl) (by decide) rfl (fun ls hl => ?_)
        refine lv_goto (tgt := 2) hx hb dX4_isOpen_69 (by decide) ?_
        exact ih _ _ _ _ h hP (lv_sub hl [1, 2, 0] rfl)
  exact hL2 FU _ _ _ _ h hP (lv_sub hl [1, 2, 0] rfl)
def f_X4_drains_L4_b (σ : MM)  (rec4 : Int32 → Int32 → Option (Int32)) (x1 : Int32) (x2 : Int32) : Option (Int32) :=
  if ((m_w σ) * (m_h σ)) ≤ x2 then some x1 else gd (inb x2 16) (if ((m_dug σ) (x2).toNatClampNeg) = 0 then lt (x2 + 1) (fun x3 => rec4 x1 x3) else ob (f_X4_ditchOf σ x2) (fun x4 => ob (f_X4_isOpen σ x4) (fun b5 => if b5 = true then lt (x1 ||| (ishl 1 x2)) (fun x7 => lt (x2 + 1) (fun x8 => rec4 x7 x8)) else lt (x2 + 1) (fun x6 => rec4 x1 x6))))
def f_X4_drains_L4 (σ : MM)  (x1 : Int32) (x2 : Int32) : Option (Int32) :=
  lp (fun _ _ => none) (f_X4_drains_L4_b σ ) FU x1 x2
def f_X4_drains (σ : MM) : Option (Int32) :=
  f_X4_drains_L4 σ 0 0
set_option maxHeartbeats 4000000 in
set_option maxRecDepth 100000 in
theorem c_X4_drains (l : Launch) (ev : EV) (ad : Nat → Nat) (σ : MM)   (r : Int32)  (h : f_X4_drains σ = some r) : Ct l yX4_drains prog_6_method_53_code 3 (Option.some Jvm.ClassFile.FieldType.int) (rmk 5 115) ev 13 ad (mw ev ad σ) (mw ev ad σ) [.ref (ad 0)] (some (.int r)) := by
  refine Ct.of (by decide +kernel) (Nat.le_of_ble_eq_true rfl) ?_
  intro p e s m args below meth c Qc C hap hP hend ls hl
  have hAA : ∀ j, j < 13 → inA ad 13 (ad j) := fun j hj => ⟨j, hj, rfl⟩
  have hx := C.1
  have hb := C.2.1
  have hl : lv_has ls 3 [(0, .ref (ad 0))] := hl
  have h := (f_X4_drains.eq_1 _ ).symm.trans h
  refine lv_iconst (v := 0) hx hb dX4_drains_0 (by decide) ?_
  refine lv_istore_n (lv' := [(1, .int 0), (0, .ref (ad 0))]) hx hb dX4_drains_1 rfl hl (by decide) rfl (fun ls hl => ?_)
  refine lv_iconst (v := 0) hx hb dX4_drains_2 (by decide) ?_
  refine lv_istore_n (lv' := [(2, .int 0), (1, .int 0), (0, .ref (ad 0))]) hx hb dX4_drains_3 rfl hl (by decide) rfl (fun ls hl => ?_)
  have hL4 : ∀ (n : Nat) (x1 : Int32) (x2 : Int32) (H : Heap) (locs : List Loc) (ls : Array Slot), lp (fun _ _ => none) (f_X4_drains_L4_b σ ) n x1 x2 = some r → PS ev 13 ad (mw ev ad σ) (inA ad 13) s H locs → lv_has ls 3 [(0, .ref (ad 0)), (1, .int x1), (2, .int x2)] → WW ev p l e (rmk 5 115) s m args below meth c Qc ad 13 H locs 4 ls [] := by
    intro n
    induction n with
    | zero =>
      intro x1 x2 H locs ls h; exact k_none h
    | succ n ih =>
      intro x1 x2 H locs ls h hP hl
      have h : f_X4_drains_L4_b σ  (lp (fun _ _ => none) (f_X4_drains_L4_b σ ) n) x1 x2 = some r := h
      have h := (f_X4_drains_L4_b.eq_1 _ _ _ _ ).symm.trans h
      refine lv_iload_n hx hb dX4_drains_4 rfl (lv_at hl 2 rfl) ?_
      refine lv_aload_n hx hb dX4_drains_5 rfl (lv_at hl 0 rfl) ?_
      refine r_get C hP (ci := 4) rfl uin_X4 0 (by decide) 0 (by decide) rfl qFL_RX4_67 rfl rfl dX4_drains_6 ?_
      refine lv_aload_n hx hb dX4_drains_9 rfl (lv_at hl 0 rfl) ?_
      refine r_get C hP (ci := 4) rfl uin_X4 1 (by decide) 0 (by decide) rfl qFL_RX4_70 rfl rfl dX4_drains_10 ?_
      refine lv_imul hx hb dX4_drains_13 ?_
      refine lv_icmp_ge (tgt := 50) hx hb dX4_drains_14 (by decide) (fun c14 => ?_) (fun c14 => ?_)
      · have h := k_if c14 h
        refine lv_iload_n hx hb dX4_drains_50 rfl (lv_at hl 1 rfl) ?_
        exact e_iret C hend hP (k_some h) rfl dX4_drains_51
      · have h := k_nf c14 h
        refine lv_aload_n hx hb dX4_drains_17 rfl (lv_at hl 0 rfl) ?_
        refine r_get C hP (ci := 4) rfl uin_X4 3 (by decide) 0 (by decide) rfl qFL_RX4_13 rfl rfl dX4_drains_18 ?_
        refine lv_iload_n hx hb dX4_drains_21 rfl (lv_at hl 2 rfl) ?_
        obtain ⟨hg, h⟩ := k_gd h
        refine r_zald C hP 2 (by decide) rfl hg dX4_drains_22 ?_
        refine lv_if_eq (tgt := 44) hx hb dX4_drains_23 (by decide) (fun c23 => ?_) (fun c23 => ?_)
        · have h := k_if c23 h
          obtain ⟨x3, ex3, h⟩ := k_ltx h
          refine lv_iinc (v := x3) (lv' := [(2, .int x3), (0, .ref (ad 0)), (1, .int x1)]) hx hb dX4_drains_44 hl (k := 2) rfl (by rw [ex3]; rfl) (by decide) rfl (fun ls hl => ?_)
          refine lv_goto (tgt := 4) hx hb dX4_drains_47 (by decide) ?_
          exact ih _ _ _ _ _ h hP (lv_sub hl [1, 2, 0] rfl)
        · have h := k_nf c23 h
          refine lv_aload_n hx hb dX4_drains_26 rfl (lv_at hl 0 rfl) ?_
          refine lv_aload_n hx hb dX4_drains_27 rfl (lv_at hl 0 rfl) ?_
          refine lv_iload_n hx hb dX4_drains_28 rfl (lv_at hl 2 rfl) ?_
          obtain ⟨x4, h1, h⟩ := k_ob h
          refine k_callVi C hP hap hAA (c_X4_ditchOf l ev ad σ x2   _ h1) Emb.same hap gz_X4_ditchOf qML_RX4_214 qIM_yX4_ditchOf qSE_yX4_ditchOf ⟨(Nat.le_of_ble_eq_true rfl), (Nat.le_of_ble_eq_true rfl)⟩ (q0 := 0) rfl (by decide) rfl rfl rfl rfl hl.1 rfl (Nat.le_of_ble_eq_true rfl) dX4_drains_29 ⟨Nat.le_refl _, Nat.le_refl _⟩ (fun H locs hP => ?_)
          obtain ⟨b5, h1, h⟩ := k_ob h
          refine k_callVi C hP hap hAA (c_X4_isOpen l ev ad σ x4   _ h1) Emb.same hap gz_X4_isOpen qML_RX4_217 qIM_yX4_isOpen qSE_yX4_isOpen ⟨(Nat.le_of_ble_eq_true rfl), (Nat.le_of_ble_eq_true rfl)⟩ (q0 := 0) rfl (by decide) rfl rfl rfl rfl hl.1 rfl (Nat.le_of_ble_eq_true rfl) dX4_drains_32 ⟨Nat.le_refl _, Nat.le_refl _⟩ (fun H locs hP => ?_)
          refine r_ifz_eq (tgt := 44) hx hb dX4_drains_35 (by decide) (fun c35 => ?_) (fun c35 => ?_)
          · have h := k_nf c35 h
            obtain ⟨x6, ex6, h⟩ := k_ltx h
            refine lv_iinc (v := x6) (lv' := [(2, .int x6), (0, .ref (ad 0)), (1, .int x1)]) hx hb dX4_drains_44 hl (k := 2) rfl (by rw [ex6]; rfl) (by decide) rfl (fun ls hl => ?_)
            refine lv_goto (tgt := 4) hx hb dX4_drains_47 (by decide) ?_
            exact ih _ _ _ _ _ h hP (lv_sub hl [1, 2, 0] rfl)
          · have h := k_if c35 h
            refine lv_iload_n hx hb dX4_drains_38 rfl (lv_at hl 1 rfl) ?_
            refine lv_iconst (v := 1) hx hb dX4_drains_39 (by decide) ?_
            refine lv_iload_n hx hb dX4_drains_40 rfl (lv_at hl 2 rfl) ?_
            refine r_ishl hx hb dX4_drains_41 ?_
            refine lv_ior hx hb dX4_drains_42 ?_
            refine lv_topi (fun x7 ex7 => ?_)
            have h := k_lt ex7 h
            refine lv_istore_n (lv' := [(1, .int x7), (0, .ref (ad 0)), (2, .int x2)]) hx hb dX4_drains_43 rfl hl (by decide) rfl (fun ls hl => ?_)
            obtain ⟨x8, ex8, h⟩ := k_ltx h
            refine lv_iinc (v := x8) (lv' := [(2, .int x8), (1, .int x7), (0, .ref (ad 0))]) hx hb dX4_drains_44 hl (k := 2) rfl (by rw [ex8]; rfl) (by decide) rfl (fun ls hl => ?_)
            refine lv_goto (tgt := 4) hx hb dX4_drains_47 (by decide) ?_
            exact ih _ _ _ _ _ h hP (lv_sub hl [2, 1, 0] rfl)
  exact hL4 FU _ _ _ _ _ h hP (lv_sub hl [2, 1, 0] rfl)
def f_X4_colour_L13_b (σ : MM) (a1 : Int32) (a2 : Int32)  (rec13 : Int32 → Option (Int32)) (x1 : Int32) : Option (Int32) :=
  if 4 ≤ x1 then gd (inb a1 16) (some ((m_owner σ) (a1).toNatClampNeg)) else ob (f_X4_beside σ a1 x1) (fun x2 => if x2 = (-1) then lt (x1 + 1) (fun x3 => rec13 x3) else if ((ishr a2 x2) &&& 1) = 1 then some (-1) else lt (x1 + 1) (fun x4 => rec13 x4))
def f_X4_colour_L13 (σ : MM) (a1 : Int32) (a2 : Int32)  (x1 : Int32) : Option (Int32) :=
  lp (fun _ => none) (f_X4_colour_L13_b σ a1 a2 ) FU x1
def f_X4_colour (σ : MM) (a1 : Int32) (a2 : Int32) : Option (Int32) :=
  if ((ishr a2 a1) &&& 1) = 1 then some (-1) else f_X4_colour_L13 σ a1 a2 0
set_option maxHeartbeats 4000000 in
set_option maxRecDepth 100000 in
theorem c_X4_colour (l : Launch) (ev : EV) (ad : Nat → Nat) (σ : MM) (a1 : Int32) (a2 : Int32)   (r : Int32)  (h : f_X4_colour σ a1 a2 = some r) : Ct l yX4_colour prog_6_method_54_code 5 (Option.some Jvm.ClassFile.FieldType.int) (rmk 4 89) ev 13 ad (mw ev ad σ) (mw ev ad σ) [.ref (ad 0), .int a1, .int a2] (some (.int r)) := by
  refine Ct.of (by decide +kernel) (Nat.le_of_ble_eq_true rfl) ?_
  intro p e s m args below meth c Qc C hap hP hend ls hl
  have hAA : ∀ j, j < 13 → inA ad 13 (ad j) := fun j hj => ⟨j, hj, rfl⟩
  have hx := C.1
  have hb := C.2.1
  have hl : lv_has ls 5 [(0, .ref (ad 0)), (1, .int a1), (2, .int a2)] := hl
  have h := (f_X4_colour.eq_1 _ _ _ ).symm.trans h
  refine lv_iload_n hx hb dX4_colour_0 rfl (lv_at hl 2 rfl) ?_
  refine lv_iload_n hx hb dX4_colour_1 rfl (lv_at hl 1 rfl) ?_
  refine r_ishr hx hb dX4_colour_2 ?_
  refine lv_iconst (v := 1) hx hb dX4_colour_3 (by decide) ?_
  refine lv_iand hx hb dX4_colour_4 ?_
  refine lv_iconst (v := 1) hx hb dX4_colour_5 (by decide) ?_
  refine lv_icmp_ne (tgt := 11) hx hb dX4_colour_6 (by decide) (fun c6 => ?_) (fun c6 => ?_)
  · have h := k_nf c6 h
    refine lv_iconst (v := 0) hx hb dX4_colour_11 (by decide) ?_
    refine lv_istore_n (lv' := [(3, .int 0), (0, .ref (ad 0)), (1, .int a1), (2, .int a2)]) hx hb dX4_colour_12 rfl hl (by decide) rfl (fun ls hl => ?_)
    have hL13 : ∀ (n : Nat) (x1 : Int32) (H : Heap) (locs : List Loc) (ls : Array Slot), lp (fun _ => none) (f_X4_colour_L13_b σ a1 a2 ) n x1 = some r → PS ev 13 ad (mw ev ad σ) (inA ad 13) s H locs → lv_has ls 5 [(0, .ref (ad 0)), (1, .int a1), (2, .int a2), (3, .int x1)] → WW ev p l e (rmk 4 89) s m args below meth c Qc ad 13 H locs 13 ls [] := by
      intro n
      induction n with
      | zero =>
        intro x1 H locs ls h; exact k_none h
      | succ n ih =>
        intro x1 H locs ls h hP hl
        have h : f_X4_colour_L13_b σ a1 a2  (lp (fun _ => none) (f_X4_colour_L13_b σ a1 a2 ) n) x1 = some r := h
        have h := (f_X4_colour_L13_b.eq_1 _ _ _ _ _ ).symm.trans h
        refine lv_iload_n hx hb dX4_colour_13 rfl (lv_at hl 3 rfl) ?_
        refine lv_iconst (v := 4) hx hb dX4_colour_14 (by decide) ?_
        refine lv_icmp_ge (tgt := 50) hx hb dX4_colour_15 (by decide) (fun c15 => ?_) (fun c15 => ?_)
        · have h := k_if c15 h
          refine lv_aload_n hx hb dX4_colour_50 rfl (lv_at hl 0 rfl) ?_
          refine r_get C hP (ci := 4) rfl uin_X4 4 (by decide) 0 (by decide) rfl qFL_RX4_16 rfl rfl dX4_colour_51 ?_
          refine lv_iload_n hx hb dX4_colour_54 rfl (lv_at hl 1 rfl) ?_
          obtain ⟨hg, h⟩ := k_gd h
          refine r_iald C hP 3 (by decide) rfl hg dX4_colour_55 ?_
          exact e_iret C hend hP (k_some h) rfl dX4_colour_56
        · have h := k_nf c15 h
          refine lv_aload_n hx hb dX4_colour_18 rfl (lv_at hl 0 rfl) ?_
          refine lv_iload_n hx hb dX4_colour_19 rfl (lv_at hl 1 rfl) ?_
          refine lv_iload_n hx hb dX4_colour_20 rfl (lv_at hl 3 rfl) ?_
          obtain ⟨x2, h1, h⟩ := k_ob h
          refine k_callVi C hP hap hAA (c_X4_beside l ev ad σ a1 x1   _ h1) Emb.same hap gz_X4_beside qML_RX4_211 qIM_yX4_beside qSE_yX4_beside ⟨(Nat.le_of_ble_eq_true rfl), (Nat.le_of_ble_eq_true rfl)⟩ (q0 := 0) rfl (by decide) rfl rfl rfl rfl hl.1 rfl (Nat.le_of_ble_eq_true rfl) dX4_colour_21 ⟨Nat.le_refl _, Nat.le_refl _⟩ (fun H locs hP => ?_)
          refine lv_istore (lv' := [(4, .int x2), (0, .ref (ad 0)), (1, .int a1), (2, .int a2), (3, .int x1)]) hx hb dX4_colour_24 hl (by decide) rfl (fun ls hl => ?_)
          refine lv_iload hx hb dX4_colour_26 (lv_at hl 0 rfl) ?_
          refine lv_iconst (v := (-1)) hx hb dX4_colour_28 (by decide) ?_
          refine lv_icmp_eq (tgt := 44) hx hb dX4_colour_29 (by decide) (fun c29 => ?_) (fun c29 => ?_)
          · have h := k_if c29 h
            obtain ⟨x3, ex3, h⟩ := k_ltx h
            refine lv_iinc (v := x3) (lv' := [(3, .int x3), (4, .int x2), (0, .ref (ad 0)), (1, .int a1), (2, .int a2)]) hx hb dX4_colour_44 hl (k := 4) rfl (by rw [ex3]; rfl) (by decide) rfl (fun ls hl => ?_)
            refine lv_goto (tgt := 13) hx hb dX4_colour_47 (by decide) ?_
            exact ih _ _ _ _ h hP (lv_sub hl [2, 3, 4, 0] rfl)
          · have h := k_nf c29 h
            refine lv_iload_n hx hb dX4_colour_32 rfl (lv_at hl 3 rfl) ?_
            refine lv_iload hx hb dX4_colour_33 (lv_at hl 0 rfl) ?_
            refine r_ishr hx hb dX4_colour_35 ?_
            refine lv_iconst (v := 1) hx hb dX4_colour_36 (by decide) ?_
            refine lv_iand hx hb dX4_colour_37 ?_
            refine lv_iconst (v := 1) hx hb dX4_colour_38 (by decide) ?_
            refine lv_icmp_ne (tgt := 44) hx hb dX4_colour_39 (by decide) (fun c39 => ?_) (fun c39 => ?_)
            · have h := k_nf c39 h
              obtain ⟨x4, ex4, h⟩ := k_ltx h
              refine lv_iinc (v := x4) (lv' := [(3, .int x4), (4, .int x2), (0, .ref (ad 0)), (1, .int a1), (2, .int a2)]) hx hb dX4_colour_44 hl (k := 4) rfl (by rw [ex4]; rfl) (by decide) rfl (fun ls hl => ?_)
              refine lv_goto (tgt := 13) hx hb dX4_colour_47 (by decide) ?_
              exact ih _ _ _ _ h hP (lv_sub hl [2, 3, 4, 0] rfl)
            · have h := k_if c39 h
              refine lv_iconst (v := (-1)) hx hb dX4_colour_42 (by decide) ?_
              exact e_iret C hend hP (k_some h) rfl dX4_colour_43
    exact hL13 FU _ _ _ _ h hP (lv_sub hl [1, 2, 3, 0] rfl)
  · have h := k_if c6 h
    refine lv_iconst (v := (-1)) hx hb dX4_colour_9 (by decide) ?_
    exact e_iret C hend hP (k_some h) rfl dX4_colour_10
