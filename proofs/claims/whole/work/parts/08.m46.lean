/-! functions read off, and their contracts: by program (wip/whole/gen2.py) -/
def f_X4_again_ahead_L2_b  (k32 : MM → Option MM) (rec2 : Int32 → MM → Option MM) (x1 : Int32) (σ2 : MM) : Option MM :=
  if 40 ≤ x1 then k32 σ2 else gd (inb x1 90) (if ((m_ahead σ2) (Int32.toNatClampNeg x1)) = 1 then gd (inb x1 40) (lt (m_hedge' σ2 (upd (m_hedge σ2) (Int32.toNatClampNeg x1) (vp_nar .boolean 1))) (fun σ5 => lt (x1 + 1) (fun x6 => rec2 x6 σ5))) else gd (inb x1 40) (lt (m_hedge' σ2 (upd (m_hedge σ2) (Int32.toNatClampNeg x1) (vp_nar .boolean 0))) (fun σ3 => lt (x1 + 1) (fun x4 => rec2 x4 σ3))))
def f_X4_again_ahead_L2  (k32 : MM → Option MM) (x1 : Int32) (σ2 : MM) : Option MM :=
  lp (fun _ _ => none) (f_X4_again_ahead_L2_b  k32) FU x1 σ2
def f_X4_again_ahead_b60 (rec34 : Int32 → MM → Option MM) (x10 : Int32) (x11 : Int32) (x12 : Int32) (σ13 : MM) : Option MM :=
  gd (inb x12 16) (lt (m_dug' σ13 (upd (m_dug σ13) (Int32.toNatClampNeg x12) (vp_nar .boolean x11))) (fun σ14 => gd (inb (56 + x10) 90) (gd (inb x10 16) (lt (m_owner' σ14 (upd (m_owner σ14) (Int32.toNatClampNeg x10) ((m_ahead σ14) (Int32.toNatClampNeg (56 + x10))))) (fun σ15 => lt (x10 + 1) (fun x16 => rec34 x16 σ15))))))
def f_X4_again_ahead_L34_b  (k79 : MM → Option MM) (rec34 : Int32 → MM → Option MM) (x8 : Int32) (σ9 : MM) : Option MM :=
  if 16 ≤ x8 then k79 σ9 else gd (inb (40 + x8) 90) (if ((m_ahead σ9) (Int32.toNatClampNeg (40 + x8))) = 1 then f_X4_again_ahead_b60 rec34 x8 1 x8 σ9 else f_X4_again_ahead_b60 rec34 x8 0 x8 σ9)
def f_X4_again_ahead_L34  (k79 : MM → Option MM) (x8 : Int32) (σ9 : MM) : Option MM :=
  lp (fun _ _ => none) (f_X4_again_ahead_L34_b  k79) FU x8 σ9
def f_X4_again_ahead_L81_b  (k117 : MM → Option MM) (rec81 : Int32 → MM → Option MM) (x18 : Int32) (σ19 : MM) : Option MM :=
  if 6 ≤ x18 then k117 σ19 else gd (inb (72 + x18) 90) (gd (inb x18 6) (lt (m_kind' σ19 (upd (m_kind σ19) (Int32.toNatClampNeg x18) ((m_ahead σ19) (Int32.toNatClampNeg (72 + x18))))) (fun σ20 => gd (inb (78 + x18) 90) (gd (inb x18 6) (lt (m_own' σ20 (upd (m_own σ20) (Int32.toNatClampNeg x18) ((m_ahead σ20) (Int32.toNatClampNeg (78 + x18))))) (fun σ21 => lt (x18 + 1) (fun x22 => rec81 x22 σ21)))))))
def f_X4_again_ahead_L81  (k117 : MM → Option MM) (x18 : Int32) (σ19 : MM) : Option MM :=
  lp (fun _ _ => none) (f_X4_again_ahead_L81_b  k117) FU x18 σ19
def f_X4_again_ahead (σ : MM) : Option MM :=
  f_X4_again_ahead_L2 (fun σ7 => f_X4_again_ahead_L34 (fun σ17 => f_X4_again_ahead_L81 (fun σ23 => gd (inb 84 90) (lt (m_w' σ23 ((m_ahead σ23) (Int32.toNatClampNeg 84))) (fun σ24 => gd (inb 85 90) (lt (m_h' σ24 ((m_ahead σ24) (Int32.toNatClampNeg 85))) (fun σ25 => gd (inb 86 90) (lt (m_turn' σ25 ((m_ahead σ25) (Int32.toNatClampNeg 86))) (fun σ26 => gd (inb 87 90) (lt (m_made' σ26 ((m_ahead σ26) (Int32.toNatClampNeg 87))) (fun σ27 => gd (inb 88 90) (lt (m_players' σ27 ((m_ahead σ27) (Int32.toNatClampNeg 88))) (fun σ28 => gd (inb 89 90) (lt (m_seed' σ28 ((m_ahead σ28) (Int32.toNatClampNeg 89))) (fun σ29 => some σ29))))))))))))) 0 σ17) 0 σ7) 0 σ
set_option maxHeartbeats 4000000 in
set_option maxRecDepth 100000 in
theorem c_X4_again_ahead (l : Launch) (ev : EV) (ad : Nat → Nat) (σ : MM)    (σ' : MM) (h : f_X4_again_ahead σ = some σ') : Ct l yX4_again prog_6_method_117_code 3 (Option.none : Option Jvm.ClassFile.FieldType) (rmk 0 0) ev 13 ad (mw ev ad σ) (mw ev ad σ') [.ref (ad 0), .ref (ad 12)] none := by
  refine Ct.of (by decide +kernel) (Nat.le_of_ble_eq_true rfl) ?_
  intro p e s m args below meth c Qc C hap hP hend ls hl
  have hAA : ∀ j, j < 13 → inA ad 13 (ad j) := fun j hj => ⟨j, hj, rfl⟩
  have hx := C.1
  have hb := C.2.1
  have hl : lv_has ls 3 [(0, .ref (ad 0)), (1, .ref (ad 12))] := hl
  have h := (f_X4_again_ahead.eq_1 _ ).symm.trans h
  refine lv_iconst (v := 0) hx hb dX4_again_0 (by decide) ?_
  refine lv_istore_n (lv' := [(2, .int 0), (0, .ref (ad 0)), (1, .ref (ad 12))]) hx hb dX4_again_1 rfl hl (by decide) rfl (fun ls hl => ?_)
  have hL2 : ∀ (k32 : MM → Option MM) (hk32 : ∀  (σk : MM) (H : Heap) (locs : List Loc) (ls : Array Slot), k32  σk = some σ' → PS ev 13 ad (mw ev ad σk) (inA ad 13) s H locs → lv_has ls 3 [(0, .ref (ad 0)), (1, .ref (ad 12))] → WW ev p l e (rmk 0 0) s m args below meth c Qc ad 13 H locs 32 ls []) (n : Nat) (x1 : Int32) (σ2 : MM) (H : Heap) (locs : List Loc) (ls : Array Slot), lp (fun _ _ => none) (f_X4_again_ahead_L2_b  k32) n x1 σ2 = some σ' → PS ev 13 ad (mw ev ad σ2) (inA ad 13) s H locs → lv_has ls 3 [(0, .ref (ad 0)), (1, .ref (ad 12)), (2, .int x1)] → WW ev p l e (rmk 0 0) s m args below meth c Qc ad 13 H locs 2 ls [] := by
    intro k32 hk32 n
    induction n with
    | zero =>
      intro x1 σ2 H locs ls h; exact k_none h
    | succ n ih =>
      intro x1 σ2 H locs ls h hP hl
      have h : f_X4_again_ahead_L2_b  k32 (lp (fun _ _ => none) (f_X4_again_ahead_L2_b  k32) n) x1 σ2 = some σ' := h
      have h := (f_X4_again_ahead_L2_b.eq_1 _ _ _ _ ).symm.trans h
      refine lv_iload_n hx hb dX4_again_2 rfl (lv_at hl 2 rfl) ?_
      refine lv_bipush (v := 40) hx hb dX4_again_3 (by decide) ?_
      refine lv_icmp_ge (tgt := 32) hx hb dX4_again_5 (by decide) (fun c5 => ?_) (fun c5 => ?_)
      · have h := k_if c5 h
        exact hk32 _ _ _ _ h hP (lv_sub hl [0, 1] rfl)
      · have h := k_nf c5 h
        refine lv_aload_n hx hb dX4_again_8 rfl (lv_at hl 0 rfl) ?_
        refine r_get C hP (ci := 4) rfl uin_X4 2 (by decide) 0 (by decide) rfl qFL_RX4_7 rfl rfl dX4_again_9 ?_
        refine lv_iload_n hx hb dX4_again_12 rfl (lv_at hl 2 rfl) ?_
        refine lv_aload_n hx hb dX4_again_13 rfl (lv_at hl 1 rfl) ?_
        refine lv_iload_n hx hb dX4_again_14 rfl (lv_at hl 2 rfl) ?_
        obtain ⟨hg, h⟩ := k_gd h
        refine r_iald C hP 12 (by decide) rfl hg dX4_again_15 ?_
        refine lv_iconst (v := 1) hx hb dX4_again_16 (by decide) ?_
        refine lv_icmp_ne (tgt := 24) hx hb dX4_again_17 (by decide) (fun c17 => ?_) (fun c17 => ?_)
        · have h := k_nf c17 h
          refine lv_iconst (v := 0) hx hb dX4_again_24 (by decide) ?_
          obtain ⟨hg, h⟩ := k_gd h
          obtain ⟨σ3, eσ3, h⟩ := k_ltx h
          refine st_M_hedge C hP hap hAA eσ3 hg dX4_again_25 (fun H locs hP => ?_)
          obtain ⟨x4, ex4, h⟩ := k_ltx h
          refine lv_iinc (v := x4) (lv' := [(2, .int x4), (0, .ref (ad 0)), (1, .ref (ad 12))]) hx hb dX4_again_26 hl (k := 2) rfl (by rw [ex4]; rfl) (by decide) rfl (fun ls hl => ?_)
          refine lv_goto (tgt := 2) hx hb dX4_again_29 (by decide) ?_
          exact ih _ _ _ _ _ h hP (lv_sub hl [1, 2, 0] rfl)
        · have h := k_if c17 h
          refine lv_iconst (v := 1) hx hb dX4_again_20 (by decide) ?_
          refine lv_goto (tgt := 25) hx hb dX4_again_21 (by decide) ?_
          obtain ⟨hg, h⟩ := k_gd h
          obtain ⟨σ5, eσ5, h⟩ := k_ltx h
          refine st_M_hedge C hP hap hAA eσ5 hg dX4_again_25 (fun H locs hP => ?_)
          obtain ⟨x6, ex6, h⟩ := k_ltx h
          refine lv_iinc (v := x6) (lv' := [(2, .int x6), (0, .ref (ad 0)), (1, .ref (ad 12))]) hx hb dX4_again_26 hl (k := 2) rfl (by rw [ex6]; rfl) (by decide) rfl (fun ls hl => ?_)
          refine lv_goto (tgt := 2) hx hb dX4_again_29 (by decide) ?_
          exact ih _ _ _ _ _ h hP (lv_sub hl [1, 2, 0] rfl)
  refine hL2 _ (fun σ7 H locs ls h hP hl => ?_) FU _ _ _ _ _ h hP (lv_sub hl [1, 2, 0] rfl)
  refine lv_iconst (v := 0) hx hb dX4_again_32 (by decide) ?_
  refine lv_istore_n (lv' := [(2, .int 0), (0, .ref (ad 0)), (1, .ref (ad 12))]) hx hb dX4_again_33 rfl hl (by decide) rfl (fun ls hl => ?_)
  have hL34 : ∀ (k79 : MM → Option MM) (hk79 : ∀  (σk : MM) (H : Heap) (locs : List Loc) (ls : Array Slot), k79  σk = some σ' → PS ev 13 ad (mw ev ad σk) (inA ad 13) s H locs → lv_has ls 3 [(0, .ref (ad 0)), (1, .ref (ad 12))] → WW ev p l e (rmk 0 0) s m args below meth c Qc ad 13 H locs 79 ls []) (n : Nat) (x8 : Int32) (σ9 : MM) (H : Heap) (locs : List Loc) (ls : Array Slot), lp (fun _ _ => none) (f_X4_again_ahead_L34_b  k79) n x8 σ9 = some σ' → PS ev 13 ad (mw ev ad σ9) (inA ad 13) s H locs → lv_has ls 3 [(0, .ref (ad 0)), (1, .ref (ad 12)), (2, .int x8)] → WW ev p l e (rmk 0 0) s m args below meth c Qc ad 13 H locs 34 ls [] := by
    intro k79 hk79 n
    induction n with
    | zero =>
      intro x8 σ9 H locs ls h; exact k_none h
    | succ n ih =>
      intro x8 σ9 H locs ls h hP hl
      have h : f_X4_again_ahead_L34_b  k79 (lp (fun _ _ => none) (f_X4_again_ahead_L34_b  k79) n) x8 σ9 = some σ' := h
      have h := (f_X4_again_ahead_L34_b.eq_1 _ _ _ _ ).symm.trans h
      have hB60 : ∀ (x10 : Int32) (x11 : Int32) (x12 : Int32) (σ13 : MM) (H : Heap) (locs : List Loc) (ls : Array Slot), f_X4_again_ahead_b60 (lp (fun _ _ => none) (f_X4_again_ahead_L34_b  k79) n) x10 x11 x12 σ13 = some σ' → PS ev 13 ad (mw ev ad σ13) (inA ad 13) s H locs → lv_has ls 3 [(0, .ref (ad 0)), (1, .ref (ad 12)), (2, .int x10)] → WW ev p l e (rmk 0 0) s m args below meth c Qc ad 13 H locs 60 ls [.int x11, .int x12, .ref (ad 2)] := by
        intro x10 x11 x12 σ13 H locs ls h hP hl
        have h := (f_X4_again_ahead_b60.eq_1 _ _ _ _ _ ).symm.trans h
        obtain ⟨hg, h⟩ := k_gd h
        obtain ⟨σ14, eσ14, h⟩ := k_ltx h
        refine st_M_dug C hP hap hAA eσ14 hg dX4_again_60 (fun H locs hP => ?_)
        refine lv_aload_n hx hb dX4_again_61 rfl (lv_at hl 0 rfl) ?_
        refine r_get C hP (ci := 4) rfl uin_X4 4 (by decide) 0 (by decide) rfl qFL_RX4_16 rfl rfl dX4_again_62 ?_
        refine lv_iload_n hx hb dX4_again_65 rfl (lv_at hl 2 rfl) ?_
        refine lv_aload_n hx hb dX4_again_66 rfl (lv_at hl 1 rfl) ?_
        refine lv_bipush (v := 56) hx hb dX4_again_67 (by decide) ?_
        refine lv_iload_n hx hb dX4_again_69 rfl (lv_at hl 2 rfl) ?_
        refine lv_iadd hx hb dX4_again_70 ?_
        obtain ⟨hg, h⟩ := k_gd h
        refine r_iald C hP 12 (by decide) rfl hg dX4_again_71 ?_
        obtain ⟨hg, h⟩ := k_gd h
        obtain ⟨σ15, eσ15, h⟩ := k_ltx h
        refine st_M_owner C hP hap hAA eσ15 hg dX4_again_72 (fun H locs hP => ?_)
        obtain ⟨x16, ex16, h⟩ := k_ltx h
        refine lv_iinc (v := x16) (lv' := [(2, .int x16), (0, .ref (ad 0)), (1, .ref (ad 12))]) hx hb dX4_again_73 hl (k := 2) rfl (by rw [ex16]; rfl) (by decide) rfl (fun ls hl => ?_)
        refine lv_goto (tgt := 34) hx hb dX4_again_76 (by decide) ?_
        exact ih _ _ _ _ _ h hP (lv_sub hl [1, 2, 0] rfl)
      refine lv_iload_n hx hb dX4_again_34 rfl (lv_at hl 2 rfl) ?_
      refine lv_bipush (v := 16) hx hb dX4_again_35 (by decide) ?_
      refine lv_icmp_ge (tgt := 79) hx hb dX4_again_37 (by decide) (fun c37 => ?_) (fun c37 => ?_)
      · have h := k_if c37 h
        exact hk79 _ _ _ _ h hP (lv_sub hl [0, 1] rfl)
      · have h := k_nf c37 h
        refine lv_aload_n hx hb dX4_again_40 rfl (lv_at hl 0 rfl) ?_
        refine r_get C hP (ci := 4) rfl uin_X4 3 (by decide) 0 (by decide) rfl qFL_RX4_13 rfl rfl dX4_again_41 ?_
        refine lv_iload_n hx hb dX4_again_44 rfl (lv_at hl 2 rfl) ?_
        refine lv_aload_n hx hb dX4_again_45 rfl (lv_at hl 1 rfl) ?_
        refine lv_bipush (v := 40) hx hb dX4_again_46 (by decide) ?_
        refine lv_iload_n hx hb dX4_again_48 rfl (lv_at hl 2 rfl) ?_
        refine lv_iadd hx hb dX4_again_49 ?_
        obtain ⟨hg, h⟩ := k_gd h
        refine r_iald C hP 12 (by decide) rfl hg dX4_again_50 ?_
        refine lv_iconst (v := 1) hx hb dX4_again_51 (by decide) ?_
        refine lv_icmp_ne (tgt := 59) hx hb dX4_again_52 (by decide) (fun c52 => ?_) (fun c52 => ?_)
        · have h := k_nf c52 h
          refine lv_iconst (v := 0) hx hb dX4_again_59 (by decide) ?_
          exact hB60 _ _ _ _ _ _ _ h hP (lv_sub hl [0, 1, 2] rfl)
        · have h := k_if c52 h
          refine lv_iconst (v := 1) hx hb dX4_again_55 (by decide) ?_
          refine lv_goto (tgt := 60) hx hb dX4_again_56 (by decide) ?_
          exact hB60 _ _ _ _ _ _ _ h hP (lv_sub hl [0, 1, 2] rfl)
  refine hL34 _ (fun σ17 H locs ls h hP hl => ?_) FU _ _ _ _ _ h hP (lv_sub hl [1, 2, 0] rfl)
  refine lv_iconst (v := 0) hx hb dX4_again_79 (by decide) ?_
  refine lv_istore_n (lv' := [(2, .int 0), (0, .ref (ad 0)), (1, .ref (ad 12))]) hx hb dX4_again_80 rfl hl (by decide) rfl (fun ls hl => ?_)
  have hL81 : ∀ (k117 : MM → Option MM) (hk117 : ∀  (σk : MM) (H : Heap) (locs : List Loc) (ls : Array Slot), k117  σk = some σ' → PS ev 13 ad (mw ev ad σk) (inA ad 13) s H locs → lv_has ls 3 [(0, .ref (ad 0)), (1, .ref (ad 12))] → WW ev p l e (rmk 0 0) s m args below meth c Qc ad 13 H locs 117 ls []) (n : Nat) (x18 : Int32) (σ19 : MM) (H : Heap) (locs : List Loc) (ls : Array Slot), lp (fun _ _ => none) (f_X4_again_ahead_L81_b  k117) n x18 σ19 = some σ' → PS ev 13 ad (mw ev ad σ19) (inA ad 13) s H locs → lv_has ls 3 [(0, .ref (ad 0)), (1, .ref (ad 12)), (2, .int x18)] → WW ev p l e (rmk 0 0) s m args below meth c Qc ad 13 H locs 81 ls [] := by
    intro k117 hk117 n
    induction n with
    | zero =>
      intro x18 σ19 H locs ls h; exact k_none h
    | succ n ih =>
      intro x18 σ19 H locs ls h hP hl
      have h : f_X4_again_ahead_L81_b  k117 (lp (fun _ _ => none) (f_X4_again_ahead_L81_b  k117) n) x18 σ19 = some σ' := h
      have h := (f_X4_again_ahead_L81_b.eq_1 _ _ _ _ ).symm.trans h
      refine lv_iload_n hx hb dX4_again_81 rfl (lv_at hl 2 rfl) ?_
      refine lv_bipush (v := 6) hx hb dX4_again_82 (by decide) ?_
      refine lv_icmp_ge (tgt := 117) hx hb dX4_again_84 (by decide) (fun c84 => ?_) (fun c84 => ?_)
      · have h := k_if c84 h
        exact hk117 _ _ _ _ h hP (lv_sub hl [0, 1] rfl)
      · have h := k_nf c84 h
        refine lv_aload_n hx hb dX4_again_87 rfl (lv_at hl 0 rfl) ?_
        refine r_get C hP (ci := 4) rfl uin_X4 8 (by decide) 0 (by decide) rfl qFL_RX4_20 rfl rfl dX4_again_88 ?_
        refine lv_iload_n hx hb dX4_again_91 rfl (lv_at hl 2 rfl) ?_
        refine lv_aload_n hx hb dX4_again_92 rfl (lv_at hl 1 rfl) ?_
        refine lv_bipush (v := 72) hx hb dX4_again_93 (by decide) ?_
        refine lv_iload_n hx hb dX4_again_95 rfl (lv_at hl 2 rfl) ?_
        refine lv_iadd hx hb dX4_again_96 ?_
        obtain ⟨hg, h⟩ := k_gd h
        refine r_iald C hP 12 (by decide) rfl hg dX4_again_97 ?_
        obtain ⟨hg, h⟩ := k_gd h
        obtain ⟨σ20, eσ20, h⟩ := k_ltx h
        refine st_M_kind C hP hap hAA eσ20 hg dX4_again_98 (fun H locs hP => ?_)
        refine lv_aload_n hx hb dX4_again_99 rfl (lv_at hl 0 rfl) ?_
        refine r_get C hP (ci := 4) rfl uin_X4 9 (by decide) 0 (by decide) rfl qFL_RX4_23 rfl rfl dX4_again_100 ?_
        refine lv_iload_n hx hb dX4_again_103 rfl (lv_at hl 2 rfl) ?_
        refine lv_aload_n hx hb dX4_again_104 rfl (lv_at hl 1 rfl) ?_
        refine lv_bipush (v := 78) hx hb dX4_again_105 (by decide) ?_
        refine lv_iload_n hx hb dX4_again_107 rfl (lv_at hl 2 rfl) ?_
        refine lv_iadd hx hb dX4_again_108 ?_
        obtain ⟨hg, h⟩ := k_gd h
        refine r_iald C hP 12 (by decide) rfl hg dX4_again_109 ?_
        obtain ⟨hg, h⟩ := k_gd h
        obtain ⟨σ21, eσ21, h⟩ := k_ltx h
        refine st_M_own C hP hap hAA eσ21 hg dX4_again_110 (fun H locs hP => ?_)
        obtain ⟨x22, ex22, h⟩ := k_ltx h
        refine lv_iinc (v := x22) (lv' := [(2, .int x22), (0, .ref (ad 0)), (1, .ref (ad 12))]) hx hb dX4_again_111 hl (k := 2) rfl (by rw [ex22]; rfl) (by decide) rfl (fun ls hl => ?_)
        refine lv_goto (tgt := 81) hx hb dX4_again_114 (by decide) ?_
        exact ih _ _ _ _ _ h hP (lv_sub hl [1, 2, 0] rfl)
  refine hL81 _ (fun σ23 H locs ls h hP hl => ?_) FU _ _ _ _ _ h hP (lv_sub hl [1, 2, 0] rfl)
  refine lv_aload_n hx hb dX4_again_117 rfl (lv_at hl 0 rfl) ?_
  refine lv_aload_n hx hb dX4_again_118 rfl (lv_at hl 1 rfl) ?_
  refine lv_bipush (v := 84) hx hb dX4_again_119 (by decide) ?_
  obtain ⟨hg, h⟩ := k_gd h
  refine r_iald C hP 12 (by decide) rfl hg dX4_again_121 ?_
  obtain ⟨σ24, eσ24, h⟩ := k_ltx h
  refine pt_M_X4_w C hP hap hAA eσ24 qFL_RX4_67 dX4_again_122 (fun H locs hP => ?_)
  refine lv_aload_n hx hb dX4_again_125 rfl (lv_at hl 0 rfl) ?_
  refine lv_aload_n hx hb dX4_again_126 rfl (lv_at hl 1 rfl) ?_
  refine lv_bipush (v := 85) hx hb dX4_again_127 (by decide) ?_
  obtain ⟨hg, h⟩ := k_gd h
  refine r_iald C hP 12 (by decide) rfl hg dX4_again_129 ?_
  obtain ⟨σ25, eσ25, h⟩ := k_ltx h
  refine pt_M_X4_h C hP hap hAA eσ25 qFL_RX4_70 dX4_again_130 (fun H locs hP => ?_)
  refine lv_aload_n hx hb dX4_again_133 rfl (lv_at hl 0 rfl) ?_
  refine lv_aload_n hx hb dX4_again_134 rfl (lv_at hl 1 rfl) ?_
  refine lv_bipush (v := 86) hx hb dX4_again_135 (by decide) ?_
  obtain ⟨hg, h⟩ := k_gd h
  refine r_iald C hP 12 (by decide) rfl hg dX4_again_137 ?_
  obtain ⟨σ26, eσ26, h⟩ := k_ltx h
  refine pt_M_X4_turn C hP hap hAA eσ26 qFL_RX4_101 dX4_again_138 (fun H locs hP => ?_)
  refine lv_aload_n hx hb dX4_again_141 rfl (lv_at hl 0 rfl) ?_
  refine lv_aload_n hx hb dX4_again_142 rfl (lv_at hl 1 rfl) ?_
  refine lv_bipush (v := 87) hx hb dX4_again_143 (by decide) ?_
  obtain ⟨hg, h⟩ := k_gd h
  refine r_iald C hP 12 (by decide) rfl hg dX4_again_145 ?_
  obtain ⟨σ27, eσ27, h⟩ := k_ltx h
  refine pt_M_X4_made C hP hap hAA eσ27 qFL_RX4_104 dX4_again_146 (fun H locs hP => ?_)
  refine lv_aload_n hx hb dX4_again_149 rfl (lv_at hl 0 rfl) ?_
  refine lv_aload_n hx hb dX4_again_150 rfl (lv_at hl 1 rfl) ?_
  refine lv_bipush (v := 88) hx hb dX4_again_151 (by decide) ?_
  obtain ⟨hg, h⟩ := k_gd h
  refine r_iald C hP 12 (by decide) rfl hg dX4_again_153 ?_
  obtain ⟨σ28, eσ28, h⟩ := k_ltx h
  refine pt_M_X4_players C hP hap hAA eσ28 qFL_RX4_60 dX4_again_154 (fun H locs hP => ?_)
  refine lv_aload_n hx hb dX4_again_157 rfl (lv_at hl 0 rfl) ?_
  refine lv_aload_n hx hb dX4_again_158 rfl (lv_at hl 1 rfl) ?_
  refine lv_bipush (v := 89) hx hb dX4_again_159 (by decide) ?_
  obtain ⟨hg, h⟩ := k_gd h
  refine r_iald C hP 12 (by decide) rfl hg dX4_again_161 ?_
  obtain ⟨σ29, eσ29, h⟩ := k_ltx h
  refine pt_M_X4_seed C hP hap hAA eσ29 qFL_RX4_48 dX4_again_162 (fun H locs hP => ?_)
  exact e_vret C hend hP (congrArg (mw ev ad) (k_some h)) dX4_again_165
def f_X4_board_L17_b  (k78 : MM → Option (Int32 × MM)) (k53 : Int32 → MM → Option (Int32 × MM)) (rec17 : Int32 → Int32 → MM → Option (Int32 × MM)) (x3 : Int32) (x4 : Int32) (σ5 : MM) : Option (Int32 × MM) :=
  if x4 = 0 then k78 σ5 else ob (f_X4_next σ5) (fun σ6 => ob2 (f_X4_statement σ6) (fun b8 σ7 => if b8 = true then lt (x3 + 1) (fun x9 => ob (f_X4_next σ7) (fun σ10 => if (m_token σ10) = 101 then k53 x9 σ10 else if (m_token σ10) = 59 then rec17 x9 1 σ10 else rec17 x9 0 σ10)) else rec17 x3 ((bi b8)) σ7))
def f_X4_board_L17  (k78 : MM → Option (Int32 × MM)) (k53 : Int32 → MM → Option (Int32 × MM)) (x3 : Int32) (x4 : Int32) (σ5 : MM) : Option (Int32 × MM) :=
  lp (fun _ _ _ => none) (f_X4_board_L17_b  k78 k53) FU x3 x4 σ5
def f_X4_board (σ : MM) : Option (Int32 × MM) :=
  ob (f_X4_keep_ahead σ) (fun σ1 => lt (m_to' σ1 0) (fun σ2 => f_X4_board_L17 (fun σ12 => ob (f_X4_again_ahead σ12) (fun σ13 => lt (m_taped' σ13 0) (fun σ14 => ob2 (f_X4_no σ14 (-2)) (fun x16 σ15 => some (((-20) - (m_from σ15)), σ15))))) (fun x17 σ18 => lt (m_taped' σ18 0) (fun σ19 => some (x17, σ19))) 0 1 σ2))
set_option maxHeartbeats 4000000 in
set_option maxRecDepth 100000 in
theorem c_X4_board (l : Launch) (ev : EV) (ad : Nat → Nat) (σ : MM)   (r : Int32) (σ' : MM) (h : f_X4_board σ = some (r, σ')) : Ct l yX4_board prog_6_method_40_code 3 (Option.some Jvm.ClassFile.FieldType.int) (rmk 10 345) ev 13 ad (mw ev ad σ) (mw ev ad σ') [.ref (ad 0)] (some (.int r)) := by
  refine Ct.of (by decide +kernel) (Nat.le_of_ble_eq_true rfl) ?_
  intro p e s m args below meth c Qc C hap hP hend ls hl
  have hAA : ∀ j, j < 13 → inA ad 13 (ad j) := fun j hj => ⟨j, hj, rfl⟩
  have hx := C.1
  have hb := C.2.1
  have hl : lv_has ls 3 [(0, .ref (ad 0))] := hl
  have h := (f_X4_board.eq_1 _ ).symm.trans h
  refine lv_aload_n hx hb dX4_board_0 rfl (lv_at hl 0 rfl) ?_
  refine lv_aload_n hx hb dX4_board_1 rfl (lv_at hl 0 rfl) ?_
  refine r_get C hP (ci := 4) rfl uin_X4 23 (by decide) 0 (by decide) rfl qFL_RX4_45 rfl rfl dX4_board_2 ?_
  obtain ⟨σ1, h1, h⟩ := k_ob h
  refine k_callVv C hP hap hAA (c_X4_keep_ahead l ev ad σ   _ h1) Emb.same hap gz_X4_keep qML_RX4_185 qIM_yX4_keep qSE_yX4_keep ⟨(Nat.le_of_ble_eq_true rfl), (Nat.le_of_ble_eq_true rfl)⟩ (q0 := 0) rfl (by decide) rfl rfl rfl rfl hl.1 rfl (Nat.le_of_ble_eq_true rfl) dX4_board_5 ⟨Nat.le_refl _, Nat.le_refl _⟩ (fun H locs hP => ?_)
  refine lv_aload_n hx hb dX4_board_8 rfl (lv_at hl 0 rfl) ?_
  refine lv_iconst (v := 0) hx hb dX4_board_9 (by decide) ?_
  obtain ⟨σ2, eσ2, h⟩ := k_ltx h
  refine pt_M_X4_to C hP hap hAA eσ2 qFL_RX4_131 dX4_board_10 (fun H locs hP => ?_)
  refine lv_iconst (v := 0) hx hb dX4_board_13 (by decide) ?_
  refine lv_istore_n (lv' := [(1, .int 0), (0, .ref (ad 0))]) hx hb dX4_board_14 rfl hl (by decide) rfl (fun ls hl => ?_)
  refine lv_iconst (v := 1) hx hb dX4_board_15 (by decide) ?_
  refine lv_istore_n (lv' := [(2, .int 1), (1, .int 0), (0, .ref (ad 0))]) hx hb dX4_board_16 rfl hl (by decide) rfl (fun ls hl => ?_)
  have hL17 : ∀ (k78 : MM → Option (Int32 × MM)) (hk78 : ∀  (σk : MM) (H : Heap) (locs : List Loc) (ls : Array Slot), k78  σk = some (r, σ') → PS ev 13 ad (mw ev ad σk) (inA ad 13) s H locs → lv_has ls 3 [(0, .ref (ad 0))] → WW ev p l e (rmk 10 345) s m args below meth c Qc ad 13 H locs 78 ls []) (k53 : Int32 → MM → Option (Int32 × MM)) (hk53 : ∀ (z11 : Int32) (σk : MM) (H : Heap) (locs : List Loc) (ls : Array Slot), k53 z11 σk = some (r, σ') → PS ev 13 ad (mw ev ad σk) (inA ad 13) s H locs → lv_has ls 3 [(0, .ref (ad 0)), (1, .int z11)] → WW ev p l e (rmk 10 345) s m args below meth c Qc ad 13 H locs 53 ls []) (n : Nat) (x3 : Int32) (x4 : Int32) (σ5 : MM) (H : Heap) (locs : List Loc) (ls : Array Slot), lp (fun _ _ _ => none) (f_X4_board_L17_b  k78 k53) n x3 x4 σ5 = some (r, σ') → PS ev 13 ad (mw ev ad σ5) (inA ad 13) s H locs → lv_has ls 3 [(0, .ref (ad 0)), (1, .int x3), (2, .int x4)] → WW ev p l e (rmk 10 345) s m args below meth c Qc ad 13 H locs 17 ls [] := by
    intro k78 hk78 k53 hk53 n
    induction n with
    | zero =>
      intro x3 x4 σ5 H locs ls h; exact k_none h
    | succ n ih =>
      intro x3 x4 σ5 H locs ls h hP hl
      have h : f_X4_board_L17_b  k78 k53 (lp (fun _ _ _ => none) (f_X4_board_L17_b  k78 k53) n) x3 x4 σ5 = some (r, σ') := h
      have h := (f_X4_board_L17_b.eq_1 _ _ _ _ _ _ ).symm.trans h
      refine lv_iload_n hx hb dX4_board_17 rfl (lv_at hl 2 rfl) ?_
      refine lv_if_eq (tgt := 78) hx hb dX4_board_18 (by decide) (fun c18 => ?_) (fun c18 => ?_)
      · have h := k_if c18 h
        exact hk78 _ _ _ _ h hP (lv_sub hl [0] rfl)
      · have h := k_nf c18 h
        refine lv_aload_n hx hb dX4_board_21 rfl (lv_at hl 0 rfl) ?_
        obtain ⟨σ6, h1, h⟩ := k_ob h
        refine k_callVv C hP hap hAA (c_X4_next l ev ad σ5   _ h1) Emb.same hap gz_X4_next qML_RX4_158 qIM_yX4_next qSE_yX4_next ⟨(Nat.le_of_ble_eq_true rfl), (Nat.le_of_ble_eq_true rfl)⟩ (q0 := 0) rfl (by decide) rfl rfl rfl rfl hl.1 rfl (Nat.le_of_ble_eq_true rfl) dX4_board_22 ⟨Nat.le_refl _, Nat.le_refl _⟩ (fun H locs hP => ?_)
        refine lv_aload_n hx hb dX4_board_25 rfl (lv_at hl 0 rfl) ?_
        obtain ⟨b8, σ7, h1, h⟩ := k_ob2 h
        refine k_callVi C hP hap hAA (c_X4_statement l ev ad σ6   _ _ h1) Emb.same hap gz_X4_statement qML_RX4_189 qIM_yX4_statement qSE_yX4_statement ⟨(Nat.le_of_ble_eq_true rfl), (Nat.le_of_ble_eq_true rfl)⟩ (q0 := 0) rfl (by decide) rfl rfl rfl rfl hl.1 rfl (Nat.le_of_ble_eq_true rfl) dX4_board_26 ⟨Nat.le_refl _, Nat.le_refl _⟩ (fun H locs hP => ?_)
        refine lv_istore_n (lv' := [(2, .int (bi b8)), (0, .ref (ad 0)), (1, .int x3)]) hx hb dX4_board_29 rfl hl (by decide) rfl (fun ls hl => ?_)
        refine lv_iload_n hx hb dX4_board_30 rfl (lv_at hl 0 rfl) ?_
        refine r_ifz_ne (tgt := 37) hx hb dX4_board_31 (by decide) (fun c31 => ?_) (fun c31 => ?_)
        · have h := k_if c31 h
          obtain ⟨x9, ex9, h⟩ := k_ltx h
          refine lv_iinc (v := x9) (lv' := [(1, .int x9), (2, .int (bi b8)), (0, .ref (ad 0))]) hx hb dX4_board_37 hl (k := 2) rfl (by rw [ex9]; rfl) (by decide) rfl (fun ls hl => ?_)
          refine lv_aload_n hx hb dX4_board_40 rfl (lv_at hl 2 rfl) ?_
          obtain ⟨σ10, h1, h⟩ := k_ob h
          refine k_callVv C hP hap hAA (c_X4_next l ev ad σ7   _ h1) Emb.same hap gz_X4_next qML_RX4_158 qIM_yX4_next qSE_yX4_next ⟨(Nat.le_of_ble_eq_true rfl), (Nat.le_of_ble_eq_true rfl)⟩ (q0 := 0) rfl (by decide) rfl rfl rfl rfl hl.1 rfl (Nat.le_of_ble_eq_true rfl) dX4_board_41 ⟨Nat.le_refl _, Nat.le_refl _⟩ (fun H locs hP => ?_)
          refine lv_aload_n hx hb dX4_board_44 rfl (lv_at hl 2 rfl) ?_
          refine r_get C hP (ci := 4) rfl uin_X4 15 (by decide) 0 (by decide) rfl qFL_RX4_137 rfl rfl dX4_board_45 ?_
          refine lv_bipush (v := 101) hx hb dX4_board_48 (by decide) ?_
          refine lv_icmp_ne (tgt := 60) hx hb dX4_board_50 (by decide) (fun c50 => ?_) (fun c50 => ?_)
          · have h := k_nf c50 h
            refine lv_aload_n hx hb dX4_board_60 rfl (lv_at hl 2 rfl) ?_
            refine r_get C hP (ci := 4) rfl uin_X4 15 (by decide) 0 (by decide) rfl qFL_RX4_137 rfl rfl dX4_board_61 ?_
            refine lv_bipush (v := 59) hx hb dX4_board_64 (by decide) ?_
            refine lv_icmp_ne (tgt := 73) hx hb dX4_board_66 (by decide) (fun c66 => ?_) (fun c66 => ?_)
            · have h := k_nf c66 h
              refine lv_iconst (v := 0) hx hb dX4_board_73 (by decide) ?_
              refine lv_istore_n (lv' := [(2, .int 0), (1, .int x9), (0, .ref (ad 0))]) hx hb dX4_board_74 rfl hl (by decide) rfl (fun ls hl => ?_)
              refine lv_goto (tgt := 17) hx hb dX4_board_75 (by decide) ?_
              exact ih _ _ _ _ _ _ h hP (lv_sub hl [2, 1, 0] rfl)
            · have h := k_if c66 h
              refine lv_iconst (v := 1) hx hb dX4_board_69 (by decide) ?_
              refine lv_goto (tgt := 74) hx hb dX4_board_70 (by decide) ?_
              refine lv_istore_n (lv' := [(2, .int 1), (1, .int x9), (0, .ref (ad 0))]) hx hb dX4_board_74 rfl hl (by decide) rfl (fun ls hl => ?_)
              refine lv_goto (tgt := 17) hx hb dX4_board_75 (by decide) ?_
              exact ih _ _ _ _ _ _ h hP (lv_sub hl [2, 1, 0] rfl)
          · have h := k_if c50 h
            exact hk53 _ _ _ _ _ h hP (lv_sub hl [2, 0] rfl)
        · have h := k_nf c31 h
          refine lv_goto (tgt := 17) hx hb dX4_board_34 (by decide) ?_
          exact ih _ _ _ _ _ _ h hP (lv_sub hl [1, 2, 0] rfl)
  refine hL17 _ (fun σ12 H locs ls h hP hl => ?_) _ (fun x17 σ18 H locs ls h hP hl => ?_) FU _ _ _ _ _ _ h hP (lv_sub hl [2, 1, 0] rfl)
  · refine lv_aload_n hx hb dX4_board_78 rfl (lv_at hl 0 rfl) ?_
    refine lv_aload_n hx hb dX4_board_79 rfl (lv_at hl 0 rfl) ?_
    refine r_get C hP (ci := 4) rfl uin_X4 23 (by decide) 0 (by decide) rfl qFL_RX4_45 rfl rfl dX4_board_80 ?_
    obtain ⟨σ13, h1, h⟩ := k_ob h
    refine k_callVv C hP hap hAA (c_X4_again_ahead l ev ad σ12   _ h1) Emb.same hap gz_X4_again qML_RX4_193 qIM_yX4_again qSE_yX4_again ⟨(Nat.le_of_ble_eq_true rfl), (Nat.le_of_ble_eq_true rfl)⟩ (q0 := 0) rfl (by decide) rfl rfl rfl rfl hl.1 rfl (Nat.le_of_ble_eq_true rfl) dX4_board_83 ⟨Nat.le_refl _, Nat.le_refl _⟩ (fun H locs hP => ?_)
    refine lv_aload_n hx hb dX4_board_86 rfl (lv_at hl 0 rfl) ?_
    refine lv_iconst (v := 0) hx hb dX4_board_87 (by decide) ?_
    obtain ⟨σ14, eσ14, h⟩ := k_ltx h
    refine pt_M_X4_taped C hP hap hAA eσ14 qFL_RX4_128 dX4_board_88 (fun H locs hP => ?_)
    refine lv_aload_n hx hb dX4_board_91 rfl (lv_at hl 0 rfl) ?_
    refine lv_bipush (v := (-2)) hx hb dX4_board_92 (by decide) ?_
    obtain ⟨x16, σ15, h1, h⟩ := k_ob2 h
    refine k_callVi C hP hap hAA (c_X4_no l ev ad σ14 (-2)   _ _ h1) Emb.same hap gz_X4_no qML_RX4_56 qIM_yX4_no qSE_yX4_no ⟨(Nat.le_of_ble_eq_true rfl), (Nat.le_of_ble_eq_true rfl)⟩ (q0 := 0) rfl (by decide) rfl rfl rfl rfl hl.1 rfl (Nat.le_of_ble_eq_true rfl) dX4_board_94 ⟨Nat.le_refl _, Nat.le_refl _⟩ (fun H locs hP => ?_)
    refine lv_pop hx hb dX4_board_97 rfl ?_
    refine lv_bipush (v := (-20)) hx hb dX4_board_98 (by decide) ?_
    refine lv_aload_n hx hb dX4_board_100 rfl (lv_at hl 0 rfl) ?_
    refine r_get C hP (ci := 4) rfl uin_X4 13 (by decide) 0 (by decide) rfl qFL_RX4_134 rfl rfl dX4_board_101 ?_
    refine lv_isub hx hb dX4_board_104 ?_
    exact e_iret C hend hP (k_some2 h).1 (congrArg (mw ev ad) (k_some2 h).2) dX4_board_105
  · refine lv_aload_n hx hb dX4_board_53 rfl (lv_at hl 0 rfl) ?_
    refine lv_iconst (v := 0) hx hb dX4_board_54 (by decide) ?_
    obtain ⟨σ19, eσ19, h⟩ := k_ltx h
    refine pt_M_X4_taped C hP hap hAA eσ19 qFL_RX4_128 dX4_board_55 (fun H locs hP => ?_)
    refine lv_iload_n hx hb dX4_board_58 rfl (lv_at hl 1 rfl) ?_
    exact e_iret C hend hP (k_some2 h).1 (congrArg (mw ev ad) (k_some2 h).2) dX4_board_59
