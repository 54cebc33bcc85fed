/-! functions read off, and their contracts: by program (wip/whole/gen2.py) -/
def f_X4_again_old_L2_b  (k32 : MM → Option MM) (rec2 : Int32 → MM → Option MM) (x1 : Int32) (σ2 : MM) : Option MM :=
  if 40 ≤ x1 then k32 σ2 else gd (inb x1 90) (if ((m_old σ2) (Int32.toNatClampNeg x1)) = 1 then gd (inb x1 40) (lt (m_hedge' σ2 (upd (m_hedge σ2) (Int32.toNatClampNeg x1) (vp_nar .boolean 1))) (fun σ5 => lt (x1 + 1) (fun x6 => rec2 x6 σ5))) else gd (inb x1 40) (lt (m_hedge' σ2 (upd (m_hedge σ2) (Int32.toNatClampNeg x1) (vp_nar .boolean 0))) (fun σ3 => lt (x1 + 1) (fun x4 => rec2 x4 σ3))))
def f_X4_again_old_L2  (k32 : MM → Option MM) (x1 : Int32) (σ2 : MM) : Option MM :=
  lp (fun _ _ => none) (f_X4_again_old_L2_b  k32) FU x1 σ2
def f_X4_again_old_b60 (rec34 : Int32 → MM → Option MM) (x10 : Int32) (x11 : Int32) (x12 : Int32) (σ13 : MM) : Option MM :=
  gd (inb x12 16) (lt (m_dug' σ13 (upd (m_dug σ13) (Int32.toNatClampNeg x12) (vp_nar .boolean x11))) (fun σ14 => gd (inb (56 + x10) 90) (gd (inb x10 16) (lt (m_owner' σ14 (upd (m_owner σ14) (Int32.toNatClampNeg x10) ((m_old σ14) (Int32.toNatClampNeg (56 + x10))))) (fun σ15 => lt (x10 + 1) (fun x16 => rec34 x16 σ15))))))
def f_X4_again_old_L34_b  (k79 : MM → Option MM) (rec34 : Int32 → MM → Option MM) (x8 : Int32) (σ9 : MM) : Option MM :=
  if 16 ≤ x8 then k79 σ9 else gd (inb (40 + x8) 90) (if ((m_old σ9) (Int32.toNatClampNeg (40 + x8))) = 1 then f_X4_again_old_b60 rec34 x8 1 x8 σ9 else f_X4_again_old_b60 rec34 x8 0 x8 σ9)
def f_X4_again_old_L34  (k79 : MM → Option MM) (x8 : Int32) (σ9 : MM) : Option MM :=
  lp (fun _ _ => none) (f_X4_again_old_L34_b  k79) FU x8 σ9
def f_X4_again_old_L81_b  (k117 : MM → Option MM) (rec81 : Int32 → MM → Option MM) (x18 : Int32) (σ19 : MM) : Option MM :=
  if 6 ≤ x18 then k117 σ19 else gd (inb (72 + x18) 90) (gd (inb x18 6) (lt (m_kind' σ19 (upd (m_kind σ19) (Int32.toNatClampNeg x18) ((m_old σ19) (Int32.toNatClampNeg (72 + x18))))) (fun σ20 => gd (inb (78 + x18) 90) (gd (inb x18 6) (lt (m_own' σ20 (upd (m_own σ20) (Int32.toNatClampNeg x18) ((m_old σ20) (Int32.toNatClampNeg (78 + x18))))) (fun σ21 => lt (x18 + 1) (fun x22 => rec81 x22 σ21)))))))
def f_X4_again_old_L81  (k117 : MM → Option MM) (x18 : Int32) (σ19 : MM) : Option MM :=
  lp (fun _ _ => none) (f_X4_again_old_L81_b  k117) FU x18 σ19
def f_X4_again_old (σ : MM) : Option MM :=
  f_X4_again_old_L2 (fun σ7 => f_X4_again_old_L34 (fun σ17 => f_X4_again_old_L81 (fun σ23 => gd (inb 84 90) (lt (m_w' σ23 ((m_old σ23) (Int32.toNatClampNeg 84))) (fun σ24 => gd (inb 85 90) (lt (m_h' σ24 ((m_old σ24) (Int32.toNatClampNeg 85))) (fun σ25 => gd (inb 86 90) (lt (m_turn' σ25 ((m_old σ25) (Int32.toNatClampNeg 86))) (fun σ26 => gd (inb 87 90) (lt (m_made' σ26 ((m_old σ26) (Int32.toNatClampNeg 87))) (fun σ27 => gd (inb 88 90) (lt (m_players' σ27 ((m_old σ27) (Int32.toNatClampNeg 88))) (fun σ28 => gd (inb 89 90) (lt (m_seed' σ28 ((m_old σ28) (Int32.toNatClampNeg 89))) (fun σ29 => some σ29))))))))))))) 0 σ17) 0 σ7) 0 σ
set_option maxHeartbeats 4000000 in
set_option maxRecDepth 100000 in
theorem c_X4_again_old (l : Launch) (ev : EV) (ad : Nat → Nat) (σ : MM)    (σ' : MM) (h : f_X4_again_old σ = some σ') : Ct l yX4_again prog_6_method_117_code 3 (Option.none : Option Jvm.ClassFile.FieldType) (rmk 0 0) ev 13 ad (mw ev ad σ) (mw ev ad σ') [.ref (ad 0), .ref (ad 11)] none := by
  refine Ct.of (by decide +kernel) (Nat.le_of_ble_eq_true rfl) ?_
  intro p e s m args below meth c Qc C hap hP hend ls hl
  have hAA : ∀ j, j < 13 → inA ad 13 (ad j) := fun j hj => ⟨j, hj, rfl⟩
  have hx := C.1
  have hb := C.2.1
  have hl : lv_has ls 3 [(0, .ref (ad 0)), (1, .ref (ad 11))] := hl
  have h := (f_X4_again_old.eq_1 _ ).symm.trans h
  refine lv_iconst (v := 0) hx hb dX4_again_0 (by decide) ?_
  refine lv_istore_n (lv' := [(2, .int 0), (0, .ref (ad 0)), (1, .ref (ad 11))]) hx hb dX4_again_1 rfl hl (by decide) rfl (fun ls hl => ?_)
  have hL2 : ∀ (k32 : MM → Option MM) (hk32 : ∀  (σk : MM) (H : Heap) (locs : List Loc) (ls : Array Slot), k32  σk = some σ' → PS ev 13 ad (mw ev ad σk) (inA ad 13) s H locs → lv_has ls 3 [(0, .ref (ad 0)), (1, .ref (ad 11))] → WW ev p l e (rmk 0 0) s m args below meth c Qc ad 13 H locs 32 ls []) (n : Nat) (x1 : Int32) (σ2 : MM) (H : Heap) (locs : List Loc) (ls : Array Slot), lp (fun _ _ => none) (f_X4_again_old_L2_b  k32) n x1 σ2 = some σ' → PS ev 13 ad (mw ev ad σ2) (inA ad 13) s H locs → lv_has ls 3 [(0, .ref (ad 0)), (1, .ref (ad 11)), (2, .int x1)] → WW ev p l e (rmk 0 0) s m args below meth c Qc ad 13 H locs 2 ls [] := by
    intro k32 hk32 n
    induction n with
    | zero =>
      intro x1 σ2 H locs ls h; exact k_none h
    | succ n ih =>
      intro x1 σ2 H locs ls h hP hl
      have h : f_X4_again_old_L2_b  k32 (lp (fun _ _ => none) (f_X4_again_old_L2_b  k32) n) x1 σ2 = some σ' := h
      have h := (f_X4_again_old_L2_b.eq_1 _ _ _ _ ).symm.trans h
      refine lv_iload_n hx hb dX4_again_2 rfl (lv_at hl 2 rfl) ?_
      refine lv_bipush (v := 40) hx hb dX4_again_3 (by decide) ?_
      refine lv_icmp_ge (tgt := 32) hx hb dX4_again_5 (by decide) (fun c5 => ?_) (fun c5 => ?_)
      · have h := k_if c5 h
        exact hk32 _ _ _ _ h hP (lv_sub hl [0, 1] rfl)
      · have h := k_nf c5 h
        refine lv_aload_n hx hb dX4_again_8 rfl (lv_at hl 0 rfl) ?_
        refine r_get C hP (ci := 4) rfl uin_X4 2 (by decide) 0 (by decide) rfl qFL_RX4_7 rfl rfl dX4_again_9 ?_
        refine lv_iload_n hx hb dX4_again_12 rfl (lv_at hl 2 rfl) ?_
        refine lv_aload_n hx hb dX4_again_13 rfl (lv_at hl 1 rfl) ?_
        refine lv_iload_n hx hb dX4_again_14 rfl (lv_at hl 2 rfl) ?_
        obtain ⟨hg, h⟩ := k_gd h
        refine r_iald C hP 11 (by decide) rfl hg dX4_again_15 ?_
        refine lv_iconst (v := 1) hx hb dX4_again_16 (by decide) ?_
        refine lv_icmp_ne (tgt := 24) hx hb dX4_again_17 (by decide) (fun c17 => ?_) (fun c17 => ?_)
        · have h := k_nf c17 h
          refine lv_iconst (v := 0) hx hb dX4_again_24 (by decide) ?_
          obtain ⟨hg, h⟩ := k_gd h
          obtain ⟨σ3, eσ3, h⟩ := k_ltx h
          refine st_M_hedge C hP hap hAA eσ3 hg dX4_again_25 (fun H locs hP => ?_)
          obtain ⟨x4, ex4, h⟩ := k_ltx h
          refine lv_iinc (v := x4) (lv' := [(2, .int x4), (0, .ref (ad 0)), (1, .ref (ad 11))]) hx hb dX4_again_26 hl (k := 2) rfl (by rw [ex4]; rfl) (by decide) rfl (fun ls hl => ?_)
          refine lv_goto (tgt := 2) hx hb dX4_again_29 (by decide) ?_
          exact ih _ _ _ _ _ h hP (lv_sub hl [1, 2, 0] rfl)
        · have h := k_if c17 h
          refine lv_iconst (v := 1) hx hb dX4_again_20 (by decide) ?_
          refine lv_goto (tgt := 25) hx hb dX4_again_21 (by decide) ?_
          obtain ⟨hg, h⟩ := k_gd h
          obtain ⟨σ5, eσ5, h⟩ := k_ltx h
          refine st_M_hedge C hP hap hAA eσ5 hg dX4_again_25 (fun H locs hP => ?_)
          obtain ⟨x6, ex6, h⟩ := k_ltx h
          refine lv_iinc (v := x6) (lv' := [(2, .int x6), (0, .ref (ad 0)), (1, .ref (ad 11))]) hx hb dX4_again_26 hl (k := 2) rfl (by rw [ex6]; rfl) (by decide) rfl (fun ls hl => ?_)
          refine lv_goto (tgt := 2) hx hb dX4_again_29 (by decide) ?_
          exact ih _ _ _ _ _ h hP (lv_sub hl [1, 2, 0] rfl)
  refine hL2 _ (fun σ7 H locs ls h hP hl => ?_) FU _ _ _ _ _ h hP (lv_sub hl [1, 2, 0] rfl)
  refine lv_iconst (v := 0) hx hb dX4_again_32 (by decide) ?_
  refine lv_istore_n (lv' := [(2, .int 0), (0, .ref (ad 0)), (1, .ref (ad 11))]) hx hb dX4_again_33 rfl hl (by decide) rfl (fun ls hl => ?_)
  have hL34 : ∀ (k79 : MM → Option MM) (hk79 : ∀  (σk : MM) (H : Heap) (locs : List Loc) (ls : Array Slot), k79  σk = some σ' → PS ev 13 ad (mw ev ad σk) (inA ad 13) s H locs → lv_has ls 3 [(0, .ref (ad 0)), (1, .ref (ad 11))] → WW ev p l e (rmk 0 0) s m args below meth c Qc ad 13 H locs 79 ls []) (n : Nat) (x8 : Int32) (σ9 : MM) (H : Heap) (locs : List Loc) (ls : Array Slot), lp (fun _ _ => none) (f_X4_again_old_L34_b  k79) n x8 σ9 = some σ' → PS ev 13 ad (mw ev ad σ9) (inA ad 13) s H locs → lv_has ls 3 [(0, .ref (ad 0)), (1, .ref (ad 11)), (2, .int x8)] → WW ev p l e (rmk 0 0) s m args below meth c Qc ad 13 H locs 34 ls [] := by
    intro k79 hk79 n
    induction n with
    | zero =>
      intro x8 σ9 H locs ls h; exact k_none h
    | succ n ih =>
      intro x8 σ9 H locs ls h hP hl
      have h : f_X4_again_old_L34_b  k79 (lp (fun _ _ => none) (f_X4_again_old_L34_b  k79) n) x8 σ9 = some σ' := h
      have h := (f_X4_again_old_L34_b.eq_1 _ _ _ _ ).symm.trans h
      have hB60 : ∀ (x10 : Int32) (x11 : Int32) (x12 : Int32) (σ13 : MM) (H : Heap) (locs : List Loc) (ls : Array Slot), f_X4_again_old_b60 (lp (fun _ _ => none) (f_X4_again_old_L34_b  k79) n) x10 x11 x12 σ13 = some σ' → PS ev 13 ad (mw ev ad σ13) (inA ad 13) s H locs → lv_has ls 3 [(0, .ref (ad 0)), (1, .ref (ad 11)), (2, .int x10)] → WW ev p l e (rmk 0 0) s m args below meth c Qc ad 13 H locs 60 ls [.int x11, .int x12, .ref (ad 2)] := by
        intro x10 x11 x12 σ13 H locs ls h hP hl
        have h := (f_X4_again_old_b60.eq_1 _ _ _ _ _ ).symm.trans h
        obtain ⟨hg, h⟩ := k_gd h
        obtain ⟨σ14, eσ14, h⟩ := k_ltx h
        refine st_M_dug C hP hap hAA eσ14 hg dX4_again_60 (fun H locs hP => ?_)
        refine lv_aload_n hx hb dX4_again_61 rfl (lv_at hl 0 rfl) ?_
        refine r_get C hP (ci := 4) rfl uin_X4 4 (by decide) 0 (by decide) rfl qFL_RX4_16 rfl rfl dX4_again_62 ?_
        refine lv_iload_n hx hb dX4_again_65 rfl (lv_at hl 2 rfl) ?_
        refine lv_aload_n hx hb dX4_again_66 rfl (lv_at hl 1 rfl) ?_
        refine lv_bipush (v := 56) hx hb dX4_again_67 (by decide) ?_
        refine lv_iload_n hx hb dX4_again_69 rfl (lv_at hl 2 rfl) ?_
        refine lv_iadd hx hb dX4_again_70 ?_
        obtain ⟨hg, h⟩ := k_gd h
        refine r_iald C hP 11 (by decide) rfl hg dX4_again_71 ?_
        obtain ⟨hg, h⟩ := k_gd h
        obtain ⟨σ15, eσ15, h⟩ := k_ltx h
        refine st_M_owner C hP hap hAA eσ15 hg dX4_again_72 (fun H locs hP => ?_)
        obtain ⟨x16, ex16, h⟩ := k_ltx h
        refine lv_iinc (v := x16) (lv' := [(2, .int x16), (0, .ref (ad 0)), (1, .ref (ad 11))]) hx hb dX4_again_73 hl (k := 2) rfl (by rw [ex16]; rfl) (by decide) rfl (fun ls hl => ?_)
        refine lv_goto (tgt := 34) hx hb dX4_again_76 (by decide) ?_
        exact ih _ _ _ _ _ h hP (lv_sub hl [1, 2, 0] rfl)
      refine lv_iload_n hx hb dX4_again_34 rfl (lv_at hl 2 rfl) ?_
      refine lv_bipush (v := 16) hx hb dX4_again_35 (by decide) ?_
      refine lv_icmp_ge (tgt := 79) hx hb dX4_again_37 (by decide) (fun c37 => ?_) (fun c37 => ?_)
      · have h := k_if c37 h
        exact hk79 _ _ _ _ h hP (lv_sub hl [0, 1] rfl)
      · have h := k_nf c37 h
        refine lv_aload_n hx hb dX4_again_40 rfl (lv_at hl 0 rfl) ?_
        refine r_get C hP (ci := 4) rfl uin_X4 3 (by decide) 0 (by decide) rfl qFL_RX4_13 rfl rfl dX4_again_41 ?_
        refine lv_iload_n hx hb dX4_again_44 rfl (lv_at hl 2 rfl) ?_
        refine lv_aload_n hx hb dX4_again_45 rfl (lv_at hl 1 rfl) ?_
        refine lv_bipush (v := 40) hx hb dX4_again_46 (by decide) ?_
        refine lv_iload_n hx hb dX4_again_48 rfl (lv_at hl 2 rfl) ?_
        refine lv_iadd hx hb dX4_again_49 ?_
        obtain ⟨hg, h⟩ := k_gd h
        refine r_iald C hP 11 (by decide) rfl hg dX4_again_50 ?_
        refine lv_iconst (v := 1) hx hb dX4_again_51 (by decide) ?_
        refine lv_icmp_ne (tgt := 59) hx hb dX4_again_52 (by decide) (fun c52 => ?_) (fun c52 => ?_)
        · have h := k_nf c52 h
          refine lv_iconst (v := 0) hx hb dX4_again_59 (by decide) ?_
          exact hB60 _ _ _ _ _ _ _ h hP (lv_sub hl [0, 1, 2] rfl)
        · have h := k_if c52 h
          refine lv_iconst (v := 1) hx hb dX4_again_55 (by decide) ?_
          refine lv_goto (tgt := 60) hx hb dX4_again_56 (by decide) ?_
          exact hB60 _ _ _ _ _ _ _ h hP (lv_sub hl [0, 1, 2] rfl)
  refine hL34 _ (fun σ17 H locs ls h hP hl => ?_) FU _ _ _ _ _ h hP (lv_sub hl [1, 2, 0] rfl)
  refine lv_iconst (v := 0) hx hb dX4_again_79 (by decide) ?_
  refine lv_istore_n (lv' := [(2, .int 0), (0, .ref (ad 0)), (1, .ref (ad 11))]) hx hb dX4_again_80 rfl hl (by decide) rfl (fun ls hl => ?_)
  have hL81 : ∀ (k117 : MM → Option MM) (hk117 : ∀  (σk : MM) (H : Heap) (locs : List Loc) (ls : Array Slot), k117  σk = some σ' → PS ev 13 ad (mw ev ad σk) (inA ad 13) s H locs → lv_has ls 3 [(0, .ref (ad 0)), (1, .ref (ad 11))] → WW ev p l e (rmk 0 0) s m args below meth c Qc ad 13 H locs 117 ls []) (n : Nat) (x18 : Int32) (σ19 : MM) (H : Heap) (locs : List Loc) (ls : Array Slot), lp (fun _ _ => none) (f_X4_again_old_L81_b  k117) n x18 σ19 = some σ' → PS ev 13 ad (mw ev ad σ19) (inA ad 13) s H locs → lv_has ls 3 [(0, .ref (ad 0)), (1, .ref (ad 11)), (2, .int x18)] → WW ev p l e (rmk 0 0) s m args below meth c Qc ad 13 H locs 81 ls [] := by
    intro k117 hk117 n
    induction n with
    | zero =>
      intro x18 σ19 H locs ls h; exact k_none h
    | succ n ih =>
      intro x18 σ19 H locs ls h hP hl
      have h : f_X4_again_old_L81_b  k117 (lp (fun _ _ => none) (f_X4_again_old_L81_b  k117) n) x18 σ19 = some σ' := h
      have h := (f_X4_again_old_L81_b.eq_1 _ _ _ _ ).symm.trans h
      refine lv_iload_n hx hb dX4_again_81 rfl (lv_at hl 2 rfl) ?_
      refine lv_bipush (v := 6) hx hb dX4_again_82 (by decide) ?_
      refine lv_icmp_ge (tgt := 117) hx hb dX4_again_84 (by decide) (fun c84 => ?_) (fun c84 => ?_)
      · have h := k_if c84 h
        exact hk117 _ _ _ _ h hP (lv_sub hl [0, 1] rfl)
      · have h := k_nf c84 h
        refine lv_aload_n hx hb dX4_again_87 rfl (lv_at hl 0 rfl) ?_
        refine r_get C hP (ci := 4) rfl uin_X4 8 (by decide) 0 (by decide) rfl qFL_RX4_20 rfl rfl dX4_again_88 ?_
        refine lv_iload_n hx hb dX4_again_91 rfl (lv_at hl 2 rfl) ?_
        refine lv_aload_n hx hb dX4_again_92 rfl (lv_at hl 1 rfl) ?_
        refine lv_bipush (v := 72) hx hb dX4_again_93 (by decide) ?_
        refine lv_iload_n hx hb dX4_again_95 rfl (lv_at hl 2 rfl) ?_
        refine lv_iadd hx hb dX4_again_96 ?_
        obtain ⟨hg, h⟩ := k_gd h
        refine r_iald C hP 11 (by decide) rfl hg dX4_again_97 ?_
        obtain ⟨hg, h⟩ := k_gd h
        obtain ⟨σ20, eσ20, h⟩ := k_ltx h
        refine st_M_kind C hP hap hAA eσ20 hg dX4_again_98 (fun H locs hP => ?_)
        refine lv_aload_n hx hb dX4_again_99 rfl (lv_at hl 0 rfl) ?_
        refine r_get C hP (ci := 4) rfl uin_X4 9 (by decide) 0 (by decide) rfl qFL_RX4_23 rfl rfl dX4_again_100 ?_
        refine lv_iload_n hx hb dX4_again_103 rfl (lv_at hl 2 rfl) ?_
        refine lv_aload_n hx hb dX4_again_104 rfl (lv_at hl 1 rfl) ?_
        refine lv_bipush (v := 78) hx hb dX4_again_105 (by decide) ?_
        refine lv_iload_n hx hb dX4_again_107 rfl (lv_at hl 2 rfl) ?_
        refine lv_iadd hx hb dX4_again_108 ?_
        obtain ⟨hg, h⟩ := k_gd h
        refine r_iald C hP 11 (by decide) rfl hg dX4_again_109 ?_
        obtain ⟨hg, h⟩ := k_gd h
        obtain ⟨σ21, eσ21, h⟩ := k_ltx h
        refine st_M_own C hP hap hAA eσ21 hg dX4_again_110 (fun H locs hP => ?_)
        obtain ⟨x22, ex22, h⟩ := k_ltx h
        refine lv_iinc (v := x22) (lv' := [(2, .int x22), (0, .ref (ad 0)), (1, .ref (ad 11))]) hx hb dX4_again_111 hl (k := 2) rfl (by rw [ex22]; rfl) (by decide) rfl (fun ls hl => ?_)
        refine lv_goto (tgt := 81) hx hb dX4_again_114 (by decide) ?_
        exact ih _ _ _ _ _ h hP (lv_sub hl [1, 2, 0] rfl)
  refine hL81 _ (fun σ23 H locs ls h hP hl => ?_) FU _ _ _ _ _ h hP (lv_sub hl [1, 2, 0] rfl)
  refine lv_aload_n hx hb dX4_again_117 rfl (lv_at hl 0 rfl) ?_
  refine lv_aload_n hx hb dX4_again_118 rfl (lv_at hl 1 rfl) ?_
  refine lv_bipush (v := 84) hx hb dX4_again_119 (by decide) ?_
  obtain ⟨hg, h⟩ := k_gd h
  refine r_iald C hP 11 (by decide) rfl hg dX4_again_121 ?_
  obtain ⟨σ24, eσ24, h⟩ := k_ltx h
  refine pt_M_X4_w C hP hap hAA eσ24 qFL_RX4_67 dX4_again_122 (fun H locs hP => ?_)
  refine lv_aload_n hx hb dX4_again_125 rfl (lv_at hl 0 rfl) ?_
  refine lv_aload_n hx hb dX4_again_126 rfl (lv_at hl 1 rfl) ?_
  refine lv_bipush (v := 85) hx hb dX4_again_127 (by decide) ?_
  obtain ⟨hg, h⟩ := k_gd h
  refine r_iald C hP 11 (by decide) rfl hg dX4_again_129 ?_
  obtain ⟨σ25, eσ25, h⟩ := k_ltx h
  refine pt_M_X4_h C hP hap hAA eσ25 qFL_RX4_70 dX4_again_130 (fun H locs hP => ?_)
  refine lv_aload_n hx hb dX4_again_133 rfl (lv_at hl 0 rfl) ?_
  refine lv_aload_n hx hb dX4_again_134 rfl (lv_at hl 1 rfl) ?_
  refine lv_bipush (v := 86) hx hb dX4_again_135 (by decide) ?_
  obtain ⟨hg, h⟩ := k_gd h
  refine r_iald C hP 11 (by decide) rfl hg dX4_again_137 ?_
  obtain ⟨σ26, eσ26, h⟩ := k_ltx h
  refine pt_M_X4_turn C hP hap hAA eσ26 qFL_RX4_101 dX4_again_138 (fun H locs hP => ?_)
  refine lv_aload_n hx hb dX4_again_141 rfl (lv_at hl 0 rfl) ?_
  refine lv_aload_n hx hb dX4_again_142 rfl (lv_at hl 1 rfl) ?_
  refine lv_bipush (v := 87) hx hb dX4_again_143 (by decide) ?_
  obtain ⟨hg, h⟩ := k_gd h
  refine r_iald C hP 11 (by decide) rfl hg dX4_again_145 ?_
  obtain ⟨σ27, eσ27, h⟩ := k_ltx h
  refine pt_M_X4_made C hP hap hAA eσ27 qFL_RX4_104 dX4_again_146 (fun H locs hP => ?_)
  refine lv_aload_n hx hb dX4_again_149 rfl (lv_at hl 0 rfl) ?_
  refine lv_aload_n hx hb dX4_again_150 rfl (lv_at hl 1 rfl) ?_
  refine lv_bipush (v := 88) hx hb dX4_again_151 (by decide) ?_
  obtain ⟨hg, h⟩ := k_gd h
  refine r_iald C hP 11 (by decide) rfl hg dX4_again_153 ?_
  obtain ⟨σ28, eσ28, h⟩ := k_ltx h
  refine pt_M_X4_players C hP hap hAA eσ28 qFL_RX4_60 dX4_again_154 (fun H locs hP => ?_)
  refine lv_aload_n hx hb dX4_again_157 rfl (lv_at hl 0 rfl) ?_
  refine lv_aload_n hx hb dX4_again_158 rfl (lv_at hl 1 rfl) ?_
  refine lv_bipush (v := 89) hx hb dX4_again_159 (by decide) ?_
  obtain ⟨hg, h⟩ := k_gd h
  refine r_iald C hP 11 (by decide) rfl hg dX4_again_161 ?_
  obtain ⟨σ29, eσ29, h⟩ := k_ltx h
  refine pt_M_X4_seed C hP hap hAA eσ29 qFL_RX4_48 dX4_again_162 (fun H locs hP => ?_)
  exact e_vret C hend hP (congrArg (mw ev ad) (k_some h)) dX4_again_165
def f_X4_image (σ : MM) : Option (Int32 × MM) :=
  lt (m_imaged' σ 1) (fun σ1 => ob (f_X4_keep_old σ1) (fun σ2 => some (1, σ2)))
set_option maxHeartbeats 4000000 in
set_option maxRecDepth 100000 in
theorem c_X4_image (l : Launch) (ev : EV) (ad : Nat → Nat) (σ : MM)   (r : Int32) (σ' : MM) (h : f_X4_image σ = some (r, σ')) : Ct l yX4_image prog_6_method_118_code 1 (Option.some Jvm.ClassFile.FieldType.int) (rmk 1 22) ev 13 ad (mw ev ad σ) (mw ev ad σ') [.ref (ad 0)] (some (.int r)) := by
  refine Ct.of (by decide +kernel) (Nat.le_of_ble_eq_true rfl) ?_
  intro p e s m args below meth c Qc C hap hP hend ls hl
  have hAA : ∀ j, j < 13 → inA ad 13 (ad j) := fun j hj => ⟨j, hj, rfl⟩
  have hx := C.1
  have hb := C.2.1
  have hl : lv_has ls 1 [(0, .ref (ad 0))] := hl
  have h := (f_X4_image.eq_1 _ ).symm.trans h
  refine lv_aload_n hx hb dX4_image_0 rfl (lv_at hl 0 rfl) ?_
  refine lv_iconst (v := 1) hx hb dX4_image_1 (by decide) ?_
  obtain ⟨σ1, eσ1, h⟩ := k_ltx h
  refine pt_M_X4_imaged C hP hap hAA eσ1 ⟨rfl, rfl⟩ qFL_RX4_306 dX4_image_2 (fun H locs hP => ?_)
  refine lv_aload_n hx hb dX4_image_5 rfl (lv_at hl 0 rfl) ?_
  refine lv_aload_n hx hb dX4_image_6 rfl (lv_at hl 0 rfl) ?_
  refine r_get C hP (ci := 4) rfl uin_X4 22 (by decide) 0 (by decide) rfl qFL_RX4_42 rfl rfl dX4_image_7 ?_
  obtain ⟨σ2, h1, h⟩ := k_ob h
  refine k_callVv C hP hap hAA (c_X4_keep_old l ev ad σ1   _ h1) Emb.same hap gz_X4_keep qML_RX4_185 qIM_yX4_keep qSE_yX4_keep ⟨(Nat.le_of_ble_eq_true rfl), (Nat.le_of_ble_eq_true rfl)⟩ (q0 := 0) rfl (by decide) rfl rfl rfl rfl hl.1 rfl (Nat.le_of_ble_eq_true rfl) dX4_image_10 ⟨Nat.le_refl _, Nat.le_refl _⟩ (fun H locs hP => ?_)
  refine lv_iconst (v := 1) hx hb dX4_image_13 (by decide) ?_
  exact e_iret C hend hP (k_some2 h).1 (congrArg (mw ev ad) (k_some2 h).2) dX4_image_14
def f_X4_back_L24_b   (rec24 : Int32 → MM → Option (Int32 × MM)) (x2 : Int32) (σ3 : MM) : Option (Int32 × MM) :=
  if 8 ≤ x2 then some (1, σ3) else gd (inb x2 8) (if ((m_holding σ3) (Int32.toNatClampNeg x2)) < (10 + (m_players σ3)) then lt (x2 + 1) (fun x4 => rec24 x4 σ3) else gd (inb x2 8) (lt (m_holding' σ3 (upd (m_holding σ3) (Int32.toNatClampNeg x2) (-1))) (fun σ5 => lt (x2 + 1) (fun x6 => rec24 x6 σ5))))
def f_X4_back_L24   (x2 : Int32) (σ3 : MM) : Option (Int32 × MM) :=
  lp (fun _ _ => none) (f_X4_back_L24_b  ) FU x2 σ3
def f_X4_back (σ : MM) : Option (Int32 × MM) :=
  if (m_imaged σ) = 0 then ob2 (f_X4_no σ (-5)) (fun x8 σ7 => some (x8, σ7)) else ob (f_X4_again_old σ) (fun σ1 => f_X4_back_L24 0 σ1)
set_option maxHeartbeats 4000000 in
set_option maxRecDepth 100000 in
theorem c_X4_back (l : Launch) (ev : EV) (ad : Nat → Nat) (σ : MM)   (r : Int32) (σ' : MM) (h : f_X4_back σ = some (r, σ')) : Ct l yX4_back prog_6_method_119_code 2 (Option.some Jvm.ClassFile.FieldType.int) (rmk 1 22) ev 13 ad (mw ev ad σ) (mw ev ad σ') [.ref (ad 0)] (some (.int r)) := by
  refine Ct.of (by decide +kernel) (Nat.le_of_ble_eq_true rfl) ?_
  intro p e s m args below meth c Qc C hap hP hend ls hl
  have hAA : ∀ j, j < 13 → inA ad 13 (ad j) := fun j hj => ⟨j, hj, rfl⟩
  have hx := C.1
  have hb := C.2.1
  have hl : lv_has ls 2 [(0, .ref (ad 0))] := hl
  have h := (f_X4_back.eq_1 _ ).symm.trans h
  refine lv_aload_n hx hb dX4_back_0 rfl (lv_at hl 0 rfl) ?_
  refine r_get C hP (ci := 4) rfl uin_X4 21 (by decide) 0 (by decide) rfl qFL_RX4_306 rfl rfl dX4_back_1 ?_
  refine lv_if_ne (tgt := 14) hx hb dX4_back_4 (by decide) (fun c4 => ?_) (fun c4 => ?_)
  · have h := k_nf c4 h
    refine lv_aload_n hx hb dX4_back_14 rfl (lv_at hl 0 rfl) ?_
    refine lv_aload_n hx hb dX4_back_15 rfl (lv_at hl 0 rfl) ?_
    refine r_get C hP (ci := 4) rfl uin_X4 22 (by decide) 0 (by decide) rfl qFL_RX4_42 rfl rfl dX4_back_16 ?_
    obtain ⟨σ1, h1, h⟩ := k_ob h
    refine k_callVv C hP hap hAA (c_X4_again_old l ev ad σ   _ h1) Emb.same hap gz_X4_again qML_RX4_193 qIM_yX4_again qSE_yX4_again ⟨(Nat.le_of_ble_eq_true rfl), (Nat.le_of_ble_eq_true rfl)⟩ (q0 := 0) rfl (by decide) rfl rfl rfl rfl hl.1 rfl (Nat.le_of_ble_eq_true rfl) dX4_back_19 ⟨Nat.le_refl _, Nat.le_refl _⟩ (fun H locs hP => ?_)
    refine lv_iconst (v := 0) hx hb dX4_back_22 (by decide) ?_
    refine lv_istore_n (lv' := [(1, .int 0), (0, .ref (ad 0))]) hx hb dX4_back_23 rfl hl (by decide) rfl (fun ls hl => ?_)
    have hL24 : ∀ (n : Nat) (x2 : Int32) (σ3 : MM) (H : Heap) (locs : List Loc) (ls : Array Slot), lp (fun _ _ => none) (f_X4_back_L24_b  ) n x2 σ3 = some (r, σ') → PS ev 13 ad (mw ev ad σ3) (inA ad 13) s H locs → lv_has ls 2 [(0, .ref (ad 0)), (1, .int x2)] → WW ev p l e (rmk 1 22) s m args below meth c Qc ad 13 H locs 24 ls [] := by
      intro n
      induction n with
      | zero =>
        intro x2 σ3 H locs ls h; exact k_none h
      | succ n ih =>
        intro x2 σ3 H locs ls h hP hl
        have h : f_X4_back_L24_b   (lp (fun _ _ => none) (f_X4_back_L24_b  ) n) x2 σ3 = some (r, σ') := h
        have h := (f_X4_back_L24_b.eq_1 _ _ _ ).symm.trans h
        refine lv_iload_n hx hb dX4_back_24 rfl (lv_at hl 1 rfl) ?_
        refine lv_bipush (v := 8) hx hb dX4_back_25 (by decide) ?_
        refine lv_icmp_ge (tgt := 59) hx hb dX4_back_27 (by decide) (fun c27 => ?_) (fun c27 => ?_)
        · have h := k_if c27 h
          refine lv_iconst (v := 1) hx hb dX4_back_59 (by decide) ?_
          exact e_iret C hend hP (k_some2 h).1 (congrArg (mw ev ad) (k_some2 h).2) dX4_back_60
        · have h := k_nf c27 h
          refine lv_aload_n hx hb dX4_back_30 rfl (lv_at hl 0 rfl) ?_
          refine r_get C hP (ci := 4) rfl uin_X4 17 (by decide) 0 (by decide) rfl qFL_RX4_29 rfl rfl dX4_back_31 ?_
          refine lv_iload_n hx hb dX4_back_34 rfl (lv_at hl 1 rfl) ?_
          obtain ⟨hg, h⟩ := k_gd h
          refine r_iald C hP 7 (by decide) rfl hg dX4_back_35 ?_
          refine lv_bipush (v := 10) hx hb dX4_back_36 (by decide) ?_
          refine lv_aload_n hx hb dX4_back_38 rfl (lv_at hl 0 rfl) ?_
          refine r_get C hP (ci := 4) rfl uin_X4 7 (by decide) 0 (by decide) rfl qFL_RX4_60 rfl rfl dX4_back_39 ?_
          refine lv_iadd hx hb dX4_back_42 ?_
          refine lv_icmp_lt (tgt := 53) hx hb dX4_back_43 (by decide) (fun c43 => ?_) (fun c43 => ?_)
          · have h := k_if c43 h
            obtain ⟨x4, ex4, h⟩ := k_ltx h
            refine lv_iinc (v := x4) (lv' := [(1, .int x4), (0, .ref (ad 0))]) hx hb dX4_back_53 hl (k := 1) rfl (by rw [ex4]; rfl) (by decide) rfl (fun ls hl => ?_)
            refine lv_goto (tgt := 24) hx hb dX4_back_56 (by decide) ?_
            exact ih _ _ _ _ _ h hP (lv_sub hl [1, 0] rfl)
          · have h := k_nf c43 h
            refine lv_aload_n hx hb dX4_back_46 rfl (lv_at hl 0 rfl) ?_
            refine r_get C hP (ci := 4) rfl uin_X4 17 (by decide) 0 (by decide) rfl qFL_RX4_29 rfl rfl dX4_back_47 ?_
            refine lv_iload_n hx hb dX4_back_50 rfl (lv_at hl 1 rfl) ?_
            refine lv_iconst (v := (-1)) hx hb dX4_back_51 (by decide) ?_
            obtain ⟨hg, h⟩ := k_gd h
            obtain ⟨σ5, eσ5, h⟩ := k_ltx h
            refine st_M_holding C hP hap hAA eσ5 hg dX4_back_52 (fun H locs hP => ?_)
            obtain ⟨x6, ex6, h⟩ := k_ltx h
            refine lv_iinc (v := x6) (lv' := [(1, .int x6), (0, .ref (ad 0))]) hx hb dX4_back_53 hl (k := 1) rfl (by rw [ex6]; rfl) (by decide) rfl (fun ls hl => ?_)
            refine lv_goto (tgt := 24) hx hb dX4_back_56 (by decide) ?_
            exact ih _ _ _ _ _ h hP (lv_sub hl [1, 0] rfl)
    exact hL24 FU _ _ _ _ _ h hP (lv_sub hl [1, 0] rfl)
  · have h := k_if c4 h
    refine lv_aload_n hx hb dX4_back_7 rfl (lv_at hl 0 rfl) ?_
    refine lv_bipush (v := (-5)) hx hb dX4_back_8 (by decide) ?_
    obtain ⟨x8, σ7, h1, h⟩ := k_ob2 h
    refine k_callVi C hP hap hAA (c_X4_no l ev ad σ (-5)   _ _ h1) Emb.same hap gz_X4_no qML_RX4_56 qIM_yX4_no qSE_yX4_no ⟨(Nat.le_of_ble_eq_true rfl), (Nat.le_of_ble_eq_true rfl)⟩ (q0 := 0) rfl (by decide) rfl rfl rfl rfl hl.1 rfl (Nat.le_of_ble_eq_true rfl) dX4_back_10 ⟨Nat.le_refl _, Nat.le_refl _⟩ (fun H locs hP => ?_)
    exact e_iret C hend hP (k_some2 h).1 (congrArg (mw ev ad) (k_some2 h).2) dX4_back_13
