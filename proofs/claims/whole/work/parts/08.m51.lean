/-! functions read off, and their contracts: by program (wip/whole/gen2.py) -/
def f_X4_chain (σ : MM) (a1 : Int32) : Option (Int32 × MM) :=
  if (f_X4_isField σ a1) = true then ob2 (f_X4_chainOf σ a1) (fun x4 σ3 => some (x4, σ3)) else ob2 (f_X4_no σ (-2)) (fun x2 σ1 => some (x2, σ1))
set_option maxHeartbeats 4000000 in
set_option maxRecDepth 100000 in
theorem c_X4_chain (l : Launch) (ev : EV) (ad : Nat → Nat) (σ : MM) (a1 : Int32)   (r : Int32) (σ' : MM) (h : f_X4_chain σ a1 = some (r, σ')) : Ct l yX4_chain prog_6_method_64_code 2 (Option.some Jvm.ClassFile.FieldType.int) (rmk 5 114) ev 13 ad (mw ev ad σ) (mw ev ad σ') [.ref (ad 0), .int a1] (some (.int r)) := by
  refine Ct.of (by decide +kernel) (Nat.le_of_ble_eq_true rfl) ?_
  intro p e s m args below meth c Qc C hap hP hend ls hl
  have hAA : ∀ j, j < 13 → inA ad 13 (ad j) := fun j hj => ⟨j, hj, rfl⟩
  have hx := C.1
  have hb := C.2.1
  have hl : lv_has ls 2 [(0, .ref (ad 0)), (1, .int a1)] := hl
  have h := (f_X4_chain.eq_1 _ _ ).symm.trans h
  refine lv_aload_n hx hb dX4_chain_0 rfl (lv_at hl 0 rfl) ?_
  refine lv_iload_n hx hb dX4_chain_1 rfl (lv_at hl 1 rfl) ?_
  refine k_callVi C hP hap hAA (c_X4_isField l ev ad σ a1   _ rfl) Emb.same hap gz_X4_isField qML_RX4_116 qIM_yX4_isField qSE_yX4_isField ⟨(Nat.le_of_ble_eq_true rfl), (Nat.le_of_ble_eq_true rfl)⟩ (q0 := 0) rfl (by decide) rfl rfl rfl rfl hl.1 rfl (Nat.le_of_ble_eq_true rfl) dX4_chain_2 ⟨Nat.le_refl _, Nat.le_refl _⟩ (fun H locs hP => ?_)
  refine r_ifz_eq (tgt := 16) hx hb dX4_chain_5 (by decide) (fun c5 => ?_) (fun c5 => ?_)
  · have h := k_nf c5 h
    refine lv_aload_n hx hb dX4_chain_16 rfl (lv_at hl 0 rfl) ?_
    refine lv_bipush (v := (-2)) hx hb dX4_chain_17 (by decide) ?_
    obtain ⟨x2, σ1, h1, h⟩ := k_ob2 h
    refine k_callVi C hP hap hAA (c_X4_no l ev ad σ (-2)   _ _ h1) Emb.same hap gz_X4_no qML_RX4_56 qIM_yX4_no qSE_yX4_no ⟨(Nat.le_of_ble_eq_true rfl), (Nat.le_of_ble_eq_true rfl)⟩ (q0 := 0) rfl (by decide) rfl rfl rfl rfl hl.1 rfl (Nat.le_of_ble_eq_true rfl) dX4_chain_19 ⟨Nat.le_refl _, Nat.le_refl _⟩ (fun H locs hP => ?_)
    exact e_iret C hend hP (k_some2 h).1 (congrArg (mw ev ad) (k_some2 h).2) dX4_chain_22
  · have h := k_if c5 h
    refine lv_aload_n hx hb dX4_chain_8 rfl (lv_at hl 0 rfl) ?_
    refine lv_iload_n hx hb dX4_chain_9 rfl (lv_at hl 1 rfl) ?_
    obtain ⟨x4, σ3, h1, h⟩ := k_ob2 h
    refine k_callVi C hP hap hAA (c_X4_chainOf l ev ad σ a1   _ _ h1) Emb.same hap gz_X4_chainOf qML_RX4_232 qIM_yX4_chainOf qSE_yX4_chainOf ⟨(Nat.le_of_ble_eq_true rfl), (Nat.le_of_ble_eq_true rfl)⟩ (q0 := 0) rfl (by decide) rfl rfl rfl rfl hl.1 rfl (Nat.le_of_ble_eq_true rfl) dX4_chain_10 ⟨Nat.le_refl _, Nat.le_refl _⟩ (fun H locs hP => ?_)
    refine lv_goto (tgt := 22) hx hb dX4_chain_13 (by decide) ?_
    exact e_iret C hend hP (k_some2 h).1 (congrArg (mw ev ad) (k_some2 h).2) dX4_chain_22
def f_X4_takes_L39_b (a1 : Int32) (k78 : MM → Option MM) (rec39 : Int32 → MM → Option MM) (x3 : Int32) (σ4 : MM) : Option MM :=
  if 2 ≤ x3 then k78 σ4 else ob (f_X4_field σ4 a1 x3) (fun x5 => if x5 = (-1) then lt (x3 + 1) (fun x6 => rec39 x6 σ4) else ob (f_X4_hedges σ4 x5) (fun x7 => if x7 = 4 then gd (inb x5 16) (lt (m_owner' σ4 (upd (m_owner σ4) (Int32.toNatClampNeg x5) (-1))) (fun σ9 => lt (x3 + 1) (fun x10 => rec39 x10 σ9))) else lt (x3 + 1) (fun x8 => rec39 x8 σ4)))
def f_X4_takes_L39 (a1 : Int32) (k78 : MM → Option MM) (x3 : Int32) (σ4 : MM) : Option MM :=
  lp (fun _ _ => none) (f_X4_takes_L39_b a1 k78) FU x3 σ4
def f_X4_takes (σ : MM) (a1 : Int32) : Option MM :=
  lt (m_turn' σ (1 - (m_turn σ))) (fun σ1 => lt (m_made' σ1 ((m_made σ1) - 1)) (fun σ2 => if a1 < 100 then f_X4_takes_L39 a1 (fun σ11 => gd (inb a1 40) (lt (m_hedge' σ11 (upd (m_hedge σ11) (Int32.toNatClampNeg a1) (vp_nar .boolean 0))) (fun σ12 => some σ12))) 0 σ2 else gd (inb (a1 - 100) 16) (lt (m_dug' σ2 (upd (m_dug σ2) (Int32.toNatClampNeg (a1 - 100)) (vp_nar .boolean 0))) (fun σ13 => some σ13))))
set_option maxHeartbeats 4000000 in
set_option maxRecDepth 100000 in
theorem c_X4_takes (l : Launch) (ev : EV) (ad : Nat → Nat) (σ : MM) (a1 : Int32)    (σ' : MM) (h : f_X4_takes σ a1 = some σ') : Ct l yX4_takes prog_6_method_66_code 4 (Option.none : Option Jvm.ClassFile.FieldType) (rmk 3 67) ev 13 ad (mw ev ad σ) (mw ev ad σ') [.ref (ad 0), .int a1] none := by
  refine Ct.of (by decide +kernel) (Nat.le_of_ble_eq_true rfl) ?_
  intro p e s m args below meth c Qc C hap hP hend ls hl
  have hAA : ∀ j, j < 13 → inA ad 13 (ad j) := fun j hj => ⟨j, hj, rfl⟩
  have hx := C.1
  have hb := C.2.1
  have hl : lv_has ls 4 [(0, .ref (ad 0)), (1, .int a1)] := hl
  have h := (f_X4_takes.eq_1 _ _ ).symm.trans h
  refine lv_aload_n hx hb dX4_takes_0 rfl (lv_at hl 0 rfl) ?_
  refine lv_iconst (v := 1) hx hb dX4_takes_1 (by decide) ?_
  refine lv_aload_n hx hb dX4_takes_2 rfl (lv_at hl 0 rfl) ?_
  refine r_get C hP (ci := 4) rfl uin_X4 5 (by decide) 0 (by decide) rfl qFL_RX4_101 rfl rfl dX4_takes_3 ?_
  refine lv_isub hx hb dX4_takes_6 ?_
  obtain ⟨σ1, eσ1, h⟩ := k_ltx h
  refine pt_M_X4_turn C hP hap hAA eσ1 qFL_RX4_101 dX4_takes_7 (fun H locs hP => ?_)
  refine lv_aload_n hx hb dX4_takes_10 rfl (lv_at hl 0 rfl) ?_
  refine lv_dup hx hb dX4_takes_11 rfl ?_
  refine r_get C hP (ci := 4) rfl uin_X4 6 (by decide) 0 (by decide) rfl qFL_RX4_104 rfl rfl dX4_takes_12 ?_
  refine lv_iconst (v := 1) hx hb dX4_takes_15 (by decide) ?_
  refine lv_isub hx hb dX4_takes_16 ?_
  obtain ⟨σ2, eσ2, h⟩ := k_ltx h
  refine pt_M_X4_made C hP hap hAA eσ2 qFL_RX4_104 dX4_takes_17 (fun H locs hP => ?_)
  refine lv_iload_n hx hb dX4_takes_20 rfl (lv_at hl 1 rfl) ?_
  refine lv_bipush (v := 100) hx hb dX4_takes_21 (by decide) ?_
  refine lv_icmp_lt (tgt := 37) hx hb dX4_takes_23 (by decide) (fun c23 => ?_) (fun c23 => ?_)
  · have h := k_if c23 h
    refine lv_iconst (v := 0) hx hb dX4_takes_37 (by decide) ?_
    refine lv_istore_n (lv' := [(2, .int 0), (0, .ref (ad 0)), (1, .int a1)]) hx hb dX4_takes_38 rfl hl (by decide) rfl (fun ls hl => ?_)
    have hL39 : ∀ (k78 : MM → Option MM) (hk78 : ∀  (σk : MM) (H : Heap) (locs : List Loc) (ls : Array Slot), k78  σk = some σ' → PS ev 13 ad (mw ev ad σk) (inA ad 13) s H locs → lv_has ls 4 [(0, .ref (ad 0)), (1, .int a1)] → WW ev p l e (rmk 3 67) s m args below meth c Qc ad 13 H locs 78 ls []) (n : Nat) (x3 : Int32) (σ4 : MM) (H : Heap) (locs : List Loc) (ls : Array Slot), lp (fun _ _ => none) (f_X4_takes_L39_b a1 k78) n x3 σ4 = some σ' → PS ev 13 ad (mw ev ad σ4) (inA ad 13) s H locs → lv_has ls 4 [(0, .ref (ad 0)), (1, .int a1), (2, .int x3)] → WW ev p l e (rmk 3 67) s m args below meth c Qc ad 13 H locs 39 ls [] := by
      intro k78 hk78 n
      induction n with
      | zero =>
        intro x3 σ4 H locs ls h; exact k_none h
      | succ n ih =>
        intro x3 σ4 H locs ls h hP hl
        have h : f_X4_takes_L39_b a1 k78 (lp (fun _ _ => none) (f_X4_takes_L39_b a1 k78) n) x3 σ4 = some σ' := h
        have h := (f_X4_takes_L39_b.eq_1 _ _ _ _ _ ).symm.trans h
        refine lv_iload_n hx hb dX4_takes_39 rfl (lv_at hl 2 rfl) ?_
        refine lv_iconst (v := 2) hx hb dX4_takes_40 (by decide) ?_
        refine lv_icmp_ge (tgt := 78) hx hb dX4_takes_41 (by decide) (fun c41 => ?_) (fun c41 => ?_)
        · have h := k_if c41 h
          exact hk78 _ _ _ _ h hP (lv_sub hl [0, 1] rfl)
        · have h := k_nf c41 h
          refine lv_aload_n hx hb dX4_takes_44 rfl (lv_at hl 0 rfl) ?_
          refine lv_iload_n hx hb dX4_takes_45 rfl (lv_at hl 1 rfl) ?_
          refine lv_iload_n hx hb dX4_takes_46 rfl (lv_at hl 2 rfl) ?_
          obtain ⟨x5, h1, h⟩ := k_ob h
          refine k_callVi C hP hap hAA (c_X4_field l ev ad σ4 a1 x3   _ h1) Emb.same hap gz_X4_field qML_RX4_119 qIM_yX4_field qSE_yX4_field ⟨(Nat.le_of_ble_eq_true rfl), (Nat.le_of_ble_eq_true rfl)⟩ (q0 := 0) rfl (by decide) rfl rfl rfl rfl hl.1 rfl (Nat.le_of_ble_eq_true rfl) dX4_takes_47 ⟨Nat.le_refl _, Nat.le_refl _⟩ (fun H locs hP => ?_)
          refine lv_istore_n (lv' := [(3, .int x5), (0, .ref (ad 0)), (1, .int a1), (2, .int x3)]) hx hb dX4_takes_50 rfl hl (by decide) rfl (fun ls hl => ?_)
          refine lv_iload_n hx hb dX4_takes_51 rfl (lv_at hl 0 rfl) ?_
          refine lv_iconst (v := (-1)) hx hb dX4_takes_52 (by decide) ?_
          refine lv_icmp_eq (tgt := 72) hx hb dX4_takes_53 (by decide) (fun c53 => ?_) (fun c53 => ?_)
          · have h := k_if c53 h
            obtain ⟨x6, ex6, h⟩ := k_ltx h
            refine lv_iinc (v := x6) (lv' := [(2, .int x6), (3, .int x5), (0, .ref (ad 0)), (1, .int a1)]) hx hb dX4_takes_72 hl (k := 3) rfl (by rw [ex6]; rfl) (by decide) rfl (fun ls hl => ?_)
            refine lv_goto (tgt := 39) hx hb dX4_takes_75 (by decide) ?_
            exact ih _ _ _ _ _ h hP (lv_sub hl [2, 3, 0] rfl)
          · have h := k_nf c53 h
            refine lv_aload_n hx hb dX4_takes_56 rfl (lv_at hl 1 rfl) ?_
            refine lv_iload_n hx hb dX4_takes_57 rfl (lv_at hl 0 rfl) ?_
            obtain ⟨x7, h1, h⟩ := k_ob h
            refine k_callVi C hP hap hAA (c_X4_hedges l ev ad σ4 x5   _ h1) Emb.same hap gz_X4_hedges qML_RX4_196 qIM_yX4_hedges qSE_yX4_hedges ⟨(Nat.le_of_ble_eq_true rfl), (Nat.le_of_ble_eq_true rfl)⟩ (q0 := 0) rfl (by decide) rfl rfl rfl rfl hl.1 rfl (Nat.le_of_ble_eq_true rfl) dX4_takes_58 ⟨Nat.le_refl _, Nat.le_refl _⟩ (fun H locs hP => ?_)
            refine lv_iconst (v := 4) hx hb dX4_takes_61 (by decide) ?_
            refine lv_icmp_ne (tgt := 72) hx hb dX4_takes_62 (by decide) (fun c62 => ?_) (fun c62 => ?_)
            · have h := k_nf c62 h
              obtain ⟨x8, ex8, h⟩ := k_ltx h
              refine lv_iinc (v := x8) (lv' := [(2, .int x8), (3, .int x5), (0, .ref (ad 0)), (1, .int a1)]) hx hb dX4_takes_72 hl (k := 3) rfl (by rw [ex8]; rfl) (by decide) rfl (fun ls hl => ?_)
              refine lv_goto (tgt := 39) hx hb dX4_takes_75 (by decide) ?_
              exact ih _ _ _ _ _ h hP (lv_sub hl [2, 3, 0] rfl)
            · have h := k_if c62 h
              refine lv_aload_n hx hb dX4_takes_65 rfl (lv_at hl 1 rfl) ?_
              refine r_get C hP (ci := 4) rfl uin_X4 4 (by decide) 0 (by decide) rfl qFL_RX4_16 rfl rfl dX4_takes_66 ?_
              refine lv_iload_n hx hb dX4_takes_69 rfl (lv_at hl 0 rfl) ?_
              refine lv_iconst (v := (-1)) hx hb dX4_takes_70 (by decide) ?_
              obtain ⟨hg, h⟩ := k_gd h
              obtain ⟨σ9, eσ9, h⟩ := k_ltx h
              refine st_M_owner C hP hap hAA eσ9 hg dX4_takes_71 (fun H locs hP => ?_)
              obtain ⟨x10, ex10, h⟩ := k_ltx h
              refine lv_iinc (v := x10) (lv' := [(2, .int x10), (3, .int x5), (0, .ref (ad 0)), (1, .int a1)]) hx hb dX4_takes_72 hl (k := 3) rfl (by rw [ex10]; rfl) (by decide) rfl (fun ls hl => ?_)
              refine lv_goto (tgt := 39) hx hb dX4_takes_75 (by decide) ?_
              exact ih _ _ _ _ _ h hP (lv_sub hl [2, 3, 0] rfl)
    refine hL39 _ (fun σ11 H locs ls h hP hl => ?_) FU _ _ _ _ _ h hP (lv_sub hl [1, 2, 0] rfl)
    refine lv_aload_n hx hb dX4_takes_78 rfl (lv_at hl 0 rfl) ?_
    refine r_get C hP (ci := 4) rfl uin_X4 2 (by decide) 0 (by decide) rfl qFL_RX4_7 rfl rfl dX4_takes_79 ?_
    refine lv_iload_n hx hb dX4_takes_82 rfl (lv_at hl 1 rfl) ?_
    refine lv_iconst (v := 0) hx hb dX4_takes_83 (by decide) ?_
    obtain ⟨hg, h⟩ := k_gd h
    obtain ⟨σ12, eσ12, h⟩ := k_ltx h
    refine st_M_hedge C hP hap hAA eσ12 hg dX4_takes_84 (fun H locs hP => ?_)
    exact e_vret C hend hP (congrArg (mw ev ad) (k_some h)) dX4_takes_85
  · have h := k_nf c23 h
    refine lv_aload_n hx hb dX4_takes_26 rfl (lv_at hl 0 rfl) ?_
    refine r_get C hP (ci := 4) rfl uin_X4 3 (by decide) 0 (by decide) rfl qFL_RX4_13 rfl rfl dX4_takes_27 ?_
    refine lv_iload_n hx hb dX4_takes_30 rfl (lv_at hl 1 rfl) ?_
    refine lv_bipush (v := 100) hx hb dX4_takes_31 (by decide) ?_
    refine lv_isub hx hb dX4_takes_33 ?_
    refine lv_iconst (v := 0) hx hb dX4_takes_34 (by decide) ?_
    obtain ⟨hg, h⟩ := k_gd h
    obtain ⟨σ13, eσ13, h⟩ := k_ltx h
    refine st_M_dug C hP hap hAA eσ13 hg dX4_takes_35 (fun H locs hP => ?_)
    exact e_vret C hend hP (congrArg (mw ev ad) (k_some h)) dX4_takes_36
def f_X4_search_L6_b (self : MM → Option (Int32 × MM)) (k74 : Int32 → Int32 → MM → Option (Int32 × MM)) (rec6 : Int32 → Int32 → Int32 → MM → Option (Int32 × MM)) (x1 : Int32) (x2 : Int32) (x3 : Int32) (σ4 : MM) : Option (Int32 × MM) :=
  if 116 ≤ x3 then k74 x1 x2 σ4 else if (f_X4_isMove σ4 x3) = true then ob (f_X4_mayBe σ4 x3) (fun b6 => if b6 = true then ob2 (f_X4_makes σ4 x3) (fun x8 σ7 => ob2 (self σ7) (fun x10 σ9 => lt (-x10) (fun x11 => ob (f_X4_takes σ9 x3) (fun σ12 => if x1 = (-1) then lt (x3 + 1) (fun x13 => rec6 x3 x11 x13 σ12) else if x2 < x11 then lt (x3 + 1) (fun x14 => rec6 x3 x11 x14 σ12) else lt (x3 + 1) (fun x15 => rec6 x1 x2 x15 σ12))))) else lt (x3 + 1) (fun x16 => rec6 x1 x2 x16 σ4)) else lt (x3 + 1) (fun x5 => rec6 x1 x2 x5 σ4)
def f_X4_search_L6 (self : MM → Option (Int32 × MM)) (k74 : Int32 → Int32 → MM → Option (Int32 × MM)) (x1 : Int32) (x2 : Int32) (x3 : Int32) (σ4 : MM) : Option (Int32 × MM) :=
  lp (fun _ _ _ _ => none) (f_X4_search_L6_b self k74) FU x1 x2 x3 σ4
def f_X4_search_b (self : MM → Option (Int32 × MM)) (σ : MM) : Option (Int32 × MM) :=
  f_X4_search_L6 self (fun x19 x20 σ21 => lt (m_bestMove' σ21 x19) (fun σ22 => if x19 = (-1) then ob (f_X4_leadOf σ22 (m_turn σ22)) (fun x23 => some (x23, σ22)) else some (x20, σ22))) (-1) 0 0 σ
def f_X4_search (d : Nat) : MM → Option (Int32 × MM) := lp (fun _ => none) f_X4_search_b d
set_option maxHeartbeats 4000000 in
set_option maxRecDepth 100000 in
theorem c_X4_search (l : Launch) (ev : EV) : ∀ (d : Nat) (ad : Nat → Nat) (σ : MM) (r : Int32) (σ' : MM), f_X4_search d σ = some (r, σ') → Ct l yX4_search prog_6_method_67_code 5 (Option.some Jvm.ClassFile.FieldType.int) (rmk (d * 2 + 11) (d * 80 + 286)) ev 13 ad (mw ev ad σ) (mw ev ad σ') [.ref (ad 0)] (some (.int r)) := by
  intro d
  induction d with
  | zero =>
    intro ad σ r σ' h
    exact k_none h
  | succ d ihd =>
    intro ad σ r σ' h
    refine Ct.of (by decide +kernel) (Nat.le_of_ble_eq_true rfl) ?_
    intro p e s m args below meth c Qc C hap hP hend ls hl
    have hAA : ∀ j, j < 13 → inA ad 13 (ad j) := fun j hj => ⟨j, hj, rfl⟩
    have hx := C.1
    have hb := C.2.1
    have hl : lv_has ls 5 [(0, .ref (ad 0))] := hl
    have h : f_X4_search_b (lp (fun _ => none) f_X4_search_b d) σ = some (r, σ') := h
    have h := (f_X4_search_b.eq_1 _ _ ).symm.trans h
    refine lv_iconst (v := (-1)) hx hb dX4_search_0 (by decide) ?_
    refine lv_istore_n (lv' := [(1, .int (-1)), (0, .ref (ad 0))]) hx hb dX4_search_1 rfl hl (by decide) rfl (fun ls hl => ?_)
    refine lv_iconst (v := 0) hx hb dX4_search_2 (by decide) ?_
    refine lv_istore_n (lv' := [(2, .int 0), (1, .int (-1)), (0, .ref (ad 0))]) hx hb dX4_search_3 rfl hl (by decide) rfl (fun ls hl => ?_)
    refine lv_iconst (v := 0) hx hb dX4_search_4 (by decide) ?_
    refine lv_istore_n (lv' := [(3, .int 0), (2, .int 0), (1, .int (-1)), (0, .ref (ad 0))]) hx hb dX4_search_5 rfl hl (by decide) rfl (fun ls hl => ?_)
    have hL6 : ∀ (k74 : Int32 → Int32 → MM → Option (Int32 × MM)) (hk74 : ∀ (z17 : Int32) (z18 : Int32) (σk : MM) (H : Heap) (locs : List Loc) (ls : Array Slot), k74 z17 z18 σk = some (r, σ') → PS ev 13 ad (mw ev ad σk) (inA ad 13) s H locs → lv_has ls 5 [(0, .ref (ad 0)), (1, .int z17), (2, .int z18)] → WW ev p l e (rmk ((d + 1) * 2 + 11) ((d + 1) * 80 + 286)) s m args below meth c Qc ad 13 H locs 74 ls []) (n : Nat) (x1 : Int32) (x2 : Int32) (x3 : Int32) (σ4 : MM) (H : Heap) (locs : List Loc) (ls : Array Slot), lp (fun _ _ _ _ => none) (f_X4_search_L6_b (lp (fun _ => none) f_X4_search_b d) k74) n x1 x2 x3 σ4 = some (r, σ') → PS ev 13 ad (mw ev ad σ4) (inA ad 13) s H locs → lv_has ls 5 [(0, .ref (ad 0)), (1, .int x1), (2, .int x2), (3, .int x3)] → WW ev p l e (rmk ((d + 1) * 2 + 11) ((d + 1) * 80 + 286)) s m args below meth c Qc ad 13 H locs 6 ls [] := by
      intro k74 hk74 n
      induction n with
      | zero =>
        intro x1 x2 x3 σ4 H locs ls h; exact k_none h
      | succ n ih =>
        intro x1 x2 x3 σ4 H locs ls h hP hl
        have h : f_X4_search_L6_b (lp (fun _ => none) f_X4_search_b d) k74 (lp (fun _ _ _ _ => none) (f_X4_search_L6_b (lp (fun _ => none) f_X4_search_b d) k74) n) x1 x2 x3 σ4 = some (r, σ') := h
        have h := (f_X4_search_L6_b.eq_1 _ _ _ _ _ _ _ ).symm.trans h
        refine lv_iload_n hx hb dX4_search_6 rfl (lv_at hl 3 rfl) ?_
        refine lv_bipush (v := 116) hx hb dX4_search_7 (by decide) ?_
        refine lv_icmp_ge (tgt := 74) hx hb dX4_search_9 (by decide) (fun c9 => ?_) (fun c9 => ?_)
        · have h := k_if c9 h
          exact hk74 _ _ _ _ _ _ h hP (lv_sub hl [0, 1, 2] rfl)
        · have h := k_nf c9 h
          refine lv_aload_n hx hb dX4_search_12 rfl (lv_at hl 0 rfl) ?_
          refine lv_iload_n hx hb dX4_search_13 rfl (lv_at hl 3 rfl) ?_
          refine k_callVi C hP hap hAA (c_X4_isMove l ev ad σ4 x3   _ rfl) Emb.same hap gz_X4_isMove qML_RX4_173 qIM_yX4_isMove qSE_yX4_isMove ⟨(Nat.le_of_ble_eq_true rfl), (Nat.le_of_ble_eq_true rfl)⟩ (q0 := 0) rfl (by decide) rfl rfl rfl rfl hl.1 rfl (Nat.le_of_ble_eq_true rfl) dX4_search_14 ⟨Nat.le_refl _, Nat.le_refl _⟩ (fun H locs hP => ?_)
          refine r_ifz_eq (tgt := 68) hx hb dX4_search_17 (by decide) (fun c17 => ?_) (fun c17 => ?_)
          · have h := k_nf c17 h
            obtain ⟨x5, ex5, h⟩ := k_ltx h
            refine lv_iinc (v := x5) (lv' := [(3, .int x5), (0, .ref (ad 0)), (1, .int x1), (2, .int x2)]) hx hb dX4_search_68 hl (k := 3) rfl (by rw [ex5]; rfl) (by decide) rfl (fun ls hl => ?_)
            refine lv_goto (tgt := 6) hx hb dX4_search_71 (by decide) ?_
            exact ih _ _ _ _ _ _ _ h hP (lv_sub hl [1, 2, 3, 0] rfl)
          · have h := k_if c17 h
            refine lv_aload_n hx hb dX4_search_20 rfl (lv_at hl 0 rfl) ?_
            refine lv_iload_n hx hb dX4_search_21 rfl (lv_at hl 3 rfl) ?_
            obtain ⟨b6, h1, h⟩ := k_ob h
            refine k_callVi C hP hap hAA (c_X4_mayBe l ev ad σ4 x3   _ h1) Emb.same hap gz_X4_mayBe qML_RX4_176 qIM_yX4_mayBe qSE_yX4_mayBe ⟨(Nat.le_of_ble_eq_true rfl), (Nat.le_of_ble_eq_true rfl)⟩ (q0 := 0) rfl (by decide) rfl rfl rfl rfl hl.1 rfl (Nat.le_of_ble_eq_true rfl) dX4_search_22 ⟨Nat.le_refl _, Nat.le_refl _⟩ (fun H locs hP => ?_)
            refine r_ifz_ne (tgt := 31) hx hb dX4_search_25 (by decide) (fun c25 => ?_) (fun c25 => ?_)
            · have h := k_if c25 h
              refine lv_aload_n hx hb dX4_search_31 rfl (lv_at hl 0 rfl) ?_
              refine lv_iload_n hx hb dX4_search_32 rfl (lv_at hl 3 rfl) ?_
              obtain ⟨x8, σ7, h1, h⟩ := k_ob2 h
              refine k_callVi C hP hap hAA (c_X4_makes l ev ad σ4 x3   _ _ h1) Emb.same hap gz_X4_makes qML_RX4_179 qIM_yX4_makes qSE_yX4_makes ⟨(Nat.le_of_ble_eq_true rfl), (Nat.le_of_ble_eq_true rfl)⟩ (q0 := 0) rfl (by decide) rfl rfl rfl rfl hl.1 rfl (Nat.le_of_ble_eq_true rfl) dX4_search_33 ⟨Nat.le_refl _, Nat.le_refl _⟩ (fun H locs hP => ?_)
              refine lv_pop hx hb dX4_search_36 rfl ?_
              refine lv_aload_n hx hb dX4_search_37 rfl (lv_at hl 0 rfl) ?_
              obtain ⟨x10, σ9, h1, h⟩ := k_ob2 h
              refine k_callVi C hP hap hAA (ihd ad σ7 _ _ h1) Emb.same hap gz_X4_search qML_RX4_235 qIM_yX4_search qSE_yX4_search ⟨by show d * 2 + 11 + 1 ≤ (d + 1) * 2 + 11; omega, by show 8 + (5 + 11) + (d * 80 + 286) ≤ (d + 1) * 80 + 286; omega⟩ (q0 := 0) rfl (by decide) rfl rfl rfl rfl hl.1 rfl (Nat.le_of_ble_eq_true rfl) dX4_search_38 ⟨Nat.le_refl _, Nat.le_refl _⟩ (fun H locs hP => ?_)
              refine lv_ineg hx hb dX4_search_41 ?_
              refine lv_topi (fun x11 ex11 => ?_)
              have h := k_lt ex11 h
              refine lv_istore (lv' := [(4, .int x11), (0, .ref (ad 0)), (1, .int x1), (2, .int x2), (3, .int x3)]) hx hb dX4_search_42 hl (by decide) rfl (fun ls hl => ?_)
              refine lv_aload_n hx hb dX4_search_44 rfl (lv_at hl 1 rfl) ?_
              refine lv_iload_n hx hb dX4_search_45 rfl (lv_at hl 4 rfl) ?_
              obtain ⟨σ12, h1, h⟩ := k_ob h
              refine k_callVv C hP hap hAA (c_X4_takes l ev ad σ9 x3   _ h1) Emb.same hap gz_X4_takes qML_RX4_238 qIM_yX4_takes qSE_yX4_takes ⟨(Nat.le_of_ble_eq_true rfl), (Nat.le_of_ble_eq_true rfl)⟩ (q0 := 0) rfl (by decide) rfl rfl rfl rfl hl.1 rfl (Nat.le_of_ble_eq_true rfl) dX4_search_46 ⟨Nat.le_refl _, Nat.le_refl _⟩ (fun H locs hP => ?_)
              refine lv_iload_n hx hb dX4_search_49 rfl (lv_at hl 2 rfl) ?_
              refine lv_iconst (v := (-1)) hx hb dX4_search_50 (by decide) ?_
              refine lv_icmp_eq (tgt := 63) hx hb dX4_search_51 (by decide) (fun c51 => ?_) (fun c51 => ?_)
              · have h := k_if c51 h
                refine lv_iload_n hx hb dX4_search_63 rfl (lv_at hl 4 rfl) ?_
                refine lv_istore_n (lv' := [(1, .int x3), (4, .int x11), (0, .ref (ad 0)), (2, .int x2), (3, .int x3)]) hx hb dX4_search_64 rfl hl (by decide) rfl (fun ls hl => ?_)
                refine lv_iload hx hb dX4_search_65 (lv_at hl 1 rfl) ?_
                refine lv_istore_n (lv' := [(2, .int x11), (1, .int x3), (4, .int x11), (0, .ref (ad 0)), (3, .int x3)]) hx hb dX4_search_67 rfl hl (by decide) rfl (fun ls hl => ?_)
                obtain ⟨x13, ex13, h⟩ := k_ltx h
                refine lv_iinc (v := x13) (lv' := [(3, .int x13), (2, .int x11), (1, .int x3), (4, .int x11), (0, .ref (ad 0))]) hx hb dX4_search_68 hl (k := 4) rfl (by rw [ex13]; rfl) (by decide) rfl (fun ls hl => ?_)
                refine lv_goto (tgt := 6) hx hb dX4_search_71 (by decide) ?_
                exact ih _ _ _ _ _ _ _ h hP (lv_sub hl [4, 2, 1, 0] rfl)
              · have h := k_nf c51 h
                refine lv_iload hx hb dX4_search_54 (lv_at hl 0 rfl) ?_
                refine lv_iload_n hx hb dX4_search_56 rfl (lv_at hl 3 rfl) ?_
                refine lv_icmp_gt (tgt := 63) hx hb dX4_search_57 (by decide) (fun c57 => ?_) (fun c57 => ?_)
                · have h := k_if c57 h
                  refine lv_iload_n hx hb dX4_search_63 rfl (lv_at hl 4 rfl) ?_
                  refine lv_istore_n (lv' := [(1, .int x3), (4, .int x11), (0, .ref (ad 0)), (2, .int x2), (3, .int x3)]) hx hb dX4_search_64 rfl hl (by decide) rfl (fun ls hl => ?_)
                  refine lv_iload hx hb dX4_search_65 (lv_at hl 1 rfl) ?_
                  refine lv_istore_n (lv' := [(2, .int x11), (1, .int x3), (4, .int x11), (0, .ref (ad 0)), (3, .int x3)]) hx hb dX4_search_67 rfl hl (by decide) rfl (fun ls hl => ?_)
                  obtain ⟨x14, ex14, h⟩ := k_ltx h
                  refine lv_iinc (v := x14) (lv' := [(3, .int x14), (2, .int x11), (1, .int x3), (4, .int x11), (0, .ref (ad 0))]) hx hb dX4_search_68 hl (k := 4) rfl (by rw [ex14]; rfl) (by decide) rfl (fun ls hl => ?_)
                  refine lv_goto (tgt := 6) hx hb dX4_search_71 (by decide) ?_
                  exact ih _ _ _ _ _ _ _ h hP (lv_sub hl [4, 2, 1, 0] rfl)
                · have h := k_nf c57 h
                  refine lv_goto (tgt := 68) hx hb dX4_search_60 (by decide) ?_
                  obtain ⟨x15, ex15, h⟩ := k_ltx h
                  refine lv_iinc (v := x15) (lv' := [(3, .int x15), (4, .int x11), (0, .ref (ad 0)), (1, .int x1), (2, .int x2)]) hx hb dX4_search_68 hl (k := 4) rfl (by rw [ex15]; rfl) (by decide) rfl (fun ls hl => ?_)
                  refine lv_goto (tgt := 6) hx hb dX4_search_71 (by decide) ?_
                  exact ih _ _ _ _ _ _ _ h hP (lv_sub hl [2, 3, 4, 0] rfl)
            · have h := k_nf c25 h
              refine lv_goto (tgt := 68) hx hb dX4_search_28 (by decide) ?_
              obtain ⟨x16, ex16, h⟩ := k_ltx h
              refine lv_iinc (v := x16) (lv' := [(3, .int x16), (0, .ref (ad 0)), (1, .int x1), (2, .int x2)]) hx hb dX4_search_68 hl (k := 3) rfl (by rw [ex16]; rfl) (by decide) rfl (fun ls hl => ?_)
              refine lv_goto (tgt := 6) hx hb dX4_search_71 (by decide) ?_
              exact ih _ _ _ _ _ _ _ h hP (lv_sub hl [1, 2, 3, 0] rfl)
    refine hL6 _ (fun x19 x20 σ21 H locs ls h hP hl => ?_) FU _ _ _ _ _ _ _ h hP (lv_sub hl [3, 2, 1, 0] rfl)
    refine lv_aload_n hx hb dX4_search_74 rfl (lv_at hl 0 rfl) ?_
    refine lv_iload_n hx hb dX4_search_75 rfl (lv_at hl 1 rfl) ?_
    obtain ⟨σ22, eσ22, h⟩ := k_ltx h
    refine pt_M_X4_bestMove C hP hap hAA eσ22 qFL_RX4_242 dX4_search_76 (fun H locs hP => ?_)
    refine lv_iload_n hx hb dX4_search_79 rfl (lv_at hl 1 rfl) ?_
    refine lv_iconst (v := (-1)) hx hb dX4_search_80 (by decide) ?_
    refine lv_icmp_ne (tgt := 95) hx hb dX4_search_81 (by decide) (fun c81 => ?_) (fun c81 => ?_)
    · have h := k_nf c81 h
      refine lv_iload_n hx hb dX4_search_95 rfl (lv_at hl 2 rfl) ?_
      exact e_iret C hend hP (k_some2 h).1 (congrArg (mw ev ad) (k_some2 h).2) dX4_search_96
    · have h := k_if c81 h
      refine lv_aload_n hx hb dX4_search_84 rfl (lv_at hl 0 rfl) ?_
      refine lv_aload_n hx hb dX4_search_85 rfl (lv_at hl 0 rfl) ?_
      refine r_get C hP (ci := 4) rfl uin_X4 5 (by decide) 0 (by decide) rfl qFL_RX4_101 rfl rfl dX4_search_86 ?_
      obtain ⟨x23, h1, h⟩ := k_ob h
      refine k_callVi C hP hap hAA (c_X4_leadOf l ev ad σ22 (m_turn σ22)   _ h1) Emb.same hap gz_X4_leadOf qML_RX4_226 qIM_yX4_leadOf qSE_yX4_leadOf ⟨(Nat.le_of_ble_eq_true rfl), (Nat.le_of_ble_eq_true rfl)⟩ (q0 := 0) rfl (by decide) rfl rfl rfl rfl hl.1 rfl (Nat.le_of_ble_eq_true rfl) dX4_search_89 ⟨Nat.le_refl _, Nat.le_refl _⟩ (fun H locs hP => ?_)
      refine lv_goto (tgt := 96) hx hb dX4_search_92 (by decide) ?_
      exact e_iret C hend hP (k_some2 h).1 (congrArg (mw ev ad) (k_some2 h).2) dX4_search_96
