/-! functions read off, and their contracts: by program (wip/whole/gen2.py) -/
def f_X4_isMove (σ : MM) (a1 : Int32) : Bool :=
  if (f_X4_within a1 0 ((f_X4_edges σ) - 1)) = true then true else if (f_X4_isField σ (a1 - 100)) = true then true else false
set_option maxHeartbeats 4000000 in
set_option maxRecDepth 100000 in
theorem c_X4_isMove (l : Launch) (ev : EV) (ad : Nat → Nat) (σ : MM) (a1 : Int32)   (r : Bool)  (h : f_X4_isMove σ a1 = r) : Ct l yX4_isMove prog_6_method_41_code 2 (Option.some Jvm.ClassFile.FieldType.boolean) (rmk 2 43) ev 13 ad (mw ev ad σ) (mw ev ad σ) [.ref (ad 0), .int a1] (some (.int (bi r))) := by
  refine Ct.of (by decide +kernel) (Nat.le_of_ble_eq_true rfl) ?_
  intro p e s m args below meth c Qc C hap hP hend ls hl
  have hAA : ∀ j, j < 13 → inA ad 13 (ad j) := fun j hj => ⟨j, hj, rfl⟩
  have hx := C.1
  have hb := C.2.1
  have hl : lv_has ls 2 [(0, .ref (ad 0)), (1, .int a1)] := hl
  have h := (f_X4_isMove.eq_1 _ _ ).symm.trans h
  refine lv_iload_n hx hb dX4_isMove_0 rfl (lv_at hl 1 rfl) ?_
  refine lv_iconst (v := 0) hx hb dX4_isMove_1 (by decide) ?_
  refine lv_aload_n hx hb dX4_isMove_2 rfl (lv_at hl 0 rfl) ?_
  refine k_callVi C hP hap hAA (c_X4_edges l ev ad σ   _ rfl) Emb.same hap gz_X4_edges qML_RX4_107 qIM_yX4_edges qSE_yX4_edges ⟨(Nat.le_of_ble_eq_true rfl), (Nat.le_of_ble_eq_true rfl)⟩ (q0 := 0) rfl (by decide) rfl rfl rfl rfl hl.1 rfl (Nat.le_of_ble_eq_true rfl) dX4_isMove_3 ⟨Nat.le_refl _, Nat.le_refl _⟩ (fun H locs hP => ?_)
  refine lv_iconst (v := 1) hx hb dX4_isMove_6 (by decide) ?_
  refine lv_isub hx hb dX4_isMove_7 ?_
  refine k_callSi C hP hap hAA (c_X4_within l ev ad a1 0 ((f_X4_edges σ) - 1)   _ rfl) Emb.none (apart_0 _) gz_X4_within qML_RX4_63 qSM_yX4_within ⟨(Nat.le_of_ble_eq_true rfl), (Nat.le_of_ble_eq_true rfl)⟩ rfl hl.1 rfl (Nat.le_of_ble_eq_true rfl) dX4_isMove_8 ⟨Nat.le_refl _, Nat.le_refl _⟩ (fun H locs hP => ?_)
  refine r_ifz_ne (tgt := 25) hx hb dX4_isMove_11 (by decide) (fun c11 => ?_) (fun c11 => ?_)
  · have h := k_if c11 h
    refine lv_iconst (v := 1) hx hb dX4_isMove_25 (by decide) ?_
    refine lv_goto (tgt := 30) hx hb dX4_isMove_26 (by decide) ?_
    exact e_zret C hend hP h rfl dX4_isMove_30 rfl
  · have h := k_nf c11 h
    refine lv_aload_n hx hb dX4_isMove_14 rfl (lv_at hl 0 rfl) ?_
    refine lv_iload_n hx hb dX4_isMove_15 rfl (lv_at hl 1 rfl) ?_
    refine lv_bipush (v := 100) hx hb dX4_isMove_16 (by decide) ?_
    refine lv_isub hx hb dX4_isMove_18 ?_
    refine k_callVi C hP hap hAA (c_X4_isField l ev ad σ (a1 - 100)   _ rfl) Emb.same hap gz_X4_isField qML_RX4_116 qIM_yX4_isField qSE_yX4_isField ⟨(Nat.le_of_ble_eq_true rfl), (Nat.le_of_ble_eq_true rfl)⟩ (q0 := 0) rfl (by decide) rfl rfl rfl rfl hl.1 rfl (Nat.le_of_ble_eq_true rfl) dX4_isMove_19 ⟨Nat.le_refl _, Nat.le_refl _⟩ (fun H locs hP => ?_)
    refine r_ifz_eq (tgt := 29) hx hb dX4_isMove_22 (by decide) (fun c22 => ?_) (fun c22 => ?_)
    · have h := k_nf c22 h
      refine lv_iconst (v := 0) hx hb dX4_isMove_29 (by decide) ?_
      exact e_zret C hend hP h rfl dX4_isMove_30 rfl
    · have h := k_if c22 h
      refine lv_iconst (v := 1) hx hb dX4_isMove_25 (by decide) ?_
      refine lv_goto (tgt := 30) hx hb dX4_isMove_26 (by decide) ?_
      exact e_zret C hend hP h rfl dX4_isMove_30 rfl
def f_X4_edge (σ : MM) (a1 : Int32) (a2 : Int32) : Option (Int32) :=
  gd (nz (m_w σ)) (lt (idiv a1 (m_w σ)) (fun x1 => gd (nz (m_w σ)) (lt (irem a1 (m_w σ)) (fun x2 => if a2 = 0 then some a1 else if a2 = 1 then some (a1 + (m_w σ)) else if a2 = 2 then some (((f_X4_level σ) + (x1 * ((m_w σ) + 1))) + x2) else some ((((f_X4_level σ) + (x1 * ((m_w σ) + 1))) + x2) + 1)))))
set_option maxHeartbeats 4000000 in
set_option maxRecDepth 100000 in
theorem c_X4_edge (l : Launch) (ev : EV) (ad : Nat → Nat) (σ : MM) (a1 : Int32) (a2 : Int32)   (r : Int32)  (h : f_X4_edge σ a1 a2 = some r) : Ct l yX4_edge prog_6_method_26_code 5 (Option.some Jvm.ClassFile.FieldType.int) (rmk 1 20) ev 13 ad (mw ev ad σ) (mw ev ad σ) [.ref (ad 0), .int a1, .int a2] (some (.int r)) := by
  refine Ct.of (by decide +kernel) (Nat.le_of_ble_eq_true rfl) ?_
  intro p e s m args below meth c Qc C hap hP hend ls hl
  have hAA : ∀ j, j < 13 → inA ad 13 (ad j) := fun j hj => ⟨j, hj, rfl⟩
  have hx := C.1
  have hb := C.2.1
  have hl : lv_has ls 5 [(0, .ref (ad 0)), (1, .int a1), (2, .int a2)] := hl
  have h := (f_X4_edge.eq_1 _ _ _ ).symm.trans h
  refine lv_iload_n hx hb dX4_edge_0 rfl (lv_at hl 1 rfl) ?_
  refine lv_aload_n hx hb dX4_edge_1 rfl (lv_at hl 0 rfl) ?_
  refine r_get C hP (ci := 4) rfl uin_X4 0 (by decide) 0 (by decide) rfl qFL_RX4_67 rfl rfl dX4_edge_2 ?_
  obtain ⟨hg, h⟩ := k_gd h
  refine r_idiv hx hb dX4_edge_5 (nz_ne hg) ?_
  refine lv_topi (fun x1 ex1 => ?_)
  have h := k_lt ex1 h
  refine lv_istore_n (lv' := [(3, .int x1), (0, .ref (ad 0)), (1, .int a1), (2, .int a2)]) hx hb dX4_edge_6 rfl hl (by decide) rfl (fun ls hl => ?_)
  refine lv_iload_n hx hb dX4_edge_7 rfl (lv_at hl 2 rfl) ?_
  refine lv_aload_n hx hb dX4_edge_8 rfl (lv_at hl 1 rfl) ?_
  refine r_get C hP (ci := 4) rfl uin_X4 0 (by decide) 0 (by decide) rfl qFL_RX4_67 rfl rfl dX4_edge_9 ?_
  obtain ⟨hg, h⟩ := k_gd h
  refine r_irem hx hb dX4_edge_12 (nz_ne hg) ?_
  refine lv_topi (fun x2 ex2 => ?_)
  have h := k_lt ex2 h
  refine lv_istore (lv' := [(4, .int x2), (3, .int x1), (0, .ref (ad 0)), (1, .int a1), (2, .int a2)]) hx hb dX4_edge_13 hl (by decide) rfl (fun ls hl => ?_)
  refine lv_iload_n hx hb dX4_edge_15 rfl (lv_at hl 4 rfl) ?_
  by_cases cs0 : a2 = 0
  · have h := k_if cs0 h
    refine r_tabIn (tgt := 44) (off := 28) (i := 0) hx hb dX4_edge_16 cs0 (by decide) (by decide) (by decide) (by decide) ?_
    refine lv_iload_n hx hb dX4_edge_44 rfl (lv_at hl 3 rfl) ?_
    exact e_iret C hend hP (k_some h) rfl dX4_edge_45
  · have h := k_nf cs0 h
    by_cases cs1 : a2 = 1
    · have h := k_if cs1 h
      refine r_tabIn (tgt := 46) (off := 30) (i := 1) hx hb dX4_edge_16 cs1 (by decide) (by decide) (by decide) (by decide) ?_
      refine lv_iload_n hx hb dX4_edge_46 rfl (lv_at hl 3 rfl) ?_
      refine lv_aload_n hx hb dX4_edge_47 rfl (lv_at hl 2 rfl) ?_
      refine r_get C hP (ci := 4) rfl uin_X4 0 (by decide) 0 (by decide) rfl qFL_RX4_67 rfl rfl dX4_edge_48 ?_
      refine lv_iadd hx hb dX4_edge_51 ?_
      exact e_iret C hend hP (k_some h) rfl dX4_edge_52
    · have h := k_nf cs1 h
      by_cases cs2 : a2 = 2
      · have h := k_if cs2 h
        refine r_tabIn (tgt := 53) (off := 37) (i := 2) hx hb dX4_edge_16 cs2 (by decide) (by decide) (by decide) (by decide) ?_
        refine lv_aload_n hx hb dX4_edge_53 rfl (lv_at hl 2 rfl) ?_
        refine k_callVi C hP hap hAA (c_X4_level l ev ad σ   _ rfl) Emb.same hap gz_X4_level qML_RX4_110 qIM_yX4_level qSE_yX4_level ⟨(Nat.le_of_ble_eq_true rfl), (Nat.le_of_ble_eq_true rfl)⟩ (q0 := 0) rfl (by decide) rfl rfl rfl rfl hl.1 rfl (Nat.le_of_ble_eq_true rfl) dX4_edge_54 ⟨Nat.le_refl _, Nat.le_refl _⟩ (fun H locs hP => ?_)
        refine lv_iload_n hx hb dX4_edge_57 rfl (lv_at hl 1 rfl) ?_
        refine lv_aload_n hx hb dX4_edge_58 rfl (lv_at hl 2 rfl) ?_
        refine r_get C hP (ci := 4) rfl uin_X4 0 (by decide) 0 (by decide) rfl qFL_RX4_67 rfl rfl dX4_edge_59 ?_
        refine lv_iconst (v := 1) hx hb dX4_edge_62 (by decide) ?_
        refine lv_iadd hx hb dX4_edge_63 ?_
        refine lv_imul hx hb dX4_edge_64 ?_
        refine lv_iadd hx hb dX4_edge_65 ?_
        refine lv_iload hx hb dX4_edge_66 (lv_at hl 0 rfl) ?_
        refine lv_iadd hx hb dX4_edge_68 ?_
        exact e_iret C hend hP (k_some h) rfl dX4_edge_69
      · have h := k_nf cs2 h
        refine r_tabOut (tgt := 70) hx hb dX4_edge_16 (fun i h1 h2 => by
          have h3 : i = 0 ∨ i = 1 ∨ i = 2 := by omega
          rcases h3 with rfl | rfl | rfl
          · exact cs0
          · exact cs1
          · exact cs2
          ) (by decide) ?_
        refine lv_aload_n hx hb dX4_edge_70 rfl (lv_at hl 2 rfl) ?_
        refine k_callVi C hP hap hAA (c_X4_level l ev ad σ   _ rfl) Emb.same hap gz_X4_level qML_RX4_110 qIM_yX4_level qSE_yX4_level ⟨(Nat.le_of_ble_eq_true rfl), (Nat.le_of_ble_eq_true rfl)⟩ (q0 := 0) rfl (by decide) rfl rfl rfl rfl hl.1 rfl (Nat.le_of_ble_eq_true rfl) dX4_edge_71 ⟨Nat.le_refl _, Nat.le_refl _⟩ (fun H locs hP => ?_)
        refine lv_iload_n hx hb dX4_edge_74 rfl (lv_at hl 1 rfl) ?_
        refine lv_aload_n hx hb dX4_edge_75 rfl (lv_at hl 2 rfl) ?_
        refine r_get C hP (ci := 4) rfl uin_X4 0 (by decide) 0 (by decide) rfl qFL_RX4_67 rfl rfl dX4_edge_76 ?_
        refine lv_iconst (v := 1) hx hb dX4_edge_79 (by decide) ?_
        refine lv_iadd hx hb dX4_edge_80 ?_
        refine lv_imul hx hb dX4_edge_81 ?_
        refine lv_iadd hx hb dX4_edge_82 ?_
        refine lv_iload hx hb dX4_edge_83 (lv_at hl 0 rfl) ?_
        refine lv_iadd hx hb dX4_edge_85 ?_
        refine lv_iconst (v := 1) hx hb dX4_edge_86 (by decide) ?_
        refine lv_iadd hx hb dX4_edge_87 ?_
        exact e_iret C hend hP (k_some h) rfl dX4_edge_88
def f_X4_hedges_L4_b (σ : MM) (a1 : Int32)  (rec4 : Int32 → Int32 → Option (Int32)) (x1 : Int32) (x2 : Int32) : Option (Int32) :=
  if 4 ≤ x2 then some x1 else ob (f_X4_edge σ a1 x2) (fun x3 => gd (inb x3 40) (if ((m_hedge σ) (Int32.toNatClampNeg x3)) = 0 then lt (x2 + 1) (fun x4 => rec4 x1 x4) else lt (x1 + 1) (fun x5 => lt (x2 + 1) (fun x6 => rec4 x5 x6))))
def f_X4_hedges_L4 (σ : MM) (a1 : Int32)  (x1 : Int32) (x2 : Int32) : Option (Int32) :=
  lp (fun _ _ => none) (f_X4_hedges_L4_b σ a1 ) FU x1 x2
def f_X4_hedges (σ : MM) (a1 : Int32) : Option (Int32) :=
  f_X4_hedges_L4 σ a1 0 0
set_option maxHeartbeats 4000000 in
set_option maxRecDepth 100000 in
theorem c_X4_hedges (l : Launch) (ev : EV) (ad : Nat → Nat) (σ : MM) (a1 : Int32)   (r : Int32)  (h : f_X4_hedges σ a1 = some r) : Ct l yX4_hedges prog_6_method_31_code 4 (Option.some Jvm.ClassFile.FieldType.int) (rmk 2 44) ev 13 ad (mw ev ad σ) (mw ev ad σ) [.ref (ad 0), .int a1] (some (.int r)) := by
  refine Ct.of (by decide +kernel) (Nat.le_of_ble_eq_true rfl) ?_
  intro p e s m args below meth c Qc C hap hP hend ls hl
  have hAA : ∀ j, j < 13 → inA ad 13 (ad j) := fun j hj => ⟨j, hj, rfl⟩
  have hx := C.1
  have hb := C.2.1
  have hl : lv_has ls 4 [(0, .ref (ad 0)), (1, .int a1)] := hl
  have h := (f_X4_hedges.eq_1 _ _ ).symm.trans h
  refine lv_iconst (v := 0) hx hb dX4_hedges_0 (by decide) ?_
  refine lv_istore_n (lv' := [(2, .int 0), (0, .ref (ad 0)), (1, .int a1)]) hx hb dX4_hedges_1 rfl hl (by decide) rfl (fun ls hl => ?_)
  refine lv_iconst (v := 0) hx hb dX4_hedges_2 (by decide) ?_
  refine lv_istore_n (lv' := [(3, .int 0), (2, .int 0), (0, .ref (ad 0)), (1, .int a1)]) hx hb dX4_hedges_3 rfl hl (by decide) rfl (fun ls hl => ?_)
  have hL4 : ∀ (n : Nat) (x1 : Int32) (x2 : Int32) (H : Heap) (locs : List Loc) (ls : Array Slot), lp (fun _ _ => none) (f_X4_hedges_L4_b σ a1 ) n x1 x2 = some r → PS ev 13 ad (mw ev ad σ) (inA ad 13) s H locs → lv_has ls 4 [(0, .ref (ad 0)), (1, .int a1), (2, .int x1), (3, .int x2)] → WW ev p l e (rmk 2 44) s m args below meth c Qc ad 13 H locs 4 ls [] := by
    intro n
    induction n with
    | zero =>
      intro x1 x2 H locs ls h; exact k_none h
    | succ n ih =>
      intro x1 x2 H locs ls h hP hl
      have h : f_X4_hedges_L4_b σ a1  (lp (fun _ _ => none) (f_X4_hedges_L4_b σ a1 ) n) x1 x2 = some r := h
      have h := (f_X4_hedges_L4_b.eq_1 _ _ _ _ _ ).symm.trans h
      refine lv_iload_n hx hb dX4_hedges_4 rfl (lv_at hl 3 rfl) ?_
      refine lv_iconst (v := 4) hx hb dX4_hedges_5 (by decide) ?_
      refine lv_icmp_ge (tgt := 32) hx hb dX4_hedges_6 (by decide) (fun c6 => ?_) (fun c6 => ?_)
      · have h := k_if c6 h
        refine lv_iload_n hx hb dX4_hedges_32 rfl (lv_at hl 2 rfl) ?_
        exact e_iret C hend hP (k_some h) rfl dX4_hedges_33
      · have h := k_nf c6 h
        refine lv_aload_n hx hb dX4_hedges_9 rfl (lv_at hl 0 rfl) ?_
        refine r_get C hP (ci := 4) rfl uin_X4 2 (by decide) 0 (by decide) rfl qFL_RX4_7 rfl rfl dX4_hedges_10 ?_
        refine lv_aload_n hx hb dX4_hedges_13 rfl (lv_at hl 0 rfl) ?_
        refine lv_iload_n hx hb dX4_hedges_14 rfl (lv_at hl 1 rfl) ?_
        refine lv_iload_n hx hb dX4_hedges_15 rfl (lv_at hl 3 rfl) ?_
        obtain ⟨x3, h1, h⟩ := k_ob h
        refine k_callVi C hP hap hAA (c_X4_edge l ev ad σ a1 x2   _ h1) Emb.same hap gz_X4_edge qML_RX4_122 qIM_yX4_edge qSE_yX4_edge ⟨(Nat.le_of_ble_eq_true rfl), (Nat.le_of_ble_eq_true rfl)⟩ (q0 := 0) rfl (by decide) rfl rfl rfl rfl hl.1 rfl (Nat.le_of_ble_eq_true rfl) dX4_hedges_16 ⟨Nat.le_refl _, Nat.le_refl _⟩ (fun H locs hP => ?_)
        obtain ⟨hg, h⟩ := k_gd h
        refine r_zald C hP 1 (by decide) rfl hg dX4_hedges_19 ?_
        refine lv_if_eq (tgt := 26) hx hb dX4_hedges_20 (by decide) (fun c20 => ?_) (fun c20 => ?_)
        · have h := k_if c20 h
          obtain ⟨x4, ex4, h⟩ := k_ltx h
          refine lv_iinc (v := x4) (lv' := [(3, .int x4), (0, .ref (ad 0)), (1, .int a1), (2, .int x1)]) hx hb dX4_hedges_26 hl (k := 3) rfl (by rw [ex4]; rfl) (by decide) rfl (fun ls hl => ?_)
          refine lv_goto (tgt := 4) hx hb dX4_hedges_29 (by decide) ?_
          exact ih _ _ _ _ _ h hP (lv_sub hl [1, 2, 3, 0] rfl)
        · have h := k_nf c20 h
          obtain ⟨x5, ex5, h⟩ := k_ltx h
          refine lv_iinc (v := x5) (lv' := [(2, .int x5), (0, .ref (ad 0)), (1, .int a1), (3, .int x2)]) hx hb dX4_hedges_23 hl (k := 2) rfl (by rw [ex5]; rfl) (by decide) rfl (fun ls hl => ?_)
          obtain ⟨x6, ex6, h⟩ := k_ltx h
          refine lv_iinc (v := x6) (lv' := [(3, .int x6), (2, .int x5), (0, .ref (ad 0)), (1, .int a1)]) hx hb dX4_hedges_26 hl (k := 3) rfl (by rw [ex6]; rfl) (by decide) rfl (fun ls hl => ?_)
          refine lv_goto (tgt := 4) hx hb dX4_hedges_29 (by decide) ?_
          exact ih _ _ _ _ _ h hP (lv_sub hl [2, 3, 1, 0] rfl)
  exact hL4 FU _ _ _ _ _ h hP (lv_sub hl [2, 3, 1, 0] rfl)
def f_X4_mayBe (σ : MM) (a1 : Int32) : Option (Bool) :=
  if 100 ≤ a1 then gd (inb (a1 - 100) 16) (if ((m_dug σ) (Int32.toNatClampNeg (a1 - 100))) = 0 then ob (f_X4_hedges σ (a1 - 100)) (fun x1 => if 4 ≤ x1 then some false else some true) else some false) else gd (inb a1 40) (if ((m_hedge σ) (Int32.toNatClampNeg a1)) = 0 then some true else some false)
set_option maxHeartbeats 4000000 in
set_option maxRecDepth 100000 in
theorem c_X4_mayBe (l : Launch) (ev : EV) (ad : Nat → Nat) (σ : MM) (a1 : Int32)   (r : Bool)  (h : f_X4_mayBe σ a1 = some r) : Ct l yX4_mayBe prog_6_method_42_code 2 (Option.some Jvm.ClassFile.FieldType.boolean) (rmk 3 67) ev 13 ad (mw ev ad σ) (mw ev ad σ) [.ref (ad 0), .int a1] (some (.int (bi r))) := by
  refine Ct.of (by decide +kernel) (Nat.le_of_ble_eq_true rfl) ?_
  intro p e s m args below meth c Qc C hap hP hend ls hl
  have hAA : ∀ j, j < 13 → inA ad 13 (ad j) := fun j hj => ⟨j, hj, rfl⟩
  have hx := C.1
  have hb := C.2.1
  have hl : lv_has ls 2 [(0, .ref (ad 0)), (1, .int a1)] := hl
  have h := (f_X4_mayBe.eq_1 _ _ ).symm.trans h
  refine lv_iload_n hx hb dX4_mayBe_0 rfl (lv_at hl 1 rfl) ?_
  refine lv_bipush (v := 100) hx hb dX4_mayBe_1 (by decide) ?_
  refine lv_icmp_ge (tgt := 23) hx hb dX4_mayBe_3 (by decide) (fun c3 => ?_) (fun c3 => ?_)
  · have h := k_if c3 h
    refine lv_aload_n hx hb dX4_mayBe_23 rfl (lv_at hl 0 rfl) ?_
    refine r_get C hP (ci := 4) rfl uin_X4 3 (by decide) 0 (by decide) rfl qFL_RX4_13 rfl rfl dX4_mayBe_24 ?_
    refine lv_iload_n hx hb dX4_mayBe_27 rfl (lv_at hl 1 rfl) ?_
    refine lv_bipush (v := 100) hx hb dX4_mayBe_28 (by decide) ?_
    refine lv_isub hx hb dX4_mayBe_30 ?_
    obtain ⟨hg, h⟩ := k_gd h
    refine r_zald C hP 2 (by decide) rfl hg dX4_mayBe_31 ?_
    refine lv_if_ne (tgt := 51) hx hb dX4_mayBe_32 (by decide) (fun c32 => ?_) (fun c32 => ?_)
    · have h := k_nf c32 h
      refine lv_iconst (v := 0) hx hb dX4_mayBe_51 (by decide) ?_
      exact e_zret C hend hP (k_some h) rfl dX4_mayBe_52 rfl
    · have h := k_if c32 h
      refine lv_aload_n hx hb dX4_mayBe_35 rfl (lv_at hl 0 rfl) ?_
      refine lv_iload_n hx hb dX4_mayBe_36 rfl (lv_at hl 1 rfl) ?_
      refine lv_bipush (v := 100) hx hb dX4_mayBe_37 (by decide) ?_
      refine lv_isub hx hb dX4_mayBe_39 ?_
      obtain ⟨x1, h1, h⟩ := k_ob h
      refine k_callVi C hP hap hAA (c_X4_hedges l ev ad σ (a1 - 100)   _ h1) Emb.same hap gz_X4_hedges qML_RX4_196 qIM_yX4_hedges qSE_yX4_hedges ⟨(Nat.le_of_ble_eq_true rfl), (Nat.le_of_ble_eq_true rfl)⟩ (q0 := 0) rfl (by decide) rfl rfl rfl rfl hl.1 rfl (Nat.le_of_ble_eq_true rfl) dX4_mayBe_40 ⟨Nat.le_refl _, Nat.le_refl _⟩ (fun H locs hP => ?_)
      refine lv_iconst (v := 4) hx hb dX4_mayBe_43 (by decide) ?_
      refine lv_icmp_ge (tgt := 51) hx hb dX4_mayBe_44 (by decide) (fun c44 => ?_) (fun c44 => ?_)
      · have h := k_if c44 h
        refine lv_iconst (v := 0) hx hb dX4_mayBe_51 (by decide) ?_
        exact e_zret C hend hP (k_some h) rfl dX4_mayBe_52 rfl
      · have h := k_nf c44 h
        refine lv_iconst (v := 1) hx hb dX4_mayBe_47 (by decide) ?_
        refine lv_goto (tgt := 52) hx hb dX4_mayBe_48 (by decide) ?_
        exact e_zret C hend hP (k_some h) rfl dX4_mayBe_52 rfl
  · have h := k_nf c3 h
    refine lv_aload_n hx hb dX4_mayBe_6 rfl (lv_at hl 0 rfl) ?_
    refine r_get C hP (ci := 4) rfl uin_X4 2 (by decide) 0 (by decide) rfl qFL_RX4_7 rfl rfl dX4_mayBe_7 ?_
    refine lv_iload_n hx hb dX4_mayBe_10 rfl (lv_at hl 1 rfl) ?_
    obtain ⟨hg, h⟩ := k_gd h
    refine r_zald C hP 1 (by decide) rfl hg dX4_mayBe_11 ?_
    refine lv_if_ne (tgt := 19) hx hb dX4_mayBe_12 (by decide) (fun c12 => ?_) (fun c12 => ?_)
    · have h := k_nf c12 h
      refine lv_iconst (v := 0) hx hb dX4_mayBe_19 (by decide) ?_
      refine lv_goto (tgt := 52) hx hb dX4_mayBe_20 (by decide) ?_
      exact e_zret C hend hP (k_some h) rfl dX4_mayBe_52 rfl
    · have h := k_if c12 h
      refine lv_iconst (v := 1) hx hb dX4_mayBe_15 (by decide) ?_
      refine lv_goto (tgt := 52) hx hb dX4_mayBe_16 (by decide) ?_
      exact e_zret C hend hP (k_some h) rfl dX4_mayBe_52 rfl
def f_X4_howMany_L4_b (σ : MM)  (rec4 : Int32 → Int32 → Option (Int32)) (x1 : Int32) (x2 : Int32) : Option (Int32) :=
  if 116 ≤ x2 then some x1 else if (f_X4_isMove σ x2) = true then ob (f_X4_mayBe σ x2) (fun b4 => if b4 = true then lt (x1 + 1) (fun x6 => lt (x2 + 1) (fun x7 => rec4 x6 x7)) else lt (x2 + 1) (fun x5 => rec4 x1 x5)) else lt (x2 + 1) (fun x3 => rec4 x1 x3)
def f_X4_howMany_L4 (σ : MM)  (x1 : Int32) (x2 : Int32) : Option (Int32) :=
  lp (fun _ _ => none) (f_X4_howMany_L4_b σ ) FU x1 x2
def f_X4_howMany (σ : MM) : Option (Int32) :=
  f_X4_howMany_L4 σ 0 0
set_option maxHeartbeats 4000000 in
set_option maxRecDepth 100000 in
theorem c_X4_howMany (l : Launch) (ev : EV) (ad : Nat → Nat) (σ : MM)   (r : Int32)  (h : f_X4_howMany σ = some r) : Ct l yX4_howMany prog_6_method_45_code 3 (Option.some Jvm.ClassFile.FieldType.int) (rmk 4 88) ev 13 ad (mw ev ad σ) (mw ev ad σ) [.ref (ad 0)] (some (.int r)) := by
  refine Ct.of (by decide +kernel) (Nat.le_of_ble_eq_true rfl) ?_
  intro p e s m args below meth c Qc C hap hP hend ls hl
  have hAA : ∀ j, j < 13 → inA ad 13 (ad j) := fun j hj => ⟨j, hj, rfl⟩
  have hx := C.1
  have hb := C.2.1
  have hl : lv_has ls 3 [(0, .ref (ad 0))] := hl
  have h := (f_X4_howMany.eq_1 _ ).symm.trans h
  refine lv_iconst (v := 0) hx hb dX4_howMany_0 (by decide) ?_
  refine lv_istore_n (lv' := [(1, .int 0), (0, .ref (ad 0))]) hx hb dX4_howMany_1 rfl hl (by decide) rfl (fun ls hl => ?_)
  refine lv_iconst (v := 0) hx hb dX4_howMany_2 (by decide) ?_
  refine lv_istore_n (lv' := [(2, .int 0), (1, .int 0), (0, .ref (ad 0))]) hx hb dX4_howMany_3 rfl hl (by decide) rfl (fun ls hl => ?_)
  have hL4 : ∀ (n : Nat) (x1 : Int32) (x2 : Int32) (H : Heap) (locs : List Loc) (ls : Array Slot), lp (fun _ _ => none) (f_X4_howMany_L4_b σ ) n x1 x2 = some r → PS ev 13 ad (mw ev ad σ) (inA ad 13) s H locs → lv_has ls 3 [(0, .ref (ad 0)), (1, .int x1), (2, .int x2)] → WW ev p l e (rmk 4 88) s m args below meth c Qc ad 13 H locs 4 ls [] := by
    intro n
    induction n with
    | zero =>
      intro x1 x2 H locs ls h; exact k_none h
    | succ n ih =>
      intro x1 x2 H locs ls h hP hl
      have h : f_X4_howMany_L4_b σ  (lp (fun _ _ => none) (f_X4_howMany_L4_b σ ) n) x1 x2 = some r := h
      have h := (f_X4_howMany_L4_b.eq_1 _ _ _ _ ).symm.trans h
      refine lv_iload_n hx hb dX4_howMany_4 rfl (lv_at hl 2 rfl) ?_
      refine lv_bipush (v := 116) hx hb dX4_howMany_5 (by decide) ?_
      refine lv_icmp_ge (tgt := 35) hx hb dX4_howMany_7 (by decide) (fun c7 => ?_) (fun c7 => ?_)
      · have h := k_if c7 h
        refine lv_iload_n hx hb dX4_howMany_35 rfl (lv_at hl 1 rfl) ?_
        exact e_iret C hend hP (k_some h) rfl dX4_howMany_36
      · have h := k_nf c7 h
        refine lv_aload_n hx hb dX4_howMany_10 rfl (lv_at hl 0 rfl) ?_
        refine lv_iload_n hx hb dX4_howMany_11 rfl (lv_at hl 2 rfl) ?_
        refine k_callVi C hP hap hAA (c_X4_isMove l ev ad σ x2   _ rfl) Emb.same hap gz_X4_isMove qML_RX4_173 qIM_yX4_isMove qSE_yX4_isMove ⟨(Nat.le_of_ble_eq_true rfl), (Nat.le_of_ble_eq_true rfl)⟩ (q0 := 0) rfl (by decide) rfl rfl rfl rfl hl.1 rfl (Nat.le_of_ble_eq_true rfl) dX4_howMany_12 ⟨Nat.le_refl _, Nat.le_refl _⟩ (fun H locs hP => ?_)
        refine r_ifz_eq (tgt := 29) hx hb dX4_howMany_15 (by decide) (fun c15 => ?_) (fun c15 => ?_)
        · have h := k_nf c15 h
          obtain ⟨x3, ex3, h⟩ := k_ltx h
          refine lv_iinc (v := x3) (lv' := [(2, .int x3), (0, .ref (ad 0)), (1, .int x1)]) hx hb dX4_howMany_29 hl (k := 2) rfl (by rw [ex3]; rfl) (by decide) rfl (fun ls hl => ?_)
          refine lv_goto (tgt := 4) hx hb dX4_howMany_32 (by decide) ?_
          exact ih _ _ _ _ _ h hP (lv_sub hl [1, 2, 0] rfl)
        · have h := k_if c15 h
          refine lv_aload_n hx hb dX4_howMany_18 rfl (lv_at hl 0 rfl) ?_
          refine lv_iload_n hx hb dX4_howMany_19 rfl (lv_at hl 2 rfl) ?_
          obtain ⟨b4, h1, h⟩ := k_ob h
          refine k_callVi C hP hap hAA (c_X4_mayBe l ev ad σ x2   _ h1) Emb.same hap gz_X4_mayBe qML_RX4_176 qIM_yX4_mayBe qSE_yX4_mayBe ⟨(Nat.le_of_ble_eq_true rfl), (Nat.le_of_ble_eq_true rfl)⟩ (q0 := 0) rfl (by decide) rfl rfl rfl rfl hl.1 rfl (Nat.le_of_ble_eq_true rfl) dX4_howMany_20 ⟨Nat.le_refl _, Nat.le_refl _⟩ (fun H locs hP => ?_)
          refine r_ifz_eq (tgt := 29) hx hb dX4_howMany_23 (by decide) (fun c23 => ?_) (fun c23 => ?_)
          · have h := k_nf c23 h
            obtain ⟨x5, ex5, h⟩ := k_ltx h
            refine lv_iinc (v := x5) (lv' := [(2, .int x5), (0, .ref (ad 0)), (1, .int x1)]) hx hb dX4_howMany_29 hl (k := 2) rfl (by rw [ex5]; rfl) (by decide) rfl (fun ls hl => ?_)
            refine lv_goto (tgt := 4) hx hb dX4_howMany_32 (by decide) ?_
            exact ih _ _ _ _ _ h hP (lv_sub hl [1, 2, 0] rfl)
          · have h := k_if c23 h
            obtain ⟨x6, ex6, h⟩ := k_ltx h
            refine lv_iinc (v := x6) (lv' := [(1, .int x6), (0, .ref (ad 0)), (2, .int x2)]) hx hb dX4_howMany_26 hl (k := 1) rfl (by rw [ex6]; rfl) (by decide) rfl (fun ls hl => ?_)
            obtain ⟨x7, ex7, h⟩ := k_ltx h
            refine lv_iinc (v := x7) (lv' := [(2, .int x7), (1, .int x6), (0, .ref (ad 0))]) hx hb dX4_howMany_29 hl (k := 2) rfl (by rw [ex7]; rfl) (by decide) rfl (fun ls hl => ?_)
            refine lv_goto (tgt := 4) hx hb dX4_howMany_32 (by decide) ?_
            exact ih _ _ _ _ _ h hP (lv_sub hl [2, 1, 0] rfl)
  exact hL4 FU _ _ _ _ _ h hP (lv_sub hl [2, 1, 0] rfl)
