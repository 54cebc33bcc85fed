/-! functions read off, and their contracts: by program (wip/whole/gen2.py) -/
def f_X4_isOpen_L17_b (σ : MM) (a1 : Int32) (x1 : Int32) (k66 : Option (Bool)) (rec17 : Int32 → Option (Bool)) (x2 : Int32) : Option (Bool) :=
  if 4 ≤ x2 then k66 else if ((ishr a1 x1) &&& 1) = 1 then ob (f_X4_edge σ x1 x2) (fun x4 => ob (f_X4_isRim σ x4) (fun b5 => if b5 = true then ob (f_X4_edge σ x1 x2) (fun x7 => gd (inb x7 40) (if ((m_hedge σ) (Int32.toNatClampNeg x7)) = 0 then some true else lt (x2 + 1) (fun x8 => rec17 x8))) else lt (x2 + 1) (fun x6 => rec17 x6))) else lt (x2 + 1) (fun x3 => rec17 x3)
def f_X4_isOpen_L17 (σ : MM) (a1 : Int32) (x1 : Int32) (k66 : Option (Bool)) (x2 : Int32) : Option (Bool) :=
  lp (fun _ => none) (f_X4_isOpen_L17_b σ a1 x1 k66) FU x2
def f_X4_isOpen_L2_b (σ : MM) (a1 : Int32)  (rec2 : Int32 → Option (Bool)) (x1 : Int32) : Option (Bool) :=
  if ((m_w σ) * (m_h σ)) ≤ x1 then some false else f_X4_isOpen_L17 σ a1 x1 (lt (x1 + 1) (fun x9 => rec2 x9)) 0
def f_X4_isOpen_L2 (σ : MM) (a1 : Int32)  (x1 : Int32) : Option (Bool) :=
  lp (fun _ => none) (f_X4_isOpen_L2_b σ a1 ) FU x1
def f_X4_isOpen (σ : MM) (a1 : Int32) : Option (Bool) :=
  f_X4_isOpen_L2 σ a1 0
set_option maxHeartbeats 4000000 in
set_option maxRecDepth 100000 in
theorem c_X4_isOpen (l : Launch) (ev : EV) (ad : Nat → Nat) (σ : MM) (a1 : Int32)   (r : Bool)  (h : f_X4_isOpen σ a1 = some r) : Ct l yX4_isOpen prog_6_method_52_code 4 (Option.some Jvm.ClassFile.FieldType.boolean) (rmk 4 88) ev 13 ad (mw ev ad σ) (mw ev ad σ) [.ref (ad 0), .int a1] (some (.int (bi r))) := by
  refine Ct.of (by decide +kernel) (Nat.le_of_ble_eq_true rfl) ?_
  intro p e s m args below meth c Qc C hap hP hend ls hl
  have hAA : ∀ j, j < 13 → inA ad 13 (ad j) := fun j hj => ⟨j, hj, rfl⟩
  have hx := C.1
  have hb := C.2.1
  have hl : lv_has ls 4 [(0, .ref (ad 0)), (1, .int a1)] := hl
  have h := (f_X4_isOpen.eq_1 _ _ ).symm.trans h
  refine lv_iconst (v := 0) hx hb dX4_isOpen_0 (by decide) ?_
  refine lv_istore_n (lv' := [(2, .int 0), (0, .ref (ad 0)), (1, .int a1)]) hx hb dX4_isOpen_1 rfl hl (by decide) rfl (fun ls hl => ?_)
  have hL2 : ∀ (n : Nat) (x1 : Int32) (H : Heap) (locs : List Loc) (ls : Array Slot), lp (fun _ => none) (f_X4_isOpen_L2_b σ a1 ) n x1 = some r → PS ev 13 ad (mw ev ad σ) (inA ad 13) s H locs → lv_has ls 4 [(0, .ref (ad 0)), (1, .int a1), (2, .int x1)] → WW ev p l e (rmk 4 88) s m args below meth c Qc ad 13 H locs 2 ls [] := by
    intro n
    induction n with
    | zero =>
      intro x1 H locs ls h; exact k_none h
    | succ n ih =>
      intro x1 H locs ls h hP hl
      have h : f_X4_isOpen_L2_b σ a1  (lp (fun _ => none) (f_X4_isOpen_L2_b σ a1 ) n) x1 = some r := h
      have h := (f_X4_isOpen_L2_b.eq_1 _ _ _ _ ).symm.trans h
      refine lv_iload_n hx hb dX4_isOpen_2 rfl (lv_at hl 2 rfl) ?_
      refine lv_aload_n hx hb dX4_isOpen_3 rfl (lv_at hl 0 rfl) ?_
      refine r_get C hP (ci := 4) rfl uin_X4 0 (by decide) 0 (by decide) rfl qFL_RX4_67 rfl rfl dX4_isOpen_4 ?_
      refine lv_aload_n hx hb dX4_isOpen_7 rfl (lv_at hl 0 rfl) ?_
      refine r_get C hP (ci := 4) rfl uin_X4 1 (by decide) 0 (by decide) rfl qFL_RX4_70 rfl rfl dX4_isOpen_8 ?_
      refine lv_imul hx hb dX4_isOpen_11 ?_
      refine lv_icmp_ge (tgt := 72) hx hb dX4_isOpen_12 (by decide) (fun c12 => ?_) (fun c12 => ?_)
      · have h := k_if c12 h
        refine lv_iconst (v := 0) hx hb dX4_isOpen_72 (by decide) ?_
        exact e_zret C hend hP (k_some h) rfl dX4_isOpen_73 rfl
      · have h := k_nf c12 h
        refine lv_iconst (v := 0) hx hb dX4_isOpen_15 (by decide) ?_
        refine lv_istore_n (lv' := [(3, .int 0), (0, .ref (ad 0)), (1, .int a1), (2, .int x1)]) hx hb dX4_isOpen_16 rfl hl (by decide) rfl (fun ls hl => ?_)
        have hL17 : ∀ (k66 : Option (Bool)) (hk66 : ∀  (H : Heap) (locs : List Loc) (ls : Array Slot), k66  = some r → PS ev 13 ad (mw ev ad σ) (inA ad 13) s H locs → lv_has ls 4 [(0, .ref (ad 0)), (1, .int a1), (2, .int x1)] → WW ev p l e (rmk 4 88) s m args below meth c Qc ad 13 H locs 66 ls []) (n : Nat) (x2 : Int32) (H : Heap) (locs : List Loc) (ls : Array Slot), lp (fun _ => none) (f_X4_isOpen_L17_b σ a1 x1 k66) n x2 = some r → PS ev 13 ad (mw ev ad σ) (inA ad 13) s H locs → lv_has ls 4 [(0, .ref (ad 0)), (1, .int a1), (2, .int x1), (3, .int x2)] → WW ev p l e (rmk 4 88) s m args below meth c Qc ad 13 H locs 17 ls [] := by
          intro k66 hk66 n
          induction n with
          | zero =>
            intro x2 H locs ls h; exact k_none h
          | succ n ih =>
            intro x2 H locs ls h hP hl
            have h : f_X4_isOpen_L17_b σ a1 x1 k66 (lp (fun _ => none) (f_X4_isOpen_L17_b σ a1 x1 k66) n) x2 = some r := h
            have h := (f_X4_isOpen_L17_b.eq_1 _ _ _ _ _ _ ).symm.trans h
            refine lv_iload_n hx hb dX4_isOpen_17 rfl (lv_at hl 3 rfl) ?_
            refine lv_iconst (v := 4) hx hb dX4_isOpen_18 (by decide) ?_
            refine lv_icmp_ge (tgt := 66) hx hb dX4_isOpen_19 (by decide) (fun c19 => ?_) (fun c19 => ?_)
            · have h := k_if c19 h
              exact hk66 _ _ _ h hP (lv_sub hl [0, 1, 2] rfl)
            · have h := k_nf c19 h
              refine lv_iload_n hx hb dX4_isOpen_22 rfl (lv_at hl 1 rfl) ?_
              refine lv_iload_n hx hb dX4_isOpen_23 rfl (lv_at hl 2 rfl) ?_
              refine r_ishr hx hb dX4_isOpen_24 ?_
              refine lv_iconst (v := 1) hx hb dX4_isOpen_25 (by decide) ?_
              refine lv_iand hx hb dX4_isOpen_26 ?_
              refine lv_iconst (v := 1) hx hb dX4_isOpen_27 (by decide) ?_
              refine lv_icmp_ne (tgt := 60) hx hb dX4_isOpen_28 (by decide) (fun c28 => ?_) (fun c28 => ?_)
              · have h := k_nf c28 h
                obtain ⟨x3, ex3, h⟩ := k_ltx h
                refine lv_iinc (v := x3) (lv' := [(3, .int x3), (0, .ref (ad 0)), (1, .int a1), (2, .int x1)]) hx hb dX4_isOpen_60 hl (k := 3) rfl (by rw [ex3]; rfl) (by decide) rfl (fun ls hl => ?_)
                refine lv_goto (tgt := 17) hx hb dX4_isOpen_63 (by decide) ?_
                exact ih _ _ _ _ h hP (lv_sub hl [1, 2, 3, 0] rfl)
              · have h := k_if c28 h
                refine lv_aload_n hx hb dX4_isOpen_31 rfl (lv_at hl 0 rfl) ?_
                refine lv_aload_n hx hb dX4_isOpen_32 rfl (lv_at hl 0 rfl) ?_
                refine lv_iload_n hx hb dX4_isOpen_33 rfl (lv_at hl 2 rfl) ?_
                refine lv_iload_n hx hb dX4_isOpen_34 rfl (lv_at hl 3 rfl) ?_
                obtain ⟨x4, h1, h⟩ := k_ob h
                refine k_callVi C hP hap hAA (c_X4_edge l ev ad σ x1 x2   _ h1) Emb.same hap gz_X4_edge qML_RX4_122 qIM_yX4_edge qSE_yX4_edge ⟨(Nat.le_of_ble_eq_true rfl), (Nat.le_of_ble_eq_true rfl)⟩ (q0 := 0) rfl (by decide) rfl rfl rfl rfl hl.1 rfl (Nat.le_of_ble_eq_true rfl) dX4_isOpen_35 ⟨Nat.le_refl _, Nat.le_refl _⟩ (fun H locs hP => ?_)
                obtain ⟨b5, h1, h⟩ := k_ob h
                refine k_callVi C hP hap hAA (c_X4_isRim l ev ad σ x4   _ h1) Emb.same hap gz_X4_isRim qML_RX4_125 qIM_yX4_isRim qSE_yX4_isRim ⟨(Nat.le_of_ble_eq_true rfl), (Nat.le_of_ble_eq_true rfl)⟩ (q0 := 0) rfl (by decide) rfl rfl rfl rfl hl.1 rfl (Nat.le_of_ble_eq_true rfl) dX4_isOpen_38 ⟨Nat.le_refl _, Nat.le_refl _⟩ (fun H locs hP => ?_)
                refine r_ifz_eq (tgt := 60) hx hb dX4_isOpen_41 (by decide) (fun c41 => ?_) (fun c41 => ?_)
                · have h := k_nf c41 h
                  obtain ⟨x6, ex6, h⟩ := k_ltx h
                  refine lv_iinc (v := x6) (lv' := [(3, .int x6), (0, .ref (ad 0)), (1, .int a1), (2, .int x1)]) hx hb dX4_isOpen_60 hl (k := 3) rfl (by rw [ex6]; rfl) (by decide) rfl (fun ls hl => ?_)
                  refine lv_goto (tgt := 17) hx hb dX4_isOpen_63 (by decide) ?_
                  exact ih _ _ _ _ h hP (lv_sub hl [1, 2, 3, 0] rfl)
                · have h := k_if c41 h
                  refine lv_aload_n hx hb dX4_isOpen_44 rfl (lv_at hl 0 rfl) ?_
                  refine r_get C hP (ci := 4) rfl uin_X4 2 (by decide) 0 (by decide) rfl qFL_RX4_7 rfl rfl dX4_isOpen_45 ?_
                  refine lv_aload_n hx hb dX4_isOpen_48 rfl (lv_at hl 0 rfl) ?_
                  refine lv_iload_n hx hb dX4_isOpen_49 rfl (lv_at hl 2 rfl) ?_
                  refine lv_iload_n hx hb dX4_isOpen_50 rfl (lv_at hl 3 rfl) ?_
                  obtain ⟨x7, h1, h⟩ := k_ob h
                  refine k_callVi C hP hap hAA (c_X4_edge l ev ad σ x1 x2   _ h1) Emb.same hap gz_X4_edge qML_RX4_122 qIM_yX4_edge qSE_yX4_edge ⟨(Nat.le_of_ble_eq_true rfl), (Nat.le_of_ble_eq_true rfl)⟩ (q0 := 0) rfl (by decide) rfl rfl rfl rfl hl.1 rfl (Nat.le_of_ble_eq_true rfl) dX4_isOpen_51 ⟨Nat.le_refl _, Nat.le_refl _⟩ (fun H locs hP => ?_)
                  obtain ⟨hg, h⟩ := k_gd h
                  refine r_zald C hP 1 (by decide) rfl hg dX4_isOpen_54 ?_
                  refine lv_if_ne (tgt := 60) hx hb dX4_isOpen_55 (by decide) (fun c55 => ?_) (fun c55 => ?_)
                  · have h := k_nf c55 h
                    obtain ⟨x8, ex8, h⟩ := k_ltx h
                    refine lv_iinc (v := x8) (lv' := [(3, .int x8), (0, .ref (ad 0)), (1, .int a1), (2, .int x1)]) hx hb dX4_isOpen_60 hl (k := 3) rfl (by rw [ex8]; rfl) (by decide) rfl (fun ls hl => ?_)
                    refine lv_goto (tgt := 17) hx hb dX4_isOpen_63 (by decide) ?_
                    exact ih _ _ _ _ h hP (lv_sub hl [1, 2, 3, 0] rfl)
                  · have h := k_if c55 h
                    refine lv_iconst (v := 1) hx hb dX4_isOpen_58 (by decide) ?_
                    exact e_zret C hend hP (k_some h) rfl dX4_isOpen_59 rfl
        refine hL17 _ (fun  H locs ls h hP hl => ?_) FU _ _ _ _ h hP (lv_sub hl [1, 2, 3, 0] rfl)
        obtain ⟨x9, ex9, h⟩ := k_ltx h
        refine lv_iinc (v := x9) (lv' := [(2, .int x9), (0, .ref (ad 0)), (1, .int a1)]) hx hb dX4_isOpen_66 hl (k := 2) rfl (by rw [ex9]; rfl) (by decide) rfl (fun ls hl => ?_)
        refine lv_goto (tgt := 2) hx hb dX4_isOpen_69 (by decide) ?_
        exact ih _ _ _ _ h hP (lv_sub hl [1, 2, 0] rfl)
  exact hL2 FU _ _ _ _ h hP (lv_sub hl [1, 2, 0] rfl)
def f_X4_drains_L4_b (σ : MM)  (rec4 : Int32 → Int32 → Option (Int32)) (x1 : Int32) (x2 : Int32) : Option (Int32) :=
  if ((m_w σ) * (m_h σ)) ≤ x2 then some x1 else gd (inb x2 16) (if ((m_dug σ) (Int32.toNatClampNeg x2)) = 0 then lt (x2 + 1) (fun x3 => rec4 x1 x3) else ob (f_X4_ditchOf σ x2) (fun x4 => ob (f_X4_isOpen σ x4) (fun b5 => if b5 = true then lt (x1 ||| (ishl 1 x2)) (fun x7 => lt (x2 + 1) (fun x8 => rec4 x7 x8)) else lt (x2 + 1) (fun x6 => rec4 x1 x6))))
def f_X4_drains_L4 (σ : MM)  (x1 : Int32) (x2 : Int32) : Option (Int32) :=
  lp (fun _ _ => none) (f_X4_drains_L4_b σ ) FU x1 x2
def f_X4_drains (σ : MM) : Option (Int32) :=
  f_X4_drains_L4 σ 0 0
set_option maxHeartbeats 4000000 in
set_option maxRecDepth 100000 in
theorem c_X4_drains (l : Launch) (ev : EV) (ad : Nat → Nat) (σ : MM)   (r : Int32)  (h : f_X4_drains σ = some r) : Ct l yX4_drains prog_6_method_53_code 3 (Option.some Jvm.ClassFile.FieldType.int) (rmk 5 115) ev 13 ad (mw ev ad σ) (mw ev ad σ) [.ref (ad 0)] (some (.int r)) := by
  refine Ct.of (by decide +kernel) (Nat.le_of_ble_eq_true rfl) ?_
  intro p e s m args below meth c Qc C hap hP hend ls hl
  have hAA : ∀ j, j < 13 → inA ad 13 (ad j) := fun j hj => ⟨j, hj, rfl⟩
  have hx := C.1
  have hb := C.2.1
  have hl : lv_has ls 3 [(0, .ref (ad 0))] := hl
  have h := (f_X4_drains.eq_1 _ ).symm.trans h
  refine lv_iconst (v := 0) hx hb dX4_drains_0 (by decide) ?_
  refine lv_istore_n (lv' := [(1, .int 0), (0, .ref (ad 0))]) hx hb dX4_drains_1 rfl hl (by decide) rfl (fun ls hl => ?_)
  refine lv_iconst (v := 0) hx hb dX4_drains_2 (by decide) ?_
  refine lv_istore_n (lv' := [(2, .int 0), (1, .int 0), (0, .ref (ad 0))]) hx hb dX4_drains_3 rfl hl (by decide) rfl (fun ls hl => ?_)
  have hL4 : ∀ (n : Nat) (x1 : Int32) (x2 : Int32) (H : Heap) (locs : List Loc) (ls : Array Slot), lp (fun _ _ => none) (f_X4_drains_L4_b σ ) n x1 x2 = some r → PS ev 13 ad (mw ev ad σ) (inA ad 13) s H locs → lv_has ls 3 [(0, .ref (ad 0)), (1, .int x1), (2, .int x2)] → WW ev p l e (rmk 5 115) s m args below meth c Qc ad 13 H locs 4 ls [] := by
    intro n
    induction n with
    | zero =>
      intro x1 x2 H locs ls h; exact k_none h
    | succ n ih =>
      intro x1 x2 H locs ls h hP hl
      have h : f_X4_drains_L4_b σ  (lp (fun _ _ => none) (f_X4_drains_L4_b σ ) n) x1 x2 = some r := h
      have h := (f_X4_drains_L4_b.eq_1 _ _ _ _ ).symm.trans h
      refine lv_iload_n hx hb dX4_drains_4 rfl (lv_at hl 2 rfl) ?_
      refine lv_aload_n hx hb dX4_drains_5 rfl (lv_at hl 0 rfl) ?_
      refine r_get C hP (ci := 4) rfl uin_X4 0 (by decide) 0 (by decide) rfl qFL_RX4_67 rfl rfl dX4_drains_6 ?_
      refine lv_aload_n hx hb dX4_drains_9 rfl (lv_at hl 0 rfl) ?_
      refine r_get C hP (ci := 4) rfl uin_X4 1 (by decide) 0 (by decide) rfl qFL_RX4_70 rfl rfl dX4_drains_10 ?_
      refine lv_imul hx hb dX4_drains_13 ?_
      refine lv_icmp_ge (tgt := 50) hx hb dX4_drains_14 (by decide) (fun c14 => ?_) (fun c14 => ?_)
      · have h := k_if c14 h
        refine lv_iload_n hx hb dX4_drains_50 rfl (lv_at hl 1 rfl) ?_
        exact e_iret C hend hP (k_some h) rfl dX4_drains_51
      · have h := k_nf c14 h
        refine lv_aload_n hx hb dX4_drains_17 rfl (lv_at hl 0 rfl) ?_
        refine r_get C hP (ci := 4) rfl uin_X4 3 (by decide) 0 (by decide) rfl qFL_RX4_13 rfl rfl dX4_drains_18 ?_
        refine lv_iload_n hx hb dX4_drains_21 rfl (lv_at hl 2 rfl) ?_
        obtain ⟨hg, h⟩ := k_gd h
        refine r_zald C hP 2 (by decide) rfl hg dX4_drains_22 ?_
        refine lv_if_eq (tgt := 44) hx hb dX4_drains_23 (by decide) (fun c23 => ?_) (fun c23 => ?_)
        · have h := k_if c23 h
          obtain ⟨x3, ex3, h⟩ := k_ltx h
          refine lv_iinc (v := x3) (lv' := [(2, .int x3), (0, .ref (ad 0)), (1, .int x1)]) hx hb dX4_drains_44 hl (k := 2) rfl (by rw [ex3]; rfl) (by decide) rfl (fun ls hl => ?_)
          refine lv_goto (tgt := 4) hx hb dX4_drains_47 (by decide) ?_
          exact ih _ _ _ _ _ h hP (lv_sub hl [1, 2, 0] rfl)
        · have h := k_nf c23 h
          refine lv_aload_n hx hb dX4_drains_26 rfl (lv_at hl 0 rfl) ?_
          refine lv_aload_n hx hb dX4_drains_27 rfl (lv_at hl 0 rfl) ?_
          refine lv_iload_n hx hb dX4_drains_28 rfl (lv_at hl 2 rfl) ?_
          obtain ⟨x4, h1, h⟩ := k_ob h
          refine k_callVi C hP hap hAA (c_X4_ditchOf l ev ad σ x2   _ h1) Emb.same hap gz_X4_ditchOf qML_RX4_214 qIM_yX4_ditchOf qSE_yX4_ditchOf ⟨(Nat.le_of_ble_eq_true rfl), (Nat.le_of_ble_eq_true rfl)⟩ (q0 := 0) rfl (by decide) rfl rfl rfl rfl hl.1 rfl (Nat.le_of_ble_eq_true rfl) dX4_drains_29 ⟨Nat.le_refl _, Nat.le_refl _⟩ (fun H locs hP => ?_)
          obtain ⟨b5, h1, h⟩ := k_ob h
          refine k_callVi C hP hap hAA (c_X4_isOpen l ev ad σ x4   _ h1) Emb.same hap gz_X4_isOpen qML_RX4_217 qIM_yX4_isOpen qSE_yX4_isOpen ⟨(Nat.le_of_ble_eq_true rfl), (Nat.le_of_ble_eq_true rfl)⟩ (q0 := 0) rfl (by decide) rfl rfl rfl rfl hl.1 rfl (Nat.le_of_ble_eq_true rfl) dX4_drains_32 ⟨Nat.le_refl _, Nat.le_refl _⟩ (fun H locs hP => ?_)
          refine r_ifz_eq (tgt := 44) hx hb dX4_drains_35 (by decide) (fun c35 => ?_) (fun c35 => ?_)
          · have h := k_nf c35 h
            obtain ⟨x6, ex6, h⟩ := k_ltx h
            refine lv_iinc (v := x6) (lv' := [(2, .int x6), (0, .ref (ad 0)), (1, .int x1)]) hx hb dX4_drains_44 hl (k := 2) rfl (by rw [ex6]; rfl) (by decide) rfl (fun ls hl => ?_)
            refine lv_goto (tgt := 4) hx hb dX4_drains_47 (by decide) ?_
            exact ih _ _ _ _ _ h hP (lv_sub hl [1, 2, 0] rfl)
          · have h := k_if c35 h
            refine lv_iload_n hx hb dX4_drains_38 rfl (lv_at hl 1 rfl) ?_
            refine lv_iconst (v := 1) hx hb dX4_drains_39 (by decide) ?_
            refine lv_iload_n hx hb dX4_drains_40 rfl (lv_at hl 2 rfl) ?_
            refine r_ishl hx hb dX4_drains_41 ?_
            refine lv_ior hx hb dX4_drains_42 ?_
            refine lv_topi (fun x7 ex7 => ?_)
            have h := k_lt ex7 h
            refine lv_istore_n (lv' := [(1, .int x7), (0, .ref (ad 0)), (2, .int x2)]) hx hb dX4_drains_43 rfl hl (by decide) rfl (fun ls hl => ?_)
            obtain ⟨x8, ex8, h⟩ := k_ltx h
            refine lv_iinc (v := x8) (lv' := [(2, .int x8), (1, .int x7), (0, .ref (ad 0))]) hx hb dX4_drains_44 hl (k := 2) rfl (by rw [ex8]; rfl) (by decide) rfl (fun ls hl => ?_)
            refine lv_goto (tgt := 4) hx hb dX4_drains_47 (by decide) ?_
            exact ih _ _ _ _ _ h hP (lv_sub hl [2, 1, 0] rfl)
  exact hL4 FU _ _ _ _ _ h hP (lv_sub hl [2, 1, 0] rfl)
def f_X4_colour_L13_b (σ : MM) (a1 : Int32) (a2 : Int32)  (rec13 : Int32 → Option (Int32)) (x1 : Int32) : Option (Int32) :=
  if 4 ≤ x1 then gd (inb a1 16) (some ((m_owner σ) (Int32.toNatClampNeg a1))) else ob (f_X4_beside σ a1 x1) (fun x2 => if x2 = (-1) then lt (x1 + 1) (fun x3 => rec13 x3) else if ((ishr a2 x2) &&& 1) = 1 then some (-1) else lt (x1 + 1) (fun x4 => rec13 x4))
def f_X4_colour_L13 (σ : MM) (a1 : Int32) (a2 : Int32)  (x1 : Int32) : Option (Int32) :=
  lp (fun _ => none) (f_X4_colour_L13_b σ a1 a2 ) FU x1
def f_X4_colour (σ : MM) (a1 : Int32) (a2 : Int32) : Option (Int32) :=
  if ((ishr a2 a1) &&& 1) = 1 then some (-1) else f_X4_colour_L13 σ a1 a2 0
set_option maxHeartbeats 4000000 in
set_option maxRecDepth 100000 in
theorem c_X4_colour (l : Launch) (ev : EV) (ad : Nat → Nat) (σ : MM) (a1 : Int32) (a2 : Int32)   (r : Int32)  (h : f_X4_colour σ a1 a2 = some r) : Ct l yX4_colour prog_6_method_54_code 5 (Option.some Jvm.ClassFile.FieldType.int) (rmk 4 89) ev 13 ad (mw ev ad σ) (mw ev ad σ) [.ref (ad 0), .int a1, .int a2] (some (.int r)) := by
  refine Ct.of (by decide +kernel) (Nat.le_of_ble_eq_true rfl) ?_
  intro p e s m args below meth c Qc C hap hP hend ls hl
  have hAA : ∀ j, j < 13 → inA ad 13 (ad j) := fun j hj => ⟨j, hj, rfl⟩
  have hx := C.1
  have hb := C.2.1
  have hl : lv_has ls 5 [(0, .ref (ad 0)), (1, .int a1), (2, .int a2)] := hl
  have h := (f_X4_colour.eq_1 _ _ _ ).symm.trans h
  refine lv_iload_n hx hb dX4_colour_0 rfl (lv_at hl 2 rfl) ?_
  refine lv_iload_n hx hb dX4_colour_1 rfl (lv_at hl 1 rfl) ?_
  refine r_ishr hx hb dX4_colour_2 ?_
  refine lv_iconst (v := 1) hx hb dX4_colour_3 (by decide) ?_
  refine lv_iand hx hb dX4_colour_4 ?_
  refine lv_iconst (v := 1) hx hb dX4_colour_5 (by decide) ?_
  refine lv_icmp_ne (tgt := 11) hx hb dX4_colour_6 (by decide) (fun c6 => ?_) (fun c6 => ?_)
  · have h := k_nf c6 h
    refine lv_iconst (v := 0) hx hb dX4_colour_11 (by decide) ?_
    refine lv_istore_n (lv' := [(3, .int 0), (0, .ref (ad 0)), (1, .int a1), (2, .int a2)]) hx hb dX4_colour_12 rfl hl (by decide) rfl (fun ls hl => ?_)
    have hL13 : ∀ (n : Nat) (x1 : Int32) (H : Heap) (locs : List Loc) (ls : Array Slot), lp (fun _ => none) (f_X4_colour_L13_b σ a1 a2 ) n x1 = some r → PS ev 13 ad (mw ev ad σ) (inA ad 13) s H locs → lv_has ls 5 [(0, .ref (ad 0)), (1, .int a1), (2, .int a2), (3, .int x1)] → WW ev p l e (rmk 4 89) s m args below meth c Qc ad 13 H locs 13 ls [] := by
      intro n
      induction n with
      | zero =>
        intro x1 H locs ls h; exact k_none h
      | succ n ih =>
        intro x1 H locs ls h hP hl
        have h : f_X4_colour_L13_b σ a1 a2  (lp (fun _ => none) (f_X4_colour_L13_b σ a1 a2 ) n) x1 = some r := h
        have h := (f_X4_colour_L13_b.eq_1 _ _ _ _ _ ).symm.trans h
        refine lv_iload_n hx hb dX4_colour_13 rfl (lv_at hl 3 rfl) ?_
        refine lv_iconst (v := 4) hx hb dX4_colour_14 (by decide) ?_
        refine lv_icmp_ge (tgt := 50) hx hb dX4_colour_15 (by decide) (fun c15 => ?_) (fun c15 => ?_)
        · have h := k_if c15 h
          refine lv_aload_n hx hb dX4_colour_50 rfl (lv_at hl 0 rfl) ?_
          refine r_get C hP (ci := 4) rfl uin_X4 4 (by decide) 0 (by decide) rfl qFL_RX4_16 rfl rfl dX4_colour_51 ?_
          refine lv_iload_n hx hb dX4_colour_54 rfl (lv_at hl 1 rfl) ?_
          obtain ⟨hg, h⟩ := k_gd h
          refine r_iald C hP 3 (by decide) rfl hg dX4_colour_55 ?_
          exact e_iret C hend hP (k_some h) rfl dX4_colour_56
        · have h := k_nf c15 h
          refine lv_aload_n hx hb dX4_colour_18 rfl (lv_at hl 0 rfl) ?_
          refine lv_iload_n hx hb dX4_colour_19 rfl (lv_at hl 1 rfl) ?_
          refine lv_iload_n hx hb dX4_colour_20 rfl (lv_at hl 3 rfl) ?_
          obtain ⟨x2, h1, h⟩ := k_ob h
          refine k_callVi C hP hap hAA (c_X4_beside l ev ad σ a1 x1   _ h1) Emb.same hap gz_X4_beside qML_RX4_211 qIM_yX4_beside qSE_yX4_beside ⟨(Nat.le_of_ble_eq_true rfl), (Nat.le_of_ble_eq_true rfl)⟩ (q0 := 0) rfl (by decide) rfl rfl rfl rfl hl.1 rfl (Nat.le_of_ble_eq_true rfl) dX4_colour_21 ⟨Nat.le_refl _, Nat.le_refl _⟩ (fun H locs hP => ?_)
          refine lv_istore (lv' := [(4, .int x2), (0, .ref (ad 0)), (1, .int a1), (2, .int a2), (3, .int x1)]) hx hb dX4_colour_24 hl (by decide) rfl (fun ls hl => ?_)
          refine lv_iload hx hb dX4_colour_26 (lv_at hl 0 rfl) ?_
          refine lv_iconst (v := (-1)) hx hb dX4_colour_28 (by decide) ?_
          refine lv_icmp_eq (tgt := 44) hx hb dX4_colour_29 (by decide) (fun c29 => ?_) (fun c29 => ?_)
          · have h := k_if c29 h
            obtain ⟨x3, ex3, h⟩ := k_ltx h
            refine lv_iinc (v := x3) (lv' := [(3, .int x3), (4, .int x2), (0, .ref (ad 0)), (1, .int a1), (2, .int a2)]) hx hb dX4_colour_44 hl (k := 4) rfl (by rw [ex3]; rfl) (by decide) rfl (fun ls hl => ?_)
            refine lv_goto (tgt := 13) hx hb dX4_colour_47 (by decide) ?_
            exact ih _ _ _ _ h hP (lv_sub hl [2, 3, 4, 0] rfl)
          · have h := k_nf c29 h
            refine lv_iload_n hx hb dX4_colour_32 rfl (lv_at hl 3 rfl) ?_
            refine lv_iload hx hb dX4_colour_33 (lv_at hl 0 rfl) ?_
            refine r_ishr hx hb dX4_colour_35 ?_
            refine lv_iconst (v := 1) hx hb dX4_colour_36 (by decide) ?_
            refine lv_iand hx hb dX4_colour_37 ?_
            refine lv_iconst (v := 1) hx hb dX4_colour_38 (by decide) ?_
            refine lv_icmp_ne (tgt := 44) hx hb dX4_colour_39 (by decide) (fun c39 => ?_) (fun c39 => ?_)
            · have h := k_nf c39 h
              obtain ⟨x4, ex4, h⟩ := k_ltx h
              refine lv_iinc (v := x4) (lv' := [(3, .int x4), (4, .int x2), (0, .ref (ad 0)), (1, .int a1), (2, .int a2)]) hx hb dX4_colour_44 hl (k := 4) rfl (by rw [ex4]; rfl) (by decide) rfl (fun ls hl => ?_)
              refine lv_goto (tgt := 13) hx hb dX4_colour_47 (by decide) ?_
              exact ih _ _ _ _ h hP (lv_sub hl [2, 3, 4, 0] rfl)
            · have h := k_if c39 h
              refine lv_iconst (v := (-1)) hx hb dX4_colour_42 (by decide) ?_
              exact e_iret C hend hP (k_some h) rfl dX4_colour_43
    exact hL13 FU _ _ _ _ h hP (lv_sub hl [1, 2, 3, 0] rfl)
  · have h := k_if c6 h
    refine lv_iconst (v := (-1)) hx hb dX4_colour_9 (by decide) ?_
    exact e_iret C hend hP (k_some h) rfl dX4_colour_10
def f_X4_fieldOf (σ : MM) (a1 : Int32) (a2 : Int32) : Option (Int32 × MM) :=
  if (f_X4_isField σ a1) = true then if (f_X4_within a2 0 8) = true then if a2 = 0 then ob (f_X4_hedges σ a1) (fun x3 => some (x3, σ)) else if a2 = 1 then gd (inb a1 16) (if ((m_dug σ) (Int32.toNatClampNeg a1)) = 0 then some (0, σ) else some (1, σ)) else if a2 = 2 then gd (inb a1 16) (some (((m_owner σ) (Int32.toNatClampNeg a1)), σ)) else if a2 = 3 then ob (f_X4_drains σ) (fun x4 => ob (f_X4_colour σ a1 x4) (fun x5 => some (x5, σ))) else if a2 = 4 then ob (f_X4_edge σ a1 (a2 - 4)) (fun x6 => some (x6, σ)) else if a2 = 5 then ob (f_X4_edge σ a1 (a2 - 4)) (fun x7 => some (x7, σ)) else if a2 = 6 then ob (f_X4_edge σ a1 (a2 - 4)) (fun x8 => some (x8, σ)) else if a2 = 7 then ob (f_X4_edge σ a1 (a2 - 4)) (fun x9 => some (x9, σ)) else if a2 = 8 then ob (f_X4_hasRim σ a1) (fun b10 => if b10 = true then some (1, σ) else some (0, σ)) else ob (f_X4_edge σ a1 (a2 - 4)) (fun x11 => some (x11, σ)) else ob2 (f_X4_no σ (-2)) (fun x13 σ12 => some (x13, σ12)) else ob2 (f_X4_no σ (-2)) (fun x2 σ1 => some (x2, σ1))
set_option maxHeartbeats 4000000 in
set_option maxRecDepth 100000 in
theorem c_X4_fieldOf (l : Launch) (ev : EV) (ad : Nat → Nat) (σ : MM) (a1 : Int32) (a2 : Int32)   (r : Int32) (σ' : MM) (h : f_X4_fieldOf σ a1 a2 = some (r, σ')) : Ct l yX4_fieldOf prog_6_method_46_code 3 (Option.some Jvm.ClassFile.FieldType.int) (rmk 6 137) ev 13 ad (mw ev ad σ) (mw ev ad σ') [.ref (ad 0), .int a1, .int a2] (some (.int r)) := by
  refine Ct.of (by decide +kernel) (Nat.le_of_ble_eq_true rfl) ?_
  intro p e s m args below meth c Qc C hap hP hend ls hl
  have hAA : ∀ j, j < 13 → inA ad 13 (ad j) := fun j hj => ⟨j, hj, rfl⟩
  have hx := C.1
  have hb := C.2.1
  have hl : lv_has ls 3 [(0, .ref (ad 0)), (1, .int a1), (2, .int a2)] := hl
  have h := (f_X4_fieldOf.eq_1 _ _ _ ).symm.trans h
  refine lv_aload_n hx hb dX4_fieldOf_0 rfl (lv_at hl 0 rfl) ?_
  refine lv_iload_n hx hb dX4_fieldOf_1 rfl (lv_at hl 1 rfl) ?_
  refine k_callVi C hP hap hAA (c_X4_isField l ev ad σ a1   _ rfl) Emb.same hap gz_X4_isField qML_RX4_116 qIM_yX4_isField qSE_yX4_isField ⟨(Nat.le_of_ble_eq_true rfl), (Nat.le_of_ble_eq_true rfl)⟩ (q0 := 0) rfl (by decide) rfl rfl rfl rfl hl.1 rfl (Nat.le_of_ble_eq_true rfl) dX4_fieldOf_2 ⟨Nat.le_refl _, Nat.le_refl _⟩ (fun H locs hP => ?_)
  refine r_ifz_eq (tgt := 18) hx hb dX4_fieldOf_5 (by decide) (fun c5 => ?_) (fun c5 => ?_)
  · have h := k_nf c5 h
    refine lv_aload_n hx hb dX4_fieldOf_18 rfl (lv_at hl 0 rfl) ?_
    refine lv_bipush (v := (-2)) hx hb dX4_fieldOf_19 (by decide) ?_
    obtain ⟨x2, σ1, h1, h⟩ := k_ob2 h
    refine k_callVi C hP hap hAA (c_X4_no l ev ad σ (-2)   _ _ h1) Emb.same hap gz_X4_no qML_RX4_56 qIM_yX4_no qSE_yX4_no ⟨(Nat.le_of_ble_eq_true rfl), (Nat.le_of_ble_eq_true rfl)⟩ (q0 := 0) rfl (by decide) rfl rfl rfl rfl hl.1 rfl (Nat.le_of_ble_eq_true rfl) dX4_fieldOf_21 ⟨Nat.le_refl _, Nat.le_refl _⟩ (fun H locs hP => ?_)
    exact e_iret C hend hP (k_some2 h).1 (congrArg (mw ev ad) (k_some2 h).2) dX4_fieldOf_24
  · have h := k_if c5 h
    refine lv_iload_n hx hb dX4_fieldOf_8 rfl (lv_at hl 2 rfl) ?_
    refine lv_iconst (v := 0) hx hb dX4_fieldOf_9 (by decide) ?_
    refine lv_bipush (v := 8) hx hb dX4_fieldOf_10 (by decide) ?_
    refine k_callSi C hP hap hAA (c_X4_within l ev ad a2 0 8   _ rfl) Emb.none (apart_0 _) gz_X4_within qML_RX4_63 qSM_yX4_within ⟨(Nat.le_of_ble_eq_true rfl), (Nat.le_of_ble_eq_true rfl)⟩ rfl hl.1 rfl (Nat.le_of_ble_eq_true rfl) dX4_fieldOf_12 ⟨Nat.le_refl _, Nat.le_refl _⟩ (fun H locs hP => ?_)
    refine r_ifz_ne (tgt := 25) hx hb dX4_fieldOf_15 (by decide) (fun c15 => ?_) (fun c15 => ?_)
    · have h := k_if c15 h
      refine lv_iload_n hx hb dX4_fieldOf_25 rfl (lv_at hl 2 rfl) ?_
      by_cases cs0 : a2 = 0
      · have h := k_if cs0 h
        refine r_tabIn (tgt := 76) (off := 50) (i := 0) hx hb dX4_fieldOf_26 cs0 (by decide) (by decide) (by decide) (by decide) ?_
        refine lv_aload_n hx hb dX4_fieldOf_76 rfl (lv_at hl 0 rfl) ?_
        refine lv_iload_n hx hb dX4_fieldOf_77 rfl (lv_at hl 1 rfl) ?_
        obtain ⟨x3, h1, h⟩ := k_ob h
        refine k_callVi C hP hap hAA (c_X4_hedges l ev ad σ a1   _ h1) Emb.same hap gz_X4_hedges qML_RX4_196 qIM_yX4_hedges qSE_yX4_hedges ⟨(Nat.le_of_ble_eq_true rfl), (Nat.le_of_ble_eq_true rfl)⟩ (q0 := 0) rfl (by decide) rfl rfl rfl rfl hl.1 rfl (Nat.le_of_ble_eq_true rfl) dX4_fieldOf_78 ⟨Nat.le_refl _, Nat.le_refl _⟩ (fun H locs hP => ?_)
        exact e_iret C hend hP (k_some2 h).1 (congrArg (mw ev ad) (k_some2 h).2) dX4_fieldOf_81
      · have h := k_nf cs0 h
        by_cases cs1 : a2 = 1
        · have h := k_if cs1 h
          refine r_tabIn (tgt := 82) (off := 56) (i := 1) hx hb dX4_fieldOf_26 cs1 (by decide) (by decide) (by decide) (by decide) ?_
          refine lv_aload_n hx hb dX4_fieldOf_82 rfl (lv_at hl 0 rfl) ?_
          refine r_get C hP (ci := 4) rfl uin_X4 3 (by decide) 0 (by decide) rfl qFL_RX4_13 rfl rfl dX4_fieldOf_83 ?_
          refine lv_iload_n hx hb dX4_fieldOf_86 rfl (lv_at hl 1 rfl) ?_
          obtain ⟨hg, h⟩ := k_gd h
          refine r_zald C hP 2 (by decide) rfl hg dX4_fieldOf_87 ?_
          refine lv_if_eq (tgt := 95) hx hb dX4_fieldOf_88 (by decide) (fun c88 => ?_) (fun c88 => ?_)
          · have h := k_if c88 h
            refine lv_iconst (v := 0) hx hb dX4_fieldOf_95 (by decide) ?_
            exact e_iret C hend hP (k_some2 h).1 (congrArg (mw ev ad) (k_some2 h).2) dX4_fieldOf_96
          · have h := k_nf c88 h
            refine lv_iconst (v := 1) hx hb dX4_fieldOf_91 (by decide) ?_
            refine lv_goto (tgt := 96) hx hb dX4_fieldOf_92 (by decide) ?_
            exact e_iret C hend hP (k_some2 h).1 (congrArg (mw ev ad) (k_some2 h).2) dX4_fieldOf_96
        · have h := k_nf cs1 h
          by_cases cs2 : a2 = 2
          · have h := k_if cs2 h
            refine r_tabIn (tgt := 97) (off := 71) (i := 2) hx hb dX4_fieldOf_26 cs2 (by decide) (by decide) (by decide) (by decide) ?_
            refine lv_aload_n hx hb dX4_fieldOf_97 rfl (lv_at hl 0 rfl) ?_
            refine r_get C hP (ci := 4) rfl uin_X4 4 (by decide) 0 (by decide) rfl qFL_RX4_16 rfl rfl dX4_fieldOf_98 ?_
            refine lv_iload_n hx hb dX4_fieldOf_101 rfl (lv_at hl 1 rfl) ?_
            obtain ⟨hg, h⟩ := k_gd h
            refine r_iald C hP 3 (by decide) rfl hg dX4_fieldOf_102 ?_
            exact e_iret C hend hP (k_some2 h).1 (congrArg (mw ev ad) (k_some2 h).2) dX4_fieldOf_103
          · have h := k_nf cs2 h
            by_cases cs3 : a2 = 3
            · have h := k_if cs3 h
              refine r_tabIn (tgt := 104) (off := 78) (i := 3) hx hb dX4_fieldOf_26 cs3 (by decide) (by decide) (by decide) (by decide) ?_
              refine lv_aload_n hx hb dX4_fieldOf_104 rfl (lv_at hl 0 rfl) ?_
              refine lv_iload_n hx hb dX4_fieldOf_105 rfl (lv_at hl 1 rfl) ?_
              refine lv_aload_n hx hb dX4_fieldOf_106 rfl (lv_at hl 0 rfl) ?_
              obtain ⟨x4, h1, h⟩ := k_ob h
              refine k_callVi C hP hap hAA (c_X4_drains l ev ad σ   _ h1) Emb.same hap gz_X4_drains qML_RX4_199 qIM_yX4_drains qSE_yX4_drains ⟨(Nat.le_of_ble_eq_true rfl), (Nat.le_of_ble_eq_true rfl)⟩ (q0 := 0) rfl (by decide) rfl rfl rfl rfl hl.1 rfl (Nat.le_of_ble_eq_true rfl) dX4_fieldOf_107 ⟨Nat.le_refl _, Nat.le_refl _⟩ (fun H locs hP => ?_)
              obtain ⟨x5, h1, h⟩ := k_ob h
              refine k_callVi C hP hap hAA (c_X4_colour l ev ad σ a1 x4   _ h1) Emb.same hap gz_X4_colour qML_RX4_202 qIM_yX4_colour qSE_yX4_colour ⟨(Nat.le_of_ble_eq_true rfl), (Nat.le_of_ble_eq_true rfl)⟩ (q0 := 0) rfl (by decide) rfl rfl rfl rfl hl.1 rfl (Nat.le_of_ble_eq_true rfl) dX4_fieldOf_110 ⟨Nat.le_refl _, Nat.le_refl _⟩ (fun H locs hP => ?_)
              exact e_iret C hend hP (k_some2 h).1 (congrArg (mw ev ad) (k_some2 h).2) dX4_fieldOf_113
            · have h := k_nf cs3 h
              by_cases cs4 : a2 = 4
              · have h := k_if cs4 h
                refine r_tabIn (tgt := 128) (off := 102) (i := 4) hx hb dX4_fieldOf_26 cs4 (by decide) (by decide) (by decide) (by decide) ?_
                refine lv_aload_n hx hb dX4_fieldOf_128 rfl (lv_at hl 0 rfl) ?_
                refine lv_iload_n hx hb dX4_fieldOf_129 rfl (lv_at hl 1 rfl) ?_
                refine lv_iload_n hx hb dX4_fieldOf_130 rfl (lv_at hl 2 rfl) ?_
                refine lv_iconst (v := 4) hx hb dX4_fieldOf_131 (by decide) ?_
                refine lv_isub hx hb dX4_fieldOf_132 ?_
                obtain ⟨x6, h1, h⟩ := k_ob h
                refine k_callVi C hP hap hAA (c_X4_edge l ev ad σ a1 (a2 - 4)   _ h1) Emb.same hap gz_X4_edge qML_RX4_122 qIM_yX4_edge qSE_yX4_edge ⟨(Nat.le_of_ble_eq_true rfl), (Nat.le_of_ble_eq_true rfl)⟩ (q0 := 0) rfl (by decide) rfl rfl rfl rfl hl.1 rfl (Nat.le_of_ble_eq_true rfl) dX4_fieldOf_133 ⟨Nat.le_refl _, Nat.le_refl _⟩ (fun H locs hP => ?_)
                exact e_iret C hend hP (k_some2 h).1 (congrArg (mw ev ad) (k_some2 h).2) dX4_fieldOf_136
              · have h := k_nf cs4 h
                by_cases cs5 : a2 = 5
                · have h := k_if cs5 h
                  refine r_tabIn (tgt := 128) (off := 102) (i := 5) hx hb dX4_fieldOf_26 cs5 (by decide) (by decide) (by decide) (by decide) ?_
                  refine lv_aload_n hx hb dX4_fieldOf_128 rfl (lv_at hl 0 rfl) ?_
                  refine lv_iload_n hx hb dX4_fieldOf_129 rfl (lv_at hl 1 rfl) ?_
                  refine lv_iload_n hx hb dX4_fieldOf_130 rfl (lv_at hl 2 rfl) ?_
                  refine lv_iconst (v := 4) hx hb dX4_fieldOf_131 (by decide) ?_
                  refine lv_isub hx hb dX4_fieldOf_132 ?_
                  obtain ⟨x7, h1, h⟩ := k_ob h
                  refine k_callVi C hP hap hAA (c_X4_edge l ev ad σ a1 (a2 - 4)   _ h1) Emb.same hap gz_X4_edge qML_RX4_122 qIM_yX4_edge qSE_yX4_edge ⟨(Nat.le_of_ble_eq_true rfl), (Nat.le_of_ble_eq_true rfl)⟩ (q0 := 0) rfl (by decide) rfl rfl rfl rfl hl.1 rfl (Nat.le_of_ble_eq_true rfl) dX4_fieldOf_133 ⟨Nat.le_refl _, Nat.le_refl _⟩ (fun H locs hP => ?_)
                  exact e_iret C hend hP (k_some2 h).1 (congrArg (mw ev ad) (k_some2 h).2) dX4_fieldOf_136
                · have h := k_nf cs5 h
                  by_cases cs6 : a2 = 6
                  · have h := k_if cs6 h
                    refine r_tabIn (tgt := 128) (off := 102) (i := 6) hx hb dX4_fieldOf_26 cs6 (by decide) (by decide) (by decide) (by decide) ?_
                    refine lv_aload_n hx hb dX4_fieldOf_128 rfl (lv_at hl 0 rfl) ?_
                    refine lv_iload_n hx hb dX4_fieldOf_129 rfl (lv_at hl 1 rfl) ?_
                    refine lv_iload_n hx hb dX4_fieldOf_130 rfl (lv_at hl 2 rfl) ?_
                    refine lv_iconst (v := 4) hx hb dX4_fieldOf_131 (by decide) ?_
                    refine lv_isub hx hb dX4_fieldOf_132 ?_
                    obtain ⟨x8, h1, h⟩ := k_ob h
                    refine k_callVi C hP hap hAA (c_X4_edge l ev ad σ a1 (a2 - 4)   _ h1) Emb.same hap gz_X4_edge qML_RX4_122 qIM_yX4_edge qSE_yX4_edge ⟨(Nat.le_of_ble_eq_true rfl), (Nat.le_of_ble_eq_true rfl)⟩ (q0 := 0) rfl (by decide) rfl rfl rfl rfl hl.1 rfl (Nat.le_of_ble_eq_true rfl) dX4_fieldOf_133 ⟨Nat.le_refl _, Nat.le_refl _⟩ (fun H locs hP => ?_)
                    exact e_iret C hend hP (k_some2 h).1 (congrArg (mw ev ad) (k_some2 h).2) dX4_fieldOf_136
                  · have h := k_nf cs6 h
                    by_cases cs7 : a2 = 7
                    · have h := k_if cs7 h
                      refine r_tabIn (tgt := 128) (off := 102) (i := 7) hx hb dX4_fieldOf_26 cs7 (by decide) (by decide) (by decide) (by decide) ?_
                      refine lv_aload_n hx hb dX4_fieldOf_128 rfl (lv_at hl 0 rfl) ?_
                      refine lv_iload_n hx hb dX4_fieldOf_129 rfl (lv_at hl 1 rfl) ?_
                      refine lv_iload_n hx hb dX4_fieldOf_130 rfl (lv_at hl 2 rfl) ?_
                      refine lv_iconst (v := 4) hx hb dX4_fieldOf_131 (by decide) ?_
                      refine lv_isub hx hb dX4_fieldOf_132 ?_
                      obtain ⟨x9, h1, h⟩ := k_ob h
                      refine k_callVi C hP hap hAA (c_X4_edge l ev ad σ a1 (a2 - 4)   _ h1) Emb.same hap gz_X4_edge qML_RX4_122 qIM_yX4_edge qSE_yX4_edge ⟨(Nat.le_of_ble_eq_true rfl), (Nat.le_of_ble_eq_true rfl)⟩ (q0 := 0) rfl (by decide) rfl rfl rfl rfl hl.1 rfl (Nat.le_of_ble_eq_true rfl) dX4_fieldOf_133 ⟨Nat.le_refl _, Nat.le_refl _⟩ (fun H locs hP => ?_)
                      exact e_iret C hend hP (k_some2 h).1 (congrArg (mw ev ad) (k_some2 h).2) dX4_fieldOf_136
                    · have h := k_nf cs7 h
                      by_cases cs8 : a2 = 8
                      · have h := k_if cs8 h
                        refine r_tabIn (tgt := 114) (off := 88) (i := 8) hx hb dX4_fieldOf_26 cs8 (by decide) (by decide) (by decide) (by decide) ?_
                        refine lv_aload_n hx hb dX4_fieldOf_114 rfl (lv_at hl 0 rfl) ?_
                        refine lv_iload_n hx hb dX4_fieldOf_115 rfl (lv_at hl 1 rfl) ?_
                        obtain ⟨b10, h1, h⟩ := k_ob h
                        refine k_callVi C hP hap hAA (c_X4_hasRim l ev ad σ a1   _ h1) Emb.same hap gz_X4_hasRim qML_RX4_205 qIM_yX4_hasRim qSE_yX4_hasRim ⟨(Nat.le_of_ble_eq_true rfl), (Nat.le_of_ble_eq_true rfl)⟩ (q0 := 0) rfl (by decide) rfl rfl rfl rfl hl.1 rfl (Nat.le_of_ble_eq_true rfl) dX4_fieldOf_116 ⟨Nat.le_refl _, Nat.le_refl _⟩ (fun H locs hP => ?_)
                        refine r_ifz_eq (tgt := 126) hx hb dX4_fieldOf_119 (by decide) (fun c119 => ?_) (fun c119 => ?_)
                        · have h := k_nf c119 h
                          refine lv_iconst (v := 0) hx hb dX4_fieldOf_126 (by decide) ?_
                          exact e_iret C hend hP (k_some2 h).1 (congrArg (mw ev ad) (k_some2 h).2) dX4_fieldOf_127
                        · have h := k_if c119 h
                          refine lv_iconst (v := 1) hx hb dX4_fieldOf_122 (by decide) ?_
                          refine lv_goto (tgt := 127) hx hb dX4_fieldOf_123 (by decide) ?_
                          exact e_iret C hend hP (k_some2 h).1 (congrArg (mw ev ad) (k_some2 h).2) dX4_fieldOf_127
                      · have h := k_nf cs8 h
                        refine r_tabOut (tgt := 128) hx hb dX4_fieldOf_26 (fun i h1 h2 => by
                          have h3 : i = 0 ∨ i = 1 ∨ i = 2 ∨ i = 3 ∨ i = 4 ∨ i = 5 ∨ i = 6 ∨ i = 7 ∨ i = 8 := by omega
                          rcases h3 with rfl | rfl | rfl | rfl | rfl | rfl | rfl | rfl | rfl
                          · exact cs0
                          · exact cs1
                          · exact cs2
                          · exact cs3
                          · exact cs4
                          · exact cs5
                          · exact cs6
                          · exact cs7
                          · exact cs8
                          ) (by decide) ?_
                        refine lv_aload_n hx hb dX4_fieldOf_128 rfl (lv_at hl 0 rfl) ?_
                        refine lv_iload_n hx hb dX4_fieldOf_129 rfl (lv_at hl 1 rfl) ?_
                        refine lv_iload_n hx hb dX4_fieldOf_130 rfl (lv_at hl 2 rfl) ?_
                        refine lv_iconst (v := 4) hx hb dX4_fieldOf_131 (by decide) ?_
                        refine lv_isub hx hb dX4_fieldOf_132 ?_
                        obtain ⟨x11, h1, h⟩ := k_ob h
                        refine k_callVi C hP hap hAA (c_X4_edge l ev ad σ a1 (a2 - 4)   _ h1) Emb.same hap gz_X4_edge qML_RX4_122 qIM_yX4_edge qSE_yX4_edge ⟨(Nat.le_of_ble_eq_true rfl), (Nat.le_of_ble_eq_true rfl)⟩ (q0 := 0) rfl (by decide) rfl rfl rfl rfl hl.1 rfl (Nat.le_of_ble_eq_true rfl) dX4_fieldOf_133 ⟨Nat.le_refl _, Nat.le_refl _⟩ (fun H locs hP => ?_)
                        exact e_iret C hend hP (k_some2 h).1 (congrArg (mw ev ad) (k_some2 h).2) dX4_fieldOf_136
    · have h := k_nf c15 h
      refine lv_aload_n hx hb dX4_fieldOf_18 rfl (lv_at hl 0 rfl) ?_
      refine lv_bipush (v := (-2)) hx hb dX4_fieldOf_19 (by decide) ?_
      obtain ⟨x13, σ12, h1, h⟩ := k_ob2 h
      refine k_callVi C hP hap hAA (c_X4_no l ev ad σ (-2)   _ _ h1) Emb.same hap gz_X4_no qML_RX4_56 qIM_yX4_no qSE_yX4_no ⟨(Nat.le_of_ble_eq_true rfl), (Nat.le_of_ble_eq_true rfl)⟩ (q0 := 0) rfl (by decide) rfl rfl rfl rfl hl.1 rfl (Nat.le_of_ble_eq_true rfl) dX4_fieldOf_21 ⟨Nat.le_refl _, Nat.le_refl _⟩ (fun H locs hP => ?_)
      exact e_iret C hend hP (k_some2 h).1 (congrArg (mw ev ad) (k_some2 h).2) dX4_fieldOf_24
def f_X4_edgeOf (σ : MM) (a1 : Int32) (a2 : Int32) : Option (Int32 × MM) :=
  if (f_X4_within a1 0 ((f_X4_edges σ) - 1)) = true then if (f_X4_within a2 0 2) = true then if a2 = 0 then gd (inb a1 40) (if ((m_hedge σ) (Int32.toNatClampNeg a1)) = 0 then some (0, σ) else some (1, σ)) else ob (f_X4_field σ a1 (a2 - 1)) (fun x3 => some (x3, σ)) else ob2 (f_X4_no σ (-2)) (fun x5 σ4 => some (x5, σ4)) else ob2 (f_X4_no σ (-2)) (fun x2 σ1 => some (x2, σ1))
set_option maxHeartbeats 4000000 in
set_option maxRecDepth 100000 in
theorem c_X4_edgeOf (l : Launch) (ev : EV) (ad : Nat → Nat) (σ : MM) (a1 : Int32) (a2 : Int32)   (r : Int32) (σ' : MM) (h : f_X4_edgeOf σ a1 a2 = some (r, σ')) : Ct l yX4_edgeOf prog_6_method_47_code 3 (Option.some Jvm.ClassFile.FieldType.int) (rmk 3 67) ev 13 ad (mw ev ad σ) (mw ev ad σ') [.ref (ad 0), .int a1, .int a2] (some (.int r)) := by
  refine Ct.of (by decide +kernel) (Nat.le_of_ble_eq_true rfl) ?_
  intro p e s m args below meth c Qc C hap hP hend ls hl
  have hAA : ∀ j, j < 13 → inA ad 13 (ad j) := fun j hj => ⟨j, hj, rfl⟩
  have hx := C.1
  have hb := C.2.1
  have hl : lv_has ls 3 [(0, .ref (ad 0)), (1, .int a1), (2, .int a2)] := hl
  have h := (f_X4_edgeOf.eq_1 _ _ _ ).symm.trans h
  refine lv_iload_n hx hb dX4_edgeOf_0 rfl (lv_at hl 1 rfl) ?_
  refine lv_iconst (v := 0) hx hb dX4_edgeOf_1 (by decide) ?_
  refine lv_aload_n hx hb dX4_edgeOf_2 rfl (lv_at hl 0 rfl) ?_
  refine k_callVi C hP hap hAA (c_X4_edges l ev ad σ   _ rfl) Emb.same hap gz_X4_edges qML_RX4_107 qIM_yX4_edges qSE_yX4_edges ⟨(Nat.le_of_ble_eq_true rfl), (Nat.le_of_ble_eq_true rfl)⟩ (q0 := 0) rfl (by decide) rfl rfl rfl rfl hl.1 rfl (Nat.le_of_ble_eq_true rfl) dX4_edgeOf_3 ⟨Nat.le_refl _, Nat.le_refl _⟩ (fun H locs hP => ?_)
  refine lv_iconst (v := 1) hx hb dX4_edgeOf_6 (by decide) ?_
  refine lv_isub hx hb dX4_edgeOf_7 ?_
  refine k_callSi C hP hap hAA (c_X4_within l ev ad a1 0 ((f_X4_edges σ) - 1)   _ rfl) Emb.none (apart_0 _) gz_X4_within qML_RX4_63 qSM_yX4_within ⟨(Nat.le_of_ble_eq_true rfl), (Nat.le_of_ble_eq_true rfl)⟩ rfl hl.1 rfl (Nat.le_of_ble_eq_true rfl) dX4_edgeOf_8 ⟨Nat.le_refl _, Nat.le_refl _⟩ (fun H locs hP => ?_)
  refine r_ifz_eq (tgt := 23) hx hb dX4_edgeOf_11 (by decide) (fun c11 => ?_) (fun c11 => ?_)
  · have h := k_nf c11 h
    refine lv_aload_n hx hb dX4_edgeOf_23 rfl (lv_at hl 0 rfl) ?_
    refine lv_bipush (v := (-2)) hx hb dX4_edgeOf_24 (by decide) ?_
    obtain ⟨x2, σ1, h1, h⟩ := k_ob2 h
    refine k_callVi C hP hap hAA (c_X4_no l ev ad σ (-2)   _ _ h1) Emb.same hap gz_X4_no qML_RX4_56 qIM_yX4_no qSE_yX4_no ⟨(Nat.le_of_ble_eq_true rfl), (Nat.le_of_ble_eq_true rfl)⟩ (q0 := 0) rfl (by decide) rfl rfl rfl rfl hl.1 rfl (Nat.le_of_ble_eq_true rfl) dX4_edgeOf_26 ⟨Nat.le_refl _, Nat.le_refl _⟩ (fun H locs hP => ?_)
    exact e_iret C hend hP (k_some2 h).1 (congrArg (mw ev ad) (k_some2 h).2) dX4_edgeOf_29
  · have h := k_if c11 h
    refine lv_iload_n hx hb dX4_edgeOf_14 rfl (lv_at hl 2 rfl) ?_
    refine lv_iconst (v := 0) hx hb dX4_edgeOf_15 (by decide) ?_
    refine lv_iconst (v := 2) hx hb dX4_edgeOf_16 (by decide) ?_
    refine k_callSi C hP hap hAA (c_X4_within l ev ad a2 0 2   _ rfl) Emb.none (apart_0 _) gz_X4_within qML_RX4_63 qSM_yX4_within ⟨(Nat.le_of_ble_eq_true rfl), (Nat.le_of_ble_eq_true rfl)⟩ rfl hl.1 rfl (Nat.le_of_ble_eq_true rfl) dX4_edgeOf_17 ⟨Nat.le_refl _, Nat.le_refl _⟩ (fun H locs hP => ?_)
    refine r_ifz_ne (tgt := 30) hx hb dX4_edgeOf_20 (by decide) (fun c20 => ?_) (fun c20 => ?_)
    · have h := k_if c20 h
      refine lv_iload_n hx hb dX4_edgeOf_30 rfl (lv_at hl 2 rfl) ?_
      refine lv_if_ne (tgt := 51) hx hb dX4_edgeOf_31 (by decide) (fun c31 => ?_) (fun c31 => ?_)
      · have h := k_nf c31 h
        refine lv_aload_n hx hb dX4_edgeOf_51 rfl (lv_at hl 0 rfl) ?_
        refine lv_iload_n hx hb dX4_edgeOf_52 rfl (lv_at hl 1 rfl) ?_
        refine lv_iload_n hx hb dX4_edgeOf_53 rfl (lv_at hl 2 rfl) ?_
        refine lv_iconst (v := 1) hx hb dX4_edgeOf_54 (by decide) ?_
        refine lv_isub hx hb dX4_edgeOf_55 ?_
        obtain ⟨x3, h1, h⟩ := k_ob h
        refine k_callVi C hP hap hAA (c_X4_field l ev ad σ a1 (a2 - 1)   _ h1) Emb.same hap gz_X4_field qML_RX4_119 qIM_yX4_field qSE_yX4_field ⟨(Nat.le_of_ble_eq_true rfl), (Nat.le_of_ble_eq_true rfl)⟩ (q0 := 0) rfl (by decide) rfl rfl rfl rfl hl.1 rfl (Nat.le_of_ble_eq_true rfl) dX4_edgeOf_56 ⟨Nat.le_refl _, Nat.le_refl _⟩ (fun H locs hP => ?_)
        exact e_iret C hend hP (k_some2 h).1 (congrArg (mw ev ad) (k_some2 h).2) dX4_edgeOf_59
      · have h := k_if c31 h
        refine lv_aload_n hx hb dX4_edgeOf_34 rfl (lv_at hl 0 rfl) ?_
        refine r_get C hP (ci := 4) rfl uin_X4 2 (by decide) 0 (by decide) rfl qFL_RX4_7 rfl rfl dX4_edgeOf_35 ?_
        refine lv_iload_n hx hb dX4_edgeOf_38 rfl (lv_at hl 1 rfl) ?_
        obtain ⟨hg, h⟩ := k_gd h
        refine r_zald C hP 1 (by decide) rfl hg dX4_edgeOf_39 ?_
        refine lv_if_eq (tgt := 47) hx hb dX4_edgeOf_40 (by decide) (fun c40 => ?_) (fun c40 => ?_)
        · have h := k_if c40 h
          refine lv_iconst (v := 0) hx hb dX4_edgeOf_47 (by decide) ?_
          refine lv_goto (tgt := 59) hx hb dX4_edgeOf_48 (by decide) ?_
          exact e_iret C hend hP (k_some2 h).1 (congrArg (mw ev ad) (k_some2 h).2) dX4_edgeOf_59
        · have h := k_nf c40 h
          refine lv_iconst (v := 1) hx hb dX4_edgeOf_43 (by decide) ?_
          refine lv_goto (tgt := 59) hx hb dX4_edgeOf_44 (by decide) ?_
          exact e_iret C hend hP (k_some2 h).1 (congrArg (mw ev ad) (k_some2 h).2) dX4_edgeOf_59
    · have h := k_nf c20 h
      refine lv_aload_n hx hb dX4_edgeOf_23 rfl (lv_at hl 0 rfl) ?_
      refine lv_bipush (v := (-2)) hx hb dX4_edgeOf_24 (by decide) ?_
      obtain ⟨x5, σ4, h1, h⟩ := k_ob2 h
      refine k_callVi C hP hap hAA (c_X4_no l ev ad σ (-2)   _ _ h1) Emb.same hap gz_X4_no qML_RX4_56 qIM_yX4_no qSE_yX4_no ⟨(Nat.le_of_ble_eq_true rfl), (Nat.le_of_ble_eq_true rfl)⟩ (q0 := 0) rfl (by decide) rfl rfl rfl rfl hl.1 rfl (Nat.le_of_ble_eq_true rfl) dX4_edgeOf_26 ⟨Nat.le_refl _, Nat.le_refl _⟩ (fun H locs hP => ?_)
      exact e_iret C hend hP (k_some2 h).1 (congrArg (mw ev ad) (k_some2 h).2) dX4_edgeOf_29
def f_X4_playerOf (σ : MM) (a1 : Int32) (a2 : Int32) : Option (Int32 × MM) :=
  if (f_X4_isPlayer σ a1) = true then if (f_X4_within a2 0 1) = true then if a2 = 0 then gd (inb a1 6) (some (((m_kind σ) (Int32.toNatClampNeg a1)), σ)) else gd (inb a1 6) (some (((m_own σ) (Int32.toNatClampNeg a1)), σ)) else ob2 (f_X4_no σ (-2)) (fun x4 σ3 => some (x4, σ3)) else ob2 (f_X4_no σ (-2)) (fun x2 σ1 => some (x2, σ1))
set_option maxHeartbeats 4000000 in
set_option maxRecDepth 100000 in
theorem c_X4_playerOf (l : Launch) (ev : EV) (ad : Nat → Nat) (σ : MM) (a1 : Int32) (a2 : Int32)   (r : Int32) (σ' : MM) (h : f_X4_playerOf σ a1 a2 = some (r, σ')) : Ct l yX4_playerOf prog_6_method_48_code 3 (Option.some Jvm.ClassFile.FieldType.int) (rmk 2 43) ev 13 ad (mw ev ad σ) (mw ev ad σ') [.ref (ad 0), .int a1, .int a2] (some (.int r)) := by
  refine Ct.of (by decide +kernel) (Nat.le_of_ble_eq_true rfl) ?_
  intro p e s m args below meth c Qc C hap hP hend ls hl
  have hAA : ∀ j, j < 13 → inA ad 13 (ad j) := fun j hj => ⟨j, hj, rfl⟩
  have hx := C.1
  have hb := C.2.1
  have hl : lv_has ls 3 [(0, .ref (ad 0)), (1, .int a1), (2, .int a2)] := hl
  have h := (f_X4_playerOf.eq_1 _ _ _ ).symm.trans h
  refine lv_aload_n hx hb dX4_playerOf_0 rfl (lv_at hl 0 rfl) ?_
  refine lv_iload_n hx hb dX4_playerOf_1 rfl (lv_at hl 1 rfl) ?_
  refine k_callVi C hP hap hAA (c_X4_isPlayer l ev ad σ a1   _ rfl) Emb.same hap gz_X4_isPlayer qML_RX4_87 qIM_yX4_isPlayer qSE_yX4_isPlayer ⟨(Nat.le_of_ble_eq_true rfl), (Nat.le_of_ble_eq_true rfl)⟩ (q0 := 0) rfl (by decide) rfl rfl rfl rfl hl.1 rfl (Nat.le_of_ble_eq_true rfl) dX4_playerOf_2 ⟨Nat.le_refl _, Nat.le_refl _⟩ (fun H locs hP => ?_)
  refine r_ifz_eq (tgt := 17) hx hb dX4_playerOf_5 (by decide) (fun c5 => ?_) (fun c5 => ?_)
  · have h := k_nf c5 h
    refine lv_aload_n hx hb dX4_playerOf_17 rfl (lv_at hl 0 rfl) ?_
    refine lv_bipush (v := (-2)) hx hb dX4_playerOf_18 (by decide) ?_
    obtain ⟨x2, σ1, h1, h⟩ := k_ob2 h
    refine k_callVi C hP hap hAA (c_X4_no l ev ad σ (-2)   _ _ h1) Emb.same hap gz_X4_no qML_RX4_56 qIM_yX4_no qSE_yX4_no ⟨(Nat.le_of_ble_eq_true rfl), (Nat.le_of_ble_eq_true rfl)⟩ (q0 := 0) rfl (by decide) rfl rfl rfl rfl hl.1 rfl (Nat.le_of_ble_eq_true rfl) dX4_playerOf_20 ⟨Nat.le_refl _, Nat.le_refl _⟩ (fun H locs hP => ?_)
    exact e_iret C hend hP (k_some2 h).1 (congrArg (mw ev ad) (k_some2 h).2) dX4_playerOf_23
  · have h := k_if c5 h
    refine lv_iload_n hx hb dX4_playerOf_8 rfl (lv_at hl 2 rfl) ?_
    refine lv_iconst (v := 0) hx hb dX4_playerOf_9 (by decide) ?_
    refine lv_iconst (v := 1) hx hb dX4_playerOf_10 (by decide) ?_
    refine k_callSi C hP hap hAA (c_X4_within l ev ad a2 0 1   _ rfl) Emb.none (apart_0 _) gz_X4_within qML_RX4_63 qSM_yX4_within ⟨(Nat.le_of_ble_eq_true rfl), (Nat.le_of_ble_eq_true rfl)⟩ rfl hl.1 rfl (Nat.le_of_ble_eq_true rfl) dX4_playerOf_11 ⟨Nat.le_refl _, Nat.le_refl _⟩ (fun H locs hP => ?_)
    refine r_ifz_ne (tgt := 24) hx hb dX4_playerOf_14 (by decide) (fun c14 => ?_) (fun c14 => ?_)
    · have h := k_if c14 h
      refine lv_iload_n hx hb dX4_playerOf_24 rfl (lv_at hl 2 rfl) ?_
      refine lv_if_ne (tgt := 37) hx hb dX4_playerOf_25 (by decide) (fun c25 => ?_) (fun c25 => ?_)
      · have h := k_nf c25 h
        refine lv_aload_n hx hb dX4_playerOf_37 rfl (lv_at hl 0 rfl) ?_
        refine r_get C hP (ci := 4) rfl uin_X4 9 (by decide) 0 (by decide) rfl qFL_RX4_23 rfl rfl dX4_playerOf_38 ?_
        refine lv_iload_n hx hb dX4_playerOf_41 rfl (lv_at hl 1 rfl) ?_
        obtain ⟨hg, h⟩ := k_gd h
        refine r_iald C hP 5 (by decide) rfl hg dX4_playerOf_42 ?_
        exact e_iret C hend hP (k_some2 h).1 (congrArg (mw ev ad) (k_some2 h).2) dX4_playerOf_43
      · have h := k_if c25 h
        refine lv_aload_n hx hb dX4_playerOf_28 rfl (lv_at hl 0 rfl) ?_
        refine r_get C hP (ci := 4) rfl uin_X4 8 (by decide) 0 (by decide) rfl qFL_RX4_20 rfl rfl dX4_playerOf_29 ?_
        refine lv_iload_n hx hb dX4_playerOf_32 rfl (lv_at hl 1 rfl) ?_
        obtain ⟨hg, h⟩ := k_gd h
        refine r_iald C hP 4 (by decide) rfl hg dX4_playerOf_33 ?_
        refine lv_goto (tgt := 43) hx hb dX4_playerOf_34 (by decide) ?_
        exact e_iret C hend hP (k_some2 h).1 (congrArg (mw ev ad) (k_some2 h).2) dX4_playerOf_43
    · have h := k_nf c14 h
      refine lv_aload_n hx hb dX4_playerOf_17 rfl (lv_at hl 0 rfl) ?_
      refine lv_bipush (v := (-2)) hx hb dX4_playerOf_18 (by decide) ?_
      obtain ⟨x4, σ3, h1, h⟩ := k_ob2 h
      refine k_callVi C hP hap hAA (c_X4_no l ev ad σ (-2)   _ _ h1) Emb.same hap gz_X4_no qML_RX4_56 qIM_yX4_no qSE_yX4_no ⟨(Nat.le_of_ble_eq_true rfl), (Nat.le_of_ble_eq_true rfl)⟩ (q0 := 0) rfl (by decide) rfl rfl rfl rfl hl.1 rfl (Nat.le_of_ble_eq_true rfl) dX4_playerOf_20 ⟨Nat.le_refl _, Nat.le_refl _⟩ (fun H locs hP => ?_)
      exact e_iret C hend hP (k_some2 h).1 (congrArg (mw ev ad) (k_some2 h).2) dX4_playerOf_23
def f_X4_may (σ : MM) (a1 : Int32) : Option (Int32 × MM) :=
  if (f_X4_isMove σ a1) = true then ob (f_X4_mayBe σ a1) (fun b3 => if b3 = true then some (1, σ) else some (0, σ)) else ob2 (f_X4_no σ (-2)) (fun x2 σ1 => some (x2, σ1))
set_option maxHeartbeats 4000000 in
set_option maxRecDepth 100000 in
theorem c_X4_may (l : Launch) (ev : EV) (ad : Nat → Nat) (σ : MM) (a1 : Int32)   (r : Int32) (σ' : MM) (h : f_X4_may σ a1 = some (r, σ')) : Ct l yX4_may prog_6_method_49_code 2 (Option.some Jvm.ClassFile.FieldType.int) (rmk 4 88) ev 13 ad (mw ev ad σ) (mw ev ad σ') [.ref (ad 0), .int a1] (some (.int r)) := by
  refine Ct.of (by decide +kernel) (Nat.le_of_ble_eq_true rfl) ?_
  intro p e s m args below meth c Qc C hap hP hend ls hl
  have hAA : ∀ j, j < 13 → inA ad 13 (ad j) := fun j hj => ⟨j, hj, rfl⟩
  have hx := C.1
  have hb := C.2.1
  have hl : lv_has ls 2 [(0, .ref (ad 0)), (1, .int a1)] := hl
  have h := (f_X4_may.eq_1 _ _ ).symm.trans h
  refine lv_aload_n hx hb dX4_may_0 rfl (lv_at hl 0 rfl) ?_
  refine lv_iload_n hx hb dX4_may_1 rfl (lv_at hl 1 rfl) ?_
  refine k_callVi C hP hap hAA (c_X4_isMove l ev ad σ a1   _ rfl) Emb.same hap gz_X4_isMove qML_RX4_173 qIM_yX4_isMove qSE_yX4_isMove ⟨(Nat.le_of_ble_eq_true rfl), (Nat.le_of_ble_eq_true rfl)⟩ (q0 := 0) rfl (by decide) rfl rfl rfl rfl hl.1 rfl (Nat.le_of_ble_eq_true rfl) dX4_may_2 ⟨Nat.le_refl _, Nat.le_refl _⟩ (fun H locs hP => ?_)
  refine r_ifz_eq (tgt := 24) hx hb dX4_may_5 (by decide) (fun c5 => ?_) (fun c5 => ?_)
  · have h := k_nf c5 h
    refine lv_aload_n hx hb dX4_may_24 rfl (lv_at hl 0 rfl) ?_
    refine lv_bipush (v := (-2)) hx hb dX4_may_25 (by decide) ?_
    obtain ⟨x2, σ1, h1, h⟩ := k_ob2 h
    refine k_callVi C hP hap hAA (c_X4_no l ev ad σ (-2)   _ _ h1) Emb.same hap gz_X4_no qML_RX4_56 qIM_yX4_no qSE_yX4_no ⟨(Nat.le_of_ble_eq_true rfl), (Nat.le_of_ble_eq_true rfl)⟩ (q0 := 0) rfl (by decide) rfl rfl rfl rfl hl.1 rfl (Nat.le_of_ble_eq_true rfl) dX4_may_27 ⟨Nat.le_refl _, Nat.le_refl _⟩ (fun H locs hP => ?_)
    exact e_iret C hend hP (k_some2 h).1 (congrArg (mw ev ad) (k_some2 h).2) dX4_may_30
  · have h := k_if c5 h
    refine lv_aload_n hx hb dX4_may_8 rfl (lv_at hl 0 rfl) ?_
    refine lv_iload_n hx hb dX4_may_9 rfl (lv_at hl 1 rfl) ?_
    obtain ⟨b3, h1, h⟩ := k_ob h
    refine k_callVi C hP hap hAA (c_X4_mayBe l ev ad σ a1   _ h1) Emb.same hap gz_X4_mayBe qML_RX4_176 qIM_yX4_mayBe qSE_yX4_mayBe ⟨(Nat.le_of_ble_eq_true rfl), (Nat.le_of_ble_eq_true rfl)⟩ (q0 := 0) rfl (by decide) rfl rfl rfl rfl hl.1 rfl (Nat.le_of_ble_eq_true rfl) dX4_may_10 ⟨Nat.le_refl _, Nat.le_refl _⟩ (fun H locs hP => ?_)
    refine r_ifz_eq (tgt := 20) hx hb dX4_may_13 (by decide) (fun c13 => ?_) (fun c13 => ?_)
    · have h := k_nf c13 h
      refine lv_iconst (v := 0) hx hb dX4_may_20 (by decide) ?_
      refine lv_goto (tgt := 30) hx hb dX4_may_21 (by decide) ?_
      exact e_iret C hend hP (k_some2 h).1 (congrArg (mw ev ad) (k_some2 h).2) dX4_may_30
    · have h := k_if c13 h
      refine lv_iconst (v := 1) hx hb dX4_may_16 (by decide) ?_
      refine lv_goto (tgt := 30) hx hb dX4_may_17 (by decide) ?_
      exact e_iret C hend hP (k_some2 h).1 (congrArg (mw ev ad) (k_some2 h).2) dX4_may_30
def f_X4_moves (σ : MM) (a1 : Int32) : Option (Int32 × MM) :=
  if (-1) ≤ a1 then if a1 = (-1) then ob (f_X4_howMany σ) (fun x4 => some (x4, σ)) else ob (f_X4_ith σ a1) (fun x1 => if x1 = (-1) then ob2 (f_X4_no σ (-5)) (fun x3 σ2 => some (x3, σ2)) else some (x1, σ)) else ob2 (f_X4_no σ (-2)) (fun x6 σ5 => some (x6, σ5))
set_option maxHeartbeats 4000000 in
set_option maxRecDepth 100000 in
theorem c_X4_moves (l : Launch) (ev : EV) (ad : Nat → Nat) (σ : MM) (a1 : Int32)   (r : Int32) (σ' : MM) (h : f_X4_moves σ a1 = some (r, σ')) : Ct l yX4_moves prog_6_method_50_code 3 (Option.some Jvm.ClassFile.FieldType.int) (rmk 5 111) ev 13 ad (mw ev ad σ) (mw ev ad σ') [.ref (ad 0), .int a1] (some (.int r)) := by
  refine Ct.of (by decide +kernel) (Nat.le_of_ble_eq_true rfl) ?_
  intro p e s m args below meth c Qc C hap hP hend ls hl
  have hAA : ∀ j, j < 13 → inA ad 13 (ad j) := fun j hj => ⟨j, hj, rfl⟩
  have hx := C.1
  have hb := C.2.1
  have hl : lv_has ls 3 [(0, .ref (ad 0)), (1, .int a1)] := hl
  have h := (f_X4_moves.eq_1 _ _ ).symm.trans h
  refine lv_iload_n hx hb dX4_moves_0 rfl (lv_at hl 1 rfl) ?_
  refine lv_iconst (v := (-1)) hx hb dX4_moves_1 (by decide) ?_
  refine lv_icmp_ge (tgt := 12) hx hb dX4_moves_2 (by decide) (fun c2 => ?_) (fun c2 => ?_)
  · have h := k_if c2 h
    refine lv_iload_n hx hb dX4_moves_12 rfl (lv_at hl 1 rfl) ?_
    refine lv_iconst (v := (-1)) hx hb dX4_moves_13 (by decide) ?_
    refine lv_icmp_ne (tgt := 22) hx hb dX4_moves_14 (by decide) (fun c14 => ?_) (fun c14 => ?_)
    · have h := k_nf c14 h
      refine lv_aload_n hx hb dX4_moves_22 rfl (lv_at hl 0 rfl) ?_
      refine lv_iload_n hx hb dX4_moves_23 rfl (lv_at hl 1 rfl) ?_
      obtain ⟨x1, h1, h⟩ := k_ob h
      refine k_callVi C hP hap hAA (c_X4_ith l ev ad σ a1   _ h1) Emb.same hap gz_X4_ith qML_RX4_208 qIM_yX4_ith qSE_yX4_ith ⟨(Nat.le_of_ble_eq_true rfl), (Nat.le_of_ble_eq_true rfl)⟩ (q0 := 0) rfl (by decide) rfl rfl rfl rfl hl.1 rfl (Nat.le_of_ble_eq_true rfl) dX4_moves_24 ⟨Nat.le_refl _, Nat.le_refl _⟩ (fun H locs hP => ?_)
      refine lv_istore_n (lv' := [(2, .int x1), (0, .ref (ad 0)), (1, .int a1)]) hx hb dX4_moves_27 rfl hl (by decide) rfl (fun ls hl => ?_)
      refine lv_iload_n hx hb dX4_moves_28 rfl (lv_at hl 0 rfl) ?_
      refine lv_iconst (v := (-1)) hx hb dX4_moves_29 (by decide) ?_
      refine lv_icmp_ne (tgt := 42) hx hb dX4_moves_30 (by decide) (fun c30 => ?_) (fun c30 => ?_)
      · have h := k_nf c30 h
        refine lv_iload_n hx hb dX4_moves_42 rfl (lv_at hl 0 rfl) ?_
        exact e_iret C hend hP (k_some2 h).1 (congrArg (mw ev ad) (k_some2 h).2) dX4_moves_43
      · have h := k_if c30 h
        refine lv_aload_n hx hb dX4_moves_33 rfl (lv_at hl 1 rfl) ?_
        refine lv_bipush (v := (-5)) hx hb dX4_moves_34 (by decide) ?_
        obtain ⟨x3, σ2, h1, h⟩ := k_ob2 h
        refine k_callVi C hP hap hAA (c_X4_no l ev ad σ (-5)   _ _ h1) Emb.same hap gz_X4_no qML_RX4_56 qIM_yX4_no qSE_yX4_no ⟨(Nat.le_of_ble_eq_true rfl), (Nat.le_of_ble_eq_true rfl)⟩ (q0 := 0) rfl (by decide) rfl rfl rfl rfl hl.1 rfl (Nat.le_of_ble_eq_true rfl) dX4_moves_36 ⟨Nat.le_refl _, Nat.le_refl _⟩ (fun H locs hP => ?_)
        refine lv_goto (tgt := 43) hx hb dX4_moves_39 (by decide) ?_
        exact e_iret C hend hP (k_some2 h).1 (congrArg (mw ev ad) (k_some2 h).2) dX4_moves_43
    · have h := k_if c14 h
      refine lv_aload_n hx hb dX4_moves_17 rfl (lv_at hl 0 rfl) ?_
      obtain ⟨x4, h1, h⟩ := k_ob h
      refine k_callVi C hP hap hAA (c_X4_howMany l ev ad σ   _ h1) Emb.same hap gz_X4_howMany qML_RX4_94 qIM_yX4_howMany qSE_yX4_howMany ⟨(Nat.le_of_ble_eq_true rfl), (Nat.le_of_ble_eq_true rfl)⟩ (q0 := 0) rfl (by decide) rfl rfl rfl rfl hl.1 rfl (Nat.le_of_ble_eq_true rfl) dX4_moves_18 ⟨Nat.le_refl _, Nat.le_refl _⟩ (fun H locs hP => ?_)
      exact e_iret C hend hP (k_some2 h).1 (congrArg (mw ev ad) (k_some2 h).2) dX4_moves_21
  · have h := k_nf c2 h
    refine lv_aload_n hx hb dX4_moves_5 rfl (lv_at hl 0 rfl) ?_
    refine lv_bipush (v := (-2)) hx hb dX4_moves_6 (by decide) ?_
    obtain ⟨x6, σ5, h1, h⟩ := k_ob2 h
    refine k_callVi C hP hap hAA (c_X4_no l ev ad σ (-2)   _ _ h1) Emb.same hap gz_X4_no qML_RX4_56 qIM_yX4_no qSE_yX4_no ⟨(Nat.le_of_ble_eq_true rfl), (Nat.le_of_ble_eq_true rfl)⟩ (q0 := 0) rfl (by decide) rfl rfl rfl rfl hl.1 rfl (Nat.le_of_ble_eq_true rfl) dX4_moves_8 ⟨Nat.le_refl _, Nat.le_refl _⟩ (fun H locs hP => ?_)
    exact e_iret C hend hP (k_some2 h).1 (congrArg (mw ev ad) (k_some2 h).2) dX4_moves_11
def f_X4_lanesOf_b83 (σ : MM) (a1 : Int32) (x1 : Int32) (rec10 : Int32 → Int32 → Option (Int32)) (x5 : Int32) (x6 : Int32) : Option (Int32) :=
  gd (nz (m_w σ)) (if (m_h σ) ≤ ((idiv x6 (m_w σ)) + 2) then lt (x6 + 1) (fun x7 => rec10 x5 x7) else ob (f_X4_colour σ (x6 + (m_w σ)) x1) (fun x8 => if x8 = a1 then ob (f_X4_colour σ (x6 + (2 * (m_w σ))) x1) (fun x10 => if x10 = a1 then lt (x5 + 1) (fun x12 => lt (x6 + 1) (fun x13 => rec10 x12 x13)) else lt (x6 + 1) (fun x11 => rec10 x5 x11)) else lt (x6 + 1) (fun x9 => rec10 x5 x9)))
def f_X4_lanesOf_L10_b (σ : MM) (a1 : Int32) (x1 : Int32)  (rec10 : Int32 → Int32 → Option (Int32)) (x2 : Int32) (x3 : Int32) : Option (Int32) :=
  if ((m_w σ) * (m_h σ)) ≤ x3 then some x2 else ob (f_X4_colour σ x3 x1) (fun x4 => if x4 = a1 then gd (nz (m_w σ)) (if (m_w σ) ≤ ((irem x3 (m_w σ)) + 2) then f_X4_lanesOf_b83 σ a1 x1 rec10 x2 x3 else ob (f_X4_colour σ (x3 + 1) x1) (fun x14 => if x14 = a1 then ob (f_X4_colour σ (x3 + 2) x1) (fun x15 => if x15 = a1 then lt (x2 + 1) (fun x16 => f_X4_lanesOf_b83 σ a1 x1 rec10 x16 x3) else f_X4_lanesOf_b83 σ a1 x1 rec10 x2 x3) else f_X4_lanesOf_b83 σ a1 x1 rec10 x2 x3)) else lt (x3 + 1) (fun x17 => rec10 x2 x17))
def f_X4_lanesOf_L10 (σ : MM) (a1 : Int32) (x1 : Int32)  (x2 : Int32) (x3 : Int32) : Option (Int32) :=
  lp (fun _ _ => none) (f_X4_lanesOf_L10_b σ a1 x1 ) FU x2 x3
def f_X4_lanesOf (σ : MM) (a1 : Int32) : Option (Int32) :=
  ob (f_X4_drains σ) (fun x1 => f_X4_lanesOf_L10 σ a1 x1 0 0)
set_option maxHeartbeats 4000000 in
set_option maxRecDepth 100000 in
theorem c_X4_lanesOf (l : Launch) (ev : EV) (ad : Nat → Nat) (σ : MM) (a1 : Int32)   (r : Int32)  (h : f_X4_lanesOf σ a1 = some r) : Ct l yX4_lanesOf prog_6_method_55_code 5 (Option.some Jvm.ClassFile.FieldType.int) (rmk 6 137) ev 13 ad (mw ev ad σ) (mw ev ad σ) [.ref (ad 0), .int a1] (some (.int r)) := by
  refine Ct.of (by decide +kernel) (Nat.le_of_ble_eq_true rfl) ?_
  intro p e s m args below meth c Qc C hap hP hend ls hl
  have hAA : ∀ j, j < 13 → inA ad 13 (ad j) := fun j hj => ⟨j, hj, rfl⟩
  have hx := C.1
  have hb := C.2.1
  have hl : lv_has ls 5 [(0, .ref (ad 0)), (1, .int a1)] := hl
  have h := (f_X4_lanesOf.eq_1 _ _ ).symm.trans h
  refine lv_aload_n hx hb dX4_lanesOf_0 rfl (lv_at hl 0 rfl) ?_
  obtain ⟨x1, h1, h⟩ := k_ob h
  refine k_callVi C hP hap hAA (c_X4_drains l ev ad σ   _ h1) Emb.same hap gz_X4_drains qML_RX4_199 qIM_yX4_drains qSE_yX4_drains ⟨(Nat.le_of_ble_eq_true rfl), (Nat.le_of_ble_eq_true rfl)⟩ (q0 := 0) rfl (by decide) rfl rfl rfl rfl hl.1 rfl (Nat.le_of_ble_eq_true rfl) dX4_lanesOf_1 ⟨Nat.le_refl _, Nat.le_refl _⟩ (fun H locs hP => ?_)
  refine lv_istore_n (lv' := [(2, .int x1), (0, .ref (ad 0)), (1, .int a1)]) hx hb dX4_lanesOf_4 rfl hl (by decide) rfl (fun ls hl => ?_)
  refine lv_iconst (v := 0) hx hb dX4_lanesOf_5 (by decide) ?_
  refine lv_istore_n (lv' := [(3, .int 0), (2, .int x1), (0, .ref (ad 0)), (1, .int a1)]) hx hb dX4_lanesOf_6 rfl hl (by decide) rfl (fun ls hl => ?_)
  refine lv_iconst (v := 0) hx hb dX4_lanesOf_7 (by decide) ?_
  refine lv_istore (lv' := [(4, .int 0), (3, .int 0), (2, .int x1), (0, .ref (ad 0)), (1, .int a1)]) hx hb dX4_lanesOf_8 hl (by decide) rfl (fun ls hl => ?_)
  have hL10 : ∀ (n : Nat) (x2 : Int32) (x3 : Int32) (H : Heap) (locs : List Loc) (ls : Array Slot), lp (fun _ _ => none) (f_X4_lanesOf_L10_b σ a1 x1 ) n x2 x3 = some r → PS ev 13 ad (mw ev ad σ) (inA ad 13) s H locs → lv_has ls 5 [(0, .ref (ad 0)), (1, .int a1), (2, .int x1), (3, .int x2), (4, .int x3)] → WW ev p l e (rmk 6 137) s m args below meth c Qc ad 13 H locs 10 ls [] := by
    intro n
    induction n with
    | zero =>
      intro x2 x3 H locs ls h; exact k_none h
    | succ n ih =>
      intro x2 x3 H locs ls h hP hl
      have h : f_X4_lanesOf_L10_b σ a1 x1  (lp (fun _ _ => none) (f_X4_lanesOf_L10_b σ a1 x1 ) n) x2 x3 = some r := h
      have h := (f_X4_lanesOf_L10_b.eq_1 _ _ _ _ _ _ ).symm.trans h
      have hB83 : ∀ (x5 : Int32) (x6 : Int32) (H : Heap) (locs : List Loc) (ls : Array Slot), f_X4_lanesOf_b83 σ a1 x1 (lp (fun _ _ => none) (f_X4_lanesOf_L10_b σ a1 x1 ) n) x5 x6 = some r → PS ev 13 ad (mw ev ad σ) (inA ad 13) s H locs → lv_has ls 5 [(0, .ref (ad 0)), (1, .int a1), (2, .int x1), (3, .int x5), (4, .int x6)] → WW ev p l e (rmk 6 137) s m args below meth c Qc ad 13 H locs 83 ls [] := by
        intro x5 x6 H locs ls h hP hl
        have h := (f_X4_lanesOf_b83.eq_1 _ _ _ _ _ _ ).symm.trans h
        refine lv_iload hx hb dX4_lanesOf_83 (lv_at hl 4 rfl) ?_
        refine lv_aload_n hx hb dX4_lanesOf_85 rfl (lv_at hl 0 rfl) ?_
        refine r_get C hP (ci := 4) rfl uin_X4 0 (by decide) 0 (by decide) rfl qFL_RX4_67 rfl rfl dX4_lanesOf_86 ?_
        obtain ⟨hg, h⟩ := k_gd h
        refine r_idiv hx hb dX4_lanesOf_89 (nz_ne hg) ?_
        refine lv_iconst (v := 2) hx hb dX4_lanesOf_90 (by decide) ?_
        refine lv_iadd hx hb dX4_lanesOf_91 ?_
        refine lv_aload_n hx hb dX4_lanesOf_92 rfl (lv_at hl 0 rfl) ?_
        refine r_get C hP (ci := 4) rfl uin_X4 1 (by decide) 0 (by decide) rfl qFL_RX4_70 rfl rfl dX4_lanesOf_93 ?_
        refine lv_icmp_ge (tgt := 136) hx hb dX4_lanesOf_96 (by decide) (fun c96 => ?_) (fun c96 => ?_)
        · have h := k_if c96 h
          obtain ⟨x7, ex7, h⟩ := k_ltx h
          refine lv_iinc (v := x7) (lv' := [(4, .int x7), (0, .ref (ad 0)), (1, .int a1), (2, .int x1), (3, .int x5)]) hx hb dX4_lanesOf_136 hl (k := 4) rfl (by rw [ex7]; rfl) (by decide) rfl (fun ls hl => ?_)
          refine lv_goto (tgt := 10) hx hb dX4_lanesOf_139 (by decide) ?_
          exact ih _ _ _ _ _ h hP (lv_sub hl [1, 2, 3, 4, 0] rfl)
        · have h := k_nf c96 h
          refine lv_aload_n hx hb dX4_lanesOf_99 rfl (lv_at hl 0 rfl) ?_
          refine lv_iload hx hb dX4_lanesOf_100 (lv_at hl 4 rfl) ?_
          refine lv_aload_n hx hb dX4_lanesOf_102 rfl (lv_at hl 0 rfl) ?_
          refine r_get C hP (ci := 4) rfl uin_X4 0 (by decide) 0 (by decide) rfl qFL_RX4_67 rfl rfl dX4_lanesOf_103 ?_
          refine lv_iadd hx hb dX4_lanesOf_106 ?_
          refine lv_iload_n hx hb dX4_lanesOf_107 rfl (lv_at hl 2 rfl) ?_
          obtain ⟨x8, h1, h⟩ := k_ob h
          refine k_callVi C hP hap hAA (c_X4_colour l ev ad σ (x6 + (m_w σ)) x1   _ h1) Emb.same hap gz_X4_colour qML_RX4_202 qIM_yX4_colour qSE_yX4_colour ⟨(Nat.le_of_ble_eq_true rfl), (Nat.le_of_ble_eq_true rfl)⟩ (q0 := 0) rfl (by decide) rfl rfl rfl rfl hl.1 rfl (Nat.le_of_ble_eq_true rfl) dX4_lanesOf_108 ⟨Nat.le_refl _, Nat.le_refl _⟩ (fun H locs hP => ?_)
          refine lv_iload_n hx hb dX4_lanesOf_111 rfl (lv_at hl 1 rfl) ?_
          refine lv_icmp_ne (tgt := 136) hx hb dX4_lanesOf_112 (by decide) (fun c112 => ?_) (fun c112 => ?_)
          · have h := k_nf c112 h
            obtain ⟨x9, ex9, h⟩ := k_ltx h
            refine lv_iinc (v := x9) (lv' := [(4, .int x9), (0, .ref (ad 0)), (1, .int a1), (2, .int x1), (3, .int x5)]) hx hb dX4_lanesOf_136 hl (k := 4) rfl (by rw [ex9]; rfl) (by decide) rfl (fun ls hl => ?_)
            refine lv_goto (tgt := 10) hx hb dX4_lanesOf_139 (by decide) ?_
            exact ih _ _ _ _ _ h hP (lv_sub hl [1, 2, 3, 4, 0] rfl)
          · have h := k_if c112 h
            refine lv_aload_n hx hb dX4_lanesOf_115 rfl (lv_at hl 0 rfl) ?_
            refine lv_iload hx hb dX4_lanesOf_116 (lv_at hl 4 rfl) ?_
            refine lv_iconst (v := 2) hx hb dX4_lanesOf_118 (by decide) ?_
            refine lv_aload_n hx hb dX4_lanesOf_119 rfl (lv_at hl 0 rfl) ?_
            refine r_get C hP (ci := 4) rfl uin_X4 0 (by decide) 0 (by decide) rfl qFL_RX4_67 rfl rfl dX4_lanesOf_120 ?_
            refine lv_imul hx hb dX4_lanesOf_123 ?_
            refine lv_iadd hx hb dX4_lanesOf_124 ?_
            refine lv_iload_n hx hb dX4_lanesOf_125 rfl (lv_at hl 2 rfl) ?_
            obtain ⟨x10, h1, h⟩ := k_ob h
            refine k_callVi C hP hap hAA (c_X4_colour l ev ad σ (x6 + (2 * (m_w σ))) x1   _ h1) Emb.same hap gz_X4_colour qML_RX4_202 qIM_yX4_colour qSE_yX4_colour ⟨(Nat.le_of_ble_eq_true rfl), (Nat.le_of_ble_eq_true rfl)⟩ (q0 := 0) rfl (by decide) rfl rfl rfl rfl hl.1 rfl (Nat.le_of_ble_eq_true rfl) dX4_lanesOf_126 ⟨Nat.le_refl _, Nat.le_refl _⟩ (fun H locs hP => ?_)
            refine lv_iload_n hx hb dX4_lanesOf_129 rfl (lv_at hl 1 rfl) ?_
            refine lv_icmp_ne (tgt := 136) hx hb dX4_lanesOf_130 (by decide) (fun c130 => ?_) (fun c130 => ?_)
            · have h := k_nf c130 h
              obtain ⟨x11, ex11, h⟩ := k_ltx h
              refine lv_iinc (v := x11) (lv' := [(4, .int x11), (0, .ref (ad 0)), (1, .int a1), (2, .int x1), (3, .int x5)]) hx hb dX4_lanesOf_136 hl (k := 4) rfl (by rw [ex11]; rfl) (by decide) rfl (fun ls hl => ?_)
              refine lv_goto (tgt := 10) hx hb dX4_lanesOf_139 (by decide) ?_
              exact ih _ _ _ _ _ h hP (lv_sub hl [1, 2, 3, 4, 0] rfl)
            · have h := k_if c130 h
              obtain ⟨x12, ex12, h⟩ := k_ltx h
              refine lv_iinc (v := x12) (lv' := [(3, .int x12), (0, .ref (ad 0)), (1, .int a1), (2, .int x1), (4, .int x6)]) hx hb dX4_lanesOf_133 hl (k := 3) rfl (by rw [ex12]; rfl) (by decide) rfl (fun ls hl => ?_)
              obtain ⟨x13, ex13, h⟩ := k_ltx h
              refine lv_iinc (v := x13) (lv' := [(4, .int x13), (3, .int x12), (0, .ref (ad 0)), (1, .int a1), (2, .int x1)]) hx hb dX4_lanesOf_136 hl (k := 4) rfl (by rw [ex13]; rfl) (by decide) rfl (fun ls hl => ?_)
              refine lv_goto (tgt := 10) hx hb dX4_lanesOf_139 (by decide) ?_
              exact ih _ _ _ _ _ h hP (lv_sub hl [2, 3, 4, 1, 0] rfl)
      refine lv_iload hx hb dX4_lanesOf_10 (lv_at hl 4 rfl) ?_
      refine lv_aload_n hx hb dX4_lanesOf_12 rfl (lv_at hl 0 rfl) ?_
      refine r_get C hP (ci := 4) rfl uin_X4 0 (by decide) 0 (by decide) rfl qFL_RX4_67 rfl rfl dX4_lanesOf_13 ?_
      refine lv_aload_n hx hb dX4_lanesOf_16 rfl (lv_at hl 0 rfl) ?_
      refine r_get C hP (ci := 4) rfl uin_X4 1 (by decide) 0 (by decide) rfl qFL_RX4_70 rfl rfl dX4_lanesOf_17 ?_
      refine lv_imul hx hb dX4_lanesOf_20 ?_
      refine lv_icmp_ge (tgt := 142) hx hb dX4_lanesOf_21 (by decide) (fun c21 => ?_) (fun c21 => ?_)
      · have h := k_if c21 h
        refine lv_iload_n hx hb dX4_lanesOf_142 rfl (lv_at hl 3 rfl) ?_
        exact e_iret C hend hP (k_some h) rfl dX4_lanesOf_143
      · have h := k_nf c21 h
        refine lv_aload_n hx hb dX4_lanesOf_24 rfl (lv_at hl 0 rfl) ?_
        refine lv_iload hx hb dX4_lanesOf_25 (lv_at hl 4 rfl) ?_
        refine lv_iload_n hx hb dX4_lanesOf_27 rfl (lv_at hl 2 rfl) ?_
        obtain ⟨x4, h1, h⟩ := k_ob h
        refine k_callVi C hP hap hAA (c_X4_colour l ev ad σ x3 x1   _ h1) Emb.same hap gz_X4_colour qML_RX4_202 qIM_yX4_colour qSE_yX4_colour ⟨(Nat.le_of_ble_eq_true rfl), (Nat.le_of_ble_eq_true rfl)⟩ (q0 := 0) rfl (by decide) rfl rfl rfl rfl hl.1 rfl (Nat.le_of_ble_eq_true rfl) dX4_lanesOf_28 ⟨Nat.le_refl _, Nat.le_refl _⟩ (fun H locs hP => ?_)
        refine lv_iload_n hx hb dX4_lanesOf_31 rfl (lv_at hl 1 rfl) ?_
        refine lv_icmp_eq (tgt := 38) hx hb dX4_lanesOf_32 (by decide) (fun c32 => ?_) (fun c32 => ?_)
        · have h := k_if c32 h
          refine lv_iload hx hb dX4_lanesOf_38 (lv_at hl 4 rfl) ?_
          refine lv_aload_n hx hb dX4_lanesOf_40 rfl (lv_at hl 0 rfl) ?_
          refine r_get C hP (ci := 4) rfl uin_X4 0 (by decide) 0 (by decide) rfl qFL_RX4_67 rfl rfl dX4_lanesOf_41 ?_
          obtain ⟨hg, h⟩ := k_gd h
          refine r_irem hx hb dX4_lanesOf_44 (nz_ne hg) ?_
          refine lv_iconst (v := 2) hx hb dX4_lanesOf_45 (by decide) ?_
          refine lv_iadd hx hb dX4_lanesOf_46 ?_
          refine lv_aload_n hx hb dX4_lanesOf_47 rfl (lv_at hl 0 rfl) ?_
          refine r_get C hP (ci := 4) rfl uin_X4 0 (by decide) 0 (by decide) rfl qFL_RX4_67 rfl rfl dX4_lanesOf_48 ?_
          refine lv_icmp_ge (tgt := 83) hx hb dX4_lanesOf_51 (by decide) (fun c51 => ?_) (fun c51 => ?_)
          · have h := k_if c51 h
            exact hB83 _ _ _ _ _ h hP (lv_sub hl [0, 1, 2, 3, 4] rfl)
          · have h := k_nf c51 h
            refine lv_aload_n hx hb dX4_lanesOf_54 rfl (lv_at hl 0 rfl) ?_
            refine lv_iload hx hb dX4_lanesOf_55 (lv_at hl 4 rfl) ?_
            refine lv_iconst (v := 1) hx hb dX4_lanesOf_57 (by decide) ?_
            refine lv_iadd hx hb dX4_lanesOf_58 ?_
            refine lv_iload_n hx hb dX4_lanesOf_59 rfl (lv_at hl 2 rfl) ?_
            obtain ⟨x14, h1, h⟩ := k_ob h
            refine k_callVi C hP hap hAA (c_X4_colour l ev ad σ (x3 + 1) x1   _ h1) Emb.same hap gz_X4_colour qML_RX4_202 qIM_yX4_colour qSE_yX4_colour ⟨(Nat.le_of_ble_eq_true rfl), (Nat.le_of_ble_eq_true rfl)⟩ (q0 := 0) rfl (by decide) rfl rfl rfl rfl hl.1 rfl (Nat.le_of_ble_eq_true rfl) dX4_lanesOf_60 ⟨Nat.le_refl _, Nat.le_refl _⟩ (fun H locs hP => ?_)
            refine lv_iload_n hx hb dX4_lanesOf_63 rfl (lv_at hl 1 rfl) ?_
            refine lv_icmp_ne (tgt := 83) hx hb dX4_lanesOf_64 (by decide) (fun c64 => ?_) (fun c64 => ?_)
            · have h := k_nf c64 h
              exact hB83 _ _ _ _ _ h hP (lv_sub hl [0, 1, 2, 3, 4] rfl)
            · have h := k_if c64 h
              refine lv_aload_n hx hb dX4_lanesOf_67 rfl (lv_at hl 0 rfl) ?_
              refine lv_iload hx hb dX4_lanesOf_68 (lv_at hl 4 rfl) ?_
              refine lv_iconst (v := 2) hx hb dX4_lanesOf_70 (by decide) ?_
              refine lv_iadd hx hb dX4_lanesOf_71 ?_
              refine lv_iload_n hx hb dX4_lanesOf_72 rfl (lv_at hl 2 rfl) ?_
              obtain ⟨x15, h1, h⟩ := k_ob h
              refine k_callVi C hP hap hAA (c_X4_colour l ev ad σ (x3 + 2) x1   _ h1) Emb.same hap gz_X4_colour qML_RX4_202 qIM_yX4_colour qSE_yX4_colour ⟨(Nat.le_of_ble_eq_true rfl), (Nat.le_of_ble_eq_true rfl)⟩ (q0 := 0) rfl (by decide) rfl rfl rfl rfl hl.1 rfl (Nat.le_of_ble_eq_true rfl) dX4_lanesOf_73 ⟨Nat.le_refl _, Nat.le_refl _⟩ (fun H locs hP => ?_)
              refine lv_iload_n hx hb dX4_lanesOf_76 rfl (lv_at hl 1 rfl) ?_
              refine lv_icmp_ne (tgt := 83) hx hb dX4_lanesOf_77 (by decide) (fun c77 => ?_) (fun c77 => ?_)
              · have h := k_nf c77 h
                exact hB83 _ _ _ _ _ h hP (lv_sub hl [0, 1, 2, 3, 4] rfl)
              · have h := k_if c77 h
                obtain ⟨x16, ex16, h⟩ := k_ltx h
                refine lv_iinc (v := x16) (lv' := [(3, .int x16), (0, .ref (ad 0)), (1, .int a1), (2, .int x1), (4, .int x3)]) hx hb dX4_lanesOf_80 hl (k := 3) rfl (by rw [ex16]; rfl) (by decide) rfl (fun ls hl => ?_)
                exact hB83 _ _ _ _ _ h hP (lv_sub hl [1, 2, 3, 0, 4] rfl)
        · have h := k_nf c32 h
          refine lv_goto (tgt := 136) hx hb dX4_lanesOf_35 (by decide) ?_
          obtain ⟨x17, ex17, h⟩ := k_ltx h
          refine lv_iinc (v := x17) (lv' := [(4, .int x17), (0, .ref (ad 0)), (1, .int a1), (2, .int x1), (3, .int x2)]) hx hb dX4_lanesOf_136 hl (k := 4) rfl (by rw [ex17]; rfl) (by decide) rfl (fun ls hl => ?_)
          refine lv_goto (tgt := 10) hx hb dX4_lanesOf_139 (by decide) ?_
          exact ih _ _ _ _ _ h hP (lv_sub hl [1, 2, 3, 4, 0] rfl)
  exact hL10 FU _ _ _ _ _ h hP (lv_sub hl [3, 4, 2, 1, 0] rfl)
def f_X4_scoreOf_L16_b (σ : MM) (a1 : Int32) (x1 : Int32)  (rec16 : Int32 → Int32 → Option (Int32)) (x3 : Int32) (x4 : Int32) : Option (Int32) :=
  if ((m_w σ) * (m_h σ)) ≤ x4 then some x3 else ob (f_X4_colour σ x4 x1) (fun x5 => if x5 = a1 then lt (x3 + 1) (fun x7 => lt (x4 + 1) (fun x8 => rec16 x7 x8)) else lt (x4 + 1) (fun x6 => rec16 x3 x6))
def f_X4_scoreOf_L16 (σ : MM) (a1 : Int32) (x1 : Int32)  (x3 : Int32) (x4 : Int32) : Option (Int32) :=
  lp (fun _ _ => none) (f_X4_scoreOf_L16_b σ a1 x1 ) FU x3 x4
def f_X4_scoreOf (σ : MM) (a1 : Int32) : Option (Int32) :=
  ob (f_X4_drains σ) (fun x1 => ob (f_X4_lanesOf σ (1 - a1)) (fun x2 => f_X4_scoreOf_L16 σ a1 x1 x2 0))
set_option maxHeartbeats 4000000 in
set_option maxRecDepth 100000 in
theorem c_X4_scoreOf (l : Launch) (ev : EV) (ad : Nat → Nat) (σ : MM) (a1 : Int32)   (r : Int32)  (h : f_X4_scoreOf σ a1 = some r) : Ct l yX4_scoreOf prog_6_method_56_code 5 (Option.some Jvm.ClassFile.FieldType.int) (rmk 7 161) ev 13 ad (mw ev ad σ) (mw ev ad σ) [.ref (ad 0), .int a1] (some (.int r)) := by
  refine Ct.of (by decide +kernel) (Nat.le_of_ble_eq_true rfl) ?_
  intro p e s m args below meth c Qc C hap hP hend ls hl
  have hAA : ∀ j, j < 13 → inA ad 13 (ad j) := fun j hj => ⟨j, hj, rfl⟩
  have hx := C.1
  have hb := C.2.1
  have hl : lv_has ls 5 [(0, .ref (ad 0)), (1, .int a1)] := hl
  have h := (f_X4_scoreOf.eq_1 _ _ ).symm.trans h
  refine lv_aload_n hx hb dX4_scoreOf_0 rfl (lv_at hl 0 rfl) ?_
  obtain ⟨x1, h1, h⟩ := k_ob h
  refine k_callVi C hP hap hAA (c_X4_drains l ev ad σ   _ h1) Emb.same hap gz_X4_drains qML_RX4_199 qIM_yX4_drains qSE_yX4_drains ⟨(Nat.le_of_ble_eq_true rfl), (Nat.le_of_ble_eq_true rfl)⟩ (q0 := 0) rfl (by decide) rfl rfl rfl rfl hl.1 rfl (Nat.le_of_ble_eq_true rfl) dX4_scoreOf_1 ⟨Nat.le_refl _, Nat.le_refl _⟩ (fun H locs hP => ?_)
  refine lv_istore_n (lv' := [(2, .int x1), (0, .ref (ad 0)), (1, .int a1)]) hx hb dX4_scoreOf_4 rfl hl (by decide) rfl (fun ls hl => ?_)
  refine lv_aload_n hx hb dX4_scoreOf_5 rfl (lv_at hl 1 rfl) ?_
  refine lv_iconst (v := 1) hx hb dX4_scoreOf_6 (by decide) ?_
  refine lv_iload_n hx hb dX4_scoreOf_7 rfl (lv_at hl 2 rfl) ?_
  refine lv_isub hx hb dX4_scoreOf_8 ?_
  obtain ⟨x2, h1, h⟩ := k_ob h
  refine k_callVi C hP hap hAA (c_X4_lanesOf l ev ad σ (1 - a1)   _ h1) Emb.same hap gz_X4_lanesOf qML_RX4_220 qIM_yX4_lanesOf qSE_yX4_lanesOf ⟨(Nat.le_of_ble_eq_true rfl), (Nat.le_of_ble_eq_true rfl)⟩ (q0 := 0) rfl (by decide) rfl rfl rfl rfl hl.1 rfl (Nat.le_of_ble_eq_true rfl) dX4_scoreOf_9 ⟨Nat.le_refl _, Nat.le_refl _⟩ (fun H locs hP => ?_)
  refine lv_istore_n (lv' := [(3, .int x2), (2, .int x1), (0, .ref (ad 0)), (1, .int a1)]) hx hb dX4_scoreOf_12 rfl hl (by decide) rfl (fun ls hl => ?_)
  refine lv_iconst (v := 0) hx hb dX4_scoreOf_13 (by decide) ?_
  refine lv_istore (lv' := [(4, .int 0), (3, .int x2), (2, .int x1), (0, .ref (ad 0)), (1, .int a1)]) hx hb dX4_scoreOf_14 hl (by decide) rfl (fun ls hl => ?_)
  have hL16 : ∀ (n : Nat) (x3 : Int32) (x4 : Int32) (H : Heap) (locs : List Loc) (ls : Array Slot), lp (fun _ _ => none) (f_X4_scoreOf_L16_b σ a1 x1 ) n x3 x4 = some r → PS ev 13 ad (mw ev ad σ) (inA ad 13) s H locs → lv_has ls 5 [(0, .ref (ad 0)), (1, .int a1), (2, .int x1), (3, .int x3), (4, .int x4)] → WW ev p l e (rmk 7 161) s m args below meth c Qc ad 13 H locs 16 ls [] := by
    intro n
    induction n with
    | zero =>
      intro x3 x4 H locs ls h; exact k_none h
    | succ n ih =>
      intro x3 x4 H locs ls h hP hl
      have h : f_X4_scoreOf_L16_b σ a1 x1  (lp (fun _ _ => none) (f_X4_scoreOf_L16_b σ a1 x1 ) n) x3 x4 = some r := h
      have h := (f_X4_scoreOf_L16_b.eq_1 _ _ _ _ _ _ ).symm.trans h
      refine lv_iload hx hb dX4_scoreOf_16 (lv_at hl 4 rfl) ?_
      refine lv_aload_n hx hb dX4_scoreOf_18 rfl (lv_at hl 0 rfl) ?_
      refine r_get C hP (ci := 4) rfl uin_X4 0 (by decide) 0 (by decide) rfl qFL_RX4_67 rfl rfl dX4_scoreOf_19 ?_
      refine lv_aload_n hx hb dX4_scoreOf_22 rfl (lv_at hl 0 rfl) ?_
      refine r_get C hP (ci := 4) rfl uin_X4 1 (by decide) 0 (by decide) rfl qFL_RX4_70 rfl rfl dX4_scoreOf_23 ?_
      refine lv_imul hx hb dX4_scoreOf_26 ?_
      refine lv_icmp_ge (tgt := 50) hx hb dX4_scoreOf_27 (by decide) (fun c27 => ?_) (fun c27 => ?_)
      · have h := k_if c27 h
        refine lv_iload_n hx hb dX4_scoreOf_50 rfl (lv_at hl 3 rfl) ?_
        exact e_iret C hend hP (k_some h) rfl dX4_scoreOf_51
      · have h := k_nf c27 h
        refine lv_aload_n hx hb dX4_scoreOf_30 rfl (lv_at hl 0 rfl) ?_
        refine lv_iload hx hb dX4_scoreOf_31 (lv_at hl 4 rfl) ?_
        refine lv_iload_n hx hb dX4_scoreOf_33 rfl (lv_at hl 2 rfl) ?_
        obtain ⟨x5, h1, h⟩ := k_ob h
        refine k_callVi C hP hap hAA (c_X4_colour l ev ad σ x4 x1   _ h1) Emb.same hap gz_X4_colour qML_RX4_202 qIM_yX4_colour qSE_yX4_colour ⟨(Nat.le_of_ble_eq_true rfl), (Nat.le_of_ble_eq_true rfl)⟩ (q0 := 0) rfl (by decide) rfl rfl rfl rfl hl.1 rfl (Nat.le_of_ble_eq_true rfl) dX4_scoreOf_34 ⟨Nat.le_refl _, Nat.le_refl _⟩ (fun H locs hP => ?_)
        refine lv_iload_n hx hb dX4_scoreOf_37 rfl (lv_at hl 1 rfl) ?_
        refine lv_icmp_ne (tgt := 44) hx hb dX4_scoreOf_38 (by decide) (fun c38 => ?_) (fun c38 => ?_)
        · have h := k_nf c38 h
          obtain ⟨x6, ex6, h⟩ := k_ltx h
          refine lv_iinc (v := x6) (lv' := [(4, .int x6), (0, .ref (ad 0)), (1, .int a1), (2, .int x1), (3, .int x3)]) hx hb dX4_scoreOf_44 hl (k := 4) rfl (by rw [ex6]; rfl) (by decide) rfl (fun ls hl => ?_)
          refine lv_goto (tgt := 16) hx hb dX4_scoreOf_47 (by decide) ?_
          exact ih _ _ _ _ _ h hP (lv_sub hl [1, 2, 3, 4, 0] rfl)
        · have h := k_if c38 h
          obtain ⟨x7, ex7, h⟩ := k_ltx h
          refine lv_iinc (v := x7) (lv' := [(3, .int x7), (0, .ref (ad 0)), (1, .int a1), (2, .int x1), (4, .int x4)]) hx hb dX4_scoreOf_41 hl (k := 3) rfl (by rw [ex7]; rfl) (by decide) rfl (fun ls hl => ?_)
          obtain ⟨x8, ex8, h⟩ := k_ltx h
          refine lv_iinc (v := x8) (lv' := [(4, .int x8), (3, .int x7), (0, .ref (ad 0)), (1, .int a1), (2, .int x1)]) hx hb dX4_scoreOf_44 hl (k := 4) rfl (by rw [ex8]; rfl) (by decide) rfl (fun ls hl => ?_)
          refine lv_goto (tgt := 16) hx hb dX4_scoreOf_47 (by decide) ?_
          exact ih _ _ _ _ _ h hP (lv_sub hl [2, 3, 4, 1, 0] rfl)
  exact hL16 FU _ _ _ _ _ h hP (lv_sub hl [3, 4, 2, 1, 0] rfl)
def f_X4_leadOf (σ : MM) (a1 : Int32) : Option (Int32) :=
  ob (f_X4_scoreOf σ a1) (fun x1 => ob (f_X4_scoreOf σ (1 - a1)) (fun x2 => some (x1 - x2)))
set_option maxHeartbeats 4000000 in
set_option maxRecDepth 100000 in
theorem c_X4_leadOf (l : Launch) (ev : EV) (ad : Nat → Nat) (σ : MM) (a1 : Int32)   (r : Int32)  (h : f_X4_leadOf σ a1 = some r) : Ct l yX4_leadOf prog_6_method_57_code 2 (Option.some Jvm.ClassFile.FieldType.int) (rmk 8 185) ev 13 ad (mw ev ad σ) (mw ev ad σ) [.ref (ad 0), .int a1] (some (.int r)) := by
  refine Ct.of (by decide +kernel) (Nat.le_of_ble_eq_true rfl) ?_
  intro p e s m args below meth c Qc C hap hP hend ls hl
  have hAA : ∀ j, j < 13 → inA ad 13 (ad j) := fun j hj => ⟨j, hj, rfl⟩
  have hx := C.1
  have hb := C.2.1
  have hl : lv_has ls 2 [(0, .ref (ad 0)), (1, .int a1)] := hl
  have h := (f_X4_leadOf.eq_1 _ _ ).symm.trans h
  refine lv_aload_n hx hb dX4_leadOf_0 rfl (lv_at hl 0 rfl) ?_
  refine lv_iload_n hx hb dX4_leadOf_1 rfl (lv_at hl 1 rfl) ?_
  obtain ⟨x1, h1, h⟩ := k_ob h
  refine k_callVi C hP hap hAA (c_X4_scoreOf l ev ad σ a1   _ h1) Emb.same hap gz_X4_scoreOf qML_RX4_223 qIM_yX4_scoreOf qSE_yX4_scoreOf ⟨(Nat.le_of_ble_eq_true rfl), (Nat.le_of_ble_eq_true rfl)⟩ (q0 := 0) rfl (by decide) rfl rfl rfl rfl hl.1 rfl (Nat.le_of_ble_eq_true rfl) dX4_leadOf_2 ⟨Nat.le_refl _, Nat.le_refl _⟩ (fun H locs hP => ?_)
  refine lv_aload_n hx hb dX4_leadOf_5 rfl (lv_at hl 0 rfl) ?_
  refine lv_iconst (v := 1) hx hb dX4_leadOf_6 (by decide) ?_
  refine lv_iload_n hx hb dX4_leadOf_7 rfl (lv_at hl 1 rfl) ?_
  refine lv_isub hx hb dX4_leadOf_8 ?_
  obtain ⟨x2, h1, h⟩ := k_ob h
  refine k_callVi C hP hap hAA (c_X4_scoreOf l ev ad σ (1 - a1)   _ h1) Emb.same hap gz_X4_scoreOf qML_RX4_223 qIM_yX4_scoreOf qSE_yX4_scoreOf ⟨(Nat.le_of_ble_eq_true rfl), (Nat.le_of_ble_eq_true rfl)⟩ (q0 := 0) rfl (by decide) rfl rfl rfl rfl hl.1 rfl (Nat.le_of_ble_eq_true rfl) dX4_leadOf_9 ⟨Nat.le_refl _, Nat.le_refl _⟩ (fun H locs hP => ?_)
  refine lv_isub hx hb dX4_leadOf_12 ?_
  exact e_iret C hend hP (k_some h) rfl dX4_leadOf_13
def f_X4_score (σ : MM) (a1 : Int32) : Option (Int32 × MM) :=
  if (f_X4_within a1 0 1) = true then ob (f_X4_scoreOf σ a1) (fun x3 => some (x3, σ)) else ob2 (f_X4_no σ (-2)) (fun x2 σ1 => some (x2, σ1))
set_option maxHeartbeats 4000000 in
set_option maxRecDepth 100000 in
theorem c_X4_score (l : Launch) (ev : EV) (ad : Nat → Nat) (σ : MM) (a1 : Int32)   (r : Int32) (σ' : MM) (h : f_X4_score σ a1 = some (r, σ')) : Ct l yX4_score prog_6_method_58_code 2 (Option.some Jvm.ClassFile.FieldType.int) (rmk 8 185) ev 13 ad (mw ev ad σ) (mw ev ad σ') [.ref (ad 0), .int a1] (some (.int r)) := by
  refine Ct.of (by decide +kernel) (Nat.le_of_ble_eq_true rfl) ?_
  intro p e s m args below meth c Qc C hap hP hend ls hl
  have hAA : ∀ j, j < 13 → inA ad 13 (ad j) := fun j hj => ⟨j, hj, rfl⟩
  have hx := C.1
  have hb := C.2.1
  have hl : lv_has ls 2 [(0, .ref (ad 0)), (1, .int a1)] := hl
  have h := (f_X4_score.eq_1 _ _ ).symm.trans h
  refine lv_iload_n hx hb dX4_score_0 rfl (lv_at hl 1 rfl) ?_
  refine lv_iconst (v := 0) hx hb dX4_score_1 (by decide) ?_
  refine lv_iconst (v := 1) hx hb dX4_score_2 (by decide) ?_
  refine k_callSi C hP hap hAA (c_X4_within l ev ad a1 0 1   _ rfl) Emb.none (apart_0 _) gz_X4_within qML_RX4_63 qSM_yX4_within ⟨(Nat.le_of_ble_eq_true rfl), (Nat.le_of_ble_eq_true rfl)⟩ rfl hl.1 rfl (Nat.le_of_ble_eq_true rfl) dX4_score_3 ⟨Nat.le_refl _, Nat.le_refl _⟩ (fun H locs hP => ?_)
  refine r_ifz_eq (tgt := 17) hx hb dX4_score_6 (by decide) (fun c6 => ?_) (fun c6 => ?_)
  · have h := k_nf c6 h
    refine lv_aload_n hx hb dX4_score_17 rfl (lv_at hl 0 rfl) ?_
    refine lv_bipush (v := (-2)) hx hb dX4_score_18 (by decide) ?_
    obtain ⟨x2, σ1, h1, h⟩ := k_ob2 h
    refine k_callVi C hP hap hAA (c_X4_no l ev ad σ (-2)   _ _ h1) Emb.same hap gz_X4_no qML_RX4_56 qIM_yX4_no qSE_yX4_no ⟨(Nat.le_of_ble_eq_true rfl), (Nat.le_of_ble_eq_true rfl)⟩ (q0 := 0) rfl (by decide) rfl rfl rfl rfl hl.1 rfl (Nat.le_of_ble_eq_true rfl) dX4_score_20 ⟨Nat.le_refl _, Nat.le_refl _⟩ (fun H locs hP => ?_)
    exact e_iret C hend hP (k_some2 h).1 (congrArg (mw ev ad) (k_some2 h).2) dX4_score_23
  · have h := k_if c6 h
    refine lv_aload_n hx hb dX4_score_9 rfl (lv_at hl 0 rfl) ?_
    refine lv_iload_n hx hb dX4_score_10 rfl (lv_at hl 1 rfl) ?_
    obtain ⟨x3, h1, h⟩ := k_ob h
    refine k_callVi C hP hap hAA (c_X4_scoreOf l ev ad σ a1   _ h1) Emb.same hap gz_X4_scoreOf qML_RX4_223 qIM_yX4_scoreOf qSE_yX4_scoreOf ⟨(Nat.le_of_ble_eq_true rfl), (Nat.le_of_ble_eq_true rfl)⟩ (q0 := 0) rfl (by decide) rfl rfl rfl rfl hl.1 rfl (Nat.le_of_ble_eq_true rfl) dX4_score_11 ⟨Nat.le_refl _, Nat.le_refl _⟩ (fun H locs hP => ?_)
    refine lv_goto (tgt := 23) hx hb dX4_score_14 (by decide) ?_
    exact e_iret C hend hP (k_some2 h).1 (congrArg (mw ev ad) (k_some2 h).2) dX4_score_23
