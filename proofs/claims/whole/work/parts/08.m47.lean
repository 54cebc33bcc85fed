/-! functions read off, and their contracts: by program (wip/whole/gen2.py) -/
def f_X4_ditchOf_L33_b (σ : MM) (x2 : Int32) (x5 : Int32) (k88 : Int32 → Option (Int32)) (rec33 : Int32 → Int32 → Option (Int32)) (x6 : Int32) (x7 : Int32) : Option (Int32) :=
  if 4 ≤ x7 then k88 x6 else ob (f_X4_beside σ x5 x7) (fun x8 => if ((ishr x2 x5) &&& 1) = 1 then if x8 = (-1) then lt (x7 + 1) (fun x10 => rec33 x6 x10) else gd (inb x8 16) (if ((m_dug σ) (Int32.toNatClampNeg x8)) = 0 then lt (x7 + 1) (fun x11 => rec33 x6 x11) else lt (x6 ||| (ishl 1 x8)) (fun x12 => lt (x7 + 1) (fun x13 => rec33 x12 x13))) else lt (x7 + 1) (fun x9 => rec33 x6 x9))
def f_X4_ditchOf_L33 (σ : MM) (x2 : Int32) (x5 : Int32) (k88 : Int32 → Option (Int32)) (x6 : Int32) (x7 : Int32) : Option (Int32) :=
  lp (fun _ _ => none) (f_X4_ditchOf_L33_b σ x2 x5 k88) FU x6 x7
def f_X4_ditchOf_L16_b (σ : MM) (x2 : Int32) (k94 : Int32 → Option (Int32)) (rec16 : Int32 → Int32 → Option (Int32)) (x4 : Int32) (x5 : Int32) : Option (Int32) :=
  if ((m_w σ) * (m_h σ)) ≤ x5 then k94 x4 else f_X4_ditchOf_L33 σ x2 x5 (fun x15 => lt (x5 + 1) (fun x16 => rec16 x15 x16)) x4 0
def f_X4_ditchOf_L16 (σ : MM) (x2 : Int32) (k94 : Int32 → Option (Int32)) (x4 : Int32) (x5 : Int32) : Option (Int32) :=
  lp (fun _ _ => none) (f_X4_ditchOf_L16_b σ x2 k94) FU x4 x5
def f_X4_ditchOf_L6_b (σ : MM)  (rec6 : Int32 → Int32 → Option (Int32)) (x2 : Int32) (x3 : Int32) : Option (Int32) :=
  if x2 = x3 then some x2 else f_X4_ditchOf_L16 σ x2 (fun x18 => rec6 x18 x2) x2 0
def f_X4_ditchOf_L6 (σ : MM)  (x2 : Int32) (x3 : Int32) : Option (Int32) :=
  lp (fun _ _ => none) (f_X4_ditchOf_L6_b σ ) FU x2 x3
def f_X4_ditchOf (σ : MM) (a1 : Int32) : Option (Int32) :=
  lt (ishl 1 a1) (fun x1 => f_X4_ditchOf_L6 σ x1 0)
set_option maxHeartbeats 4000000 in
set_option maxRecDepth 100000 in
theorem c_X4_ditchOf (l : Launch) (ev : EV) (ad : Nat → Nat) (σ : MM) (a1 : Int32)   (r : Int32)  (h : f_X4_ditchOf σ a1 = some r) : Ct l yX4_ditchOf prog_6_method_51_code 7 (Option.some Jvm.ClassFile.FieldType.int) (rmk 4 89) ev 13 ad (mw ev ad σ) (mw ev ad σ) [.ref (ad 0), .int a1] (some (.int r)) := by
  refine Ct.of (by decide +kernel) (Nat.le_of_ble_eq_true rfl) ?_
  intro p e s m args below meth c Qc C hap hP hend ls hl
  have hAA : ∀ j, j < 13 → inA ad 13 (ad j) := fun j hj => ⟨j, hj, rfl⟩
  have hx := C.1
  have hb := C.2.1
  have hl : lv_has ls 7 [(0, .ref (ad 0)), (1, .int a1)] := hl
  have h := (f_X4_ditchOf.eq_1 _ _ ).symm.trans h
  refine lv_iconst (v := 1) hx hb dX4_ditchOf_0 (by decide) ?_
  refine lv_iload_n hx hb dX4_ditchOf_1 rfl (lv_at hl 1 rfl) ?_
  refine r_ishl hx hb dX4_ditchOf_2 ?_
  refine lv_topi (fun x1 ex1 => ?_)
  have h := k_lt ex1 h
  refine lv_istore_n (lv' := [(2, .int x1), (0, .ref (ad 0)), (1, .int a1)]) hx hb dX4_ditchOf_3 rfl hl (by decide) rfl (fun ls hl => ?_)
  refine lv_iconst (v := 0) hx hb dX4_ditchOf_4 (by decide) ?_
  refine lv_istore_n (lv' := [(3, .int 0), (2, .int x1), (0, .ref (ad 0)), (1, .int a1)]) hx hb dX4_ditchOf_5 rfl hl (by decide) rfl (fun ls hl => ?_)
  have hL6 : ∀ (n : Nat) (x2 : Int32) (x3 : Int32) (H : Heap) (locs : List Loc) (ls : Array Slot), lp (fun _ _ => none) (f_X4_ditchOf_L6_b σ ) n x2 x3 = some r → PS ev 13 ad (mw ev ad σ) (inA ad 13) s H locs → lv_has ls 7 [(0, .ref (ad 0)), (2, .int x2), (3, .int x3)] → WW ev p l e (rmk 4 89) s m args below meth c Qc ad 13 H locs 6 ls [] := by
    intro n
    induction n with
    | zero =>
      intro x2 x3 H locs ls h; exact k_none h
    | succ n ih =>
      intro x2 x3 H locs ls h hP hl
      have h : f_X4_ditchOf_L6_b σ  (lp (fun _ _ => none) (f_X4_ditchOf_L6_b σ ) n) x2 x3 = some r := h
      have h := (f_X4_ditchOf_L6_b.eq_1 _ _ _ _ ).symm.trans h
      refine lv_iload_n hx hb dX4_ditchOf_6 rfl (lv_at hl 1 rfl) ?_
      refine lv_iload_n hx hb dX4_ditchOf_7 rfl (lv_at hl 2 rfl) ?_
      refine lv_icmp_eq (tgt := 97) hx hb dX4_ditchOf_8 (by decide) (fun c8 => ?_) (fun c8 => ?_)
      · have h := k_if c8 h
        refine lv_iload_n hx hb dX4_ditchOf_97 rfl (lv_at hl 1 rfl) ?_
        exact e_iret C hend hP (k_some h) rfl dX4_ditchOf_98
      · have h := k_nf c8 h
        refine lv_iload_n hx hb dX4_ditchOf_11 rfl (lv_at hl 1 rfl) ?_
        refine lv_istore_n (lv' := [(3, .int x2), (0, .ref (ad 0)), (2, .int x2)]) hx hb dX4_ditchOf_12 rfl hl (by decide) rfl (fun ls hl => ?_)
        refine lv_iconst (v := 0) hx hb dX4_ditchOf_13 (by decide) ?_
        refine lv_istore (lv' := [(4, .int 0), (3, .int x2), (0, .ref (ad 0)), (2, .int x2)]) hx hb dX4_ditchOf_14 hl (by decide) rfl (fun ls hl => ?_)
        have hL16 : ∀ (k94 : Int32 → Option (Int32)) (hk94 : ∀ (z17 : Int32) (H : Heap) (locs : List Loc) (ls : Array Slot), k94 z17 = some r → PS ev 13 ad (mw ev ad σ) (inA ad 13) s H locs → lv_has ls 7 [(0, .ref (ad 0)), (2, .int z17), (3, .int x2)] → WW ev p l e (rmk 4 89) s m args below meth c Qc ad 13 H locs 94 ls []) (n : Nat) (x4 : Int32) (x5 : Int32) (H : Heap) (locs : List Loc) (ls : Array Slot), lp (fun _ _ => none) (f_X4_ditchOf_L16_b σ x2 k94) n x4 x5 = some r → PS ev 13 ad (mw ev ad σ) (inA ad 13) s H locs → lv_has ls 7 [(0, .ref (ad 0)), (2, .int x4), (3, .int x2), (4, .int x5)] → WW ev p l e (rmk 4 89) s m args below meth c Qc ad 13 H locs 16 ls [] := by
          intro k94 hk94 n
          induction n with
          | zero =>
            intro x4 x5 H locs ls h; exact k_none h
          | succ n ih =>
            intro x4 x5 H locs ls h hP hl
            have h : f_X4_ditchOf_L16_b σ x2 k94 (lp (fun _ _ => none) (f_X4_ditchOf_L16_b σ x2 k94) n) x4 x5 = some r := h
            have h := (f_X4_ditchOf_L16_b.eq_1 _ _ _ _ _ _ ).symm.trans h
            refine lv_iload hx hb dX4_ditchOf_16 (lv_at hl 3 rfl) ?_
            refine lv_aload_n hx hb dX4_ditchOf_18 rfl (lv_at hl 0 rfl) ?_
            refine r_get C hP (ci := 4) rfl uin_X4 0 (by decide) 0 (by decide) rfl qFL_RX4_67 rfl rfl dX4_ditchOf_19 ?_
            refine lv_aload_n hx hb dX4_ditchOf_22 rfl (lv_at hl 0 rfl) ?_
            refine r_get C hP (ci := 4) rfl uin_X4 1 (by decide) 0 (by decide) rfl qFL_RX4_70 rfl rfl dX4_ditchOf_23 ?_
            refine lv_imul hx hb dX4_ditchOf_26 ?_
            refine lv_icmp_ge (tgt := 94) hx hb dX4_ditchOf_27 (by decide) (fun c27 => ?_) (fun c27 => ?_)
            · have h := k_if c27 h
              exact hk94 _ _ _ _ h hP (lv_sub hl [0, 1, 2] rfl)
            · have h := k_nf c27 h
              refine lv_iconst (v := 0) hx hb dX4_ditchOf_30 (by decide) ?_
              refine lv_istore (lv' := [(5, .int 0), (0, .ref (ad 0)), (2, .int x4), (3, .int x2), (4, .int x5)]) hx hb dX4_ditchOf_31 hl (by decide) rfl (fun ls hl => ?_)
              have hL33 : ∀ (k88 : Int32 → Option (Int32)) (hk88 : ∀ (z14 : Int32) (H : Heap) (locs : List Loc) (ls : Array Slot), k88 z14 = some r → PS ev 13 ad (mw ev ad σ) (inA ad 13) s H locs → lv_has ls 7 [(0, .ref (ad 0)), (2, .int z14), (3, .int x2), (4, .int x5)] → WW ev p l e (rmk 4 89) s m args below meth c Qc ad 13 H locs 88 ls []) (n : Nat) (x6 : Int32) (x7 : Int32) (H : Heap) (locs : List Loc) (ls : Array Slot), lp (fun _ _ => none) (f_X4_ditchOf_L33_b σ x2 x5 k88) n x6 x7 = some r → PS ev 13 ad (mw ev ad σ) (inA ad 13) s H locs → lv_has ls 7 [(0, .ref (ad 0)), (2, .int x6), (3, .int x2), (4, .int x5), (5, .int x7)] → WW ev p l e (rmk 4 89) s m args below meth c Qc ad 13 H locs 33 ls [] := by
                intro k88 hk88 n
                induction n with
                | zero =>
                  intro x6 x7 H locs ls h; exact k_none h
                | succ n ih =>
                  intro x6 x7 H locs ls h hP hl
                  have h : f_X4_ditchOf_L33_b σ x2 x5 k88 (lp (fun _ _ => none) (f_X4_ditchOf_L33_b σ x2 x5 k88) n) x6 x7 = some r := h
                  have h := (f_X4_ditchOf_L33_b.eq_1 _ _ _ _ _ _ _ ).symm.trans h
                  refine lv_iload hx hb dX4_ditchOf_33 (lv_at hl 4 rfl) ?_
                  refine lv_iconst (v := 4) hx hb dX4_ditchOf_35 (by decide) ?_
                  refine lv_icmp_ge (tgt := 88) hx hb dX4_ditchOf_36 (by decide) (fun c36 => ?_) (fun c36 => ?_)
                  · have h := k_if c36 h
                    exact hk88 _ _ _ _ h hP (lv_sub hl [0, 1, 2, 3] rfl)
                  · have h := k_nf c36 h
                    refine lv_aload_n hx hb dX4_ditchOf_39 rfl (lv_at hl 0 rfl) ?_
                    refine lv_iload hx hb dX4_ditchOf_40 (lv_at hl 3 rfl) ?_
                    refine lv_iload hx hb dX4_ditchOf_42 (lv_at hl 4 rfl) ?_
                    obtain ⟨x8, h1, h⟩ := k_ob h
                    refine k_callVi C hP hap hAA (c_X4_beside l ev ad σ x5 x7   _ h1) Emb.same hap gz_X4_beside qML_RX4_211 qIM_yX4_beside qSE_yX4_beside ⟨(Nat.le_of_ble_eq_true rfl), (Nat.le_of_ble_eq_true rfl)⟩ (q0 := 0) rfl (by decide) rfl rfl rfl rfl hl.1 rfl (Nat.le_of_ble_eq_true rfl) dX4_ditchOf_44 ⟨Nat.le_refl _, Nat.le_refl _⟩ (fun H locs hP => ?_)
                    refine lv_istore (lv' := [(6, .int x8), (0, .ref (ad 0)), (2, .int x6), (3, .int x2), (4, .int x5), (5, .int x7)]) hx hb dX4_ditchOf_47 hl (by decide) rfl (fun ls hl => ?_)
                    refine lv_iload_n hx hb dX4_ditchOf_49 rfl (lv_at hl 3 rfl) ?_
                    refine lv_iload hx hb dX4_ditchOf_50 (lv_at hl 4 rfl) ?_
                    refine r_ishr hx hb dX4_ditchOf_52 ?_
                    refine lv_iconst (v := 1) hx hb dX4_ditchOf_53 (by decide) ?_
                    refine lv_iand hx hb dX4_ditchOf_54 ?_
                    refine lv_iconst (v := 1) hx hb dX4_ditchOf_55 (by decide) ?_
                    refine lv_icmp_ne (tgt := 82) hx hb dX4_ditchOf_56 (by decide) (fun c56 => ?_) (fun c56 => ?_)
                    · have h := k_nf c56 h
                      obtain ⟨x9, ex9, h⟩ := k_ltx h
                      refine lv_iinc (v := x9) (lv' := [(5, .int x9), (6, .int x8), (0, .ref (ad 0)), (2, .int x6), (3, .int x2), (4, .int x5)]) hx hb dX4_ditchOf_82 hl (k := 5) rfl (by rw [ex9]; rfl) (by decide) rfl (fun ls hl => ?_)
                      refine lv_goto (tgt := 33) hx hb dX4_ditchOf_85 (by decide) ?_
                      exact ih _ _ _ _ _ h hP (lv_sub hl [2, 3, 4, 5, 0] rfl)
                    · have h := k_if c56 h
                      refine lv_iload hx hb dX4_ditchOf_59 (lv_at hl 0 rfl) ?_
                      refine lv_iconst (v := (-1)) hx hb dX4_ditchOf_61 (by decide) ?_
                      refine lv_icmp_eq (tgt := 82) hx hb dX4_ditchOf_62 (by decide) (fun c62 => ?_) (fun c62 => ?_)
                      · have h := k_if c62 h
                        obtain ⟨x10, ex10, h⟩ := k_ltx h
                        refine lv_iinc (v := x10) (lv' := [(5, .int x10), (6, .int x8), (0, .ref (ad 0)), (2, .int x6), (3, .int x2), (4, .int x5)]) hx hb dX4_ditchOf_82 hl (k := 5) rfl (by rw [ex10]; rfl) (by decide) rfl (fun ls hl => ?_)
                        refine lv_goto (tgt := 33) hx hb dX4_ditchOf_85 (by decide) ?_
                        exact ih _ _ _ _ _ h hP (lv_sub hl [2, 3, 4, 5, 0] rfl)
                      · have h := k_nf c62 h
                        refine lv_aload_n hx hb dX4_ditchOf_65 rfl (lv_at hl 1 rfl) ?_
                        refine r_get C hP (ci := 4) rfl uin_X4 3 (by decide) 0 (by decide) rfl qFL_RX4_13 rfl rfl dX4_ditchOf_66 ?_
                        refine lv_iload hx hb dX4_ditchOf_69 (lv_at hl 0 rfl) ?_
                        obtain ⟨hg, h⟩ := k_gd h
                        refine r_zald C hP 2 (by decide) rfl hg dX4_ditchOf_71 ?_
                        refine lv_if_eq (tgt := 82) hx hb dX4_ditchOf_72 (by decide) (fun c72 => ?_) (fun c72 => ?_)
                        · have h := k_if c72 h
                          obtain ⟨x11, ex11, h⟩ := k_ltx h
                          refine lv_iinc (v := x11) (lv' := [(5, .int x11), (6, .int x8), (0, .ref (ad 0)), (2, .int x6), (3, .int x2), (4, .int x5)]) hx hb dX4_ditchOf_82 hl (k := 5) rfl (by rw [ex11]; rfl) (by decide) rfl (fun ls hl => ?_)
                          refine lv_goto (tgt := 33) hx hb dX4_ditchOf_85 (by decide) ?_
                          exact ih _ _ _ _ _ h hP (lv_sub hl [2, 3, 4, 5, 0] rfl)
                        · have h := k_nf c72 h
                          refine lv_iload_n hx hb dX4_ditchOf_75 rfl (lv_at hl 2 rfl) ?_
                          refine lv_iconst (v := 1) hx hb dX4_ditchOf_76 (by decide) ?_
                          refine lv_iload hx hb dX4_ditchOf_77 (lv_at hl 0 rfl) ?_
                          refine r_ishl hx hb dX4_ditchOf_79 ?_
                          refine lv_ior hx hb dX4_ditchOf_80 ?_
                          refine lv_topi (fun x12 ex12 => ?_)
                          have h := k_lt ex12 h
                          refine lv_istore_n (lv' := [(2, .int x12), (6, .int x8), (0, .ref (ad 0)), (3, .int x2), (4, .int x5), (5, .int x7)]) hx hb dX4_ditchOf_81 rfl hl (by decide) rfl (fun ls hl => ?_)
                          obtain ⟨x13, ex13, h⟩ := k_ltx h
                          refine lv_iinc (v := x13) (lv' := [(5, .int x13), (2, .int x12), (6, .int x8), (0, .ref (ad 0)), (3, .int x2), (4, .int x5)]) hx hb dX4_ditchOf_82 hl (k := 5) rfl (by rw [ex13]; rfl) (by decide) rfl (fun ls hl => ?_)
                          refine lv_goto (tgt := 33) hx hb dX4_ditchOf_85 (by decide) ?_
                          exact ih _ _ _ _ _ h hP (lv_sub hl [3, 1, 4, 5, 0] rfl)
              refine hL33 _ (fun x15 H locs ls h hP hl => ?_) FU _ _ _ _ _ h hP (lv_sub hl [1, 2, 3, 4, 0] rfl)
              obtain ⟨x16, ex16, h⟩ := k_ltx h
              refine lv_iinc (v := x16) (lv' := [(4, .int x16), (0, .ref (ad 0)), (2, .int x15), (3, .int x2)]) hx hb dX4_ditchOf_88 hl (k := 3) rfl (by rw [ex16]; rfl) (by decide) rfl (fun ls hl => ?_)
              refine lv_goto (tgt := 16) hx hb dX4_ditchOf_91 (by decide) ?_
              exact ih _ _ _ _ _ h hP (lv_sub hl [1, 2, 3, 0] rfl)
        refine hL16 _ (fun x18 H locs ls h hP hl => ?_) FU _ _ _ _ _ h hP (lv_sub hl [2, 3, 1, 0] rfl)
        refine lv_goto (tgt := 6) hx hb dX4_ditchOf_94 (by decide) ?_
        exact ih _ _ _ _ _ h hP (lv_sub hl [0, 1, 2] rfl)
  exact hL6 FU _ _ _ _ _ h hP (lv_sub hl [2, 1, 0] rfl)
def f_X4_isOpen_L17_b (σ : MM) (a1 : Int32) (x1 : Int32) (k66 : Option (Bool)) (rec17 : Int32 → Option (Bool)) (x2 : Int32) : Option (Bool) :=
  if 4 ≤ x2 then k66 else if ((ishr a1 x1) &&& 1) = 1 then ob (f_X4_edge σ x1 x2) (fun x4 => ob (f_X4_isRim σ x4) (fun b5 => if b5 = true then ob (f_X4_edge σ x1 x2) (fun x7 => gd (inb x7 40) (if ((m_hedge σ) (Int32.toNatClampNeg x7)) = 0 then some true else lt (x2 + 1) (fun x8 => rec17 x8))) else lt (x2 + 1) (fun x6 => rec17 x6))) else lt (x2 + 1) (fun x3 => rec17 x3)
def f_X4_isOpen_L17 (σ : MM) (a1 : Int32) (x1 : Int32) (k66 : Option (Bool)) (x2 : Int32) : Option (Bool) :=
  lp (fun _ => none) (f_X4_isOpen_L17_b σ a1 x1 k66) FU x2
def f_X4_isOpen_L2_b (σ : MM) (a1 : Int32)  (rec2 : Int32 → Option (Bool)) (x1 : Int32) : Option (Bool) :=
  if ((m_w σ) * (m_h σ)) ≤ x1 then some false else f_X4_isOpen_L17 σ a1 x1 (lt (x1 + 1) (fun x9 => rec2 x9)) 0
def f_X4_isOpen_L2 (σ : MM) (a1 : Int32)  (x1 : Int32) : Option (Bool) :=
  lp (fun _ => none) (f_X4_isOpen_L2_b σ a1 ) FU x1
def f_X4_isOpen (σ : MM) (a1 : Int32) : Option (Bool) :=
  f_X4_isOpen_L2 σ a1 0
set_option maxHeartbeats 4000000 in
set_option maxRecDepth 100000 in
theorem c_X4_isOpen (l : Launch) (ev : EV) (ad : Nat → Nat) (σ : MM) (a1 : Int32)   (r : Bool)  (h : f_X4_isOpen σ a1 = some r) : Ct l yX4_isOpen prog_6_method_52_code 4 (Option.some Jvm.ClassFile.FieldType.boolean) (rmk 4 88) ev 13 ad (mw ev ad σ) (mw ev ad σ) [.ref (ad 0), .int a1] (some (.int (bi r))) := by
  refine Ct.of (by decide +kernel) (Nat.le_of_ble_eq_true rfl) ?_
  intro p e s m args below meth c Qc C hap hP hend ls hl
  have hAA : ∀ j, j < 13 → inA ad 13 (ad j) := fun j hj => ⟨j, hj, rfl⟩
  have hx := C.1
  have hb := C.2.1
  have hl : lv_has ls 4 [(0, .ref (ad 0)), (1, .int a1)] := hl
  have h := (f_X4_isOpen.eq_1 _ _ ).symm.trans h
  refine lv_iconst (v := 0) hx hb dX4_isOpen_0 (by decide) ?_
  refine lv_istore_n (lv' := [(2, .int 0), (0, .ref (ad 0)), (1, .int a1)]) hx hb dX4_isOpen_1 rfl hl (by decide) rfl (fun ls hl => ?_)
  have hL2 : ∀ (n : Nat) (x1 : Int32) (H : Heap) (locs : List Loc) (ls : Array Slot), lp (fun _ => none) (f_X4_isOpen_L2_b σ a1 ) n x1 = some r → PS ev 13 ad (mw ev ad σ) (inA ad 13) s H locs → lv_has ls 4 [(0, .ref (ad 0)), (1, .int a1), (2, .int x1)] → WW ev p l e (rmk 4 88) s m args below meth c Qc ad 13 H locs 2 ls [] := by
    intro n
    induction n with
    | zero =>
      intro x1 H locs ls h; exact k_none h
    | succ n ih =>
      intro x1 H locs ls h hP hl
      have h : f_X4_isOpen_L2_b σ a1  (lp (fun _ => none) (f_X4_isOpen_L2_b σ a1 ) n) x1 = some r := h
      have h := (f_X4_isOpen_L2_b.eq_1 _ _ _ _ ).symm.trans h
      refine lv_iload_n hx hb dX4_isOpen_2 rfl (lv_at hl 2 rfl) ?_
      refine lv_aload_n hx hb dX4_isOpen_3 rfl (lv_at hl 0 rfl) ?_
      refine r_get C hP (ci := 4) rfl uin_X4 0 (by decide) 0 (by decide) rfl qFL_RX4_67 rfl rfl dX4_isOpen_4 ?_
      refine lv_aload_n hx hb dX4_isOpen_7 rfl (lv_at hl 0 rfl) ?_
      refine r_get C hP (ci := 4) rfl uin_X4 1 (by decide) 0 (by decide) rfl qFL_RX4_70 rfl rfl dX4_isOpen_8 ?_
      refine lv_imul hx hb dX4_isOpen_11 ?_
      refine lv_icmp_ge (tgt := 72) hx hb dX4_isOpen_12 (by decide) (fun c12 => ?_) (fun c12 => ?_)
      · have h := k_if c12 h
        refine lv_iconst (v := 0) hx hb dX4_isOpen_72 (by decide) ?_
        exact e_zret C hend hP (k_some h) rfl dX4_isOpen_73 rfl
      · have h := k_nf c12 h
        refine lv_iconst (v := 0) hx hb dX4_isOpen_15 (by decide) ?_
        refine lv_istore_n (lv' := [(3, .int 0), (0, .ref (ad 0)), (1, .int a1), (2, .int x1)]) hx hb dX4_isOpen_16 rfl hl (by decide) rfl (fun ls hl => ?_)
        have hL17 : ∀ (k66 : Option (Bool)) (hk66 : ∀  (H : Heap) (locs : List Loc) (ls : Array Slot), k66  = some r → PS ev 13 ad (mw ev ad σ) (inA ad 13) s H locs → lv_has ls 4 [(0, .ref (ad 0)), (1, .int a1), (2, .int x1)] → WW ev p l e (rmk 4 88) s m args below meth c Qc ad 13 H locs 66 ls []) (n : Nat) (x2 : Int32) (H : Heap) (locs : List Loc) (ls : Array Slot), lp (fun _ => none) (f_X4_isOpen_L17_b σ a1 x1 k66) n x2 = some r → PS ev 13 ad (mw ev ad σ) (inA ad 13) s H locs → lv_has ls 4 [(0, .ref (ad 0)), (1, .int a1), (2, .int x1), (3, .int x2)] → WW ev p l e (rmk 4 88) s m args below meth c Qc ad 13 H locs 17 ls [] := by
          intro k66 hk66 n
          induction n with
          | zero =>
            intro x2 H locs ls h; exact k_none h
          | succ n ih =>
            intro x2 H locs ls h hP hl
            have h : f_X4_isOpen_L17_b σ a1 x1 k66 (lp (fun _ => none) (f_X4_isOpen_L17_b σ a1 x1 k66) n) x2 = some r := h
            have h := (f_X4_isOpen_L17_b.eq_1 _ _ _ _ _ _ ).symm.trans h
            refine lv_iload_n hx hb dX4_isOpen_17 rfl (lv_at hl 3 rfl) ?_
            refine lv_iconst (v := 4) hx hb dX4_isOpen_18 (by decide) ?_
            refine lv_icmp_ge (tgt := 66) hx hb dX4_isOpen_19 (by decide) (fun c19 => ?_) (fun c19 => ?_)
            · have h := k_if c19 h
              exact hk66 _ _ _ h hP (lv_sub hl [0, 1, 2] rfl)
            · have h := k_nf c19 h
              refine lv_iload_n hx hb dX4_isOpen_22 rfl (lv_at hl 1 rfl) ?_
              refine lv_iload_n hx hb dX4_isOpen_23 rfl (lv_at hl 2 rfl) ?_
              refine r_ishr hx hb dX4_isOpen_24 ?_
              refine lv_iconst (v := 1) hx hb dX4_isOpen_25 (by decide) ?_
              refine lv_iand hx hb dX4_isOpen_26 ?_
              refine lv_iconst (v := 1) hx hb dX4_isOpen_27 (by decide) ?_
              refine lv_icmp_ne (tgt := 60) hx hb dX4_isOpen_28 (by decide) (fun c28 => ?_) (fun c28 => ?_)
              · have h := k_nf c28 h
                obtain ⟨x3, ex3, h⟩ := k_ltx h
                refine lv_iinc (v := x3) (lv' := [(3, .int x3), (0, .ref (ad 0)), (1, .int a1), (2, .int x1)]) hx hb dX4_isOpen_60 hl (k := 3) rfl (by rw [ex3]; rfl) (by decide) rfl (fun ls hl => ?_)
                refine lv_goto (tgt := 17) hx hb dX4_isOpen_63 (by decide) ?_
                exact ih _ _ _ _ h hP (lv_sub hl [1, 2, 3, 0] rfl)
              · have h := k_if c28 h
                refine lv_aload_n hx hb dX4_isOpen_31 rfl (lv_at hl 0 rfl) ?_
                refine lv_aload_n hx hb dX4_isOpen_32 rfl (lv_at hl 0 rfl) ?_
                refine lv_iload_n hx hb dX4_isOpen_33 rfl (lv_at hl 2 rfl) ?_
                refine lv_iload_n hx hb dX4_isOpen_34 rfl (lv_at hl 3 rfl) ?_
                obtain ⟨x4, h1, h⟩ := k_ob h
                refine k_callVi C hP hap hAA (c_X4_edge l ev ad σ x1 x2   _ h1) Emb.same hap gz_X4_edge qML_RX4_122 qIM_yX4_edge qSE_yX4_edge ⟨(Nat.le_of_ble_eq_true rfl), (Nat.le_of_ble_eq_true rfl)⟩ (q0 := 0) rfl (by decide) rfl rfl rfl rfl hl.1 rfl (Nat.le_of_ble_eq_true rfl) dX4_isOpen_35 ⟨Nat.le_refl _, Nat.le_refl _⟩ (fun H locs hP => ?_)
                obtain ⟨b5, h1, h⟩ := k_ob h
                refine k_callVi C hP hap hAA (c_X4_isRim l ev ad σ x4   _ h1) Emb.same hap gz_X4_isRim qML_RX4_125 qIM_yX4_isRim qSE_yX4_isRim ⟨(Nat.le_of_ble_eq_true rfl), (Nat.le_of_ble_eq_true rfl)⟩ (q0 := 0) rfl (by decide) rfl rfl rfl rfl hl.1 rfl (Nat.le_of_ble_eq_true rfl) dX4_isOpen_38 ⟨Nat.le_refl _, Nat.le_refl _⟩ (fun H locs hP => ?_)
                refine r_ifz_eq (tgt := 60) hx hb dX4_isOpen_41 (by decide) (fun c41 => ?_) (fun c41 => ?_)
                · have h := k_nf c41 h
                  obtain ⟨x6, ex6, h⟩ := k_ltx h
                  refine lv_iinc (v := x6) (lv' := [(3, .int x6), (0, .ref (ad 0)), (1, .int a1), (2, .int x1)]) hx hb dX4_isOpen_60 hl (k := 3) rfl (by rw [ex6]; rfl) (by decide) rfl (fun ls hl => ?_)
                  refine lv_goto (tgt := 17) hx hb dX4_isOpen_63 (by decide) ?_
                  exact ih _ _ _ _ h hP (lv_sub hl [1, 2, 3, 0] rfl)
                · have h := k_if c41 h
                  refine lv_aload_n hx hb dX4_isOpen_44 rfl (lv_at hl 0 rfl) ?_
                  refine r_get C hP (ci := 4) rfl uin_X4 2 (by decide) 0 (by decide) rfl qFL_RX4_7 rfl rfl dX4_isOpen_45 ?_
                  refine lv_aload_n hx hb dX4_isOpen_48 rfl (lv_at hl 0 rfl) ?_
                  refine lv_iload_n hx hb dX4_isOpen_49 rfl (lv_at hl 2 rfl) ?_
                  refine lv_iload_n hx hb dX4_isOpen_50 rfl (lv_at hl 3 rfl) ?_
                  obtain ⟨x7, h1, h⟩ := k_ob h
                  refine k_callVi C hP hap hAA (c_X4_edge l ev ad σ x1 x2   _ h1) Emb.same hap gz_X4_edge qML_RX4_122 qIM_yX4_edge qSE_yX4_edge ⟨(Nat.le_of_ble_eq_true rfl), (Nat.le_of_ble_eq_true rfl)⟩ (q0 := 0) rfl (by decide) rfl rfl rfl rfl hl.1 rfl (Nat.le_of_ble_eq_true rfl) dX4_isOpen_51 ⟨Nat.le_refl _, Nat.le_refl _⟩ (fun H locs hP => ?_)
                  obtain ⟨hg, h⟩ := k_gd h
                  refine r_zald C hP 1 (by decide) rfl hg dX4_isOpen_54 ?_
                  refine lv_if_ne (tgt := 60) hx hb dX4_isOpen_55 (by decide) (fun c55 => ?_) (fun c55 => ?_)
                  · have h := k_nf c55 h
                    obtain ⟨x8, ex8, h⟩ := k_ltx h
                    refine lv_iinc (v := x8) (lv' := [(3, .int x8), (0, .ref (ad 0)), (1, .int a1), (2, .int x1)]) hx hb dX4_isOpen_60 hl (k := 3) rfl (by rw [ex8]; rfl) (by decide) rfl (fun ls hl => ?_)
                    refine lv_goto (tgt := 17) hx hb dX4_isOpen_63 (by decide) ?_
                    exact ih _ _ _ _ h hP (lv_sub hl [1, 2, 3, 0] rfl)
                  · have h := k_if c55 h
                    refine lv_iconst (v := 1) hx hb dX4_isOpen_58 (by decide) ?_
                    exact e_zret C hend hP (k_some h) rfl dX4_isOpen_59 rfl
        refine hL17 _ (fun  H locs ls h hP hl => ?_) FU _ _ _ _ h hP (lv_sub hl [1, 2, 3, 0] rfl)
        obtain ⟨x9, ex9, h⟩ := k_ltx h
        refine lv_iinc (v := x9) (lv' := [(2, .int x9), (0, .ref (ad 0)), (1, .int a1)]) hx hb dX4_isOpen_66 hl (k := 2) rfl (by rw [ex9]; rfl) (by decide) rfl (fun ls hl => ?_)
        refine lv_goto (tgt := 2) hx hb dX4_isOpen_69 (by decide) ?_
        exact ih _ _ _ _ h hP (lv_sub hl [1, 2, 0] rfl)
  exact hL2 FU _ _ _ _ h hP (lv_sub hl [1, 2, 0] rfl)
