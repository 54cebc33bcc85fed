/-! functions read off, and their contracts: by program (wip/whole/gen2.py) -/
def f_X3_moveOf (a1 : Int32) : Int32 :=
  if 40 ≤ a1 then ((100 + a1) - 40) else a1
set_option maxHeartbeats 4000000 in
set_option maxRecDepth 100000 in
theorem c_X3_moveOf (l : Launch) (ev : EV) (ad : Nat → Nat) (a1 : Int32)   (r : Int32)  (h : f_X3_moveOf a1 = r) : Ct l yX3_moveOf prog_1_method_67_code 1 (Option.some Jvm.ClassFile.FieldType.int) (rmk 0 0) ev 0 ad w00 w00 [.int a1] (some (.int r)) := by
  refine Ct.of (by decide +kernel) (Nat.le_of_ble_eq_true rfl) ?_
  intro p e s m args below meth c Qc C hap hP hend ls hl
  have hAA : ∀ j, j < 0 → inA ad 0 (ad j) := fun j hj => ⟨j, hj, rfl⟩
  have hx := C.1
  have hb := C.2.1
  have hl : lv_has ls 1 [(0, .int a1)] := hl
  have h := (f_X3_moveOf.eq_1 _ ).symm.trans h
  refine lv_iload_n hx hb dX3_moveOf_0 rfl (lv_at hl 0 rfl) ?_
  refine lv_bipush (v := 40) hx hb dX3_moveOf_1 (by decide) ?_
  refine lv_icmp_ge (tgt := 10) hx hb dX3_moveOf_3 (by decide) (fun c3 => ?_) (fun c3 => ?_)
  · have h := k_if c3 h
    refine lv_bipush (v := 100) hx hb dX3_moveOf_10 (by decide) ?_
    refine lv_iload_n hx hb dX3_moveOf_12 rfl (lv_at hl 0 rfl) ?_
    refine lv_iadd hx hb dX3_moveOf_13 ?_
    refine lv_bipush (v := 40) hx hb dX3_moveOf_14 (by decide) ?_
    refine lv_isub hx hb dX3_moveOf_16 ?_
    exact e_iret C hend hP h rfl dX3_moveOf_17
  · have h := k_nf c3 h
    refine lv_iload_n hx hb dX3_moveOf_6 rfl (lv_at hl 0 rfl) ?_
    refine lv_goto (tgt := 17) hx hb dX3_moveOf_7 (by decide) ?_
    exact e_iret C hend hP h rfl dX3_moveOf_17
def f_X3_thoughtChoice (σ : XX) (a1 : Int32) : Option (Int32 × XX) :=
  ob (f_X0_become (x_thought σ) (x_now σ)) (fun σ1 => lt (x_thought' σ σ1) (fun σ2 => ob2 (f_X3_chosenSlot_thought σ2 a1) (fun x4 σ3 => some ((f_X3_moveOf x4), σ3))))
set_option maxHeartbeats 4000000 in
set_option maxRecDepth 100000 in
theorem c_X3_thoughtChoice (l : Launch) (ev : EV) (ad : Nat → Nat) (σ : XX) (a1 : Int32)   (r : Int32) (σ' : XX) (h : f_X3_thoughtChoice σ a1 = some (r, σ')) : Ct l yX3_thoughtChoice prog_1_method_82_code 2 (Option.some Jvm.ClassFile.FieldType.int) (rmk 5 115) ev 26 ad (xw ev ad σ) (xw ev ad σ') [.ref (ad 0), .int a1] (some (.int r)) := by
  refine Ct.of (by decide +kernel) (Nat.le_of_ble_eq_true rfl) ?_
  intro p e s m args below meth c Qc C hap hP hend ls hl
  have hAA : ∀ j, j < 26 → inA ad 26 (ad j) := fun j hj => ⟨j, hj, rfl⟩
  have hx := C.1
  have hb := C.2.1
  have hl : lv_has ls 2 [(0, .ref (ad 0)), (1, .int a1)] := hl
  have h := (f_X3_thoughtChoice.eq_1 _ _ ).symm.trans h
  refine lv_aload_n hx hb dX3_thoughtChoice_0 rfl (lv_at hl 0 rfl) ?_
  refine r_get C hP (ci := 3) rfl uin_X3 1 (by decide) 0 (by decide) rfl qFL_RX3_16 rfl rfl dX3_thoughtChoice_1 ?_
  refine lv_aload_n hx hb dX3_thoughtChoice_4 rfl (lv_at hl 0 rfl) ?_
  refine r_get C hP (ci := 3) rfl uin_X3 0 (by decide) 0 (by decide) rfl qFL_RX3_10 rfl rfl dX3_thoughtChoice_5 ?_
  obtain ⟨σ1, h1, h⟩ := k_ob h
  refine k_callVv C hP hap hAA (c_X0_become l ev (fun j => if j = 0 then ad 2 else ad 1) (x_thought σ) (x_now σ)   _ h1) (em_GG21) (apart_GG hap (by decide) (by decide) (by decide)) gz_X0_become qML_RX3_165 qIM_yX0_become qSE_yX0_become ⟨(Nat.le_of_ble_eq_true rfl), (Nat.le_of_ble_eq_true rfl)⟩ (q0 := 2) rfl (by decide) rfl rfl rfl rfl hl.1 rfl (Nat.le_of_ble_eq_true rfl) dX3_thoughtChoice_8 ⟨Nat.le_refl _, Nat.le_refl _⟩ (fun H locs hP => ?_)
  obtain ⟨σ2, eσ2, h⟩ := k_ltx h
  rw [← eσ2] at hP
  refine lv_aload_n hx hb dX3_thoughtChoice_11 rfl (lv_at hl 0 rfl) ?_
  refine lv_aload_n hx hb dX3_thoughtChoice_12 rfl (lv_at hl 0 rfl) ?_
  refine r_get C hP (ci := 3) rfl uin_X3 1 (by decide) 0 (by decide) rfl qFL_RX3_16 rfl rfl dX3_thoughtChoice_13 ?_
  refine lv_iload_n hx hb dX3_thoughtChoice_16 rfl (lv_at hl 1 rfl) ?_
  obtain ⟨x4, σ3, h1, h⟩ := k_ob2 h
  refine k_callVi C hP hap hAA (c_X3_chosenSlot_thought l ev ad σ2 a1   _ _ h1) Emb.same hap gz_X3_chosenSlot qML_RX3_344 qIM_yX3_chosenSlot qSE_yX3_chosenSlot ⟨(Nat.le_of_ble_eq_true rfl), (Nat.le_of_ble_eq_true rfl)⟩ (q0 := 0) rfl (by decide) rfl rfl rfl rfl hl.1 rfl (Nat.le_of_ble_eq_true rfl) dX3_thoughtChoice_17 ⟨Nat.le_refl _, Nat.le_refl _⟩ (fun H locs hP => ?_)
  refine k_callSi C hP hap hAA (c_X3_moveOf l ev ad x4   _ rfl) Emb.none (apart_0 _) gz_X3_moveOf qML_RX3_249 qSM_yX3_moveOf ⟨(Nat.le_of_ble_eq_true rfl), (Nat.le_of_ble_eq_true rfl)⟩ rfl hl.1 rfl (Nat.le_of_ble_eq_true rfl) dX3_thoughtChoice_20 ⟨Nat.le_refl _, Nat.le_refl _⟩ (fun H locs hP => ?_)
  exact e_iret C hend hP (k_some2 h).1 (congrArg (xw ev ad) (k_some2 h).2) dX3_thoughtChoice_23
def f_X3_isUnder_L4_b (a2 : Int32) (k39 : Int32 → Option (Bool)) (rec4 : Int32 → Int32 → Option (Bool)) (x1 : Int32) (x2 : Int32) : Option (Bool) :=
  if 6 ≤ x2 then k39 x1 else if x1 = a2 then k39 x1 else if x1 < 0 then k39 x1 else if 6 ≤ x1 then k39 x1 else gd (inb x1 6) (lt (kaF (Int32.toNatClampNeg x1)) (fun x3 => lt (x2 + 1) (fun x4 => rec4 x3 x4)))
def f_X3_isUnder_L4 (a2 : Int32) (k39 : Int32 → Option (Bool)) (x1 : Int32) (x2 : Int32) : Option (Bool) :=
  lp (fun _ _ => none) (f_X3_isUnder_L4_b a2 k39) FU x1 x2
def f_X3_isUnder (a1 : Int32) (a2 : Int32) : Option (Bool) :=
  f_X3_isUnder_L4 a2 (fun x6 => if x6 = a2 then some true else some false) a1 0
set_option maxHeartbeats 4000000 in
set_option maxRecDepth 100000 in
theorem c_X3_isUnder (l : Launch) (ev : EV) (ad : Nat → Nat) (a1 : Int32) (a2 : Int32)   (r : Bool)  (h : f_X3_isUnder a1 a2 = some r) : Ct l yX3_isUnder prog_1_method_80_code 4 (Option.some Jvm.ClassFile.FieldType.boolean) (rmk 0 0) ev 0 ad w00 w00 [.int a1, .int a2] (some (.int (bi r))) := by
  refine Ct.of (by decide +kernel) (Nat.le_of_ble_eq_true rfl) ?_
  intro p e s m args below meth c Qc C hap hP hend ls hl
  have hAA : ∀ j, j < 0 → inA ad 0 (ad j) := fun j hj => ⟨j, hj, rfl⟩
  have hx := C.1
  have hb := C.2.1
  have hl : lv_has ls 4 [(0, .int a1), (1, .int a2)] := hl
  have h := (f_X3_isUnder.eq_1 _ _ ).symm.trans h
  refine lv_iload_n hx hb dX3_isUnder_0 rfl (lv_at hl 0 rfl) ?_
  refine lv_istore_n (lv' := [(2, .int a1), (0, .int a1), (1, .int a2)]) hx hb dX3_isUnder_1 rfl hl (by decide) rfl (fun ls hl => ?_)
  refine lv_iconst (v := 0) hx hb dX3_isUnder_2 (by decide) ?_
  refine lv_istore_n (lv' := [(3, .int 0), (2, .int a1), (0, .int a1), (1, .int a2)]) hx hb dX3_isUnder_3 rfl hl (by decide) rfl (fun ls hl => ?_)
  have hL4 : ∀ (k39 : Int32 → Option (Bool)) (hk39 : ∀ (z5 : Int32) (H : Heap) (locs : List Loc) (ls : Array Slot), k39 z5 = some r → PS ev 0 ad w00 (inA ad 0) s H locs → lv_has ls 4 [(1, .int a2), (2, .int z5)] → WW ev p l e (rmk 0 0) s m args below meth c Qc ad 0 H locs 39 ls []) (n : Nat) (x1 : Int32) (x2 : Int32) (H : Heap) (locs : List Loc) (ls : Array Slot), lp (fun _ _ => none) (f_X3_isUnder_L4_b a2 k39) n x1 x2 = some r → PS ev 0 ad w00 (inA ad 0) s H locs → lv_has ls 4 [(1, .int a2), (2, .int x1), (3, .int x2)] → WW ev p l e (rmk 0 0) s m args below meth c Qc ad 0 H locs 4 ls [] := by
    intro k39 hk39 n
    induction n with
    | zero =>
      intro x1 x2 H locs ls h; exact k_none h
    | succ n ih =>
      intro x1 x2 H locs ls h hP hl
      have h : f_X3_isUnder_L4_b a2 k39 (lp (fun _ _ => none) (f_X3_isUnder_L4_b a2 k39) n) x1 x2 = some r := h
      have h := (f_X3_isUnder_L4_b.eq_1 _ _ _ _ _ ).symm.trans h
      refine lv_iload_n hx hb dX3_isUnder_4 rfl (lv_at hl 2 rfl) ?_
      refine lv_bipush (v := 6) hx hb dX3_isUnder_5 (by decide) ?_
      refine lv_icmp_ge (tgt := 39) hx hb dX3_isUnder_7 (by decide) (fun c7 => ?_) (fun c7 => ?_)
      · have h := k_if c7 h
        exact hk39 _ _ _ _ h hP (lv_sub hl [0, 1] rfl)
      · have h := k_nf c7 h
        refine lv_iload_n hx hb dX3_isUnder_10 rfl (lv_at hl 1 rfl) ?_
        refine lv_iload_n hx hb dX3_isUnder_11 rfl (lv_at hl 0 rfl) ?_
        refine lv_icmp_eq (tgt := 39) hx hb dX3_isUnder_12 (by decide) (fun c12 => ?_) (fun c12 => ?_)
        · have h := k_if c12 h
          exact hk39 _ _ _ _ h hP (lv_sub hl [0, 1] rfl)
        · have h := k_nf c12 h
          refine lv_iload_n hx hb dX3_isUnder_15 rfl (lv_at hl 1 rfl) ?_
          refine lv_if_lt (tgt := 39) hx hb dX3_isUnder_16 (by decide) (fun c16 => ?_) (fun c16 => ?_)
          · have h := k_if c16 h
            exact hk39 _ _ _ _ h hP (lv_sub hl [0, 1] rfl)
          · have h := k_nf c16 h
            refine lv_iload_n hx hb dX3_isUnder_19 rfl (lv_at hl 1 rfl) ?_
            refine r_kind C hP qFL_RX3_377 dX3_isUnder_20 ?_
            refine r_kalen C hP dX3_isUnder_23 ?_
            refine lv_icmp_ge (tgt := 39) hx hb dX3_isUnder_24 (by decide) (fun c24 => ?_) (fun c24 => ?_)
            · have h := k_if c24 h
              exact hk39 _ _ _ _ h hP (lv_sub hl [0, 1] rfl)
            · have h := k_nf c24 h
              refine r_kind C hP qFL_RX3_377 dX3_isUnder_27 ?_
              refine lv_iload_n hx hb dX3_isUnder_30 rfl (lv_at hl 1 rfl) ?_
              obtain ⟨hg, h⟩ := k_gd h
              refine r_kald C hP hg dX3_isUnder_31 ?_
              refine lv_topi (fun x3 ex3 => ?_)
              have h := k_lt ex3 h
              refine lv_istore_n (lv' := [(2, .int x3), (1, .int a2), (3, .int x2)]) hx hb dX3_isUnder_32 rfl hl (by decide) rfl (fun ls hl => ?_)
              obtain ⟨x4, ex4, h⟩ := k_ltx h
              refine lv_iinc (v := x4) (lv' := [(3, .int x4), (2, .int x3), (1, .int a2)]) hx hb dX3_isUnder_33 hl (k := 2) rfl (by rw [ex4]; rfl) (by decide) rfl (fun ls hl => ?_)
              refine lv_goto (tgt := 4) hx hb dX3_isUnder_36 (by decide) ?_
              exact ih _ _ _ _ _ h hP (lv_sub hl [2, 1, 0] rfl)
  refine hL4 _ (fun x6 H locs ls h hP hl => ?_) FU _ _ _ _ _ h hP (lv_sub hl [3, 1, 0] rfl)
  refine lv_iload_n hx hb dX3_isUnder_39 rfl (lv_at hl 1 rfl) ?_
  refine lv_iload_n hx hb dX3_isUnder_40 rfl (lv_at hl 0 rfl) ?_
  refine lv_icmp_ne (tgt := 48) hx hb dX3_isUnder_41 (by decide) (fun c41 => ?_) (fun c41 => ?_)
  · have h := k_nf c41 h
    refine lv_iconst (v := 0) hx hb dX3_isUnder_48 (by decide) ?_
    exact e_zret C hend hP (k_some h) rfl dX3_isUnder_49 rfl
  · have h := k_if c41 h
    refine lv_iconst (v := 1) hx hb dX3_isUnder_44 (by decide) ?_
    refine lv_goto (tgt := 49) hx hb dX3_isUnder_45 (by decide) ?_
    exact e_zret C hend hP (k_some h) rfl dX3_isUnder_49 rfl
def f_X3_says_b70 (a2 : Int32) (q10 : Nat) (x11 : Int32) (σ12 : XX) : Option (Int32 × XX) :=
  if (f_X1_bearsPlayer (x_shelf σ12 q10)) = true then if a2 = 0 then ob (f_X3_amountOf σ12 x11) (fun x15 => some (x15, σ12)) else if a2 = 5 then some ((f_J13_bitCount_95d88 (f_X0_openSlots (x_now σ12))), σ12) else ob2 (f_X3_thoughtChoice σ12 x11) (fun x14 σ13 => some (x14, σ13)) else ob2 (f_X3_refuse σ12 (-4)) (fun x17 σ16 => some (x17, σ16))
def f_X3_says (σ : XX) (a1 : Int32) (a2 : Int32) : Option (Int32 × XX) :=
  ob (f_X3_shelfAt σ a1) (fun o1 => om o1 (ob2 (f_X3_refuse σ (-2)) (fun x4 σ3 => some (x4, σ3))) (fun q2 => gd (decide (q2 < 8)) (if a2 < 0 then ob2 (f_X3_refuse σ (-2)) (fun x6 σ5 => some (x6, σ5)) else if a2 < 6 then lt ((s_content (x_shelf σ q2)) - 10) (fun x7 => if (f_X1_bearsRow (x_shelf σ q2)) = true then ob2 (f_X3_refuse σ (-3)) (fun x9 σ8 => some (x9, σ8)) else if (f_X1_bearsPlayer (x_shelf σ q2)) = true then ob (f_X3_kindOf σ x7) (fun x18 => ob (f_X3_isUnder x18 a2) (fun b19 => if b19 = true then f_X3_says_b70 a2 q2 x7 σ else ob2 (f_X3_refuse σ (-3)) (fun x21 σ20 => some (x21, σ20)))) else f_X3_says_b70 a2 q2 x7 σ) else ob2 (f_X3_refuse σ (-2)) (fun x23 σ22 => some (x23, σ22)))))
set_option maxHeartbeats 4000000 in
set_option maxRecDepth 100000 in
theorem c_X3_says (l : Launch) (ev : EV) (ad : Nat → Nat) (σ : XX) (a1 : Int32) (a2 : Int32)   (r : Int32) (σ' : XX) (h : f_X3_says σ a1 a2 = some (r, σ')) : Ct l yX3_says prog_1_method_8_code 5 (Option.some Jvm.ClassFile.FieldType.int) (rmk 6 136) ev 26 ad (xw ev ad σ) (xw ev ad σ') [.ref (ad 0), .int a1, .int a2] (some (.int r)) := by
  refine Ct.of (by decide +kernel) (Nat.le_of_ble_eq_true rfl) ?_
  intro p e s m args below meth c Qc C hap hP hend ls hl
  have hAA : ∀ j, j < 26 → inA ad 26 (ad j) := fun j hj => ⟨j, hj, rfl⟩
  have hx := C.1
  have hb := C.2.1
  have hl : lv_has ls 5 [(0, .ref (ad 0)), (1, .int a1), (2, .int a2)] := hl
  have h := (f_X3_says.eq_1 _ _ _ ).symm.trans h
  have hB70 : ∀ (q10 : Nat) (hq10 : q10 < 8) (x11 : Int32) (σ12 : XX) (H : Heap) (locs : List Loc) (ls : Array Slot), f_X3_says_b70 a2 q10 x11 σ12 = some (r, σ') → PS ev 26 ad (xw ev ad σ12) (inA ad 26) s H locs → lv_has ls 5 [(0, .ref (ad 0)), (2, .int a2), (3, .ref (ad (q10 + 10))), (4, .int x11)] → WW ev p l e (rmk 6 136) s m args below meth c Qc ad 26 H locs 70 ls [] := by
    intro q10 hq10 x11 σ12 H locs ls h hP hl
    have h := (f_X3_says_b70.eq_1 _ _ _ _ ).symm.trans h
    refine lv_aload_n hx hb dX3_says_70 rfl (lv_at hl 2 rfl) ?_
    refine k_callVi C hP hap hAA (c_X1_bearsPlayer l ev (fun j => ad (q10 + 10 + 8 * j)) (x_shelf σ12 q10)   _ rfl) (em_Sr hq10) (apart_S hap hq10) gz_X1_bearsPlayer qML_RX3_80 qIM_yX1_bearsPlayer qSE_yX1_bearsPlayer ⟨(Nat.le_of_ble_eq_true rfl), (Nat.le_of_ble_eq_true rfl)⟩ (q0 := (q10 + 10)) rfl (by omega) (xw_shelf hq10) rfl rfl rfl hl.1 rfl (Nat.le_of_ble_eq_true rfl) dX3_says_71 ⟨Nat.le_refl _, Nat.le_refl _⟩ (fun H locs hP => ?_)
    refine r_ifz_ne (tgt := 84) hx hb dX3_says_74 (by decide) (fun c74 => ?_) (fun c74 => ?_)
    · have h := k_if c74 h
      refine lv_iload_n hx hb dX3_says_84 rfl (lv_at hl 1 rfl) ?_
      refine lv_if_ne (tgt := 95) hx hb dX3_says_85 (by decide) (fun c85 => ?_) (fun c85 => ?_)
      · have h := k_nf c85 h
        refine lv_iload_n hx hb dX3_says_95 rfl (lv_at hl 1 rfl) ?_
        refine lv_iconst (v := 5) hx hb dX3_says_96 (by decide) ?_
        refine lv_icmp_ne (tgt := 113) hx hb dX3_says_97 (by decide) (fun c97 => ?_) (fun c97 => ?_)
        · have h := k_nf c97 h
          refine lv_aload_n hx hb dX3_says_113 rfl (lv_at hl 0 rfl) ?_
          refine lv_iload hx hb dX3_says_114 (lv_at hl 3 rfl) ?_
          obtain ⟨x14, σ13, h1, h⟩ := k_ob2 h
          refine k_callVi C hP hap hAA (c_X3_thoughtChoice l ev ad σ12 x11   _ _ h1) Emb.same hap gz_X3_thoughtChoice qML_RX3_137 qIM_yX3_thoughtChoice qSE_yX3_thoughtChoice ⟨(Nat.le_of_ble_eq_true rfl), (Nat.le_of_ble_eq_true rfl)⟩ (q0 := 0) rfl (by decide) rfl rfl rfl rfl hl.1 rfl (Nat.le_of_ble_eq_true rfl) dX3_says_116 ⟨Nat.le_refl _, Nat.le_refl _⟩ (fun H locs hP => ?_)
          exact e_iret C hend hP (k_some2 h).1 (congrArg (xw ev ad) (k_some2 h).2) dX3_says_119
        · have h := k_if c97 h
          refine lv_aload_n hx hb dX3_says_100 rfl (lv_at hl 0 rfl) ?_
          refine r_get C hP (ci := 3) rfl uin_X3 0 (by decide) 0 (by decide) rfl qFL_RX3_10 rfl rfl dX3_says_101 ?_
          refine k_callVl C hP hap hAA (c_X0_openSlots l ev (fun j => ad (j + 1)) (x_now σ12)   _ rfl) (em_G1r) (apart_1 _) gz_X0_openSlots qML_RX3_127 qIM_yX0_openSlots qSE_yX0_openSlots ⟨(Nat.le_of_ble_eq_true rfl), (Nat.le_of_ble_eq_true rfl)⟩ (q0 := 1) rfl (by decide) rfl rfl rfl rfl hl.1 rfl (Nat.le_of_ble_eq_true rfl) dX3_says_104 ⟨Nat.le_refl _, Nat.le_refl _⟩ (fun H locs hP => ?_)
          refine k_callSi C hP hap hAA (c_J13_bitCount_95d88 l ev ad (f_X0_openSlots (x_now σ12))   _ rfl) Emb.none (apart_0 _) gz_J13_bitCount_95d88 qML_RX3_131 qSM_yJ13_bitCount_95d88 ⟨(Nat.le_of_ble_eq_true rfl), (Nat.le_of_ble_eq_true rfl)⟩ rfl hl.1 rfl (Nat.le_of_ble_eq_true rfl) dX3_says_107 ⟨Nat.le_refl _, Nat.le_refl _⟩ (fun H locs hP => ?_)
          refine lv_goto (tgt := 119) hx hb dX3_says_110 (by decide) ?_
          exact e_iret C hend hP (k_some2 h).1 (congrArg (xw ev ad) (k_some2 h).2) dX3_says_119
      · have h := k_if c85 h
        refine lv_aload_n hx hb dX3_says_88 rfl (lv_at hl 0 rfl) ?_
        refine lv_iload hx hb dX3_says_89 (lv_at hl 3 rfl) ?_
        obtain ⟨x15, h1, h⟩ := k_ob h
        refine k_callVi C hP hap hAA (c_X3_amountOf l ev ad σ12 x11   _ h1) Emb.same hap gz_X3_amountOf qML_RX3_124 qIM_yX3_amountOf qSE_yX3_amountOf ⟨(Nat.le_of_ble_eq_true rfl), (Nat.le_of_ble_eq_true rfl)⟩ (q0 := 0) rfl (by decide) rfl rfl rfl rfl hl.1 rfl (Nat.le_of_ble_eq_true rfl) dX3_says_91 ⟨Nat.le_refl _, Nat.le_refl _⟩ (fun H locs hP => ?_)
        exact e_iret C hend hP (k_some2 h).1 (congrArg (xw ev ad) (k_some2 h).2) dX3_says_94
    · have h := k_nf c74 h
      refine lv_aload_n hx hb dX3_says_77 rfl (lv_at hl 0 rfl) ?_
      refine lv_bipush (v := (-4)) hx hb dX3_says_78 (by decide) ?_
      obtain ⟨x17, σ16, h1, h⟩ := k_ob2 h
      refine k_callVi C hP hap hAA (c_X3_refuse l ev ad σ12 (-4)   _ _ h1) Emb.same hap gz_X3_refuse qML_RX3_60 qIM_yX3_refuse qSE_yX3_refuse ⟨(Nat.le_of_ble_eq_true rfl), (Nat.le_of_ble_eq_true rfl)⟩ (q0 := 0) rfl (by decide) rfl rfl rfl rfl hl.1 rfl (Nat.le_of_ble_eq_true rfl) dX3_says_80 ⟨Nat.le_refl _, Nat.le_refl _⟩ (fun H locs hP => ?_)
      exact e_iret C hend hP (k_some2 h).1 (congrArg (xw ev ad) (k_some2 h).2) dX3_says_83
  refine lv_aload_n hx hb dX3_says_0 rfl (lv_at hl 0 rfl) ?_
  refine lv_iload_n hx hb dX3_says_1 rfl (lv_at hl 1 rfl) ?_
  obtain ⟨o1, h1, h⟩ := k_ob h
  refine k_callVo C hP hap hAA (c_X3_shelfAt l ev ad σ a1   _ h1) Emb.same hap gz_X3_shelfAt qML_RX3_56 qIM_yX3_shelfAt qSE_yX3_shelfAt ⟨(Nat.le_of_ble_eq_true rfl), (Nat.le_of_ble_eq_true rfl)⟩ (q0 := 0) rfl (by decide) rfl rfl rfl rfl hl.1 rfl (Nat.le_of_ble_eq_true rfl) dX3_says_2 ⟨Nat.le_refl _, Nat.le_refl _⟩ (fun H locs hP => ?_)
  rcases o1 with _ | q2
  · have h := k_omN h
    refine lv_astore_nN (lv' := [(3, .null), (0, .ref (ad 0)), (1, .int a1), (2, .int a2)]) hx hb dX3_says_5 rfl hl (by decide) rfl (fun ls hl => ?_)
    refine lv_aload_nN hx hb dX3_says_6 rfl (lv_at hl 0 rfl) ?_
    refine lv_ifnullN (tgt := 20) hx hb dX3_says_7 (by decide) ?_
    refine lv_aload_n hx hb dX3_says_20 rfl (lv_at hl 1 rfl) ?_
    refine lv_bipush (v := (-2)) hx hb dX3_says_21 (by decide) ?_
    obtain ⟨x4, σ3, h1, h⟩ := k_ob2 h
    refine k_callVi C hP hap hAA (c_X3_refuse l ev ad σ (-2)   _ _ h1) Emb.same hap gz_X3_refuse qML_RX3_60 qIM_yX3_refuse qSE_yX3_refuse ⟨(Nat.le_of_ble_eq_true rfl), (Nat.le_of_ble_eq_true rfl)⟩ (q0 := 0) rfl (by decide) rfl rfl rfl rfl hl.1 rfl (Nat.le_of_ble_eq_true rfl) dX3_says_23 ⟨Nat.le_refl _, Nat.le_refl _⟩ (fun H locs hP => ?_)
    exact e_iret C hend hP (k_some2 h).1 (congrArg (xw ev ad) (k_some2 h).2) dX3_says_26
  · obtain ⟨hg, h⟩ := k_gd (k_omS h)
    have hq2 : q2 < 8 := of_decide_eq_true hg
    refine lv_astore_n (lv' := [(3, .ref (ad (q2 + 10))), (0, .ref (ad 0)), (1, .int a1), (2, .int a2)]) hx hb dX3_says_5 rfl hl (by decide) rfl (fun ls hl => ?_)
    refine lv_aload_n hx hb dX3_says_6 rfl (lv_at hl 0 rfl) ?_
    refine lv_ifnull hx hb dX3_says_7 ?_
    refine lv_iload_n hx hb dX3_says_10 rfl (lv_at hl 3 rfl) ?_
    refine lv_if_lt (tgt := 20) hx hb dX3_says_11 (by decide) (fun c11 => ?_) (fun c11 => ?_)
    · have h := k_if c11 h
      refine lv_aload_n hx hb dX3_says_20 rfl (lv_at hl 1 rfl) ?_
      refine lv_bipush (v := (-2)) hx hb dX3_says_21 (by decide) ?_
      obtain ⟨x6, σ5, h1, h⟩ := k_ob2 h
      refine k_callVi C hP hap hAA (c_X3_refuse l ev ad σ (-2)   _ _ h1) Emb.same hap gz_X3_refuse qML_RX3_60 qIM_yX3_refuse qSE_yX3_refuse ⟨(Nat.le_of_ble_eq_true rfl), (Nat.le_of_ble_eq_true rfl)⟩ (q0 := 0) rfl (by decide) rfl rfl rfl rfl hl.1 rfl (Nat.le_of_ble_eq_true rfl) dX3_says_23 ⟨Nat.le_refl _, Nat.le_refl _⟩ (fun H locs hP => ?_)
      exact e_iret C hend hP (k_some2 h).1 (congrArg (xw ev ad) (k_some2 h).2) dX3_says_26
    · have h := k_nf c11 h
      refine lv_iload_n hx hb dX3_says_14 rfl (lv_at hl 3 rfl) ?_
      refine lv_bipush (v := 6) hx hb dX3_says_15 (by decide) ?_
      refine lv_icmp_lt (tgt := 27) hx hb dX3_says_17 (by decide) (fun c17 => ?_) (fun c17 => ?_)
      · have h := k_if c17 h
        refine lv_aload_n hx hb dX3_says_27 rfl (lv_at hl 0 rfl) ?_
        refine r_get C hP (ci := 1) rfl uin_X1 0 (by decide) (q2 + 10) (by omega) (xw_shelf hq2) qFL_RX3_87 rfl rfl dX3_says_28 ?_
        refine lv_bipush (v := 10) hx hb dX3_says_31 (by decide) ?_
        refine lv_isub hx hb dX3_says_33 ?_
        refine lv_topi (fun x7 ex7 => ?_)
        have h := k_lt ex7 h
        refine lv_istore (lv' := [(4, .int x7), (3, .ref (ad (q2 + 10))), (0, .ref (ad 0)), (1, .int a1), (2, .int a2)]) hx hb dX3_says_34 hl (by decide) rfl (fun ls hl => ?_)
        refine lv_aload_n hx hb dX3_says_36 rfl (lv_at hl 1 rfl) ?_
        refine k_callVi C hP hap hAA (c_X1_bearsRow l ev (fun j => ad (q2 + 10 + 8 * j)) (x_shelf σ q2)   _ rfl) (em_Sr hq2) (apart_S hap hq2) gz_X1_bearsRow qML_RX3_84 qIM_yX1_bearsRow qSE_yX1_bearsRow ⟨(Nat.le_of_ble_eq_true rfl), (Nat.le_of_ble_eq_true rfl)⟩ (q0 := (q2 + 10)) rfl (by omega) (xw_shelf hq2) rfl rfl rfl hl.1 rfl (Nat.le_of_ble_eq_true rfl) dX3_says_37 ⟨Nat.le_refl _, Nat.le_refl _⟩ (fun H locs hP => ?_)
        refine r_ifz_ne (tgt := 63) hx hb dX3_says_40 (by decide) (fun c40 => ?_) (fun c40 => ?_)
        · have h := k_if c40 h
          refine lv_aload_n hx hb dX3_says_63 rfl (lv_at hl 2 rfl) ?_
          refine lv_bipush (v := (-3)) hx hb dX3_says_64 (by decide) ?_
          obtain ⟨x9, σ8, h1, h⟩ := k_ob2 h
          refine k_callVi C hP hap hAA (c_X3_refuse l ev ad σ (-3)   _ _ h1) Emb.same hap gz_X3_refuse qML_RX3_60 qIM_yX3_refuse qSE_yX3_refuse ⟨(Nat.le_of_ble_eq_true rfl), (Nat.le_of_ble_eq_true rfl)⟩ (q0 := 0) rfl (by decide) rfl rfl rfl rfl hl.1 rfl (Nat.le_of_ble_eq_true rfl) dX3_says_66 ⟨Nat.le_refl _, Nat.le_refl _⟩ (fun H locs hP => ?_)
          exact e_iret C hend hP (k_some2 h).1 (congrArg (xw ev ad) (k_some2 h).2) dX3_says_69
        · have h := k_nf c40 h
          refine lv_aload_n hx hb dX3_says_43 rfl (lv_at hl 1 rfl) ?_
          refine k_callVi C hP hap hAA (c_X1_bearsPlayer l ev (fun j => ad (q2 + 10 + 8 * j)) (x_shelf σ q2)   _ rfl) (em_Sr hq2) (apart_S hap hq2) gz_X1_bearsPlayer qML_RX3_80 qIM_yX1_bearsPlayer qSE_yX1_bearsPlayer ⟨(Nat.le_of_ble_eq_true rfl), (Nat.le_of_ble_eq_true rfl)⟩ (q0 := (q2 + 10)) rfl (by omega) (xw_shelf hq2) rfl rfl rfl hl.1 rfl (Nat.le_of_ble_eq_true rfl) dX3_says_44 ⟨Nat.le_refl _, Nat.le_refl _⟩ (fun H locs hP => ?_)
          refine r_ifz_eq (tgt := 70) hx hb dX3_says_47 (by decide) (fun c47 => ?_) (fun c47 => ?_)
          · have h := k_nf c47 h
            exact hB70 _ hq2 _ _ _ _ _ h hP (lv_sub hl [2, 4, 1, 0] rfl)
          · have h := k_if c47 h
            refine lv_aload_n hx hb dX3_says_50 rfl (lv_at hl 2 rfl) ?_
            refine lv_iload hx hb dX3_says_51 (lv_at hl 0 rfl) ?_
            obtain ⟨x18, h1, h⟩ := k_ob h
            refine k_callVi C hP hap hAA (c_X3_kindOf l ev ad σ x7   _ h1) Emb.same hap gz_X3_kindOf qML_RX3_118 qIM_yX3_kindOf qSE_yX3_kindOf ⟨(Nat.le_of_ble_eq_true rfl), (Nat.le_of_ble_eq_true rfl)⟩ (q0 := 0) rfl (by decide) rfl rfl rfl rfl hl.1 rfl (Nat.le_of_ble_eq_true rfl) dX3_says_53 ⟨Nat.le_refl _, Nat.le_refl _⟩ (fun H locs hP => ?_)
            refine lv_iload_n hx hb dX3_says_56 rfl (lv_at hl 4 rfl) ?_
            obtain ⟨b19, h1, h⟩ := k_ob h
            refine k_callSi C hP hap hAA (c_X3_isUnder l ev ad x18 a2   _ h1) Emb.none (apart_0 _) gz_X3_isUnder qML_RX3_121 qSM_yX3_isUnder ⟨(Nat.le_of_ble_eq_true rfl), (Nat.le_of_ble_eq_true rfl)⟩ rfl hl.1 rfl (Nat.le_of_ble_eq_true rfl) dX3_says_57 ⟨Nat.le_refl _, Nat.le_refl _⟩ (fun H locs hP => ?_)
            refine r_ifz_ne (tgt := 70) hx hb dX3_says_60 (by decide) (fun c60 => ?_) (fun c60 => ?_)
            · have h := k_if c60 h
              exact hB70 _ hq2 _ _ _ _ _ h hP (lv_sub hl [2, 4, 1, 0] rfl)
            · have h := k_nf c60 h
              refine lv_aload_n hx hb dX3_says_63 rfl (lv_at hl 2 rfl) ?_
              refine lv_bipush (v := (-3)) hx hb dX3_says_64 (by decide) ?_
              obtain ⟨x21, σ20, h1, h⟩ := k_ob2 h
              refine k_callVi C hP hap hAA (c_X3_refuse l ev ad σ (-3)   _ _ h1) Emb.same hap gz_X3_refuse qML_RX3_60 qIM_yX3_refuse qSE_yX3_refuse ⟨(Nat.le_of_ble_eq_true rfl), (Nat.le_of_ble_eq_true rfl)⟩ (q0 := 0) rfl (by decide) rfl rfl rfl rfl hl.1 rfl (Nat.le_of_ble_eq_true rfl) dX3_says_66 ⟨Nat.le_refl _, Nat.le_refl _⟩ (fun H locs hP => ?_)
              exact e_iret C hend hP (k_some2 h).1 (congrArg (xw ev ad) (k_some2 h).2) dX3_says_69
      · have h := k_nf c17 h
        refine lv_aload_n hx hb dX3_says_20 rfl (lv_at hl 1 rfl) ?_
        refine lv_bipush (v := (-2)) hx hb dX3_says_21 (by decide) ?_
        obtain ⟨x23, σ22, h1, h⟩ := k_ob2 h
        refine k_callVi C hP hap hAA (c_X3_refuse l ev ad σ (-2)   _ _ h1) Emb.same hap gz_X3_refuse qML_RX3_60 qIM_yX3_refuse qSE_yX3_refuse ⟨(Nat.le_of_ble_eq_true rfl), (Nat.le_of_ble_eq_true rfl)⟩ (q0 := 0) rfl (by decide) rfl rfl rfl rfl hl.1 rfl (Nat.le_of_ble_eq_true rfl) dX3_says_23 ⟨Nat.le_refl _, Nat.le_refl _⟩ (fun H locs hP => ?_)
        exact e_iret C hend hP (k_some2 h).1 (congrArg (xw ev ad) (k_some2 h).2) dX3_says_26
def f_X3_isSide (a1 : Int32) : Bool :=
  if a1 < 1 then false else if 4 < a1 then false else true
set_option maxHeartbeats 4000000 in
set_option maxRecDepth 100000 in
theorem c_X3_isSide (l : Launch) (ev : EV) (ad : Nat → Nat) (a1 : Int32)   (r : Bool)  (h : f_X3_isSide a1 = r) : Ct l yX3_isSide prog_1_method_65_code 1 (Option.some Jvm.ClassFile.FieldType.boolean) (rmk 0 0) ev 0 ad w00 w00 [.int a1] (some (.int (bi r))) := by
  refine Ct.of (by decide +kernel) (Nat.le_of_ble_eq_true rfl) ?_
  intro p e s m args below meth c Qc C hap hP hend ls hl
  have hAA : ∀ j, j < 0 → inA ad 0 (ad j) := fun j hj => ⟨j, hj, rfl⟩
  have hx := C.1
  have hb := C.2.1
  have hl : lv_has ls 1 [(0, .int a1)] := hl
  have h := (f_X3_isSide.eq_1 _ ).symm.trans h
  refine lv_iload_n hx hb dX3_isSide_0 rfl (lv_at hl 0 rfl) ?_
  refine lv_iconst (v := 1) hx hb dX3_isSide_1 (by decide) ?_
  refine lv_icmp_lt (tgt := 14) hx hb dX3_isSide_2 (by decide) (fun c2 => ?_) (fun c2 => ?_)
  · have h := k_if c2 h
    refine lv_iconst (v := 0) hx hb dX3_isSide_14 (by decide) ?_
    exact e_zret C hend hP h rfl dX3_isSide_15 rfl
  · have h := k_nf c2 h
    refine lv_iload_n hx hb dX3_isSide_5 rfl (lv_at hl 0 rfl) ?_
    refine lv_iconst (v := 4) hx hb dX3_isSide_6 (by decide) ?_
    refine lv_icmp_gt (tgt := 14) hx hb dX3_isSide_7 (by decide) (fun c7 => ?_) (fun c7 => ?_)
    · have h := k_if c7 h
      refine lv_iconst (v := 0) hx hb dX3_isSide_14 (by decide) ?_
      exact e_zret C hend hP h rfl dX3_isSide_15 rfl
    · have h := k_nf c7 h
      refine lv_iconst (v := 1) hx hb dX3_isSide_10 (by decide) ?_
      refine lv_goto (tgt := 15) hx hb dX3_isSide_11 (by decide) ?_
      exact e_zret C hend hP h rfl dX3_isSide_15 rfl
def f_X3_size (σ : XX) (a1 : Int32) (a2 : Int32) : Option (Int32 × XX) :=
  if (f_X3_isSide a1) = true then if (f_X3_isSide a2) = true then ob (f_X0_lay (x_now σ) a1 a2) (fun σ3 => lt (x_now' σ σ3) (fun σ4 => some ((g_edges (x_now σ4)), σ4))) else ob2 (f_X3_refuse σ (-2)) (fun x6 σ5 => some (x6, σ5)) else ob2 (f_X3_refuse σ (-2)) (fun x2 σ1 => some (x2, σ1))
set_option maxHeartbeats 4000000 in
set_option maxRecDepth 100000 in
theorem c_X3_size (l : Launch) (ev : EV) (ad : Nat → Nat) (σ : XX) (a1 : Int32) (a2 : Int32)   (r : Int32) (σ' : XX) (h : f_X3_size σ a1 a2 = some (r, σ')) : Ct l yX3_size prog_1_method_9_code 3 (Option.some Jvm.ClassFile.FieldType.int) (rmk 3 68) ev 26 ad (xw ev ad σ) (xw ev ad σ') [.ref (ad 0), .int a1, .int a2] (some (.int r)) := by
  refine Ct.of (by decide +kernel) (Nat.le_of_ble_eq_true rfl) ?_
  intro p e s m args below meth c Qc C hap hP hend ls hl
  have hAA : ∀ j, j < 26 → inA ad 26 (ad j) := fun j hj => ⟨j, hj, rfl⟩
  have hx := C.1
  have hb := C.2.1
  have hl : lv_has ls 3 [(0, .ref (ad 0)), (1, .int a1), (2, .int a2)] := hl
  have h := (f_X3_size.eq_1 _ _ _ ).symm.trans h
  refine lv_iload_n hx hb dX3_size_0 rfl (lv_at hl 1 rfl) ?_
  refine k_callSi C hP hap hAA (c_X3_isSide l ev ad a1   _ rfl) Emb.none (apart_0 _) gz_X3_isSide qML_RX3_140 qSM_yX3_isSide ⟨(Nat.le_of_ble_eq_true rfl), (Nat.le_of_ble_eq_true rfl)⟩ rfl hl.1 rfl (Nat.le_of_ble_eq_true rfl) dX3_size_1 ⟨Nat.le_refl _, Nat.le_refl _⟩ (fun H locs hP => ?_)
  refine r_ifz_eq (tgt := 14) hx hb dX3_size_4 (by decide) (fun c4 => ?_) (fun c4 => ?_)
  · have h := k_nf c4 h
    refine lv_aload_n hx hb dX3_size_14 rfl (lv_at hl 0 rfl) ?_
    refine lv_bipush (v := (-2)) hx hb dX3_size_15 (by decide) ?_
    obtain ⟨x2, σ1, h1, h⟩ := k_ob2 h
    refine k_callVi C hP hap hAA (c_X3_refuse l ev ad σ (-2)   _ _ h1) Emb.same hap gz_X3_refuse qML_RX3_60 qIM_yX3_refuse qSE_yX3_refuse ⟨(Nat.le_of_ble_eq_true rfl), (Nat.le_of_ble_eq_true rfl)⟩ (q0 := 0) rfl (by decide) rfl rfl rfl rfl hl.1 rfl (Nat.le_of_ble_eq_true rfl) dX3_size_17 ⟨Nat.le_refl _, Nat.le_refl _⟩ (fun H locs hP => ?_)
    exact e_iret C hend hP (k_some2 h).1 (congrArg (xw ev ad) (k_some2 h).2) dX3_size_20
  · have h := k_if c4 h
    refine lv_iload_n hx hb dX3_size_7 rfl (lv_at hl 2 rfl) ?_
    refine k_callSi C hP hap hAA (c_X3_isSide l ev ad a2   _ rfl) Emb.none (apart_0 _) gz_X3_isSide qML_RX3_140 qSM_yX3_isSide ⟨(Nat.le_of_ble_eq_true rfl), (Nat.le_of_ble_eq_true rfl)⟩ rfl hl.1 rfl (Nat.le_of_ble_eq_true rfl) dX3_size_8 ⟨Nat.le_refl _, Nat.le_refl _⟩ (fun H locs hP => ?_)
    refine r_ifz_ne (tgt := 21) hx hb dX3_size_11 (by decide) (fun c11 => ?_) (fun c11 => ?_)
    · have h := k_if c11 h
      refine lv_aload_n hx hb dX3_size_21 rfl (lv_at hl 0 rfl) ?_
      refine r_get C hP (ci := 3) rfl uin_X3 0 (by decide) 0 (by decide) rfl qFL_RX3_10 rfl rfl dX3_size_22 ?_
      refine lv_iload_n hx hb dX3_size_25 rfl (lv_at hl 1 rfl) ?_
      refine lv_iload_n hx hb dX3_size_26 rfl (lv_at hl 2 rfl) ?_
      obtain ⟨σ3, h1, h⟩ := k_ob h
      refine k_callVv C hP hap hAA (c_X0_lay l ev (fun j => ad (j + 1)) (x_now σ) a1 a2   _ h1) (em_G1) (apart_1 _) gz_X0_lay qML_RX3_143 qIM_yX0_lay qSE_yX0_lay ⟨(Nat.le_of_ble_eq_true rfl), (Nat.le_of_ble_eq_true rfl)⟩ (q0 := 1) rfl (by decide) rfl rfl rfl rfl hl.1 rfl (Nat.le_of_ble_eq_true rfl) dX3_size_27 ⟨Nat.le_refl _, Nat.le_refl _⟩ (fun H locs hP => ?_)
      obtain ⟨σ4, eσ4, h⟩ := k_ltx h
      rw [← eσ4] at hP
      refine lv_aload_n hx hb dX3_size_30 rfl (lv_at hl 0 rfl) ?_
      refine r_get C hP (ci := 3) rfl uin_X3 0 (by decide) 0 (by decide) rfl qFL_RX3_10 rfl rfl dX3_size_31 ?_
      refine r_get C hP (ci := 0) rfl uin_X0 3 (by decide) 1 (by decide) rfl qFL_RX3_146 rfl rfl dX3_size_34 ?_
      exact e_iret C hend hP (k_some2 h).1 (congrArg (xw ev ad) (k_some2 h).2) dX3_size_37
    · have h := k_nf c11 h
      refine lv_aload_n hx hb dX3_size_14 rfl (lv_at hl 0 rfl) ?_
      refine lv_bipush (v := (-2)) hx hb dX3_size_15 (by decide) ?_
      obtain ⟨x6, σ5, h1, h⟩ := k_ob2 h
      refine k_callVi C hP hap hAA (c_X3_refuse l ev ad σ (-2)   _ _ h1) Emb.same hap gz_X3_refuse qML_RX3_60 qIM_yX3_refuse qSE_yX3_refuse ⟨(Nat.le_of_ble_eq_true rfl), (Nat.le_of_ble_eq_true rfl)⟩ (q0 := 0) rfl (by decide) rfl rfl rfl rfl hl.1 rfl (Nat.le_of_ble_eq_true rfl) dX3_size_17 ⟨Nat.le_refl _, Nat.le_refl _⟩ (fun H locs hP => ?_)
      exact e_iret C hend hP (k_some2 h).1 (congrArg (xw ev ad) (k_some2 h).2) dX3_size_20
def f_X3_enlist (σ : XX) (a1 : Int32) (a2 : Int32) (a3 : Int32) : Option XX :=
  if a1 < 0 then some σ else if 6 ≤ a1 then some σ else if 6 ≤ a1 then some σ else gd (inb a1 6) (lt (x_kinds' σ (upd (x_kinds σ) (Int32.toNatClampNeg a1) a2)) (fun σ1 => gd (inb a1 6) (lt (x_amounts' σ1 (upd (x_amounts σ1) (Int32.toNatClampNeg a1) a3)) (fun σ2 => some σ2))))
set_option maxHeartbeats 4000000 in
set_option maxRecDepth 100000 in
theorem c_X3_enlist (l : Launch) (ev : EV) (ad : Nat → Nat) (σ : XX) (a1 : Int32) (a2 : Int32) (a3 : Int32)    (σ' : XX) (h : f_X3_enlist σ a1 a2 a3 = some σ') : Ct l yX3_enlist prog_1_method_79_code 4 (Option.none : Option Jvm.ClassFile.FieldType) (rmk 0 0) ev 26 ad (xw ev ad σ) (xw ev ad σ') [.ref (ad 0), .int a1, .int a2, .int a3] none := by
  refine Ct.of (by decide +kernel) (Nat.le_of_ble_eq_true rfl) ?_
  intro p e s m args below meth c Qc C hap hP hend ls hl
  have hAA : ∀ j, j < 26 → inA ad 26 (ad j) := fun j hj => ⟨j, hj, rfl⟩
  have hx := C.1
  have hb := C.2.1
  have hl : lv_has ls 4 [(0, .ref (ad 0)), (1, .int a1), (2, .int a2), (3, .int a3)] := hl
  have h := (f_X3_enlist.eq_1 _ _ _ _ ).symm.trans h
  refine lv_iload_n hx hb dX3_enlist_0 rfl (lv_at hl 1 rfl) ?_
  refine lv_if_lt (tgt := 36) hx hb dX3_enlist_1 (by decide) (fun c1 => ?_) (fun c1 => ?_)
  · have h := k_if c1 h
    exact e_vret C hend hP (congrArg (xw ev ad) (k_some h)) dX3_enlist_36
  · have h := k_nf c1 h
    refine lv_iload_n hx hb dX3_enlist_4 rfl (lv_at hl 1 rfl) ?_
    refine lv_aload_n hx hb dX3_enlist_5 rfl (lv_at hl 0 rfl) ?_
    refine r_get C hP (ci := 3) rfl uin_X3 4 (by decide) 0 (by decide) rfl qFL_RX3_26 rfl rfl dX3_enlist_6 ?_
    refine r_alen C hP 4 (by decide) 0 rfl rfl (v := 6) rfl dX3_enlist_9 ?_
    refine lv_icmp_ge (tgt := 36) hx hb dX3_enlist_10 (by decide) (fun c10 => ?_) (fun c10 => ?_)
    · have h := k_if c10 h
      exact e_vret C hend hP (congrArg (xw ev ad) (k_some h)) dX3_enlist_36
    · have h := k_nf c10 h
      refine lv_iload_n hx hb dX3_enlist_13 rfl (lv_at hl 1 rfl) ?_
      refine lv_aload_n hx hb dX3_enlist_14 rfl (lv_at hl 0 rfl) ?_
      refine r_get C hP (ci := 3) rfl uin_X3 5 (by decide) 0 (by decide) rfl qFL_RX3_30 rfl rfl dX3_enlist_15 ?_
      refine r_alen C hP 5 (by decide) 0 rfl rfl (v := 6) rfl dX3_enlist_18 ?_
      refine lv_icmp_ge (tgt := 36) hx hb dX3_enlist_19 (by decide) (fun c19 => ?_) (fun c19 => ?_)
      · have h := k_if c19 h
        exact e_vret C hend hP (congrArg (xw ev ad) (k_some h)) dX3_enlist_36
      · have h := k_nf c19 h
        refine lv_aload_n hx hb dX3_enlist_22 rfl (lv_at hl 0 rfl) ?_
        refine r_get C hP (ci := 3) rfl uin_X3 4 (by decide) 0 (by decide) rfl qFL_RX3_26 rfl rfl dX3_enlist_23 ?_
        refine lv_iload_n hx hb dX3_enlist_26 rfl (lv_at hl 1 rfl) ?_
        refine lv_iload_n hx hb dX3_enlist_27 rfl (lv_at hl 2 rfl) ?_
        obtain ⟨hg, h⟩ := k_gd h
        obtain ⟨σ1, eσ1, h⟩ := k_ltx h
        refine st_X_kinds C hP hap hAA eσ1 hg dX3_enlist_28 (fun H locs hP => ?_)
        refine lv_aload_n hx hb dX3_enlist_29 rfl (lv_at hl 0 rfl) ?_
        refine r_get C hP (ci := 3) rfl uin_X3 5 (by decide) 0 (by decide) rfl qFL_RX3_30 rfl rfl dX3_enlist_30 ?_
        refine lv_iload_n hx hb dX3_enlist_33 rfl (lv_at hl 1 rfl) ?_
        refine lv_iload_n hx hb dX3_enlist_34 rfl (lv_at hl 3 rfl) ?_
        obtain ⟨hg, h⟩ := k_gd h
        obtain ⟨σ2, eσ2, h⟩ := k_ltx h
        refine st_X_amounts C hP hap hAA eσ2 hg dX3_enlist_35 (fun H locs hP => ?_)
        exact e_vret C hend hP (congrArg (xw ev ad) (k_some h)) dX3_enlist_36
def f_X3_player (σ : XX) (a1 : Int32) (a2 : Int32) : Option (Int32 × XX) :=
  if a1 < 0 then ob2 (f_X3_refuse σ (-2)) (fun x2 σ1 => some (x2, σ1)) else if 6 ≤ a1 then ob2 (f_X3_refuse σ (-2)) (fun x4 σ3 => some (x4, σ3)) else if a2 < 0 then ob2 (f_X3_refuse σ (-2)) (fun x6 σ5 => some (x6, σ5)) else if a2 ≤ 9 then if (x_crew σ) < 6 then ob (f_X3_enlist σ (x_crew σ) a1 a2) (fun σ7 => lt (x_crew' σ7 ((x_crew σ7) + 1)) (fun σ8 => some (((x_crew σ8) - 1), σ8))) else ob2 (f_X3_refuse σ (-6)) (fun x10 σ9 => some (x10, σ9)) else ob2 (f_X3_refuse σ (-2)) (fun x12 σ11 => some (x12, σ11))
set_option maxHeartbeats 4000000 in
set_option maxRecDepth 100000 in
theorem c_X3_player (l : Launch) (ev : EV) (ad : Nat → Nat) (σ : XX) (a1 : Int32) (a2 : Int32)   (r : Int32) (σ' : XX) (h : f_X3_player σ a1 a2 = some (r, σ')) : Ct l yX3_player prog_1_method_10_code 3 (Option.some Jvm.ClassFile.FieldType.int) (rmk 1 23) ev 26 ad (xw ev ad σ) (xw ev ad σ') [.ref (ad 0), .int a1, .int a2] (some (.int r)) := by
  refine Ct.of (by decide +kernel) (Nat.le_of_ble_eq_true rfl) ?_
  intro p e s m args below meth c Qc C hap hP hend ls hl
  have hAA : ∀ j, j < 26 → inA ad 26 (ad j) := fun j hj => ⟨j, hj, rfl⟩
  have hx := C.1
  have hb := C.2.1
  have hl : lv_has ls 3 [(0, .ref (ad 0)), (1, .int a1), (2, .int a2)] := hl
  have h := (f_X3_player.eq_1 _ _ _ ).symm.trans h
  refine lv_iload_n hx hb dX3_player_0 rfl (lv_at hl 1 rfl) ?_
  refine lv_if_lt (tgt := 20) hx hb dX3_player_1 (by decide) (fun c1 => ?_) (fun c1 => ?_)
  · have h := k_if c1 h
    refine lv_aload_n hx hb dX3_player_20 rfl (lv_at hl 0 rfl) ?_
    refine lv_bipush (v := (-2)) hx hb dX3_player_21 (by decide) ?_
    obtain ⟨x2, σ1, h1, h⟩ := k_ob2 h
    refine k_callVi C hP hap hAA (c_X3_refuse l ev ad σ (-2)   _ _ h1) Emb.same hap gz_X3_refuse qML_RX3_60 qIM_yX3_refuse qSE_yX3_refuse ⟨(Nat.le_of_ble_eq_true rfl), (Nat.le_of_ble_eq_true rfl)⟩ (q0 := 0) rfl (by decide) rfl rfl rfl rfl hl.1 rfl (Nat.le_of_ble_eq_true rfl) dX3_player_23 ⟨Nat.le_refl _, Nat.le_refl _⟩ (fun H locs hP => ?_)
    exact e_iret C hend hP (k_some2 h).1 (congrArg (xw ev ad) (k_some2 h).2) dX3_player_26
  · have h := k_nf c1 h
    refine lv_iload_n hx hb dX3_player_4 rfl (lv_at hl 1 rfl) ?_
    refine lv_bipush (v := 6) hx hb dX3_player_5 (by decide) ?_
    refine lv_icmp_ge (tgt := 20) hx hb dX3_player_7 (by decide) (fun c7 => ?_) (fun c7 => ?_)
    · have h := k_if c7 h
      refine lv_aload_n hx hb dX3_player_20 rfl (lv_at hl 0 rfl) ?_
      refine lv_bipush (v := (-2)) hx hb dX3_player_21 (by decide) ?_
      obtain ⟨x4, σ3, h1, h⟩ := k_ob2 h
      refine k_callVi C hP hap hAA (c_X3_refuse l ev ad σ (-2)   _ _ h1) Emb.same hap gz_X3_refuse qML_RX3_60 qIM_yX3_refuse qSE_yX3_refuse ⟨(Nat.le_of_ble_eq_true rfl), (Nat.le_of_ble_eq_true rfl)⟩ (q0 := 0) rfl (by decide) rfl rfl rfl rfl hl.1 rfl (Nat.le_of_ble_eq_true rfl) dX3_player_23 ⟨Nat.le_refl _, Nat.le_refl _⟩ (fun H locs hP => ?_)
      exact e_iret C hend hP (k_some2 h).1 (congrArg (xw ev ad) (k_some2 h).2) dX3_player_26
    · have h := k_nf c7 h
      refine lv_iload_n hx hb dX3_player_10 rfl (lv_at hl 2 rfl) ?_
      refine lv_if_lt (tgt := 20) hx hb dX3_player_11 (by decide) (fun c11 => ?_) (fun c11 => ?_)
      · have h := k_if c11 h
        refine lv_aload_n hx hb dX3_player_20 rfl (lv_at hl 0 rfl) ?_
        refine lv_bipush (v := (-2)) hx hb dX3_player_21 (by decide) ?_
        obtain ⟨x6, σ5, h1, h⟩ := k_ob2 h
        refine k_callVi C hP hap hAA (c_X3_refuse l ev ad σ (-2)   _ _ h1) Emb.same hap gz_X3_refuse qML_RX3_60 qIM_yX3_refuse qSE_yX3_refuse ⟨(Nat.le_of_ble_eq_true rfl), (Nat.le_of_ble_eq_true rfl)⟩ (q0 := 0) rfl (by decide) rfl rfl rfl rfl hl.1 rfl (Nat.le_of_ble_eq_true rfl) dX3_player_23 ⟨Nat.le_refl _, Nat.le_refl _⟩ (fun H locs hP => ?_)
        exact e_iret C hend hP (k_some2 h).1 (congrArg (xw ev ad) (k_some2 h).2) dX3_player_26
      · have h := k_nf c11 h
        refine lv_iload_n hx hb dX3_player_14 rfl (lv_at hl 2 rfl) ?_
        refine lv_bipush (v := 9) hx hb dX3_player_15 (by decide) ?_
        refine lv_icmp_le (tgt := 27) hx hb dX3_player_17 (by decide) (fun c17 => ?_) (fun c17 => ?_)
        · have h := k_if c17 h
          refine lv_aload_n hx hb dX3_player_27 rfl (lv_at hl 0 rfl) ?_
          refine r_get C hP (ci := 3) rfl uin_X3 6 (by decide) 0 (by decide) rfl qFL_RX3_33 rfl rfl dX3_player_28 ?_
          refine lv_bipush (v := 6) hx hb dX3_player_31 (by decide) ?_
          refine lv_icmp_lt (tgt := 43) hx hb dX3_player_33 (by decide) (fun c33 => ?_) (fun c33 => ?_)
          · have h := k_if c33 h
            refine lv_aload_n hx hb dX3_player_43 rfl (lv_at hl 0 rfl) ?_
            refine lv_aload_n hx hb dX3_player_44 rfl (lv_at hl 0 rfl) ?_
            refine r_get C hP (ci := 3) rfl uin_X3 6 (by decide) 0 (by decide) rfl qFL_RX3_33 rfl rfl dX3_player_45 ?_
            refine lv_iload_n hx hb dX3_player_48 rfl (lv_at hl 1 rfl) ?_
            refine lv_iload_n hx hb dX3_player_49 rfl (lv_at hl 2 rfl) ?_
            obtain ⟨σ7, h1, h⟩ := k_ob h
            refine k_callVv C hP hap hAA (c_X3_enlist l ev ad σ (x_crew σ) a1 a2   _ h1) Emb.same hap gz_X3_enlist qML_RX3_149 qIM_yX3_enlist qSE_yX3_enlist ⟨(Nat.le_of_ble_eq_true rfl), (Nat.le_of_ble_eq_true rfl)⟩ (q0 := 0) rfl (by decide) rfl rfl rfl rfl hl.1 rfl (Nat.le_of_ble_eq_true rfl) dX3_player_50 ⟨Nat.le_refl _, Nat.le_refl _⟩ (fun H locs hP => ?_)
            refine lv_aload_n hx hb dX3_player_53 rfl (lv_at hl 0 rfl) ?_
            refine lv_dup hx hb dX3_player_54 rfl ?_
            refine r_get C hP (ci := 3) rfl uin_X3 6 (by decide) 0 (by decide) rfl qFL_RX3_33 rfl rfl dX3_player_55 ?_
            refine lv_iconst (v := 1) hx hb dX3_player_58 (by decide) ?_
            refine lv_iadd hx hb dX3_player_59 ?_
            obtain ⟨σ8, eσ8, h⟩ := k_ltx h
            refine pt_X_X3_crew C hP hap hAA eσ8 qFL_RX3_33 dX3_player_60 (fun H locs hP => ?_)
            refine lv_aload_n hx hb dX3_player_63 rfl (lv_at hl 0 rfl) ?_
            refine r_get C hP (ci := 3) rfl uin_X3 6 (by decide) 0 (by decide) rfl qFL_RX3_33 rfl rfl dX3_player_64 ?_
            refine lv_iconst (v := 1) hx hb dX3_player_67 (by decide) ?_
            refine lv_isub hx hb dX3_player_68 ?_
            exact e_iret C hend hP (k_some2 h).1 (congrArg (xw ev ad) (k_some2 h).2) dX3_player_69
          · have h := k_nf c33 h
            refine lv_aload_n hx hb dX3_player_36 rfl (lv_at hl 0 rfl) ?_
            refine lv_bipush (v := (-6)) hx hb dX3_player_37 (by decide) ?_
            obtain ⟨x10, σ9, h1, h⟩ := k_ob2 h
            refine k_callVi C hP hap hAA (c_X3_refuse l ev ad σ (-6)   _ _ h1) Emb.same hap gz_X3_refuse qML_RX3_60 qIM_yX3_refuse qSE_yX3_refuse ⟨(Nat.le_of_ble_eq_true rfl), (Nat.le_of_ble_eq_true rfl)⟩ (q0 := 0) rfl (by decide) rfl rfl rfl rfl hl.1 rfl (Nat.le_of_ble_eq_true rfl) dX3_player_39 ⟨Nat.le_refl _, Nat.le_refl _⟩ (fun H locs hP => ?_)
            exact e_iret C hend hP (k_some2 h).1 (congrArg (xw ev ad) (k_some2 h).2) dX3_player_42
        · have h := k_nf c17 h
          refine lv_aload_n hx hb dX3_player_20 rfl (lv_at hl 0 rfl) ?_
          refine lv_bipush (v := (-2)) hx hb dX3_player_21 (by decide) ?_
          obtain ⟨x12, σ11, h1, h⟩ := k_ob2 h
          refine k_callVi C hP hap hAA (c_X3_refuse l ev ad σ (-2)   _ _ h1) Emb.same hap gz_X3_refuse qML_RX3_60 qIM_yX3_refuse qSE_yX3_refuse ⟨(Nat.le_of_ble_eq_true rfl), (Nat.le_of_ble_eq_true rfl)⟩ (q0 := 0) rfl (by decide) rfl rfl rfl rfl hl.1 rfl (Nat.le_of_ble_eq_true rfl) dX3_player_23 ⟨Nat.le_refl _, Nat.le_refl _⟩ (fun H locs hP => ?_)
          exact e_iret C hend hP (k_some2 h).1 (congrArg (xw ev ad) (k_some2 h).2) dX3_player_26
def f_X3_isSeat (a1 : Int32) : Bool :=
  if a1 = 0 then true else if a1 = 1 then true else false
set_option maxHeartbeats 4000000 in
set_option maxRecDepth 100000 in
theorem c_X3_isSeat (l : Launch) (ev : EV) (ad : Nat → Nat) (a1 : Int32)   (r : Bool)  (h : f_X3_isSeat a1 = r) : Ct l yX3_isSeat prog_1_method_64_code 1 (Option.some Jvm.ClassFile.FieldType.boolean) (rmk 0 0) ev 0 ad w00 w00 [.int a1] (some (.int (bi r))) := by
  refine Ct.of (by decide +kernel) (Nat.le_of_ble_eq_true rfl) ?_
  intro p e s m args below meth c Qc C hap hP hend ls hl
  have hAA : ∀ j, j < 0 → inA ad 0 (ad j) := fun j hj => ⟨j, hj, rfl⟩
  have hx := C.1
  have hb := C.2.1
  have hl : lv_has ls 1 [(0, .int a1)] := hl
  have h := (f_X3_isSeat.eq_1 _ ).symm.trans h
  refine lv_iload_n hx hb dX3_isSeat_0 rfl (lv_at hl 0 rfl) ?_
  refine lv_if_eq (tgt := 9) hx hb dX3_isSeat_1 (by decide) (fun c1 => ?_) (fun c1 => ?_)
  · have h := k_if c1 h
    refine lv_iconst (v := 1) hx hb dX3_isSeat_9 (by decide) ?_
    refine lv_goto (tgt := 14) hx hb dX3_isSeat_10 (by decide) ?_
    exact e_zret C hend hP h rfl dX3_isSeat_14 rfl
  · have h := k_nf c1 h
    refine lv_iload_n hx hb dX3_isSeat_4 rfl (lv_at hl 0 rfl) ?_
    refine lv_iconst (v := 1) hx hb dX3_isSeat_5 (by decide) ?_
    refine lv_icmp_ne (tgt := 13) hx hb dX3_isSeat_6 (by decide) (fun c6 => ?_) (fun c6 => ?_)
    · have h := k_nf c6 h
      refine lv_iconst (v := 0) hx hb dX3_isSeat_13 (by decide) ?_
      exact e_zret C hend hP h rfl dX3_isSeat_14 rfl
    · have h := k_if c6 h
      refine lv_iconst (v := 1) hx hb dX3_isSeat_9 (by decide) ?_
      refine lv_goto (tgt := 14) hx hb dX3_isSeat_10 (by decide) ?_
      exact e_zret C hend hP h rfl dX3_isSeat_14 rfl
def f_X3_turn (σ : XX) (a1 : Int32) : Option (Int32 × XX) :=
  if (f_X3_isSeat a1) = true then lt (g_turn (x_now σ)) (fun x1 => lt (x_now' σ (g_turn' (x_now σ) a1)) (fun σ2 => some (x1, σ2))) else ob2 (f_X3_refuse σ (-2)) (fun x4 σ3 => some (x4, σ3))
set_option maxHeartbeats 4000000 in
set_option maxRecDepth 100000 in
theorem c_X3_turn (l : Launch) (ev : EV) (ad : Nat → Nat) (σ : XX) (a1 : Int32)   (r : Int32) (σ' : XX) (h : f_X3_turn σ a1 = some (r, σ')) : Ct l yX3_turn prog_1_method_11_code 3 (Option.some Jvm.ClassFile.FieldType.int) (rmk 1 22) ev 26 ad (xw ev ad σ) (xw ev ad σ') [.ref (ad 0), .int a1] (some (.int r)) := by
  refine Ct.of (by decide +kernel) (Nat.le_of_ble_eq_true rfl) ?_
  intro p e s m args below meth c Qc C hap hP hend ls hl
  have hAA : ∀ j, j < 26 → inA ad 26 (ad j) := fun j hj => ⟨j, hj, rfl⟩
  have hx := C.1
  have hb := C.2.1
  have hl : lv_has ls 3 [(0, .ref (ad 0)), (1, .int a1)] := hl
  have h := (f_X3_turn.eq_1 _ _ ).symm.trans h
  refine lv_iload_n hx hb dX3_turn_0 rfl (lv_at hl 1 rfl) ?_
  refine k_callSi C hP hap hAA (c_X3_isSeat l ev ad a1   _ rfl) Emb.none (apart_0 _) gz_X3_isSeat qML_RX3_153 qSM_yX3_isSeat ⟨(Nat.le_of_ble_eq_true rfl), (Nat.le_of_ble_eq_true rfl)⟩ rfl hl.1 rfl (Nat.le_of_ble_eq_true rfl) dX3_turn_1 ⟨Nat.le_refl _, Nat.le_refl _⟩ (fun H locs hP => ?_)
  refine r_ifz_ne (tgt := 14) hx hb dX3_turn_4 (by decide) (fun c4 => ?_) (fun c4 => ?_)
  · have h := k_if c4 h
    refine lv_aload_n hx hb dX3_turn_14 rfl (lv_at hl 0 rfl) ?_
    refine r_get C hP (ci := 3) rfl uin_X3 0 (by decide) 0 (by decide) rfl qFL_RX3_10 rfl rfl dX3_turn_15 ?_
    refine r_get C hP (ci := 0) rfl uin_X0 13 (by decide) 1 (by decide) rfl qFL_RX3_156 rfl rfl dX3_turn_18 ?_
    refine lv_topi (fun x1 ex1 => ?_)
    have h := k_lt ex1 h
    refine lv_istore_n (lv' := [(2, .int x1), (0, .ref (ad 0)), (1, .int a1)]) hx hb dX3_turn_21 rfl hl (by decide) rfl (fun ls hl => ?_)
    refine lv_aload_n hx hb dX3_turn_22 rfl (lv_at hl 1 rfl) ?_
    refine r_get C hP (ci := 3) rfl uin_X3 0 (by decide) 0 (by decide) rfl qFL_RX3_10 rfl rfl dX3_turn_23 ?_
    refine lv_iload_n hx hb dX3_turn_26 rfl (lv_at hl 2 rfl) ?_
    obtain ⟨σ2, eσ2, h⟩ := k_ltx h
    refine pt_X1_X0_turn C hP hap hAA eσ2 qFL_RX3_156 dX3_turn_27 (fun H locs hP => ?_)
    refine lv_iload_n hx hb dX3_turn_30 rfl (lv_at hl 0 rfl) ?_
    exact e_iret C hend hP (k_some2 h).1 (congrArg (xw ev ad) (k_some2 h).2) dX3_turn_31
  · have h := k_nf c4 h
    refine lv_aload_n hx hb dX3_turn_7 rfl (lv_at hl 0 rfl) ?_
    refine lv_bipush (v := (-2)) hx hb dX3_turn_8 (by decide) ?_
    obtain ⟨x4, σ3, h1, h⟩ := k_ob2 h
    refine k_callVi C hP hap hAA (c_X3_refuse l ev ad σ (-2)   _ _ h1) Emb.same hap gz_X3_refuse qML_RX3_60 qIM_yX3_refuse qSE_yX3_refuse ⟨(Nat.le_of_ble_eq_true rfl), (Nat.le_of_ble_eq_true rfl)⟩ (q0 := 0) rfl (by decide) rfl rfl rfl rfl hl.1 rfl (Nat.le_of_ble_eq_true rfl) dX3_turn_10 ⟨Nat.le_refl _, Nat.le_refl _⟩ (fun H locs hP => ?_)
    exact e_iret C hend hP (k_some2 h).1 (congrArg (xw ev ad) (k_some2 h).2) dX3_turn_13
def f_X3_feed (σ : XX) (a1 : Int32) : Option (Int32 × XX) :=
  if a1 < 0 then ob2 (f_X3_refuse σ (-2)) (fun x2 σ1 => some (x2, σ1)) else if a1 ≤ 255 then if (t_length (x_tape σ)) < 250 then ob (f_X2_append (x_tape σ) a1) (fun σ3 => lt (x_tape' σ σ3) (fun σ4 => some ((t_length (x_tape σ4)), σ4))) else ob2 (f_X3_refuse σ (-6)) (fun x6 σ5 => some (x6, σ5)) else ob2 (f_X3_refuse σ (-2)) (fun x8 σ7 => some (x8, σ7))
set_option maxHeartbeats 4000000 in
set_option maxRecDepth 100000 in
theorem c_X3_feed (l : Launch) (ev : EV) (ad : Nat → Nat) (σ : XX) (a1 : Int32)   (r : Int32) (σ' : XX) (h : f_X3_feed σ a1 = some (r, σ')) : Ct l yX3_feed prog_1_method_12_code 2 (Option.some Jvm.ClassFile.FieldType.int) (rmk 1 22) ev 26 ad (xw ev ad σ) (xw ev ad σ') [.ref (ad 0), .int a1] (some (.int r)) := by
  refine Ct.of (by decide +kernel) (Nat.le_of_ble_eq_true rfl) ?_
  intro p e s m args below meth c Qc C hap hP hend ls hl
  have hAA : ∀ j, j < 26 → inA ad 26 (ad j) := fun j hj => ⟨j, hj, rfl⟩
  have hx := C.1
  have hb := C.2.1
  have hl : lv_has ls 2 [(0, .ref (ad 0)), (1, .int a1)] := hl
  have h := (f_X3_feed.eq_1 _ _ ).symm.trans h
  refine lv_iload_n hx hb dX3_feed_0 rfl (lv_at hl 1 rfl) ?_
  refine lv_if_lt (tgt := 11) hx hb dX3_feed_1 (by decide) (fun c1 => ?_) (fun c1 => ?_)
  · have h := k_if c1 h
    refine lv_aload_n hx hb dX3_feed_11 rfl (lv_at hl 0 rfl) ?_
    refine lv_bipush (v := (-2)) hx hb dX3_feed_12 (by decide) ?_
    obtain ⟨x2, σ1, h1, h⟩ := k_ob2 h
    refine k_callVi C hP hap hAA (c_X3_refuse l ev ad σ (-2)   _ _ h1) Emb.same hap gz_X3_refuse qML_RX3_60 qIM_yX3_refuse qSE_yX3_refuse ⟨(Nat.le_of_ble_eq_true rfl), (Nat.le_of_ble_eq_true rfl)⟩ (q0 := 0) rfl (by decide) rfl rfl rfl rfl hl.1 rfl (Nat.le_of_ble_eq_true rfl) dX3_feed_14 ⟨Nat.le_refl _, Nat.le_refl _⟩ (fun H locs hP => ?_)
    exact e_iret C hend hP (k_some2 h).1 (congrArg (xw ev ad) (k_some2 h).2) dX3_feed_17
  · have h := k_nf c1 h
    refine lv_iload_n hx hb dX3_feed_4 rfl (lv_at hl 1 rfl) ?_
    refine lv_sipush (v := 255) hx hb dX3_feed_5 (by decide) ?_
    refine lv_icmp_le (tgt := 18) hx hb dX3_feed_8 (by decide) (fun c8 => ?_) (fun c8 => ?_)
    · have h := k_if c8 h
      refine lv_aload_n hx hb dX3_feed_18 rfl (lv_at hl 0 rfl) ?_
      refine r_get C hP (ci := 3) rfl uin_X3 9 (by decide) 0 (by decide) rfl qFL_RX3_48 rfl rfl dX3_feed_19 ?_
      refine r_get C hP (ci := 2) rfl uin_X2 1 (by decide) 8 (by decide) rfl qFL_RX3_159 rfl rfl dX3_feed_22 ?_
      refine lv_sipush (v := 250) hx hb dX3_feed_25 (by decide) ?_
      refine lv_icmp_lt (tgt := 38) hx hb dX3_feed_28 (by decide) (fun c28 => ?_) (fun c28 => ?_)
      · have h := k_if c28 h
        refine lv_aload_n hx hb dX3_feed_38 rfl (lv_at hl 0 rfl) ?_
        refine r_get C hP (ci := 3) rfl uin_X3 9 (by decide) 0 (by decide) rfl qFL_RX3_48 rfl rfl dX3_feed_39 ?_
        refine lv_iload_n hx hb dX3_feed_42 rfl (lv_at hl 1 rfl) ?_
        obtain ⟨σ3, h1, h⟩ := k_ob h
        refine k_callVv C hP hap hAA (c_X2_append l ev (fun j => ad (j + 8)) (x_tape σ) a1   _ h1) (em_T) (apart_T hap) gz_X2_append qML_RX3_162 qIM_yX2_append qSE_yX2_append ⟨(Nat.le_of_ble_eq_true rfl), (Nat.le_of_ble_eq_true rfl)⟩ (q0 := 8) rfl (by decide) rfl rfl rfl rfl hl.1 rfl (Nat.le_of_ble_eq_true rfl) dX3_feed_43 ⟨Nat.le_refl _, Nat.le_refl _⟩ (fun H locs hP => ?_)
        obtain ⟨σ4, eσ4, h⟩ := k_ltx h
        rw [← eσ4] at hP
        refine lv_aload_n hx hb dX3_feed_46 rfl (lv_at hl 0 rfl) ?_
        refine r_get C hP (ci := 3) rfl uin_X3 9 (by decide) 0 (by decide) rfl qFL_RX3_48 rfl rfl dX3_feed_47 ?_
        refine r_get C hP (ci := 2) rfl uin_X2 1 (by decide) 8 (by decide) rfl qFL_RX3_159 rfl rfl dX3_feed_50 ?_
        exact e_iret C hend hP (k_some2 h).1 (congrArg (xw ev ad) (k_some2 h).2) dX3_feed_53
      · have h := k_nf c28 h
        refine lv_aload_n hx hb dX3_feed_31 rfl (lv_at hl 0 rfl) ?_
        refine lv_bipush (v := (-6)) hx hb dX3_feed_32 (by decide) ?_
        obtain ⟨x6, σ5, h1, h⟩ := k_ob2 h
        refine k_callVi C hP hap hAA (c_X3_refuse l ev ad σ (-6)   _ _ h1) Emb.same hap gz_X3_refuse qML_RX3_60 qIM_yX3_refuse qSE_yX3_refuse ⟨(Nat.le_of_ble_eq_true rfl), (Nat.le_of_ble_eq_true rfl)⟩ (q0 := 0) rfl (by decide) rfl rfl rfl rfl hl.1 rfl (Nat.le_of_ble_eq_true rfl) dX3_feed_34 ⟨Nat.le_refl _, Nat.le_refl _⟩ (fun H locs hP => ?_)
        exact e_iret C hend hP (k_some2 h).1 (congrArg (xw ev ad) (k_some2 h).2) dX3_feed_37
    · have h := k_nf c8 h
      refine lv_aload_n hx hb dX3_feed_11 rfl (lv_at hl 0 rfl) ?_
      refine lv_bipush (v := (-2)) hx hb dX3_feed_12 (by decide) ?_
      obtain ⟨x8, σ7, h1, h⟩ := k_ob2 h
      refine k_callVi C hP hap hAA (c_X3_refuse l ev ad σ (-2)   _ _ h1) Emb.same hap gz_X3_refuse qML_RX3_60 qIM_yX3_refuse qSE_yX3_refuse ⟨(Nat.le_of_ble_eq_true rfl), (Nat.le_of_ble_eq_true rfl)⟩ (q0 := 0) rfl (by decide) rfl rfl rfl rfl hl.1 rfl (Nat.le_of_ble_eq_true rfl) dX3_feed_14 ⟨Nat.le_refl _, Nat.le_refl _⟩ (fun H locs hP => ?_)
      exact e_iret C hend hP (k_some2 h).1 (congrArg (xw ev ad) (k_some2 h).2) dX3_feed_17
def f_X3_wipe (σ : XX) : Option (Int32 × XX) :=
  lt (t_length (x_tape σ)) (fun x1 => lt (x_tape' σ (t_length' (x_tape σ) 0)) (fun σ2 => some (x1, σ2)))
set_option maxHeartbeats 4000000 in
set_option maxRecDepth 100000 in
theorem c_X3_wipe (l : Launch) (ev : EV) (ad : Nat → Nat) (σ : XX)   (r : Int32) (σ' : XX) (h : f_X3_wipe σ = some (r, σ')) : Ct l yX3_wipe prog_1_method_13_code 2 (Option.some Jvm.ClassFile.FieldType.int) (rmk 0 0) ev 26 ad (xw ev ad σ) (xw ev ad σ') [.ref (ad 0)] (some (.int r)) := by
  refine Ct.of (by decide +kernel) (Nat.le_of_ble_eq_true rfl) ?_
  intro p e s m args below meth c Qc C hap hP hend ls hl
  have hAA : ∀ j, j < 26 → inA ad 26 (ad j) := fun j hj => ⟨j, hj, rfl⟩
  have hx := C.1
  have hb := C.2.1
  have hl : lv_has ls 2 [(0, .ref (ad 0))] := hl
  have h := (f_X3_wipe.eq_1 _ ).symm.trans h
  refine lv_aload_n hx hb dX3_wipe_0 rfl (lv_at hl 0 rfl) ?_
  refine r_get C hP (ci := 3) rfl uin_X3 9 (by decide) 0 (by decide) rfl qFL_RX3_48 rfl rfl dX3_wipe_1 ?_
  refine r_get C hP (ci := 2) rfl uin_X2 1 (by decide) 8 (by decide) rfl qFL_RX3_159 rfl rfl dX3_wipe_4 ?_
  refine lv_topi (fun x1 ex1 => ?_)
  have h := k_lt ex1 h
  refine lv_istore_n (lv' := [(1, .int x1), (0, .ref (ad 0))]) hx hb dX3_wipe_7 rfl hl (by decide) rfl (fun ls hl => ?_)
  refine lv_aload_n hx hb dX3_wipe_8 rfl (lv_at hl 1 rfl) ?_
  refine r_get C hP (ci := 3) rfl uin_X3 9 (by decide) 0 (by decide) rfl qFL_RX3_48 rfl rfl dX3_wipe_9 ?_
  refine lv_iconst (v := 0) hx hb dX3_wipe_12 (by decide) ?_
  obtain ⟨σ2, eσ2, h⟩ := k_ltx h
  refine pt_X8_X2_length C hP hap hAA eσ2 qFL_RX3_159 dX3_wipe_13 (fun H locs hP => ?_)
  refine lv_iload_n hx hb dX3_wipe_16 rfl (lv_at hl 0 rfl) ?_
  exact e_iret C hend hP (k_some2 h).1 (congrArg (xw ev ad) (k_some2 h).2) dX3_wipe_17
def f_X2_isWord_w1_L24_b (σ : TT)  (rec24 : Bool → Int32 → Option (Bool)) (b2 : Bool) (x3 : Int32) : Option (Bool) :=
  if 5 ≤ x3 then some b2 else if b2 = true then ob (f_X2_byteAt σ ((t_from σ) + x3)) (fun x4 => gd (inb x3 5) (if x4 = (sch 1 x3) then lt (x3 + 1) (fun x6 => rec24 true x6) else lt (x3 + 1) (fun x5 => rec24 false x5))) else some b2
def f_X2_isWord_w1_L24 (σ : TT)  (b2 : Bool) (x3 : Int32) : Option (Bool) :=
  lp (fun _ _ => none) (f_X2_isWord_w1_L24_b σ ) FU b2 x3
def f_X2_isWord_w1_b21 (σ : TT) (b1 : Bool) : Option (Bool) :=
  f_X2_isWord_w1_L24 σ b1 0
def f_X2_isWord_w1 (σ : TT) : Option (Bool) :=
  if ((t_upto σ) - (t_from σ)) = 5 then f_X2_isWord_w1_b21 σ true else f_X2_isWord_w1_b21 σ false
set_option maxHeartbeats 4000000 in
set_option maxRecDepth 100000 in
theorem c_X2_isWord_w1 (l : Launch) (ev : EV) (ad : Nat → Nat) (σ : TT)   (r : Bool)  (h : f_X2_isWord_w1 σ = some r) : Ct l yX2_isWord prog_4_method_9_code 4 (Option.some Jvm.ClassFile.FieldType.boolean) (rmk 8 300) ev 2 ad (tw ev ad σ) (tw ev ad σ) [.ref (ad 0), .ref (ev.2.2.2.1 1)] (some (.int (bi r))) := by
  refine Ct.of (by decide +kernel) (Nat.le_of_ble_eq_true rfl) ?_
  intro p e s m args below meth c Qc C hap hP hend ls hl
  have hAA : ∀ j, j < 2 → inA ad 2 (ad j) := fun j hj => ⟨j, hj, rfl⟩
  have hx := C.1
  have hb := C.2.1
  have hl : lv_has ls 4 [(0, .ref (ad 0)), (1, .ref (ev.2.2.2.1 1))] := hl
  have h := (f_X2_isWord_w1.eq_1 _ ).symm.trans h
  have hB21 : ∀ (b1 : Bool) (H : Heap) (locs : List Loc) (ls : Array Slot), f_X2_isWord_w1_b21 σ b1 = some r → PS ev 2 ad (tw ev ad σ) (inA ad 2) s H locs → lv_has ls 4 [(0, .ref (ad 0)), (1, .ref (ev.2.2.2.1 1))] → WW ev p l e (rmk 8 300) s m args below meth c Qc ad 2 H locs 21 ls [.int (bi b1)] := by
    intro b1 H locs ls h hP hl
    have h := (f_X2_isWord_w1_b21.eq_1 _ _ ).symm.trans h
    refine lv_istore_n (lv' := [(2, .int (bi b1)), (0, .ref (ad 0)), (1, .ref (ev.2.2.2.1 1))]) hx hb dX2_isWord_21 rfl hl (by decide) rfl (fun ls hl => ?_)
    refine lv_iconst (v := 0) hx hb dX2_isWord_22 (by decide) ?_
    refine lv_istore_n (lv' := [(3, .int 0), (2, .int (bi b1)), (0, .ref (ad 0)), (1, .ref (ev.2.2.2.1 1))]) hx hb dX2_isWord_23 rfl hl (by decide) rfl (fun ls hl => ?_)
    have hL24 : ∀ (n : Nat) (b2 : Bool) (x3 : Int32) (H : Heap) (locs : List Loc) (ls : Array Slot), lp (fun _ _ => none) (f_X2_isWord_w1_L24_b σ ) n b2 x3 = some r → PS ev 2 ad (tw ev ad σ) (inA ad 2) s H locs → lv_has ls 4 [(0, .ref (ad 0)), (1, .ref (ev.2.2.2.1 1)), (2, .int (bi b2)), (3, .int x3)] → WW ev p l e (rmk 8 300) s m args below meth c Qc ad 2 H locs 24 ls [] := by
      intro n
      induction n with
      | zero =>
        intro b2 x3 H locs ls h; exact k_none h
      | succ n ih =>
        intro b2 x3 H locs ls h hP hl
        have h : f_X2_isWord_w1_L24_b σ  (lp (fun _ _ => none) (f_X2_isWord_w1_L24_b σ ) n) b2 x3 = some r := h
        have h := (f_X2_isWord_w1_L24_b.eq_1 _ _ _ _ ).symm.trans h
        refine lv_iload_n hx hb dX2_isWord_24 rfl (lv_at hl 3 rfl) ?_
        refine lv_aload_n hx hb dX2_isWord_25 rfl (lv_at hl 1 rfl) ?_
        refine r_slen C hP hap hAA 1 (by decide) qML_RX2_38 ⟨(Nat.le_of_ble_eq_true rfl), (Nat.le_of_ble_eq_true rfl)⟩ hl.1 (by exact (Nat.le_of_ble_eq_true rfl)) dX2_isWord_26 ⟨Nat.le_refl _, Nat.le_refl _⟩ (v := 5) rfl (fun H locs hP => ?_)
        refine lv_icmp_ge (tgt := 66) hx hb dX2_isWord_29 (by decide) (fun c29 => ?_) (fun c29 => ?_)
        · have h := k_if c29 h
          refine lv_iload_n hx hb dX2_isWord_66 rfl (lv_at hl 2 rfl) ?_
          exact e_zret C hend hP (k_some h) rfl dX2_isWord_67 rfl
        · have h := k_nf c29 h
          refine lv_iload_n hx hb dX2_isWord_32 rfl (lv_at hl 2 rfl) ?_
          refine r_ifz_eq (tgt := 66) hx hb dX2_isWord_33 (by decide) (fun c33 => ?_) (fun c33 => ?_)
          · have h := k_nf c33 h
            refine lv_iload_n hx hb dX2_isWord_66 rfl (lv_at hl 2 rfl) ?_
            exact e_zret C hend hP (k_some h) rfl dX2_isWord_67 rfl
          · have h := k_if c33 h
            refine lv_aload_n hx hb dX2_isWord_36 rfl (lv_at hl 0 rfl) ?_
            refine lv_aload_n hx hb dX2_isWord_37 rfl (lv_at hl 0 rfl) ?_
            refine r_get C hP (ci := 2) rfl uin_X2 2 (by decide) 0 (by decide) rfl qFL_RX2_19 rfl rfl dX2_isWord_38 ?_
            refine lv_iload_n hx hb dX2_isWord_41 rfl (lv_at hl 3 rfl) ?_
            refine lv_iadd hx hb dX2_isWord_42 ?_
            obtain ⟨x4, h1, h⟩ := k_ob h
            refine k_callVi C hP hap hAA (c_X2_byteAt l ev ad σ ((t_from σ) + x3)   _ h1) Emb.same hap gz_X2_byteAt qML_RX2_25 qIM_yX2_byteAt qSE_yX2_byteAt ⟨(Nat.le_of_ble_eq_true rfl), (Nat.le_of_ble_eq_true rfl)⟩ (q0 := 0) rfl (by decide) rfl rfl rfl rfl hl.1 rfl (Nat.le_of_ble_eq_true rfl) dX2_isWord_43 ⟨Nat.le_refl _, Nat.le_refl _⟩ (fun H locs hP => ?_)
            refine lv_aload_n hx hb dX2_isWord_46 rfl (lv_at hl 1 rfl) ?_
            refine lv_iload_n hx hb dX2_isWord_47 rfl (lv_at hl 3 rfl) ?_
            obtain ⟨hg, h⟩ := k_gd h
            refine r_schar C hP hap hAA 1 (by decide) hg qML_RX2_43 ⟨(Nat.le_of_ble_eq_true rfl), (Nat.le_of_ble_eq_true rfl)⟩ hl.1 (by exact (Nat.le_of_ble_eq_true rfl)) dX2_isWord_48 ⟨Nat.le_refl _, Nat.le_refl _⟩ rfl (fun H locs hP => ?_)
            refine lv_icmp_ne (tgt := 58) hx hb dX2_isWord_51 (by decide) (fun c51 => ?_) (fun c51 => ?_)
            · have h := k_nf c51 h
              refine lv_iconst (v := 0) hx hb dX2_isWord_58 (by decide) ?_
              refine lv_istore_n (lv' := [(2, .int (bi false)), (0, .ref (ad 0)), (1, .ref (ev.2.2.2.1 1)), (3, .int x3)]) hx hb dX2_isWord_59 rfl hl (by decide) rfl (fun ls hl => ?_)
              obtain ⟨x5, ex5, h⟩ := k_ltx h
              refine lv_iinc (v := x5) (lv' := [(3, .int x5), (2, .int (bi false)), (0, .ref (ad 0)), (1, .ref (ev.2.2.2.1 1))]) hx hb dX2_isWord_60 hl (k := 3) rfl (by rw [ex5]; rfl) (by decide) rfl (fun ls hl => ?_)
              refine lv_goto (tgt := 24) hx hb dX2_isWord_63 (by decide) ?_
              exact ih _ _ _ _ _ h hP (lv_sub hl [2, 3, 1, 0] rfl)
            · have h := k_if c51 h
              refine lv_iconst (v := 1) hx hb dX2_isWord_54 (by decide) ?_
              refine lv_goto (tgt := 59) hx hb dX2_isWord_55 (by decide) ?_
              refine lv_istore_n (lv' := [(2, .int (bi true)), (0, .ref (ad 0)), (1, .ref (ev.2.2.2.1 1)), (3, .int x3)]) hx hb dX2_isWord_59 rfl hl (by decide) rfl (fun ls hl => ?_)
              obtain ⟨x6, ex6, h⟩ := k_ltx h
              refine lv_iinc (v := x6) (lv' := [(3, .int x6), (2, .int (bi true)), (0, .ref (ad 0)), (1, .ref (ev.2.2.2.1 1))]) hx hb dX2_isWord_60 hl (k := 3) rfl (by rw [ex6]; rfl) (by decide) rfl (fun ls hl => ?_)
              refine lv_goto (tgt := 24) hx hb dX2_isWord_63 (by decide) ?_
              exact ih _ _ _ _ _ h hP (lv_sub hl [2, 3, 1, 0] rfl)
    exact hL24 FU _ _ _ _ _ h hP (lv_sub hl [2, 3, 1, 0] rfl)
  refine lv_aload_n hx hb dX2_isWord_0 rfl (lv_at hl 0 rfl) ?_
  refine r_get C hP (ci := 2) rfl uin_X2 3 (by decide) 0 (by decide) rfl qFL_RX2_22 rfl rfl dX2_isWord_1 ?_
  refine lv_aload_n hx hb dX2_isWord_4 rfl (lv_at hl 0 rfl) ?_
  refine r_get C hP (ci := 2) rfl uin_X2 2 (by decide) 0 (by decide) rfl qFL_RX2_19 rfl rfl dX2_isWord_5 ?_
  refine lv_isub hx hb dX2_isWord_8 ?_
  refine lv_aload_n hx hb dX2_isWord_9 rfl (lv_at hl 1 rfl) ?_
  refine r_slen C hP hap hAA 1 (by decide) qML_RX2_38 ⟨(Nat.le_of_ble_eq_true rfl), (Nat.le_of_ble_eq_true rfl)⟩ hl.1 (by exact (Nat.le_of_ble_eq_true rfl)) dX2_isWord_10 ⟨Nat.le_refl _, Nat.le_refl _⟩ (v := 5) rfl (fun H locs hP => ?_)
  refine lv_icmp_ne (tgt := 20) hx hb dX2_isWord_13 (by decide) (fun c13 => ?_) (fun c13 => ?_)
  · have h := k_nf c13 h
    refine lv_iconst (v := 0) hx hb dX2_isWord_20 (by decide) ?_
    exact hB21 _ _ _ _ h hP (lv_sub hl [0, 1] rfl)
  · have h := k_if c13 h
    refine lv_iconst (v := 1) hx hb dX2_isWord_16 (by decide) ?_
    refine lv_goto (tgt := 21) hx hb dX2_isWord_17 (by decide) ?_
    exact hB21 _ _ _ _ h hP (lv_sub hl [0, 1] rfl)
def f_X2_isWord_w2_L24_b (σ : TT)  (rec24 : Bool → Int32 → Option (Bool)) (b2 : Bool) (x3 : Int32) : Option (Bool) :=
  if 3 ≤ x3 then some b2 else if b2 = true then ob (f_X2_byteAt σ ((t_from σ) + x3)) (fun x4 => gd (inb x3 3) (if x4 = (sch 2 x3) then lt (x3 + 1) (fun x6 => rec24 true x6) else lt (x3 + 1) (fun x5 => rec24 false x5))) else some b2
def f_X2_isWord_w2_L24 (σ : TT)  (b2 : Bool) (x3 : Int32) : Option (Bool) :=
  lp (fun _ _ => none) (f_X2_isWord_w2_L24_b σ ) FU b2 x3
def f_X2_isWord_w2_b21 (σ : TT) (b1 : Bool) : Option (Bool) :=
  f_X2_isWord_w2_L24 σ b1 0
def f_X2_isWord_w2 (σ : TT) : Option (Bool) :=
  if ((t_upto σ) - (t_from σ)) = 3 then f_X2_isWord_w2_b21 σ true else f_X2_isWord_w2_b21 σ false
set_option maxHeartbeats 4000000 in
set_option maxRecDepth 100000 in
theorem c_X2_isWord_w2 (l : Launch) (ev : EV) (ad : Nat → Nat) (σ : TT)   (r : Bool)  (h : f_X2_isWord_w2 σ = some r) : Ct l yX2_isWord prog_4_method_9_code 4 (Option.some Jvm.ClassFile.FieldType.boolean) (rmk 8 300) ev 2 ad (tw ev ad σ) (tw ev ad σ) [.ref (ad 0), .ref (ev.2.2.2.1 2)] (some (.int (bi r))) := by
  refine Ct.of (by decide +kernel) (Nat.le_of_ble_eq_true rfl) ?_
  intro p e s m args below meth c Qc C hap hP hend ls hl
  have hAA : ∀ j, j < 2 → inA ad 2 (ad j) := fun j hj => ⟨j, hj, rfl⟩
  have hx := C.1
  have hb := C.2.1
  have hl : lv_has ls 4 [(0, .ref (ad 0)), (1, .ref (ev.2.2.2.1 2))] := hl
  have h := (f_X2_isWord_w2.eq_1 _ ).symm.trans h
  have hB21 : ∀ (b1 : Bool) (H : Heap) (locs : List Loc) (ls : Array Slot), f_X2_isWord_w2_b21 σ b1 = some r → PS ev 2 ad (tw ev ad σ) (inA ad 2) s H locs → lv_has ls 4 [(0, .ref (ad 0)), (1, .ref (ev.2.2.2.1 2))] → WW ev p l e (rmk 8 300) s m args below meth c Qc ad 2 H locs 21 ls [.int (bi b1)] := by
    intro b1 H locs ls h hP hl
    have h := (f_X2_isWord_w2_b21.eq_1 _ _ ).symm.trans h
    refine lv_istore_n (lv' := [(2, .int (bi b1)), (0, .ref (ad 0)), (1, .ref (ev.2.2.2.1 2))]) hx hb dX2_isWord_21 rfl hl (by decide) rfl (fun ls hl => ?_)
    refine lv_iconst (v := 0) hx hb dX2_isWord_22 (by decide) ?_
    refine lv_istore_n (lv' := [(3, .int 0), (2, .int (bi b1)), (0, .ref (ad 0)), (1, .ref (ev.2.2.2.1 2))]) hx hb dX2_isWord_23 rfl hl (by decide) rfl (fun ls hl => ?_)
    have hL24 : ∀ (n : Nat) (b2 : Bool) (x3 : Int32) (H : Heap) (locs : List Loc) (ls : Array Slot), lp (fun _ _ => none) (f_X2_isWord_w2_L24_b σ ) n b2 x3 = some r → PS ev 2 ad (tw ev ad σ) (inA ad 2) s H locs → lv_has ls 4 [(0, .ref (ad 0)), (1, .ref (ev.2.2.2.1 2)), (2, .int (bi b2)), (3, .int x3)] → WW ev p l e (rmk 8 300) s m args below meth c Qc ad 2 H locs 24 ls [] := by
      intro n
      induction n with
      | zero =>
        intro b2 x3 H locs ls h; exact k_none h
      | succ n ih =>
        intro b2 x3 H locs ls h hP hl
        have h : f_X2_isWord_w2_L24_b σ  (lp (fun _ _ => none) (f_X2_isWord_w2_L24_b σ ) n) b2 x3 = some r := h
        have h := (f_X2_isWord_w2_L24_b.eq_1 _ _ _ _ ).symm.trans h
        refine lv_iload_n hx hb dX2_isWord_24 rfl (lv_at hl 3 rfl) ?_
        refine lv_aload_n hx hb dX2_isWord_25 rfl (lv_at hl 1 rfl) ?_
        refine r_slen C hP hap hAA 2 (by decide) qML_RX2_38 ⟨(Nat.le_of_ble_eq_true rfl), (Nat.le_of_ble_eq_true rfl)⟩ hl.1 (by exact (Nat.le_of_ble_eq_true rfl)) dX2_isWord_26 ⟨Nat.le_refl _, Nat.le_refl _⟩ (v := 3) rfl (fun H locs hP => ?_)
        refine lv_icmp_ge (tgt := 66) hx hb dX2_isWord_29 (by decide) (fun c29 => ?_) (fun c29 => ?_)
        · have h := k_if c29 h
          refine lv_iload_n hx hb dX2_isWord_66 rfl (lv_at hl 2 rfl) ?_
          exact e_zret C hend hP (k_some h) rfl dX2_isWord_67 rfl
        · have h := k_nf c29 h
          refine lv_iload_n hx hb dX2_isWord_32 rfl (lv_at hl 2 rfl) ?_
          refine r_ifz_eq (tgt := 66) hx hb dX2_isWord_33 (by decide) (fun c33 => ?_) (fun c33 => ?_)
          · have h := k_nf c33 h
            refine lv_iload_n hx hb dX2_isWord_66 rfl (lv_at hl 2 rfl) ?_
            exact e_zret C hend hP (k_some h) rfl dX2_isWord_67 rfl
          · have h := k_if c33 h
            refine lv_aload_n hx hb dX2_isWord_36 rfl (lv_at hl 0 rfl) ?_
            refine lv_aload_n hx hb dX2_isWord_37 rfl (lv_at hl 0 rfl) ?_
            refine r_get C hP (ci := 2) rfl uin_X2 2 (by decide) 0 (by decide) rfl qFL_RX2_19 rfl rfl dX2_isWord_38 ?_
            refine lv_iload_n hx hb dX2_isWord_41 rfl (lv_at hl 3 rfl) ?_
            refine lv_iadd hx hb dX2_isWord_42 ?_
            obtain ⟨x4, h1, h⟩ := k_ob h
            refine k_callVi C hP hap hAA (c_X2_byteAt l ev ad σ ((t_from σ) + x3)   _ h1) Emb.same hap gz_X2_byteAt qML_RX2_25 qIM_yX2_byteAt qSE_yX2_byteAt ⟨(Nat.le_of_ble_eq_true rfl), (Nat.le_of_ble_eq_true rfl)⟩ (q0 := 0) rfl (by decide) rfl rfl rfl rfl hl.1 rfl (Nat.le_of_ble_eq_true rfl) dX2_isWord_43 ⟨Nat.le_refl _, Nat.le_refl _⟩ (fun H locs hP => ?_)
            refine lv_aload_n hx hb dX2_isWord_46 rfl (lv_at hl 1 rfl) ?_
            refine lv_iload_n hx hb dX2_isWord_47 rfl (lv_at hl 3 rfl) ?_
            obtain ⟨hg, h⟩ := k_gd h
            refine r_schar C hP hap hAA 2 (by decide) hg qML_RX2_43 ⟨(Nat.le_of_ble_eq_true rfl), (Nat.le_of_ble_eq_true rfl)⟩ hl.1 (by exact (Nat.le_of_ble_eq_true rfl)) dX2_isWord_48 ⟨Nat.le_refl _, Nat.le_refl _⟩ rfl (fun H locs hP => ?_)
            refine lv_icmp_ne (tgt := 58) hx hb dX2_isWord_51 (by decide) (fun c51 => ?_) (fun c51 => ?_)
            · have h := k_nf c51 h
              refine lv_iconst (v := 0) hx hb dX2_isWord_58 (by decide) ?_
              refine lv_istore_n (lv' := [(2, .int (bi false)), (0, .ref (ad 0)), (1, .ref (ev.2.2.2.1 2)), (3, .int x3)]) hx hb dX2_isWord_59 rfl hl (by decide) rfl (fun ls hl => ?_)
              obtain ⟨x5, ex5, h⟩ := k_ltx h
              refine lv_iinc (v := x5) (lv' := [(3, .int x5), (2, .int (bi false)), (0, .ref (ad 0)), (1, .ref (ev.2.2.2.1 2))]) hx hb dX2_isWord_60 hl (k := 3) rfl (by rw [ex5]; rfl) (by decide) rfl (fun ls hl => ?_)
              refine lv_goto (tgt := 24) hx hb dX2_isWord_63 (by decide) ?_
              exact ih _ _ _ _ _ h hP (lv_sub hl [2, 3, 1, 0] rfl)
            · have h := k_if c51 h
              refine lv_iconst (v := 1) hx hb dX2_isWord_54 (by decide) ?_
              refine lv_goto (tgt := 59) hx hb dX2_isWord_55 (by decide) ?_
              refine lv_istore_n (lv' := [(2, .int (bi true)), (0, .ref (ad 0)), (1, .ref (ev.2.2.2.1 2)), (3, .int x3)]) hx hb dX2_isWord_59 rfl hl (by decide) rfl (fun ls hl => ?_)
              obtain ⟨x6, ex6, h⟩ := k_ltx h
              refine lv_iinc (v := x6) (lv' := [(3, .int x6), (2, .int (bi true)), (0, .ref (ad 0)), (1, .ref (ev.2.2.2.1 2))]) hx hb dX2_isWord_60 hl (k := 3) rfl (by rw [ex6]; rfl) (by decide) rfl (fun ls hl => ?_)
              refine lv_goto (tgt := 24) hx hb dX2_isWord_63 (by decide) ?_
              exact ih _ _ _ _ _ h hP (lv_sub hl [2, 3, 1, 0] rfl)
    exact hL24 FU _ _ _ _ _ h hP (lv_sub hl [2, 3, 1, 0] rfl)
  refine lv_aload_n hx hb dX2_isWord_0 rfl (lv_at hl 0 rfl) ?_
  refine r_get C hP (ci := 2) rfl uin_X2 3 (by decide) 0 (by decide) rfl qFL_RX2_22 rfl rfl dX2_isWord_1 ?_
  refine lv_aload_n hx hb dX2_isWord_4 rfl (lv_at hl 0 rfl) ?_
  refine r_get C hP (ci := 2) rfl uin_X2 2 (by decide) 0 (by decide) rfl qFL_RX2_19 rfl rfl dX2_isWord_5 ?_
  refine lv_isub hx hb dX2_isWord_8 ?_
  refine lv_aload_n hx hb dX2_isWord_9 rfl (lv_at hl 1 rfl) ?_
  refine r_slen C hP hap hAA 2 (by decide) qML_RX2_38 ⟨(Nat.le_of_ble_eq_true rfl), (Nat.le_of_ble_eq_true rfl)⟩ hl.1 (by exact (Nat.le_of_ble_eq_true rfl)) dX2_isWord_10 ⟨Nat.le_refl _, Nat.le_refl _⟩ (v := 3) rfl (fun H locs hP => ?_)
  refine lv_icmp_ne (tgt := 20) hx hb dX2_isWord_13 (by decide) (fun c13 => ?_) (fun c13 => ?_)
  · have h := k_nf c13 h
    refine lv_iconst (v := 0) hx hb dX2_isWord_20 (by decide) ?_
    exact hB21 _ _ _ _ h hP (lv_sub hl [0, 1] rfl)
  · have h := k_if c13 h
    refine lv_iconst (v := 1) hx hb dX2_isWord_16 (by decide) ?_
    refine lv_goto (tgt := 21) hx hb dX2_isWord_17 (by decide) ?_
    exact hB21 _ _ _ _ h hP (lv_sub hl [0, 1] rfl)
def f_X2_isWord_w3_L24_b (σ : TT)  (rec24 : Bool → Int32 → Option (Bool)) (b2 : Bool) (x3 : Int32) : Option (Bool) :=
  if 4 ≤ x3 then some b2 else if b2 = true then ob (f_X2_byteAt σ ((t_from σ) + x3)) (fun x4 => gd (inb x3 4) (if x4 = (sch 3 x3) then lt (x3 + 1) (fun x6 => rec24 true x6) else lt (x3 + 1) (fun x5 => rec24 false x5))) else some b2
def f_X2_isWord_w3_L24 (σ : TT)  (b2 : Bool) (x3 : Int32) : Option (Bool) :=
  lp (fun _ _ => none) (f_X2_isWord_w3_L24_b σ ) FU b2 x3
def f_X2_isWord_w3_b21 (σ : TT) (b1 : Bool) : Option (Bool) :=
  f_X2_isWord_w3_L24 σ b1 0
def f_X2_isWord_w3 (σ : TT) : Option (Bool) :=
  if ((t_upto σ) - (t_from σ)) = 4 then f_X2_isWord_w3_b21 σ true else f_X2_isWord_w3_b21 σ false
set_option maxHeartbeats 4000000 in
set_option maxRecDepth 100000 in
theorem c_X2_isWord_w3 (l : Launch) (ev : EV) (ad : Nat → Nat) (σ : TT)   (r : Bool)  (h : f_X2_isWord_w3 σ = some r) : Ct l yX2_isWord prog_4_method_9_code 4 (Option.some Jvm.ClassFile.FieldType.boolean) (rmk 8 300) ev 2 ad (tw ev ad σ) (tw ev ad σ) [.ref (ad 0), .ref (ev.2.2.2.1 3)] (some (.int (bi r))) := by
  refine Ct.of (by decide +kernel) (Nat.le_of_ble_eq_true rfl) ?_
  intro p e s m args below meth c Qc C hap hP hend ls hl
  have hAA : ∀ j, j < 2 → inA ad 2 (ad j) := fun j hj => ⟨j, hj, rfl⟩
  have hx := C.1
  have hb := C.2.1
  have hl : lv_has ls 4 [(0, .ref (ad 0)), (1, .ref (ev.2.2.2.1 3))] := hl
  have h := (f_X2_isWord_w3.eq_1 _ ).symm.trans h
  have hB21 : ∀ (b1 : Bool) (H : Heap) (locs : List Loc) (ls : Array Slot), f_X2_isWord_w3_b21 σ b1 = some r → PS ev 2 ad (tw ev ad σ) (inA ad 2) s H locs → lv_has ls 4 [(0, .ref (ad 0)), (1, .ref (ev.2.2.2.1 3))] → WW ev p l e (rmk 8 300) s m args below meth c Qc ad 2 H locs 21 ls [.int (bi b1)] := by
    intro b1 H locs ls h hP hl
    have h := (f_X2_isWord_w3_b21.eq_1 _ _ ).symm.trans h
    refine lv_istore_n (lv' := [(2, .int (bi b1)), (0, .ref (ad 0)), (1, .ref (ev.2.2.2.1 3))]) hx hb dX2_isWord_21 rfl hl (by decide) rfl (fun ls hl => ?_)
    refine lv_iconst (v := 0) hx hb dX2_isWord_22 (by decide) ?_
    refine lv_istore_n (lv' := [(3, .int 0), (2, .int (bi b1)), (0, .ref (ad 0)), (1, .ref (ev.2.2.2.1 3))]) hx hb dX2_isWord_23 rfl hl (by decide) rfl (fun ls hl => ?_)
    have hL24 : ∀ (n : Nat) (b2 : Bool) (x3 : Int32) (H : Heap) (locs : List Loc) (ls : Array Slot), lp (fun _ _ => none) (f_X2_isWord_w3_L24_b σ ) n b2 x3 = some r → PS ev 2 ad (tw ev ad σ) (inA ad 2) s H locs → lv_has ls 4 [(0, .ref (ad 0)), (1, .ref (ev.2.2.2.1 3)), (2, .int (bi b2)), (3, .int x3)] → WW ev p l e (rmk 8 300) s m args below meth c Qc ad 2 H locs 24 ls [] := by
      intro n
      induction n with
      | zero =>
        intro b2 x3 H locs ls h; exact k_none h
      | succ n ih =>
        intro b2 x3 H locs ls h hP hl
        have h : f_X2_isWord_w3_L24_b σ  (lp (fun _ _ => none) (f_X2_isWord_w3_L24_b σ ) n) b2 x3 = some r := h
        have h := (f_X2_isWord_w3_L24_b.eq_1 _ _ _ _ ).symm.trans h
        refine lv_iload_n hx hb dX2_isWord_24 rfl (lv_at hl 3 rfl) ?_
        refine lv_aload_n hx hb dX2_isWord_25 rfl (lv_at hl 1 rfl) ?_
        refine r_slen C hP hap hAA 3 (by decide) qML_RX2_38 ⟨(Nat.le_of_ble_eq_true rfl), (Nat.le_of_ble_eq_true rfl)⟩ hl.1 (by exact (Nat.le_of_ble_eq_true rfl)) dX2_isWord_26 ⟨Nat.le_refl _, Nat.le_refl _⟩ (v := 4) rfl (fun H locs hP => ?_)
        refine lv_icmp_ge (tgt := 66) hx hb dX2_isWord_29 (by decide) (fun c29 => ?_) (fun c29 => ?_)
        · have h := k_if c29 h
          refine lv_iload_n hx hb dX2_isWord_66 rfl (lv_at hl 2 rfl) ?_
          exact e_zret C hend hP (k_some h) rfl dX2_isWord_67 rfl
        · have h := k_nf c29 h
          refine lv_iload_n hx hb dX2_isWord_32 rfl (lv_at hl 2 rfl) ?_
          refine r_ifz_eq (tgt := 66) hx hb dX2_isWord_33 (by decide) (fun c33 => ?_) (fun c33 => ?_)
          · have h := k_nf c33 h
            refine lv_iload_n hx hb dX2_isWord_66 rfl (lv_at hl 2 rfl) ?_
            exact e_zret C hend hP (k_some h) rfl dX2_isWord_67 rfl
          · have h := k_if c33 h
            refine lv_aload_n hx hb dX2_isWord_36 rfl (lv_at hl 0 rfl) ?_
            refine lv_aload_n hx hb dX2_isWord_37 rfl (lv_at hl 0 rfl) ?_
            refine r_get C hP (ci := 2) rfl uin_X2 2 (by decide) 0 (by decide) rfl qFL_RX2_19 rfl rfl dX2_isWord_38 ?_
            refine lv_iload_n hx hb dX2_isWord_41 rfl (lv_at hl 3 rfl) ?_
            refine lv_iadd hx hb dX2_isWord_42 ?_
            obtain ⟨x4, h1, h⟩ := k_ob h
            refine k_callVi C hP hap hAA (c_X2_byteAt l ev ad σ ((t_from σ) + x3)   _ h1) Emb.same hap gz_X2_byteAt qML_RX2_25 qIM_yX2_byteAt qSE_yX2_byteAt ⟨(Nat.le_of_ble_eq_true rfl), (Nat.le_of_ble_eq_true rfl)⟩ (q0 := 0) rfl (by decide) rfl rfl rfl rfl hl.1 rfl (Nat.le_of_ble_eq_true rfl) dX2_isWord_43 ⟨Nat.le_refl _, Nat.le_refl _⟩ (fun H locs hP => ?_)
            refine lv_aload_n hx hb dX2_isWord_46 rfl (lv_at hl 1 rfl) ?_
            refine lv_iload_n hx hb dX2_isWord_47 rfl (lv_at hl 3 rfl) ?_
            obtain ⟨hg, h⟩ := k_gd h
            refine r_schar C hP hap hAA 3 (by decide) hg qML_RX2_43 ⟨(Nat.le_of_ble_eq_true rfl), (Nat.le_of_ble_eq_true rfl)⟩ hl.1 (by exact (Nat.le_of_ble_eq_true rfl)) dX2_isWord_48 ⟨Nat.le_refl _, Nat.le_refl _⟩ rfl (fun H locs hP => ?_)
            refine lv_icmp_ne (tgt := 58) hx hb dX2_isWord_51 (by decide) (fun c51 => ?_) (fun c51 => ?_)
            · have h := k_nf c51 h
              refine lv_iconst (v := 0) hx hb dX2_isWord_58 (by decide) ?_
              refine lv_istore_n (lv' := [(2, .int (bi false)), (0, .ref (ad 0)), (1, .ref (ev.2.2.2.1 3)), (3, .int x3)]) hx hb dX2_isWord_59 rfl hl (by decide) rfl (fun ls hl => ?_)
              obtain ⟨x5, ex5, h⟩ := k_ltx h
              refine lv_iinc (v := x5) (lv' := [(3, .int x5), (2, .int (bi false)), (0, .ref (ad 0)), (1, .ref (ev.2.2.2.1 3))]) hx hb dX2_isWord_60 hl (k := 3) rfl (by rw [ex5]; rfl) (by decide) rfl (fun ls hl => ?_)
              refine lv_goto (tgt := 24) hx hb dX2_isWord_63 (by decide) ?_
              exact ih _ _ _ _ _ h hP (lv_sub hl [2, 3, 1, 0] rfl)
            · have h := k_if c51 h
              refine lv_iconst (v := 1) hx hb dX2_isWord_54 (by decide) ?_
              refine lv_goto (tgt := 59) hx hb dX2_isWord_55 (by decide) ?_
              refine lv_istore_n (lv' := [(2, .int (bi true)), (0, .ref (ad 0)), (1, .ref (ev.2.2.2.1 3)), (3, .int x3)]) hx hb dX2_isWord_59 rfl hl (by decide) rfl (fun ls hl => ?_)
              obtain ⟨x6, ex6, h⟩ := k_ltx h
              refine lv_iinc (v := x6) (lv' := [(3, .int x6), (2, .int (bi true)), (0, .ref (ad 0)), (1, .ref (ev.2.2.2.1 3))]) hx hb dX2_isWord_60 hl (k := 3) rfl (by rw [ex6]; rfl) (by decide) rfl (fun ls hl => ?_)
              refine lv_goto (tgt := 24) hx hb dX2_isWord_63 (by decide) ?_
              exact ih _ _ _ _ _ h hP (lv_sub hl [2, 3, 1, 0] rfl)
    exact hL24 FU _ _ _ _ _ h hP (lv_sub hl [2, 3, 1, 0] rfl)
  refine lv_aload_n hx hb dX2_isWord_0 rfl (lv_at hl 0 rfl) ?_
  refine r_get C hP (ci := 2) rfl uin_X2 3 (by decide) 0 (by decide) rfl qFL_RX2_22 rfl rfl dX2_isWord_1 ?_
  refine lv_aload_n hx hb dX2_isWord_4 rfl (lv_at hl 0 rfl) ?_
  refine r_get C hP (ci := 2) rfl uin_X2 2 (by decide) 0 (by decide) rfl qFL_RX2_19 rfl rfl dX2_isWord_5 ?_
  refine lv_isub hx hb dX2_isWord_8 ?_
  refine lv_aload_n hx hb dX2_isWord_9 rfl (lv_at hl 1 rfl) ?_
  refine r_slen C hP hap hAA 3 (by decide) qML_RX2_38 ⟨(Nat.le_of_ble_eq_true rfl), (Nat.le_of_ble_eq_true rfl)⟩ hl.1 (by exact (Nat.le_of_ble_eq_true rfl)) dX2_isWord_10 ⟨Nat.le_refl _, Nat.le_refl _⟩ (v := 4) rfl (fun H locs hP => ?_)
  refine lv_icmp_ne (tgt := 20) hx hb dX2_isWord_13 (by decide) (fun c13 => ?_) (fun c13 => ?_)
  · have h := k_nf c13 h
    refine lv_iconst (v := 0) hx hb dX2_isWord_20 (by decide) ?_
    exact hB21 _ _ _ _ h hP (lv_sub hl [0, 1] rfl)
  · have h := k_if c13 h
    refine lv_iconst (v := 1) hx hb dX2_isWord_16 (by decide) ?_
    refine lv_goto (tgt := 21) hx hb dX2_isWord_17 (by decide) ?_
    exact hB21 _ _ _ _ h hP (lv_sub hl [0, 1] rfl)
def f_X2_isWord_w4_L24_b (σ : TT)  (rec24 : Bool → Int32 → Option (Bool)) (b2 : Bool) (x3 : Int32) : Option (Bool) :=
  if 6 ≤ x3 then some b2 else if b2 = true then ob (f_X2_byteAt σ ((t_from σ) + x3)) (fun x4 => gd (inb x3 6) (if x4 = (sch 4 x3) then lt (x3 + 1) (fun x6 => rec24 true x6) else lt (x3 + 1) (fun x5 => rec24 false x5))) else some b2
def f_X2_isWord_w4_L24 (σ : TT)  (b2 : Bool) (x3 : Int32) : Option (Bool) :=
  lp (fun _ _ => none) (f_X2_isWord_w4_L24_b σ ) FU b2 x3
def f_X2_isWord_w4_b21 (σ : TT) (b1 : Bool) : Option (Bool) :=
  f_X2_isWord_w4_L24 σ b1 0
def f_X2_isWord_w4 (σ : TT) : Option (Bool) :=
  if ((t_upto σ) - (t_from σ)) = 6 then f_X2_isWord_w4_b21 σ true else f_X2_isWord_w4_b21 σ false
set_option maxHeartbeats 4000000 in
set_option maxRecDepth 100000 in
theorem c_X2_isWord_w4 (l : Launch) (ev : EV) (ad : Nat → Nat) (σ : TT)   (r : Bool)  (h : f_X2_isWord_w4 σ = some r) : Ct l yX2_isWord prog_4_method_9_code 4 (Option.some Jvm.ClassFile.FieldType.boolean) (rmk 8 300) ev 2 ad (tw ev ad σ) (tw ev ad σ) [.ref (ad 0), .ref (ev.2.2.2.1 4)] (some (.int (bi r))) := by
  refine Ct.of (by decide +kernel) (Nat.le_of_ble_eq_true rfl) ?_
  intro p e s m args below meth c Qc C hap hP hend ls hl
  have hAA : ∀ j, j < 2 → inA ad 2 (ad j) := fun j hj => ⟨j, hj, rfl⟩
  have hx := C.1
  have hb := C.2.1
  have hl : lv_has ls 4 [(0, .ref (ad 0)), (1, .ref (ev.2.2.2.1 4))] := hl
  have h := (f_X2_isWord_w4.eq_1 _ ).symm.trans h
  have hB21 : ∀ (b1 : Bool) (H : Heap) (locs : List Loc) (ls : Array Slot), f_X2_isWord_w4_b21 σ b1 = some r → PS ev 2 ad (tw ev ad σ) (inA ad 2) s H locs → lv_has ls 4 [(0, .ref (ad 0)), (1, .ref (ev.2.2.2.1 4))] → WW ev p l e (rmk 8 300) s m args below meth c Qc ad 2 H locs 21 ls [.int (bi b1)] := by
    intro b1 H locs ls h hP hl
    have h := (f_X2_isWord_w4_b21.eq_1 _ _ ).symm.trans h
    refine lv_istore_n (lv' := [(2, .int (bi b1)), (0, .ref (ad 0)), (1, .ref (ev.2.2.2.1 4))]) hx hb dX2_isWord_21 rfl hl (by decide) rfl (fun ls hl => ?_)
    refine lv_iconst (v := 0) hx hb dX2_isWord_22 (by decide) ?_
    refine lv_istore_n (lv' := [(3, .int 0), (2, .int (bi b1)), (0, .ref (ad 0)), (1, .ref (ev.2.2.2.1 4))]) hx hb dX2_isWord_23 rfl hl (by decide) rfl (fun ls hl => ?_)
    have hL24 : ∀ (n : Nat) (b2 : Bool) (x3 : Int32) (H : Heap) (locs : List Loc) (ls : Array Slot), lp (fun _ _ => none) (f_X2_isWord_w4_L24_b σ ) n b2 x3 = some r → PS ev 2 ad (tw ev ad σ) (inA ad 2) s H locs → lv_has ls 4 [(0, .ref (ad 0)), (1, .ref (ev.2.2.2.1 4)), (2, .int (bi b2)), (3, .int x3)] → WW ev p l e (rmk 8 300) s m args below meth c Qc ad 2 H locs 24 ls [] := by
      intro n
      induction n with
      | zero =>
        intro b2 x3 H locs ls h; exact k_none h
      | succ n ih =>
        intro b2 x3 H locs ls h hP hl
        have h : f_X2_isWord_w4_L24_b σ  (lp (fun _ _ => none) (f_X2_isWord_w4_L24_b σ ) n) b2 x3 = some r := h
        have h := (f_X2_isWord_w4_L24_b.eq_1 _ _ _ _ ).symm.trans h
        refine lv_iload_n hx hb dX2_isWord_24 rfl (lv_at hl 3 rfl) ?_
        refine lv_aload_n hx hb dX2_isWord_25 rfl (lv_at hl 1 rfl) ?_
        refine r_slen C hP hap hAA 4 (by decide) qML_RX2_38 ⟨(Nat.le_of_ble_eq_true rfl), (Nat.le_of_ble_eq_true rfl)⟩ hl.1 (by exact (Nat.le_of_ble_eq_true rfl)) dX2_isWord_26 ⟨Nat.le_refl _, Nat.le_refl _⟩ (v := 6) rfl (fun H locs hP => ?_)
        refine lv_icmp_ge (tgt := 66) hx hb dX2_isWord_29 (by decide) (fun c29 => ?_) (fun c29 => ?_)
        · have h := k_if c29 h
          refine lv_iload_n hx hb dX2_isWord_66 rfl (lv_at hl 2 rfl) ?_
          exact e_zret C hend hP (k_some h) rfl dX2_isWord_67 rfl
        · have h := k_nf c29 h
          refine lv_iload_n hx hb dX2_isWord_32 rfl (lv_at hl 2 rfl) ?_
          refine r_ifz_eq (tgt := 66) hx hb dX2_isWord_33 (by decide) (fun c33 => ?_) (fun c33 => ?_)
          · have h := k_nf c33 h
            refine lv_iload_n hx hb dX2_isWord_66 rfl (lv_at hl 2 rfl) ?_
            exact e_zret C hend hP (k_some h) rfl dX2_isWord_67 rfl
          · have h := k_if c33 h
            refine lv_aload_n hx hb dX2_isWord_36 rfl (lv_at hl 0 rfl) ?_
            refine lv_aload_n hx hb dX2_isWord_37 rfl (lv_at hl 0 rfl) ?_
            refine r_get C hP (ci := 2) rfl uin_X2 2 (by decide) 0 (by decide) rfl qFL_RX2_19 rfl rfl dX2_isWord_38 ?_
            refine lv_iload_n hx hb dX2_isWord_41 rfl (lv_at hl 3 rfl) ?_
            refine lv_iadd hx hb dX2_isWord_42 ?_
            obtain ⟨x4, h1, h⟩ := k_ob h
            refine k_callVi C hP hap hAA (c_X2_byteAt l ev ad σ ((t_from σ) + x3)   _ h1) Emb.same hap gz_X2_byteAt qML_RX2_25 qIM_yX2_byteAt qSE_yX2_byteAt ⟨(Nat.le_of_ble_eq_true rfl), (Nat.le_of_ble_eq_true rfl)⟩ (q0 := 0) rfl (by decide) rfl rfl rfl rfl hl.1 rfl (Nat.le_of_ble_eq_true rfl) dX2_isWord_43 ⟨Nat.le_refl _, Nat.le_refl _⟩ (fun H locs hP => ?_)
            refine lv_aload_n hx hb dX2_isWord_46 rfl (lv_at hl 1 rfl) ?_
            refine lv_iload_n hx hb dX2_isWord_47 rfl (lv_at hl 3 rfl) ?_
            obtain ⟨hg, h⟩ := k_gd h
            refine r_schar C hP hap hAA 4 (by decide) hg qML_RX2_43 ⟨(Nat.le_of_ble_eq_true rfl), (Nat.le_of_ble_eq_true rfl)⟩ hl.1 (by exact (Nat.le_of_ble_eq_true rfl)) dX2_isWord_48 ⟨Nat.le_refl _, Nat.le_refl _⟩ rfl (fun H locs hP => ?_)
            refine lv_icmp_ne (tgt := 58) hx hb dX2_isWord_51 (by decide) (fun c51 => ?_) (fun c51 => ?_)
            · have h := k_nf c51 h
              refine lv_iconst (v := 0) hx hb dX2_isWord_58 (by decide) ?_
              refine lv_istore_n (lv' := [(2, .int (bi false)), (0, .ref (ad 0)), (1, .ref (ev.2.2.2.1 4)), (3, .int x3)]) hx hb dX2_isWord_59 rfl hl (by decide) rfl (fun ls hl => ?_)
              obtain ⟨x5, ex5, h⟩ := k_ltx h
              refine lv_iinc (v := x5) (lv' := [(3, .int x5), (2, .int (bi false)), (0, .ref (ad 0)), (1, .ref (ev.2.2.2.1 4))]) hx hb dX2_isWord_60 hl (k := 3) rfl (by rw [ex5]; rfl) (by decide) rfl (fun ls hl => ?_)
              refine lv_goto (tgt := 24) hx hb dX2_isWord_63 (by decide) ?_
              exact ih _ _ _ _ _ h hP (lv_sub hl [2, 3, 1, 0] rfl)
            · have h := k_if c51 h
              refine lv_iconst (v := 1) hx hb dX2_isWord_54 (by decide) ?_
              refine lv_goto (tgt := 59) hx hb dX2_isWord_55 (by decide) ?_
              refine lv_istore_n (lv' := [(2, .int (bi true)), (0, .ref (ad 0)), (1, .ref (ev.2.2.2.1 4)), (3, .int x3)]) hx hb dX2_isWord_59 rfl hl (by decide) rfl (fun ls hl => ?_)
              obtain ⟨x6, ex6, h⟩ := k_ltx h
              refine lv_iinc (v := x6) (lv' := [(3, .int x6), (2, .int (bi true)), (0, .ref (ad 0)), (1, .ref (ev.2.2.2.1 4))]) hx hb dX2_isWord_60 hl (k := 3) rfl (by rw [ex6]; rfl) (by decide) rfl (fun ls hl => ?_)
              refine lv_goto (tgt := 24) hx hb dX2_isWord_63 (by decide) ?_
              exact ih _ _ _ _ _ h hP (lv_sub hl [2, 3, 1, 0] rfl)
    exact hL24 FU _ _ _ _ _ h hP (lv_sub hl [2, 3, 1, 0] rfl)
  refine lv_aload_n hx hb dX2_isWord_0 rfl (lv_at hl 0 rfl) ?_
  refine r_get C hP (ci := 2) rfl uin_X2 3 (by decide) 0 (by decide) rfl qFL_RX2_22 rfl rfl dX2_isWord_1 ?_
  refine lv_aload_n hx hb dX2_isWord_4 rfl (lv_at hl 0 rfl) ?_
  refine r_get C hP (ci := 2) rfl uin_X2 2 (by decide) 0 (by decide) rfl qFL_RX2_19 rfl rfl dX2_isWord_5 ?_
  refine lv_isub hx hb dX2_isWord_8 ?_
  refine lv_aload_n hx hb dX2_isWord_9 rfl (lv_at hl 1 rfl) ?_
  refine r_slen C hP hap hAA 4 (by decide) qML_RX2_38 ⟨(Nat.le_of_ble_eq_true rfl), (Nat.le_of_ble_eq_true rfl)⟩ hl.1 (by exact (Nat.le_of_ble_eq_true rfl)) dX2_isWord_10 ⟨Nat.le_refl _, Nat.le_refl _⟩ (v := 6) rfl (fun H locs hP => ?_)
  refine lv_icmp_ne (tgt := 20) hx hb dX2_isWord_13 (by decide) (fun c13 => ?_) (fun c13 => ?_)
  · have h := k_nf c13 h
    refine lv_iconst (v := 0) hx hb dX2_isWord_20 (by decide) ?_
    exact hB21 _ _ _ _ h hP (lv_sub hl [0, 1] rfl)
  · have h := k_if c13 h
    refine lv_iconst (v := 1) hx hb dX2_isWord_16 (by decide) ?_
    refine lv_goto (tgt := 21) hx hb dX2_isWord_17 (by decide) ?_
    exact hB21 _ _ _ _ h hP (lv_sub hl [0, 1] rfl)
