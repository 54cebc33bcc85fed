/-! functions read off, and their contracts: by program (wip/whole/gen2.py) -/
def f_X3_moveOf (a1 : Int32) : Int32 :=
  if 40 ≤ a1 then ((100 + a1) - 40) else a1
set_option maxHeartbeats 4000000 in
set_option maxRecDepth 100000 in
theorem c_X3_moveOf (l : Launch) (ev : EV) (ad : Nat → Nat) (a1 : Int32)   (r : Int32)  (h : f_X3_moveOf a1 = r) : Ct l yX3_moveOf prog_1_method_67_code 1 (Option.some Jvm.ClassFile.FieldType.int) (rmk 0 0) ev 0 ad w00 w00 [.int a1] (some (.int r)) := by
  refine Ct.of (by decide +kernel) (Nat.le_of_ble_eq_true rfl) ?_
  intro p e s m args below meth c Qc C hap hP hend ls hl
  have hAA : ∀ j, j < 0 → inA ad 0 (ad j) := fun j hj => ⟨j, hj, rfl⟩
  have hx := C.1
  have hb := C.2.1
  have hl : lv_has ls 1 [(0, .int a1)] := hl
  have h := (f_X3_moveOf.eq_1 _ ).symm.trans h
  refine lv_iload_n hx hb dX3_moveOf_0 rfl (lv_at hl 0 rfl) ?_
  refine lv_bipush (v := 40) hx hb dX3_moveOf_1 (by decide) ?_
  refine lv_icmp_ge (tgt := 10) hx hb dX3_moveOf_3 (by decide) (fun c3 => ?_) (fun c3 => ?_)
  · have h := k_if c3 h
    refine lv_bipush (v := 100) hx hb dX3_moveOf_10 (by decide) ?_
    refine lv_iload_n hx hb dX3_moveOf_12 rfl (lv_at hl 0 rfl) ?_
    refine lv_iadd hx hb dX3_moveOf_13 ?_
    refine lv_bipush (v := 40) hx hb dX3_moveOf_14 (by decide) ?_
    refine lv_isub hx hb dX3_moveOf_16 ?_
    exact e_iret C hend hP h rfl dX3_moveOf_17
  · have h := k_nf c3 h
    refine lv_iload_n hx hb dX3_moveOf_6 rfl (lv_at hl 0 rfl) ?_
    refine lv_goto (tgt := 17) hx hb dX3_moveOf_7 (by decide) ?_
    exact e_iret C hend hP h rfl dX3_moveOf_17
def f_X3_thoughtChoice (σ : XX) (a1 : Int32) : Option (Int32 × XX) :=
  ob (f_X0_become (x_thought σ) (x_now σ)) (fun σ1 => lt (x_thought' σ σ1) (fun σ2 => ob2 (f_X3_chosenSlot_thought σ2 a1) (fun x4 σ3 => some ((f_X3_moveOf x4), σ3))))
set_option maxHeartbeats 4000000 in
set_option maxRecDepth 100000 in
theorem c_X3_thoughtChoice (l : Launch) (ev : EV) (ad : Nat → Nat) (σ : XX) (a1 : Int32)   (r : Int32) (σ' : XX) (h : f_X3_thoughtChoice σ a1 = some (r, σ')) : Ct l yX3_thoughtChoice prog_1_method_82_code 2 (Option.some Jvm.ClassFile.FieldType.int) (rmk 5 115) ev 26 ad (xw ev ad σ) (xw ev ad σ') [.ref (ad 0), .int a1] (some (.int r)) := by
  refine Ct.of (by decide +kernel) (Nat.le_of_ble_eq_true rfl) ?_
  intro p e s m args below meth c Qc C hap hP hend ls hl
  have hAA : ∀ j, j < 26 → inA ad 26 (ad j) := fun j hj => ⟨j, hj, rfl⟩
  have hx := C.1
  have hb := C.2.1
  have hl : lv_has ls 2 [(0, .ref (ad 0)), (1, .int a1)] := hl
  have h := (f_X3_thoughtChoice.eq_1 _ _ ).symm.trans h
  refine lv_aload_n hx hb dX3_thoughtChoice_0 rfl (lv_at hl 0 rfl) ?_
  refine r_get C hP (ci := 3) rfl uin_X3 1 (by decide) 0 (by decide) rfl qFL_RX3_16 rfl rfl dX3_thoughtChoice_1 ?_
  refine lv_aload_n hx hb dX3_thoughtChoice_4 rfl (lv_at hl 0 rfl) ?_
  refine r_get C hP (ci := 3) rfl uin_X3 0 (by decide) 0 (by decide) rfl qFL_RX3_10 rfl rfl dX3_thoughtChoice_5 ?_
  obtain ⟨σ1, h1, h⟩ := k_ob h
  refine k_callVv C hP hap hAA (c_X0_become l ev (fun j => if j = 0 then ad 2 else ad 1) (x_thought σ) (x_now σ)   _ h1) (em_GG21) (apart_GG hap (by decide) (by decide) (by decide)) gz_X0_become qML_RX3_165 qIM_yX0_become qSE_yX0_become ⟨(Nat.le_of_ble_eq_true rfl), (Nat.le_of_ble_eq_true rfl)⟩ (q0 := 2) rfl (by decide) rfl rfl rfl rfl hl.1 rfl (Nat.le_of_ble_eq_true rfl) dX3_thoughtChoice_8 ⟨Nat.le_refl _, Nat.le_refl _⟩ (fun H locs hP => ?_)
  obtain ⟨σ2, eσ2, h⟩ := k_ltx h
  rw [← eσ2] at hP
  refine lv_aload_n hx hb dX3_thoughtChoice_11 rfl (lv_at hl 0 rfl) ?_
  refine lv_aload_n hx hb dX3_thoughtChoice_12 rfl (lv_at hl 0 rfl) ?_
  refine r_get C hP (ci := 3) rfl uin_X3 1 (by decide) 0 (by decide) rfl qFL_RX3_16 rfl rfl dX3_thoughtChoice_13 ?_
  refine lv_iload_n hx hb dX3_thoughtChoice_16 rfl (lv_at hl 1 rfl) ?_
  obtain ⟨x4, σ3, h1, h⟩ := k_ob2 h
  refine k_callVi C hP hap hAA (c_X3_chosenSlot_thought l ev ad σ2 a1   _ _ h1) Emb.same hap gz_X3_chosenSlot qML_RX3_344 qIM_yX3_chosenSlot qSE_yX3_chosenSlot ⟨(Nat.le_of_ble_eq_true rfl), (Nat.le_of_ble_eq_true rfl)⟩ (q0 := 0) rfl (by decide) rfl rfl rfl rfl hl.1 rfl (Nat.le_of_ble_eq_true rfl) dX3_thoughtChoice_17 ⟨Nat.le_refl _, Nat.le_refl _⟩ (fun H locs hP => ?_)
  refine k_callSi C hP hap hAA (c_X3_moveOf l ev ad x4   _ rfl) Emb.none (apart_0 _) gz_X3_moveOf qML_RX3_249 qSM_yX3_moveOf ⟨(Nat.le_of_ble_eq_true rfl), (Nat.le_of_ble_eq_true rfl)⟩ rfl hl.1 rfl (Nat.le_of_ble_eq_true rfl) dX3_thoughtChoice_20 ⟨Nat.le_refl _, Nat.le_refl _⟩ (fun H locs hP => ?_)
  exact e_iret C hend hP (k_some2 h).1 (congrArg (xw ev ad) (k_some2 h).2) dX3_thoughtChoice_23
def f_X3_isUnder_L4_b (a2 : Int32) (k39 : Int32 → Option (Bool)) (rec4 : Int32 → Int32 → Option (Bool)) (x1 : Int32) (x2 : Int32) : Option (Bool) :=
  if 6 ≤ x2 then k39 x1 else if x1 = a2 then k39 x1 else if x1 < 0 then k39 x1 else if 6 ≤ x1 then k39 x1 else gd (inb x1 6) (lt (kaF (Int32.toNatClampNeg x1)) (fun x3 => lt (x2 + 1) (fun x4 => rec4 x3 x4)))
def f_X3_isUnder_L4 (a2 : Int32) (k39 : Int32 → Option (Bool)) (x1 : Int32) (x2 : Int32) : Option (Bool) :=
  lp (fun _ _ => none) (f_X3_isUnder_L4_b a2 k39) FU x1 x2
def f_X3_isUnder (a1 : Int32) (a2 : Int32) : Option (Bool) :=
  f_X3_isUnder_L4 a2 (fun x6 => if x6 = a2 then some true else some false) a1 0
set_option maxHeartbeats 4000000 in
set_option maxRecDepth 100000 in
theorem c_X3_isUnder (l : Launch) (ev : EV) (ad : Nat → Nat) (a1 : Int32) (a2 : Int32)   (r : Bool)  (h : f_X3_isUnder a1 a2 = some r) : Ct l yX3_isUnder prog_1_method_80_code 4 (Option.some Jvm.ClassFile.FieldType.boolean) (rmk 0 0) ev 0 ad w00 w00 [.int a1, .int a2] (some (.int (bi r))) := by
  refine Ct.of (by decide +kernel) (Nat.le_of_ble_eq_true rfl) ?_
  intro p e s m args below meth c Qc C hap hP hend ls hl
  have hAA : ∀ j, j < 0 → inA ad 0 (ad j) := fun j hj => ⟨j, hj, rfl⟩
  have hx := C.1
  have hb := C.2.1
  have hl : lv_has ls 4 [(0, .int a1), (1, .int a2)] := hl
  have h := (f_X3_isUnder.eq_1 _ _ ).symm.trans h
  refine lv_iload_n hx hb dX3_isUnder_0 rfl (lv_at hl 0 rfl) ?_
  refine lv_istore_n (lv' := [(2, .int a1), (0, .int a1), (1, .int a2)]) hx hb dX3_isUnder_1 rfl hl (by decide) rfl (fun ls hl => ?_)
  refine lv_iconst (v := 0) hx hb dX3_isUnder_2 (by decide) ?_
  refine lv_istore_n (lv' := [(3, .int 0), (2, .int a1), (0, .int a1), (1, .int a2)]) hx hb dX3_isUnder_3 rfl hl (by decide) rfl (fun ls hl => ?_)
  have hL4 : ∀ (k39 : Int32 → Option (Bool)) (hk39 : ∀ (z5 : Int32) (H : Heap) (locs : List Loc) (ls : Array Slot), k39 z5 = some r → PS ev 0 ad w00 (inA ad 0) s H locs → lv_has ls 4 [(1, .int a2), (2, .int z5)] → WW ev p l e (rmk 0 0) s m args below meth c Qc ad 0 H locs 39 ls []) (n : Nat) (x1 : Int32) (x2 : Int32) (H : Heap) (locs : List Loc) (ls : Array Slot), lp (fun _ _ => none) (f_X3_isUnder_L4_b a2 k39) n x1 x2 = some r → PS ev 0 ad w00 (inA ad 0) s H locs → lv_has ls 4 [(1, .int a2), (2, .int x1), (3, .int x2)] → WW ev p l e (rmk 0 0) s m args below meth c Qc ad 0 H locs 4 ls [] := by
    intro k39 hk39 n
    induction n with
    | zero =>
      intro x1 x2 H locs ls h; exact k_none h
    | succ n ih =>
      intro x1 x2 H locs ls h hP hl
      have h : f_X3_isUnder_L4_b a2 k39 (lp (fun _ _ => none) (f_X3_isUnder_L4_b a2 k39) n) x1 x2 = some r := h
      have h := (f_X3_isUnder_L4_b.eq_1 _ _ _ _ _ ).symm.trans h
      refine lv_iload_n hx hb dX3_isUnder_4 rfl (lv_at hl 2 rfl) ?_
      refine lv_bipush (v := 6) hx hb dX3_isUnder_5 (by decide) ?_
      refine lv_icmp_ge (tgt := 39) hx hb dX3_isUnder_7 (by decide) (fun c7 => ?_) (fun c7 => ?_)
      · have h := k_if c7 h
        exact hk39 _ _ _ _ h hP (lv_sub hl [0, 1] rfl)
      · have h := k_nf c7 h
        refine lv_iload_n hx hb dX3_isUnder_10 rfl (lv_at hl 1 rfl) ?_
        refine lv_iload_n hx hb dX3_isUnder_11 rfl (lv_at hl 0 rfl) ?_
        refine lv_icmp_eq (tgt := 39) hx hb dX3_isUnder_12 (by decide) (fun c12 => ?_) (fun c12 => ?_)
        · have h := k_if c12 h
          exact hk39 _ _ _ _ h hP (lv_sub hl [0, 1] rfl)
        · have h := k_nf c12 h
          refine lv_iload_n hx hb dX3_isUnder_15 rfl (lv_at hl 1 rfl) ?_
          refine lv_if_lt (tgt := 39) hx hb dX3_isUnder_16 (by decide) (fun c16 => ?_) (fun c16 => ?_)
          · have h := k_if c16 h
            exact hk39 _ _ _ _ h hP (lv_sub hl [0, 1] rfl)
          · have h := k_nf c16 h
            refine lv_iload_n hx hb dX3_isUnder_19 rfl (lv_at hl 1 rfl) ?_
            refine r_kind C hP qFL_RX3_377 dX3_isUnder_20 ?_
            refine r_kalen C hP dX3_isUnder_23 ?_
            refine lv_icmp_ge (tgt := 39) hx hb dX3_isUnder_24 (by decide) (fun c24 => ?_) (fun c24 => ?_)
            · have h := k_if c24 h
              exact hk39 _ _ _ _ h hP (lv_sub hl [0, 1] rfl)
            · have h := k_nf c24 h
              refine r_kind C hP qFL_RX3_377 dX3_isUnder_27 ?_
              refine lv_iload_n hx hb dX3_isUnder_30 rfl (lv_at hl 1 rfl) ?_
              obtain ⟨hg, h⟩ := k_gd h
              refine r_kald C hP hg dX3_isUnder_31 ?_
              refine lv_topi (fun x3 ex3 => ?_)
              have h := k_lt ex3 h
              refine lv_istore_n (lv' := [(2, .int x3), (1, .int a2), (3, .int x2)]) hx hb dX3_isUnder_32 rfl hl (by decide) rfl (fun ls hl => ?_)
              obtain ⟨x4, ex4, h⟩ := k_ltx h
              refine lv_iinc (v := x4) (lv' := [(3, .int x4), (2, .int x3), (1, .int a2)]) hx hb dX3_isUnder_33 hl (k := 2) rfl (by rw [ex4]; rfl) (by decide) rfl (fun ls hl => ?_)
              refine lv_goto (tgt := 4) hx hb dX3_isUnder_36 (by decide) ?_
              exact ih _ _ _ _ _ h hP (lv_sub hl [2, 1, 0] rfl)
  refine hL4 _ (fun x6 H locs ls h hP hl => ?_) FU _ _ _ _ _ h hP (lv_sub hl [3, 1, 0] rfl)
  refine lv_iload_n hx hb dX3_isUnder_39 rfl (lv_at hl 1 rfl) ?_
  refine lv_iload_n hx hb dX3_isUnder_40 rfl (lv_at hl 0 rfl) ?_
  refine lv_icmp_ne (tgt := 48) hx hb dX3_isUnder_41 (by decide) (fun c41 => ?_) (fun c41 => ?_)
  · have h := k_nf c41 h
    refine lv_iconst (v := 0) hx hb dX3_isUnder_48 (by decide) ?_
    exact e_zret C hend hP (k_some h) rfl dX3_isUnder_49 rfl
  · have h := k_if c41 h
    refine lv_iconst (v := 1) hx hb dX3_isUnder_44 (by decide) ?_
    refine lv_goto (tgt := 49) hx hb dX3_isUnder_45 (by decide) ?_
    exact e_zret C hend hP (k_some h) rfl dX3_isUnder_49 rfl
def f_X3_says_b70 (a2 : Int32) (q10 : Nat) (x11 : Int32) (σ12 : XX) : Option (Int32 × XX) :=
  if (f_X1_bearsPlayer (x_shelf σ12 q10)) = true then if a2 = 0 then ob (f_X3_amountOf σ12 x11) (fun x15 => some (x15, σ12)) else if a2 = 5 then some ((f_J13_bitCount_95d88 (f_X0_openSlots (x_now σ12))), σ12) else ob2 (f_X3_thoughtChoice σ12 x11) (fun x14 σ13 => some (x14, σ13)) else ob2 (f_X3_refuse σ12 (-4)) (fun x17 σ16 => some (x17, σ16))
def f_X3_says (σ : XX) (a1 : Int32) (a2 : Int32) : Option (Int32 × XX) :=
  ob (f_X3_shelfAt σ a1) (fun o1 => om o1 (ob2 (f_X3_refuse σ (-2)) (fun x4 σ3 => some (x4, σ3))) (fun q2 => gd (decide (q2 < 8)) (if a2 < 0 then ob2 (f_X3_refuse σ (-2)) (fun x6 σ5 => some (x6, σ5)) else if a2 < 6 then lt ((s_content (x_shelf σ q2)) - 10) (fun x7 => if (f_X1_bearsRow (x_shelf σ q2)) = true then ob2 (f_X3_refuse σ (-3)) (fun x9 σ8 => some (x9, σ8)) else if (f_X1_bearsPlayer (x_shelf σ q2)) = true then ob (f_X3_kindOf σ x7) (fun x18 => ob (f_X3_isUnder x18 a2) (fun b19 => if b19 = true then f_X3_says_b70 a2 q2 x7 σ else ob2 (f_X3_refuse σ (-3)) (fun x21 σ20 => some (x21, σ20)))) else f_X3_says_b70 a2 q2 x7 σ) else ob2 (f_X3_refuse σ (-2)) (fun x23 σ22 => some (x23, σ22)))))
set_option maxHeartbeats 4000000 in
set_option maxRecDepth 100000 in
theorem c_X3_says (l : Launch) (ev : EV) (ad : Nat → Nat) (σ : XX) (a1 : Int32) (a2 : Int32)   (r : Int32) (σ' : XX) (h : f_X3_says σ a1 a2 = some (r, σ')) : Ct l yX3_says prog_1_method_8_code 5 (Option.some Jvm.ClassFile.FieldType.int) (rmk 6 136) ev 26 ad (xw ev ad σ) (xw ev ad σ') [.ref (ad 0), .int a1, .int a2] (some (.int r)) := by
  refine Ct.of (by decide +kernel) (Nat.le_of_ble_eq_true rfl) ?_
  intro p e s m args below meth c Qc C hap hP hend ls hl
  have hAA : ∀ j, j < 26 → inA ad 26 (ad j) := fun j hj => ⟨j, hj, rfl⟩
  have hx := C.1
  have hb := C.2.1
  have hl : lv_has ls 5 [(0, .ref (ad 0)), (1, .int a1), (2, .int a2)] := hl
  have h := (f_X3_says.eq_1 _ _ _ ).symm.trans h
  have hB70 : ∀ (q10 : Nat) (hq10 : q10 < 8) (x11 : Int32) (σ12 : XX) (H : Heap) (locs : List Loc) (ls : Array Slot), f_X3_says_b70 a2 q10 x11 σ12 = some (r, σ') → PS ev 26 ad (xw ev ad σ12) (inA ad 26) s H locs → lv_has ls 5 [(0, .ref (ad 0)), (2, .int a2), (3, .ref (ad (q10 + 10))), (4, .int x11)] → WW ev p l e (rmk 6 136) s m args below meth c Qc ad 26 H locs 70 ls [] := by
    intro q10 hq10 x11 σ12 H locs ls h hP hl
    have h := (f_X3_says_b70.eq_1 _ _ _ _ ).symm.trans h
    refine lv_aload_n hx hb dX3_says_70 rfl (lv_at hl 2 rfl) ?_
    refine k_callVi C hP hap hAA (c_X1_bearsPlayer l ev (fun j => ad (q10 + 10 + 8 * j)) (x_shelf σ12 q10)   _ rfl) (em_Sr hq10) (apart_S hap hq10) gz_X1_bearsPlayer qML_RX3_80 qIM_yX1_bearsPlayer qSE_yX1_bearsPlayer ⟨(Nat.le_of_ble_eq_true rfl), (Nat.le_of_ble_eq_true rfl)⟩ (q0 := (q10 + 10)) rfl (by omega) (xw_shelf hq10) rfl rfl rfl hl.1 rfl (Nat.le_of_ble_eq_true rfl) dX3_says_71 ⟨Nat.le_refl _, Nat.le_refl _⟩ (fun H locs hP => ?_)
    refine r_ifz_ne (tgt := 84) hx hb dX3_says_74 (by decide) (fun c74 => ?_) (fun c74 => ?_)
    · have h := k_if c74 h
      refine lv_iload_n hx hb dX3_says_84 rfl (lv_at hl 1 rfl) ?_
      refine lv_if_ne (tgt := 95) hx hb dX3_says_85 (by decide) (fun c85 => ?_) (fun c85 => ?_)
      · have h := k_nf c85 h
        refine lv_iload_n hx hb dX3_says_95 rfl (lv_at hl 1 rfl) ?_
        refine lv_iconst (v := 5) hx hb dX3_says_96 (by decide) ?_
        refine lv_icmp_ne (tgt := 113) hx hb dX3_says_97 (by decide) (fun c97 => ?_) (fun c97 => ?_)
        · have h := k_nf c97 h
          refine lv_aload_n hx hb dX3_says_113 rfl (lv_at hl 0 rfl) ?_
          refine lv_iload hx hb dX3_says_114 (lv_at hl 3 rfl) ?_
          obtain ⟨x14, σ13, h1, h⟩ := k_ob2 h
          refine k_callVi C hP hap hAA (c_X3_thoughtChoice l ev ad σ12 x11   _ _ h1) Emb.same hap gz_X3_thoughtChoice qML_RX3_137 qIM_yX3_thoughtChoice qSE_yX3_thoughtChoice ⟨(Nat.le_of_ble_eq_true rfl), (Nat.le_of_ble_eq_true rfl)⟩ (q0 := 0) rfl (by decide) rfl rfl rfl rfl hl.1 rfl (Nat.le_of_ble_eq_true rfl) dX3_says_116 ⟨Nat.le_refl _, Nat.le_refl _⟩ (fun H locs hP => ?_)
          exact e_iret C hend hP (k_some2 h).1 (congrArg (xw ev ad) (k_some2 h).2) dX3_says_119
        · have h := k_if c97 h
          refine lv_aload_n hx hb dX3_says_100 rfl (lv_at hl 0 rfl) ?_
          refine r_get C hP (ci := 3) rfl uin_X3 0 (by decide) 0 (by decide) rfl qFL_RX3_10 rfl rfl dX3_says_101 ?_
          refine k_callVl C hP hap hAA (c_X0_openSlots l ev (fun j => ad (j + 1)) (x_now σ12)   _ rfl) (em_G1r) (apart_1 _) gz_X0_openSlots qML_RX3_127 qIM_yX0_openSlots qSE_yX0_openSlots ⟨(Nat.le_of_ble_eq_true rfl), (Nat.le_of_ble_eq_true rfl)⟩ (q0 := 1) rfl (by decide) rfl rfl rfl rfl hl.1 rfl (Nat.le_of_ble_eq_true rfl) dX3_says_104 ⟨Nat.le_refl _, Nat.le_refl _⟩ (fun H locs hP => ?_)
          refine k_callSi C hP hap hAA (c_J13_bitCount_95d88 l ev ad (f_X0_openSlots (x_now σ12))   _ rfl) Emb.none (apart_0 _) gz_J13_bitCount_95d88 qML_RX3_131 qSM_yJ13_bitCount_95d88 ⟨(Nat.le_of_ble_eq_true rfl), (Nat.le_of_ble_eq_true rfl)⟩ rfl hl.1 rfl (Nat.le_of_ble_eq_true rfl) dX3_says_107 ⟨Nat.le_refl _, Nat.le_refl _⟩ (fun H locs hP => ?_)
          refine lv_goto (tgt := 119) hx hb dX3_says_110 (by decide) ?_
          exact e_iret C hend hP (k_some2 h).1 (congrArg (xw ev ad) (k_some2 h).2) dX3_says_119
      · have h := k_if c85 h
        refine lv_aload_n hx hb dX3_says_88 rfl (lv_at hl 0 rfl) ?_
        refine lv_iload hx hb dX3_says_89 (lv_at hl 3 rfl) ?_
        obtain ⟨x15, h1, h⟩ := k_ob h
        refine k_callVi C hP hap hAA (c_X3_amountOf l ev ad σ12 x11   _ h1) Emb.same hap gz_X3_amountOf qML_RX3_124 qIM_yX3_amountOf qSE_yX3_amountOf ⟨(Nat.le_of_ble_eq_true rfl), (Nat.le_of_ble_eq_true rfl)⟩ (q0 := 0) rfl (by decide) rfl rfl rfl rfl hl.1 rfl (Nat.le_of_ble_eq_true rfl) dX3_says_91 ⟨Nat.le_refl _, Nat.le_refl _⟩ (fun H locs hP => ?_)
        exact e_iret C hend hP (k_some2 h).1 (congrArg (xw ev ad) (k_some2 h).2) dX3_says_94
    · have h := k_nf c74 h
      refine lv_aload_n hx hb dX3_says_77 rfl (lv_at hl 0 rfl) ?_
      refine lv_bipush (v := (-4)) hx hb dX3_says_78 (by decide) ?_
      obtain ⟨x17, σ16, h1, h⟩ := k_ob2 h
      refine k_callVi C hP hap hAA (c_X3_refuse l ev ad σ12 (-4)   _ _ h1) Emb.same hap gz_X3_refuse qML_RX3_60 qIM_yX3_refuse qSE_yX3_refuse ⟨(Nat.le_of_ble_eq_true rfl), (Nat.le_of_ble_eq_true rfl)⟩ (q0 := 0) rfl (by decide) rfl rfl rfl rfl hl.1 rfl (Nat.le_of_ble_eq_true rfl) dX3_says_80 ⟨Nat.le_refl _, Nat.le_refl _⟩ (fun H locs hP => ?_)
      exact e_iret C hend hP (k_some2 h).1 (congrArg (xw ev ad) (k_some2 h).2) dX3_says_83
  refine lv_aload_n hx hb dX3_says_0 rfl (lv_at hl 0 rfl) ?_
  refine lv_iload_n hx hb dX3_says_1 rfl (lv_at hl 1 rfl) ?_
  obtain ⟨o1, h1, h⟩ := k_ob h
  refine k_callVo C hP hap hAA (c_X3_shelfAt l ev ad σ a1   _ h1) Emb.same hap gz_X3_shelfAt qML_RX3_56 qIM_yX3_shelfAt qSE_yX3_shelfAt ⟨(Nat.le_of_ble_eq_true rfl), (Nat.le_of_ble_eq_true rfl)⟩ (q0 := 0) rfl (by decide) rfl rfl rfl rfl hl.1 rfl (Nat.le_of_ble_eq_true rfl) dX3_says_2 ⟨Nat.le_refl _, Nat.le_refl _⟩ (fun H locs hP => ?_)
  rcases o1 with _ | q2
  · have h := k_omN h
    refine lv_astore_nN (lv' := [(3, .null), (0, .ref (ad 0)), (1, .int a1), (2, .int a2)]) hx hb dX3_says_5 rfl hl (by decide) rfl (fun ls hl => ?_)
    refine lv_aload_nN hx hb dX3_says_6 rfl (lv_at hl 0 rfl) ?_
    refine lv_ifnullN (tgt := 20) hx hb dX3_says_7 (by decide) ?_
    refine lv_aload_n hx hb dX3_says_20 rfl (lv_at hl 1 rfl) ?_
    refine lv_bipush (v := (-2)) hx hb dX3_says_21 (by decide) ?_
    obtain ⟨x4, σ3, h1, h⟩ := k_ob2 h
    refine k_callVi C hP hap hAA (c_X3_refuse l ev ad σ (-2)   _ _ h1) Emb.same hap gz_X3_refuse qML_RX3_60 qIM_yX3_refuse qSE_yX3_refuse ⟨(Nat.le_of_ble_eq_true rfl), (Nat.le_of_ble_eq_true rfl)⟩ (q0 := 0) rfl (by decide) rfl rfl rfl rfl hl.1 rfl (Nat.le_of_ble_eq_true rfl) dX3_says_23 ⟨Nat.le_refl _, Nat.le_refl _⟩ (fun H locs hP => ?_)
    exact e_iret C hend hP (k_some2 h).1 (congrArg (xw ev ad) (k_some2 h).2) dX3_says_26
  · obtain ⟨hg, h⟩ := k_gd (k_omS h)
    have hq2 : q2 < 8 := of_decide_eq_true hg
    refine lv_astore_n (lv' := [(3, .ref (ad (q2 + 10))), (0, .ref (ad 0)), (1, .int a1), (2, .int a2)]) hx hb dX3_says_5 rfl hl (by decide) rfl (fun ls hl => ?_)
    refine lv_aload_n hx hb dX3_says_6 rfl (lv_at hl 0 rfl) ?_
    refine lv_ifnull hx hb dX3_says_7 ?_
    refine lv_iload_n hx hb dX3_says_10 rfl (lv_at hl 3 rfl) ?_
    refine lv_if_lt (tgt := 20) hx hb dX3_says_11 (by decide) (fun c11 => ?_) (fun c11 => ?_)
    · have h := k_if c11 h
      refine lv_aload_n hx hb dX3_says_20 rfl (lv_at hl 1 rfl) ?_
      refine lv_bipush (v := (-2)) hx hb dX3_says_21 (by decide) ?_
      obtain ⟨x6, σ5, h1, h⟩ := k_ob2 h
      refine k_callVi C hP hap hAA (c_X3_refuse l ev ad σ (-2)   _ _ h1) Emb.same hap gz_X3_refuse qML_RX3_60 qIM_yX3_refuse qSE_yX3_refuse ⟨(Nat.le_of_ble_eq_true rfl), (Nat.le_of_ble_eq_true rfl)⟩ (q0 := 0) rfl (by decide) rfl rfl rfl rfl hl.1 rfl (Nat.le_of_ble_eq_true rfl) dX3_says_23 ⟨Nat.le_refl _, Nat.le_refl _⟩ (fun H locs hP => ?_)
      exact e_iret C hend hP (k_some2 h).1 (congrArg (xw ev ad) (k_some2 h).2) dX3_says_26
    · have h := k_nf c11 h
      refine lv_iload_n hx hb dX3_says_14 rfl (lv_at hl 3 rfl) ?_
      refine lv_bipush (v := 6) hx hb dX3_says_15 (by decide) ?_
      refine lv_icmp_lt (tgt := 27) hx hb dX3_says_17 (by decide) (fun c17 => ?_) (fun c17 => ?_)
      · have h := k_if c17 h
        refine lv_aload_n hx hb dX3_says_27 rfl (lv_at hl 0 rfl) ?_
        refine r_get C hP (ci := 1) rfl uin_X1 0 (by decide) (q2 + 10) (by omega) (xw_shelf hq2) qFL_RX3_87 rfl rfl dX3_says_28 ?_
        refine lv_bipush (v := 10) hx hb dX3_says_31 (by decide) ?_
        refine lv_isub hx hb dX3_says_33 ?_
        refine lv_topi (fun x7 ex7 => ?_)
        have h := k_lt ex7 h
        refine lv_istore (lv' := [(4, .int x7), (3, .ref (ad (q2 + 10))), (0, .ref (ad 0)), (1, .int a1), (2, .int a2)]) hx hb dX3_says_34 hl (by decide) rfl (fun ls hl => ?_)
        refine lv_aload_n hx hb dX3_says_36 rfl (lv_at hl 1 rfl) ?_
        refine k_callVi C hP hap hAA (c_X1_bearsRow l ev (fun j => ad (q2 + 10 + 8 * j)) (x_shelf σ q2)   _ rfl) (em_Sr hq2) (apart_S hap hq2) gz_X1_bearsRow qML_RX3_84 qIM_yX1_bearsRow qSE_yX1_bearsRow ⟨(Nat.le_of_ble_eq_true rfl), (Nat.le_of_ble_eq_true rfl)⟩ (q0 := (q2 + 10)) rfl (by omega) (xw_shelf hq2) rfl rfl rfl hl.1 rfl (Nat.le_of_ble_eq_true rfl) dX3_says_37 ⟨Nat.le_refl _, Nat.le_refl _⟩ (fun H locs hP => ?_)
        refine r_ifz_ne (tgt := 63) hx hb dX3_says_40 (by decide) (fun c40 => ?_) (fun c40 => ?_)
        · have h := k_if c40 h
          refine lv_aload_n hx hb dX3_says_63 rfl (lv_at hl 2 rfl) ?_
          refine lv_bipush (v := (-3)) hx hb dX3_says_64 (by decide) ?_
          obtain ⟨x9, σ8, h1, h⟩ := k_ob2 h
          refine k_callVi C hP hap hAA (c_X3_refuse l ev ad σ (-3)   _ _ h1) Emb.same hap gz_X3_refuse qML_RX3_60 qIM_yX3_refuse qSE_yX3_refuse ⟨(Nat.le_of_ble_eq_true rfl), (Nat.le_of_ble_eq_true rfl)⟩ (q0 := 0) rfl (by decide) rfl rfl rfl rfl hl.1 rfl (Nat.le_of_ble_eq_true rfl) dX3_says_66 ⟨Nat.le_refl _, Nat.le_refl _⟩ (fun H locs hP => ?_)
          exact e_iret C hend hP (k_some2 h).1 (congrArg (xw ev ad) (k_some2 h).2) dX3_says_69
        · have h := k_nf c40 h
          refine lv_aload_n hx hb dX3_says_43 rfl (lv_at hl 1 rfl) ?_
          refine k_callVi C hP hap hAA (c_X1_bearsPlayer l ev (fun j => ad (q2 + 10 + 8 * j)) (x_shelf σ q2)   _ rfl) (em_Sr hq2) (apart_S hap hq2) gz_X1_bearsPlayer qML_RX3_80 qIM_yX1_bearsPlayer qSE_yX1_bearsPlayer ⟨(Nat.le_of_ble_eq_true rfl), (Nat.le_of_ble_eq_true rfl)⟩ (q0 := (q2 + 10)) rfl (by omega) (xw_shelf hq2) rfl rfl rfl hl.1 rfl (Nat.le_of_ble_eq_true rfl) dX3_says_44 ⟨Nat.le_refl _, Nat.le_refl _⟩ (fun H locs hP => ?_)
          refine r_ifz_eq (tgt := 70) hx hb dX3_says_47 (by decide) (fun c47 => ?_) (fun c47 => ?_)
          · have h := k_nf c47 h
            exact hB70 _ hq2 _ _ _ _ _ h hP (lv_sub hl [2, 4, 1, 0] rfl)
          · have h := k_if c47 h
            refine lv_aload_n hx hb dX3_says_50 rfl (lv_at hl 2 rfl) ?_
            refine lv_iload hx hb dX3_says_51 (lv_at hl 0 rfl) ?_
            obtain ⟨x18, h1, h⟩ := k_ob h
            refine k_callVi C hP hap hAA (c_X3_kindOf l ev ad σ x7   _ h1) Emb.same hap gz_X3_kindOf qML_RX3_118 qIM_yX3_kindOf qSE_yX3_kindOf ⟨(Nat.le_of_ble_eq_true rfl), (Nat.le_of_ble_eq_true rfl)⟩ (q0 := 0) rfl (by decide) rfl rfl rfl rfl hl.1 rfl (Nat.le_of_ble_eq_true rfl) dX3_says_53 ⟨Nat.le_refl _, Nat.le_refl _⟩ (fun H locs hP => ?_)
            refine lv_iload_n hx hb dX3_says_56 rfl (lv_at hl 4 rfl) ?_
            obtain ⟨b19, h1, h⟩ := k_ob h
            refine k_callSi C hP hap hAA (c_X3_isUnder l ev ad x18 a2   _ h1) Emb.none (apart_0 _) gz_X3_isUnder qML_RX3_121 qSM_yX3_isUnder ⟨(Nat.le_of_ble_eq_true rfl), (Nat.le_of_ble_eq_true rfl)⟩ rfl hl.1 rfl (Nat.le_of_ble_eq_true rfl) dX3_says_57 ⟨Nat.le_refl _, Nat.le_refl _⟩ (fun H locs hP => ?_)
            refine r_ifz_ne (tgt := 70) hx hb dX3_says_60 (by decide) (fun c60 => ?_) (fun c60 => ?_)
            · have h := k_if c60 h
              exact hB70 _ hq2 _ _ _ _ _ h hP (lv_sub hl [2, 4, 1, 0] rfl)
            · have h := k_nf c60 h
              refine lv_aload_n hx hb dX3_says_63 rfl (lv_at hl 2 rfl) ?_
              refine lv_bipush (v := (-3)) hx hb dX3_says_64 (by decide) ?_
              obtain ⟨x21, σ20, h1, h⟩ := k_ob2 h
              refine k_callVi C hP hap hAA (c_X3_refuse l ev ad σ (-3)   _ _ h1) Emb.same hap gz_X3_refuse qML_RX3_60 qIM_yX3_refuse qSE_yX3_refuse ⟨(Nat.le_of_ble_eq_true rfl), (Nat.le_of_ble_eq_true rfl)⟩ (q0 := 0) rfl (by decide) rfl rfl rfl rfl hl.1 rfl (Nat.le_of_ble_eq_true rfl) dX3_says_66 ⟨Nat.le_refl _, Nat.le_refl _⟩ (fun H locs hP => ?_)
              exact e_iret C hend hP (k_some2 h).1 (congrArg (xw ev ad) (k_some2 h).2) dX3_says_69
      · have h := k_nf c17 h
        refine lv_aload_n hx hb dX3_says_20 rfl (lv_at hl 1 rfl) ?_
        refine lv_bipush (v := (-2)) hx hb dX3_says_21 (by decide) ?_
        obtain ⟨x23, σ22, h1, h⟩ := k_ob2 h
        refine k_callVi C hP hap hAA (c_X3_refuse l ev ad σ (-2)   _ _ h1) Emb.same hap gz_X3_refuse qML_RX3_60 qIM_yX3_refuse qSE_yX3_refuse ⟨(Nat.le_of_ble_eq_true rfl), (Nat.le_of_ble_eq_true rfl)⟩ (q0 := 0) rfl (by decide) rfl rfl rfl rfl hl.1 rfl (Nat.le_of_ble_eq_true rfl) dX3_says_23 ⟨Nat.le_refl _, Nat.le_refl _⟩ (fun H locs hP => ?_)
        exact e_iret C hend hP (k_some2 h).1 (congrArg (xw ev ad) (k_some2 h).2) dX3_says_26
