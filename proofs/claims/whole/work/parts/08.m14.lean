/-! functions read off, and their contracts: by program (wip/whole/gen2.py) -/
def f_X3_holds (σ : XX) (a1 : Int32) : Option (Int32) :=
  ob (f_X3_shelfAt σ a1) (fun o1 => om o1 (some (-1)) (fun q2 => gd (decide (q2 < 8)) (some (s_content (x_shelf σ q2)))))
set_option maxHeartbeats 4000000 in
set_option maxRecDepth 100000 in
theorem c_X3_holds (l : Launch) (ev : EV) (ad : Nat → Nat) (σ : XX) (a1 : Int32)   (r : Int32)  (h : f_X3_holds σ a1 = some r) : Ct l yX3_holds prog_1_method_6_code 3 (Option.some Jvm.ClassFile.FieldType.int) (rmk 1 21) ev 26 ad (xw ev ad σ) (xw ev ad σ) [.ref (ad 0), .int a1] (some (.int r)) := by
  refine Ct.of (by decide +kernel) (Nat.le_of_ble_eq_true rfl) ?_
  intro p e s m args below meth c Qc C hap hP hend ls hl
  have hAA : ∀ j, j < 26 → inA ad 26 (ad j) := fun j hj => ⟨j, hj, rfl⟩
  have hx := C.1
  have hb := C.2.1
  have hl : lv_has ls 3 [(0, .ref (ad 0)), (1, .int a1)] := hl
  have h := (f_X3_holds.eq_1 _ _ ).symm.trans h
  refine lv_aload_n hx hb dX3_holds_0 rfl (lv_at hl 0 rfl) ?_
  refine lv_iload_n hx hb dX3_holds_1 rfl (lv_at hl 1 rfl) ?_
  obtain ⟨o1, h1, h⟩ := k_ob h
  refine k_callVo C hP hap hAA (c_X3_shelfAt l ev ad σ a1   _ h1) Emb.same hap gz_X3_shelfAt qML_RX3_56 qIM_yX3_shelfAt qSE_yX3_shelfAt ⟨(Nat.le_of_ble_eq_true rfl), (Nat.le_of_ble_eq_true rfl)⟩ (q0 := 0) rfl (by decide) rfl rfl rfl rfl hl.1 rfl (Nat.le_of_ble_eq_true rfl) dX3_holds_2 ⟨Nat.le_refl _, Nat.le_refl _⟩ (fun H locs hP => ?_)
  rcases o1 with _ | q2
  · have h := k_omN h
    refine lv_astore_nN (lv' := [(2, .null), (0, .ref (ad 0)), (1, .int a1)]) hx hb dX3_holds_5 rfl hl (by decide) rfl (fun ls hl => ?_)
    refine lv_aload_nN hx hb dX3_holds_6 rfl (lv_at hl 0 rfl) ?_
    refine lv_ifnonnullN hx hb dX3_holds_7 ?_
    refine lv_iconst (v := (-1)) hx hb dX3_holds_10 (by decide) ?_
    refine lv_goto (tgt := 18) hx hb dX3_holds_11 (by decide) ?_
    exact e_iret C hend hP (k_some h) rfl dX3_holds_18
  · obtain ⟨hg, h⟩ := k_gd (k_omS h)
    have hq2 : q2 < 8 := of_decide_eq_true hg
    refine lv_astore_n (lv' := [(2, .ref (ad (q2 + 10))), (0, .ref (ad 0)), (1, .int a1)]) hx hb dX3_holds_5 rfl hl (by decide) rfl (fun ls hl => ?_)
    refine lv_aload_n hx hb dX3_holds_6 rfl (lv_at hl 0 rfl) ?_
    refine lv_ifnonnull (tgt := 14) hx hb dX3_holds_7 (by decide) ?_
    refine lv_aload_n hx hb dX3_holds_14 rfl (lv_at hl 0 rfl) ?_
    refine r_get C hP (ci := 1) rfl uin_X1 0 (by decide) (q2 + 10) (by omega) (xw_shelf hq2) qFL_RX3_87 rfl rfl dX3_holds_15 ?_
    exact e_iret C hend hP (k_some h) rfl dX3_holds_18
def f_X3_isPlayer (σ : XX) (a1 : Int32) : Bool :=
  if a1 < 0 then false else if (x_crew σ) ≤ a1 then false else true
set_option maxHeartbeats 4000000 in
set_option maxRecDepth 100000 in
theorem c_X3_isPlayer (l : Launch) (ev : EV) (ad : Nat → Nat) (σ : XX) (a1 : Int32)   (r : Bool)  (h : f_X3_isPlayer σ a1 = r) : Ct l yX3_isPlayer prog_1_method_76_code 2 (Option.some Jvm.ClassFile.FieldType.boolean) (rmk 0 0) ev 26 ad (xw ev ad σ) (xw ev ad σ) [.ref (ad 0), .int a1] (some (.int (bi r))) := by
  refine Ct.of (by decide +kernel) (Nat.le_of_ble_eq_true rfl) ?_
  intro p e s m args below meth c Qc C hap hP hend ls hl
  have hAA : ∀ j, j < 26 → inA ad 26 (ad j) := fun j hj => ⟨j, hj, rfl⟩
  have hx := C.1
  have hb := C.2.1
  have hl : lv_has ls 2 [(0, .ref (ad 0)), (1, .int a1)] := hl
  have h := (f_X3_isPlayer.eq_1 _ _ ).symm.trans h
  refine lv_iload_n hx hb dX3_isPlayer_0 rfl (lv_at hl 1 rfl) ?_
  refine lv_if_lt (tgt := 16) hx hb dX3_isPlayer_1 (by decide) (fun c1 => ?_) (fun c1 => ?_)
  · have h := k_if c1 h
    refine lv_iconst (v := 0) hx hb dX3_isPlayer_16 (by decide) ?_
    exact e_zret C hend hP h rfl dX3_isPlayer_17 rfl
  · have h := k_nf c1 h
    refine lv_iload_n hx hb dX3_isPlayer_4 rfl (lv_at hl 1 rfl) ?_
    refine lv_aload_n hx hb dX3_isPlayer_5 rfl (lv_at hl 0 rfl) ?_
    refine r_get C hP (ci := 3) rfl uin_X3 6 (by decide) 0 (by decide) rfl qFL_RX3_33 rfl rfl dX3_isPlayer_6 ?_
    refine lv_icmp_ge (tgt := 16) hx hb dX3_isPlayer_9 (by decide) (fun c9 => ?_) (fun c9 => ?_)
    · have h := k_if c9 h
      refine lv_iconst (v := 0) hx hb dX3_isPlayer_16 (by decide) ?_
      exact e_zret C hend hP h rfl dX3_isPlayer_17 rfl
    · have h := k_nf c9 h
      refine lv_iconst (v := 1) hx hb dX3_isPlayer_12 (by decide) ?_
      refine lv_goto (tgt := 17) hx hb dX3_isPlayer_13 (by decide) ?_
      exact e_zret C hend hP h rfl dX3_isPlayer_17 rfl
def f_X3_show_b30 (a2 : Int32) (q5 : Nat) (σ6 : XX) : Option (Int32 × XX) :=
  if a2 = (-1) then ob (f_X1_empty (x_shelf σ6 q5)) (fun σ9 => lt (x_shelf' σ6 q5 σ9) (fun σ10 => some (1, σ10))) else ob (f_X1_bear (x_shelf σ6 q5) a2) (fun σ7 => lt (x_shelf' σ6 q5 σ7) (fun σ8 => some (1, σ8)))
def f_X3_show (σ : XX) (a1 : Int32) (a2 : Int32) : Option (Int32 × XX) :=
  ob (f_X3_shelfAt σ a1) (fun o1 => om o1 (ob2 (f_X3_refuse σ (-2)) (fun x4 σ3 => some (x4, σ3))) (fun q2 => gd (decide (q2 < 8)) (if a2 = (-1) then f_X3_show_b30 a2 q2 σ else if (f_X3_isPlayer σ a2) = true then f_X3_show_b30 a2 q2 σ else ob2 (f_X3_refuse σ (-2)) (fun x12 σ11 => some (x12, σ11)))))
set_option maxHeartbeats 4000000 in
set_option maxRecDepth 100000 in
theorem c_X3_show (l : Launch) (ev : EV) (ad : Nat → Nat) (σ : XX) (a1 : Int32) (a2 : Int32)   (r : Int32) (σ' : XX) (h : f_X3_show σ a1 a2 = some (r, σ')) : Ct l yX3_show prog_1_method_7_code 4 (Option.some Jvm.ClassFile.FieldType.int) (rmk 1 22) ev 26 ad (xw ev ad σ) (xw ev ad σ') [.ref (ad 0), .int a1, .int a2] (some (.int r)) := by
  refine Ct.of (by decide +kernel) (Nat.le_of_ble_eq_true rfl) ?_
  intro p e s m args below meth c Qc C hap hP hend ls hl
  have hAA : ∀ j, j < 26 → inA ad 26 (ad j) := fun j hj => ⟨j, hj, rfl⟩
  have hx := C.1
  have hb := C.2.1
  have hl : lv_has ls 4 [(0, .ref (ad 0)), (1, .int a1), (2, .int a2)] := hl
  have h := (f_X3_show.eq_1 _ _ _ ).symm.trans h
  have hB30 : ∀ (q5 : Nat) (hq5 : q5 < 8) (σ6 : XX) (H : Heap) (locs : List Loc) (ls : Array Slot), f_X3_show_b30 a2 q5 σ6 = some (r, σ') → PS ev 26 ad (xw ev ad σ6) (inA ad 26) s H locs → lv_has ls 4 [(2, .int a2), (3, .ref (ad (q5 + 10)))] → WW ev p l e (rmk 1 22) s m args below meth c Qc ad 26 H locs 30 ls [] := by
    intro q5 hq5 σ6 H locs ls h hP hl
    have h := (f_X3_show_b30.eq_1 _ _ _ ).symm.trans h
    refine lv_iload_n hx hb dX3_show_30 rfl (lv_at hl 0 rfl) ?_
    refine lv_iconst (v := (-1)) hx hb dX3_show_31 (by decide) ?_
    refine lv_icmp_ne (tgt := 42) hx hb dX3_show_32 (by decide) (fun c32 => ?_) (fun c32 => ?_)
    · have h := k_nf c32 h
      refine lv_aload_n hx hb dX3_show_42 rfl (lv_at hl 1 rfl) ?_
      refine lv_iload_n hx hb dX3_show_43 rfl (lv_at hl 0 rfl) ?_
      obtain ⟨σ7, h1, h⟩ := k_ob h
      refine k_callVv C hP hap hAA (c_X1_bear l ev (fun j => ad (q5 + 10 + 8 * j)) (x_shelf σ6 q5) a2   _ h1) (em_S hq5) (apart_S hap hq5) gz_X1_bear qML_RX3_114 qIM_yX1_bear qSE_yX1_bear ⟨(Nat.le_of_ble_eq_true rfl), (Nat.le_of_ble_eq_true rfl)⟩ (q0 := (q5 + 10)) rfl (by omega) (xw_shelf hq5) rfl rfl rfl hl.1 rfl (Nat.le_of_ble_eq_true rfl) dX3_show_44 ⟨Nat.le_refl _, Nat.le_refl _⟩ (fun H locs hP => ?_)
      obtain ⟨σ8, eσ8, h⟩ := k_ltx h
      rw [← eσ8] at hP
      refine lv_iconst (v := 1) hx hb dX3_show_47 (by decide) ?_
      exact e_iret C hend hP (k_some2 h).1 (congrArg (xw ev ad) (k_some2 h).2) dX3_show_48
    · have h := k_if c32 h
      refine lv_aload_n hx hb dX3_show_35 rfl (lv_at hl 1 rfl) ?_
      obtain ⟨σ9, h1, h⟩ := k_ob h
      refine k_callVv C hP hap hAA (c_X1_empty l ev (fun j => ad (q5 + 10 + 8 * j)) (x_shelf σ6 q5)   _ h1) (em_S hq5) (apart_S hap hq5) gz_X1_empty qML_RX3_111 qIM_yX1_empty qSE_yX1_empty ⟨(Nat.le_of_ble_eq_true rfl), (Nat.le_of_ble_eq_true rfl)⟩ (q0 := (q5 + 10)) rfl (by omega) (xw_shelf hq5) rfl rfl rfl hl.1 rfl (Nat.le_of_ble_eq_true rfl) dX3_show_36 ⟨Nat.le_refl _, Nat.le_refl _⟩ (fun H locs hP => ?_)
      obtain ⟨σ10, eσ10, h⟩ := k_ltx h
      rw [← eσ10] at hP
      refine lv_goto (tgt := 47) hx hb dX3_show_39 (by decide) ?_
      refine lv_iconst (v := 1) hx hb dX3_show_47 (by decide) ?_
      exact e_iret C hend hP (k_some2 h).1 (congrArg (xw ev ad) (k_some2 h).2) dX3_show_48
  refine lv_aload_n hx hb dX3_show_0 rfl (lv_at hl 0 rfl) ?_
  refine lv_iload_n hx hb dX3_show_1 rfl (lv_at hl 1 rfl) ?_
  obtain ⟨o1, h1, h⟩ := k_ob h
  refine k_callVo C hP hap hAA (c_X3_shelfAt l ev ad σ a1   _ h1) Emb.same hap gz_X3_shelfAt qML_RX3_56 qIM_yX3_shelfAt qSE_yX3_shelfAt ⟨(Nat.le_of_ble_eq_true rfl), (Nat.le_of_ble_eq_true rfl)⟩ (q0 := 0) rfl (by decide) rfl rfl rfl rfl hl.1 rfl (Nat.le_of_ble_eq_true rfl) dX3_show_2 ⟨Nat.le_refl _, Nat.le_refl _⟩ (fun H locs hP => ?_)
  rcases o1 with _ | q2
  · have h := k_omN h
    refine lv_astore_nN (lv' := [(3, .null), (0, .ref (ad 0)), (1, .int a1), (2, .int a2)]) hx hb dX3_show_5 rfl hl (by decide) rfl (fun ls hl => ?_)
    refine lv_aload_nN hx hb dX3_show_6 rfl (lv_at hl 0 rfl) ?_
    refine lv_ifnullN (tgt := 23) hx hb dX3_show_7 (by decide) ?_
    refine lv_aload_n hx hb dX3_show_23 rfl (lv_at hl 1 rfl) ?_
    refine lv_bipush (v := (-2)) hx hb dX3_show_24 (by decide) ?_
    obtain ⟨x4, σ3, h1, h⟩ := k_ob2 h
    refine k_callVi C hP hap hAA (c_X3_refuse l ev ad σ (-2)   _ _ h1) Emb.same hap gz_X3_refuse qML_RX3_60 qIM_yX3_refuse qSE_yX3_refuse ⟨(Nat.le_of_ble_eq_true rfl), (Nat.le_of_ble_eq_true rfl)⟩ (q0 := 0) rfl (by decide) rfl rfl rfl rfl hl.1 rfl (Nat.le_of_ble_eq_true rfl) dX3_show_26 ⟨Nat.le_refl _, Nat.le_refl _⟩ (fun H locs hP => ?_)
    exact e_iret C hend hP (k_some2 h).1 (congrArg (xw ev ad) (k_some2 h).2) dX3_show_29
  · obtain ⟨hg, h⟩ := k_gd (k_omS h)
    have hq2 : q2 < 8 := of_decide_eq_true hg
    refine lv_astore_n (lv' := [(3, .ref (ad (q2 + 10))), (0, .ref (ad 0)), (1, .int a1), (2, .int a2)]) hx hb dX3_show_5 rfl hl (by decide) rfl (fun ls hl => ?_)
    refine lv_aload_n hx hb dX3_show_6 rfl (lv_at hl 0 rfl) ?_
    refine lv_ifnull hx hb dX3_show_7 ?_
    refine lv_iload_n hx hb dX3_show_10 rfl (lv_at hl 3 rfl) ?_
    refine lv_iconst (v := (-1)) hx hb dX3_show_11 (by decide) ?_
    refine lv_icmp_eq (tgt := 30) hx hb dX3_show_12 (by decide) (fun c12 => ?_) (fun c12 => ?_)
    · have h := k_if c12 h
      exact hB30 _ hq2 _ _ _ _ h hP (lv_sub hl [3, 0] rfl)
    · have h := k_nf c12 h
      refine lv_aload_n hx hb dX3_show_15 rfl (lv_at hl 1 rfl) ?_
      refine lv_iload_n hx hb dX3_show_16 rfl (lv_at hl 3 rfl) ?_
      refine k_callVi C hP hap hAA (c_X3_isPlayer l ev ad σ a2   _ rfl) Emb.same hap gz_X3_isPlayer qML_RX3_108 qIM_yX3_isPlayer qSE_yX3_isPlayer ⟨(Nat.le_of_ble_eq_true rfl), (Nat.le_of_ble_eq_true rfl)⟩ (q0 := 0) rfl (by decide) rfl rfl rfl rfl hl.1 rfl (Nat.le_of_ble_eq_true rfl) dX3_show_17 ⟨Nat.le_refl _, Nat.le_refl _⟩ (fun H locs hP => ?_)
      refine r_ifz_ne (tgt := 30) hx hb dX3_show_20 (by decide) (fun c20 => ?_) (fun c20 => ?_)
      · have h := k_if c20 h
        exact hB30 _ hq2 _ _ _ _ h hP (lv_sub hl [3, 0] rfl)
      · have h := k_nf c20 h
        refine lv_aload_n hx hb dX3_show_23 rfl (lv_at hl 1 rfl) ?_
        refine lv_bipush (v := (-2)) hx hb dX3_show_24 (by decide) ?_
        obtain ⟨x12, σ11, h1, h⟩ := k_ob2 h
        refine k_callVi C hP hap hAA (c_X3_refuse l ev ad σ (-2)   _ _ h1) Emb.same hap gz_X3_refuse qML_RX3_60 qIM_yX3_refuse qSE_yX3_refuse ⟨(Nat.le_of_ble_eq_true rfl), (Nat.le_of_ble_eq_true rfl)⟩ (q0 := 0) rfl (by decide) rfl rfl rfl rfl hl.1 rfl (Nat.le_of_ble_eq_true rfl) dX3_show_26 ⟨Nat.le_refl _, Nat.le_refl _⟩ (fun H locs hP => ?_)
        exact e_iret C hend hP (k_some2 h).1 (congrArg (xw ev ad) (k_some2 h).2) dX3_show_29
def f_X3_kindOf (σ : XX) (a1 : Int32) : Option (Int32) :=
  if a1 < 0 then some 0 else if 6 ≤ a1 then some 0 else gd (inb a1 6) (some ((x_kinds σ) (Int32.toNatClampNeg a1)))
set_option maxHeartbeats 4000000 in
set_option maxRecDepth 100000 in
theorem c_X3_kindOf (l : Launch) (ev : EV) (ad : Nat → Nat) (σ : XX) (a1 : Int32)   (r : Int32)  (h : f_X3_kindOf σ a1 = some r) : Ct l yX3_kindOf prog_1_method_77_code 2 (Option.some Jvm.ClassFile.FieldType.int) (rmk 0 0) ev 26 ad (xw ev ad σ) (xw ev ad σ) [.ref (ad 0), .int a1] (some (.int r)) := by
  refine Ct.of (by decide +kernel) (Nat.le_of_ble_eq_true rfl) ?_
  intro p e s m args below meth c Qc C hap hP hend ls hl
  have hAA : ∀ j, j < 26 → inA ad 26 (ad j) := fun j hj => ⟨j, hj, rfl⟩
  have hx := C.1
  have hb := C.2.1
  have hl : lv_has ls 2 [(0, .ref (ad 0)), (1, .int a1)] := hl
  have h := (f_X3_kindOf.eq_1 _ _ ).symm.trans h
  refine lv_iload_n hx hb dX3_kindOf_0 rfl (lv_at hl 1 rfl) ?_
  refine lv_if_lt (tgt := 22) hx hb dX3_kindOf_1 (by decide) (fun c1 => ?_) (fun c1 => ?_)
  · have h := k_if c1 h
    refine lv_iconst (v := 0) hx hb dX3_kindOf_22 (by decide) ?_
    exact e_iret C hend hP (k_some h) rfl dX3_kindOf_23
  · have h := k_nf c1 h
    refine lv_iload_n hx hb dX3_kindOf_4 rfl (lv_at hl 1 rfl) ?_
    refine lv_aload_n hx hb dX3_kindOf_5 rfl (lv_at hl 0 rfl) ?_
    refine r_get C hP (ci := 3) rfl uin_X3 4 (by decide) 0 (by decide) rfl qFL_RX3_26 rfl rfl dX3_kindOf_6 ?_
    refine r_alen C hP 4 (by decide) 0 rfl rfl (v := 6) rfl dX3_kindOf_9 ?_
    refine lv_icmp_ge (tgt := 22) hx hb dX3_kindOf_10 (by decide) (fun c10 => ?_) (fun c10 => ?_)
    · have h := k_if c10 h
      refine lv_iconst (v := 0) hx hb dX3_kindOf_22 (by decide) ?_
      exact e_iret C hend hP (k_some h) rfl dX3_kindOf_23
    · have h := k_nf c10 h
      refine lv_aload_n hx hb dX3_kindOf_13 rfl (lv_at hl 0 rfl) ?_
      refine r_get C hP (ci := 3) rfl uin_X3 4 (by decide) 0 (by decide) rfl qFL_RX3_26 rfl rfl dX3_kindOf_14 ?_
      refine lv_iload_n hx hb dX3_kindOf_17 rfl (lv_at hl 1 rfl) ?_
      obtain ⟨hg, h⟩ := k_gd h
      refine r_iald C hP 4 (by decide) rfl hg dX3_kindOf_18 ?_
      refine lv_goto (tgt := 23) hx hb dX3_kindOf_19 (by decide) ?_
      exact e_iret C hend hP (k_some h) rfl dX3_kindOf_23
def f_X3_amountOf (σ : XX) (a1 : Int32) : Option (Int32) :=
  if a1 < 0 then some 0 else if 6 ≤ a1 then some 0 else gd (inb a1 6) (some ((x_amounts σ) (Int32.toNatClampNeg a1)))
set_option maxHeartbeats 4000000 in
set_option maxRecDepth 100000 in
theorem c_X3_amountOf (l : Launch) (ev : EV) (ad : Nat → Nat) (σ : XX) (a1 : Int32)   (r : Int32)  (h : f_X3_amountOf σ a1 = some r) : Ct l yX3_amountOf prog_1_method_78_code 2 (Option.some Jvm.ClassFile.FieldType.int) (rmk 0 0) ev 26 ad (xw ev ad σ) (xw ev ad σ) [.ref (ad 0), .int a1] (some (.int r)) := by
  refine Ct.of (by decide +kernel) (Nat.le_of_ble_eq_true rfl) ?_
  intro p e s m args below meth c Qc C hap hP hend ls hl
  have hAA : ∀ j, j < 26 → inA ad 26 (ad j) := fun j hj => ⟨j, hj, rfl⟩
  have hx := C.1
  have hb := C.2.1
  have hl : lv_has ls 2 [(0, .ref (ad 0)), (1, .int a1)] := hl
  have h := (f_X3_amountOf.eq_1 _ _ ).symm.trans h
  refine lv_iload_n hx hb dX3_amountOf_0 rfl (lv_at hl 1 rfl) ?_
  refine lv_if_lt (tgt := 22) hx hb dX3_amountOf_1 (by decide) (fun c1 => ?_) (fun c1 => ?_)
  · have h := k_if c1 h
    refine lv_iconst (v := 0) hx hb dX3_amountOf_22 (by decide) ?_
    exact e_iret C hend hP (k_some h) rfl dX3_amountOf_23
  · have h := k_nf c1 h
    refine lv_iload_n hx hb dX3_amountOf_4 rfl (lv_at hl 1 rfl) ?_
    refine lv_aload_n hx hb dX3_amountOf_5 rfl (lv_at hl 0 rfl) ?_
    refine r_get C hP (ci := 3) rfl uin_X3 5 (by decide) 0 (by decide) rfl qFL_RX3_30 rfl rfl dX3_amountOf_6 ?_
    refine r_alen C hP 5 (by decide) 0 rfl rfl (v := 6) rfl dX3_amountOf_9 ?_
    refine lv_icmp_ge (tgt := 22) hx hb dX3_amountOf_10 (by decide) (fun c10 => ?_) (fun c10 => ?_)
    · have h := k_if c10 h
      refine lv_iconst (v := 0) hx hb dX3_amountOf_22 (by decide) ?_
      exact e_iret C hend hP (k_some h) rfl dX3_amountOf_23
    · have h := k_nf c10 h
      refine lv_aload_n hx hb dX3_amountOf_13 rfl (lv_at hl 0 rfl) ?_
      refine r_get C hP (ci := 3) rfl uin_X3 5 (by decide) 0 (by decide) rfl qFL_RX3_30 rfl rfl dX3_amountOf_14 ?_
      refine lv_iload_n hx hb dX3_amountOf_17 rfl (lv_at hl 1 rfl) ?_
      obtain ⟨hg, h⟩ := k_gd h
      refine r_iald C hP 5 (by decide) rfl hg dX3_amountOf_18 ?_
      refine lv_goto (tgt := 23) hx hb dX3_amountOf_19 (by decide) ?_
      exact e_iret C hend hP (k_some h) rfl dX3_amountOf_23
def f_X3_chosenSlot_thought_b125  (y4 : Int64) (y5 : Int64) (σ6 : XX) : Option (Int32 × XX) :=
  if (lg_cmp y5 0) = 0 then some ((f_X3_firstSlot y4), σ6) else some ((f_X3_firstSlot y5), σ6)
def f_X3_chosenSlot_thought (σ : XX) (a2 : Int32) : Option (Int32 × XX) :=
  lt (f_X0_openSlots (x_thought σ)) (fun y1 => ob (f_X3_kindOf σ a2) (fun x2 => if x2 = 1 then ob (f_X0_shuttingEdges (x_thought σ)) (fun y3 => f_X3_chosenSlot_thought_b125 y1 y3 σ) else if x2 = 2 then ob (f_X3_amountOf σ a2) (fun x7 => lt (f_X0_digsBelow (x_thought σ) x7 (g_all (x_thought σ))) (fun y8 => f_X3_chosenSlot_thought_b125 y1 y8 σ)) else if x2 = 3 then ob (f_X0_shuttingEdges (x_thought σ)) (fun y9 => if (lg_cmp y9 0) = 0 then ob (f_X0_calmEdges (x_thought σ)) (fun y10 => f_X3_chosenSlot_thought_b125 y1 y10 σ) else f_X3_chosenSlot_thought_b125 y1 y9 σ) else if x2 = 4 then ob (f_X3_amountOf σ a2) (fun x11 => ob (f_X0_touched (x_thought σ) (g_rimEdges (x_thought σ))) (fun x12 => lt (f_X0_digsBelow (x_thought σ) x11 x12) (fun y13 => f_X3_chosenSlot_thought_b125 y1 y13 σ))) else if x2 = 5 then ob2 (f_X0_drawnSlot (x_thought σ) y1) (fun x15 σ14 => lt (x_thought' σ σ14) (fun σ16 => some (x15, σ16))) else f_X3_chosenSlot_thought_b125 y1 0 σ))
set_option maxHeartbeats 4000000 in
set_option maxRecDepth 100000 in
theorem c_X3_chosenSlot_thought (l : Launch) (ev : EV) (ad : Nat → Nat) (σ : XX) (a2 : Int32)   (r : Int32) (σ' : XX) (h : f_X3_chosenSlot_thought σ a2 = some (r, σ')) : Ct l yX3_chosenSlot prog_1_method_81_code 7 (Option.some Jvm.ClassFile.FieldType.int) (rmk 4 89) ev 26 ad (xw ev ad σ) (xw ev ad σ') [.ref (ad 0), .ref (ad 2), .int a2] (some (.int r)) := by
  refine Ct.of (by decide +kernel) (Nat.le_of_ble_eq_true rfl) ?_
  intro p e s m args below meth c Qc C hap hP hend ls hl
  have hAA : ∀ j, j < 26 → inA ad 26 (ad j) := fun j hj => ⟨j, hj, rfl⟩
  have hx := C.1
  have hb := C.2.1
  have hl : lv_has ls 7 [(0, .ref (ad 0)), (1, .ref (ad 2)), (2, .int a2)] := hl
  have h := (f_X3_chosenSlot_thought.eq_1 _ _ ).symm.trans h
  have hB125 : ∀ (y4 : Int64) (y5 : Int64) (σ6 : XX) (H : Heap) (locs : List Loc) (ls : Array Slot), f_X3_chosenSlot_thought_b125  y4 y5 σ6 = some (r, σ') → PS ev 26 ad (xw ev ad σ6) (inA ad 26) s H locs → lv_has ls 7 [(3, .long y4), (5, .long y5)] → WW ev p l e (rmk 4 89) s m args below meth c Qc ad 26 H locs 125 ls [] := by
    intro y4 y5 σ6 H locs ls h hP hl
    have h := (f_X3_chosenSlot_thought_b125.eq_1 _ _ _ ).symm.trans h
    refine lv_lload hx hb dX3_chosenSlot_125 (lv_at hl 1 rfl) ?_
    refine lv_lconst (v := 0) hx hb dX3_chosenSlot_127 (by decide) ?_
    refine W.lcmp hx hb dX3_chosenSlot_128 ?_
    refine lv_if_ne (tgt := 136) hx hb dX3_chosenSlot_129 (by decide) (fun c129 => ?_) (fun c129 => ?_)
    · have h := k_nf c129 h
      refine lv_lload hx hb dX3_chosenSlot_136 (lv_at hl 1 rfl) ?_
      refine k_callSi C hP hap hAA (c_X3_firstSlot l ev ad y5   _ rfl) Emb.none (apart_0 _) gz_X3_firstSlot qML_RX3_318 qSM_yX3_firstSlot ⟨(Nat.le_of_ble_eq_true rfl), (Nat.le_of_ble_eq_true rfl)⟩ rfl hl.1 rfl (Nat.le_of_ble_eq_true rfl) dX3_chosenSlot_138 ⟨Nat.le_refl _, Nat.le_refl _⟩ (fun H locs hP => ?_)
      exact e_iret C hend hP (k_some2 h).1 (congrArg (xw ev ad) (k_some2 h).2) dX3_chosenSlot_141
    · have h := k_if c129 h
      refine lv_lload_n hx hb dX3_chosenSlot_132 rfl (lv_at hl 0 rfl) ?_
      refine lv_goto (tgt := 138) hx hb dX3_chosenSlot_133 (by decide) ?_
      refine k_callSi C hP hap hAA (c_X3_firstSlot l ev ad y4   _ rfl) Emb.none (apart_0 _) gz_X3_firstSlot qML_RX3_318 qSM_yX3_firstSlot ⟨(Nat.le_of_ble_eq_true rfl), (Nat.le_of_ble_eq_true rfl)⟩ rfl hl.1 rfl (Nat.le_of_ble_eq_true rfl) dX3_chosenSlot_138 ⟨Nat.le_refl _, Nat.le_refl _⟩ (fun H locs hP => ?_)
      exact e_iret C hend hP (k_some2 h).1 (congrArg (xw ev ad) (k_some2 h).2) dX3_chosenSlot_141
  refine lv_aload_n hx hb dX3_chosenSlot_0 rfl (lv_at hl 1 rfl) ?_
  refine k_callVl C hP hap hAA (c_X0_openSlots l ev (fun j => ad (j + 2)) (x_thought σ)   _ rfl) (em_G2r) (apart_1 _) gz_X0_openSlots qML_RX3_127 qIM_yX0_openSlots qSE_yX0_openSlots ⟨(Nat.le_of_ble_eq_true rfl), (Nat.le_of_ble_eq_true rfl)⟩ (q0 := 2) rfl (by decide) rfl rfl rfl rfl hl.1 rfl (Nat.le_of_ble_eq_true rfl) dX3_chosenSlot_1 ⟨Nat.le_refl _, Nat.le_refl _⟩ (fun H locs hP => ?_)
  refine lv_topl (fun y1 ey1 => ?_)
  have h := k_lt ey1 h
  refine lv_lstore_n (lv' := [(3, .long y1), (0, .ref (ad 0)), (1, .ref (ad 2)), (2, .int a2)]) hx hb dX3_chosenSlot_4 rfl hl (by decide) rfl (fun ls hl => ?_)
  refine lv_lconst (v := 0) hx hb dX3_chosenSlot_5 (by decide) ?_
  refine lv_lstore (lv' := [(5, .long 0), (3, .long y1), (0, .ref (ad 0)), (1, .ref (ad 2)), (2, .int a2)]) hx hb dX3_chosenSlot_6 hl (by decide) rfl (fun ls hl => ?_)
  refine lv_aload_n hx hb dX3_chosenSlot_8 rfl (lv_at hl 2 rfl) ?_
  refine lv_iload_n hx hb dX3_chosenSlot_9 rfl (lv_at hl 4 rfl) ?_
  obtain ⟨x2, h1, h⟩ := k_ob h
  refine k_callVi C hP hap hAA (c_X3_kindOf l ev ad σ a2   _ h1) Emb.same hap gz_X3_kindOf qML_RX3_118 qIM_yX3_kindOf qSE_yX3_kindOf ⟨(Nat.le_of_ble_eq_true rfl), (Nat.le_of_ble_eq_true rfl)⟩ (q0 := 0) rfl (by decide) rfl rfl rfl rfl hl.1 rfl (Nat.le_of_ble_eq_true rfl) dX3_chosenSlot_10 ⟨Nat.le_refl _, Nat.le_refl _⟩ (fun H locs hP => ?_)
  by_cases cs1 : x2 = 1
  · have h := k_if cs1 h
    refine r_tabIn (tgt := 48) (off := 35) (i := 1) hx hb dX3_chosenSlot_13 cs1 (by decide) (by decide) (by decide) (by decide) ?_
    refine lv_aload_n hx hb dX3_chosenSlot_48 rfl (lv_at hl 3 rfl) ?_
    obtain ⟨y3, h1, h⟩ := k_ob h
    refine k_callVl C hP hap hAA (c_X0_shuttingEdges l ev (fun j => ad (j + 2)) (x_thought σ)   _ h1) (em_G2r) (apart_1 _) gz_X0_shuttingEdges qML_RX3_380 qIM_yX0_shuttingEdges qSE_yX0_shuttingEdges ⟨(Nat.le_of_ble_eq_true rfl), (Nat.le_of_ble_eq_true rfl)⟩ (q0 := 2) rfl (by decide) rfl rfl rfl rfl hl.1 rfl (Nat.le_of_ble_eq_true rfl) dX3_chosenSlot_49 ⟨Nat.le_refl _, Nat.le_refl _⟩ (fun H locs hP => ?_)
    refine lv_lstore (lv' := [(5, .long y3), (3, .long y1), (0, .ref (ad 0)), (1, .ref (ad 2)), (2, .int a2)]) hx hb dX3_chosenSlot_52 hl (by decide) rfl (fun ls hl => ?_)
    refine lv_goto (tgt := 125) hx hb dX3_chosenSlot_54 (by decide) ?_
    exact hB125 _ _ _ _ _ _ h hP (lv_sub hl [1, 0] rfl)
  · have h := k_nf cs1 h
    by_cases cs2 : x2 = 2
    · have h := k_if cs2 h
      refine r_tabIn (tgt := 79) (off := 66) (i := 2) hx hb dX3_chosenSlot_13 cs2 (by decide) (by decide) (by decide) (by decide) ?_
      refine lv_aload_n hx hb dX3_chosenSlot_79 rfl (lv_at hl 3 rfl) ?_
      refine lv_aload_n hx hb dX3_chosenSlot_80 rfl (lv_at hl 2 rfl) ?_
      refine lv_iload_n hx hb dX3_chosenSlot_81 rfl (lv_at hl 4 rfl) ?_
      obtain ⟨x7, h1, h⟩ := k_ob h
      refine k_callVi C hP hap hAA (c_X3_amountOf l ev ad σ a2   _ h1) Emb.same hap gz_X3_amountOf qML_RX3_124 qIM_yX3_amountOf qSE_yX3_amountOf ⟨(Nat.le_of_ble_eq_true rfl), (Nat.le_of_ble_eq_true rfl)⟩ (q0 := 0) rfl (by decide) rfl rfl rfl rfl hl.1 rfl (Nat.le_of_ble_eq_true rfl) dX3_chosenSlot_82 ⟨Nat.le_refl _, Nat.le_refl _⟩ (fun H locs hP => ?_)
      refine lv_aload_n hx hb dX3_chosenSlot_85 rfl (lv_at hl 3 rfl) ?_
      refine r_get C hP (ci := 0) rfl uin_X0 5 (by decide) 2 (by decide) rfl qFL_RX3_293 rfl rfl dX3_chosenSlot_86 ?_
      refine k_callVl C hP hap hAA (c_X0_digsBelow l ev (fun j => ad (j + 2)) (x_thought σ) x7 (g_all (x_thought σ))   _ rfl) (em_G2r) (apart_1 _) gz_X0_digsBelow qML_RX3_383 qIM_yX0_digsBelow qSE_yX0_digsBelow ⟨(Nat.le_of_ble_eq_true rfl), (Nat.le_of_ble_eq_true rfl)⟩ (q0 := 2) rfl (by decide) rfl rfl rfl rfl hl.1 rfl (Nat.le_of_ble_eq_true rfl) dX3_chosenSlot_89 ⟨Nat.le_refl _, Nat.le_refl _⟩ (fun H locs hP => ?_)
      refine lv_topl (fun y8 ey8 => ?_)
      have h := k_lt ey8 h
      refine lv_lstore (lv' := [(5, .long y8), (3, .long y1), (0, .ref (ad 0)), (1, .ref (ad 2)), (2, .int a2)]) hx hb dX3_chosenSlot_92 hl (by decide) rfl (fun ls hl => ?_)
      refine lv_goto (tgt := 125) hx hb dX3_chosenSlot_94 (by decide) ?_
      exact hB125 _ _ _ _ _ _ h hP (lv_sub hl [1, 0] rfl)
    · have h := k_nf cs2 h
      by_cases cs3 : x2 = 3
      · have h := k_if cs3 h
        refine r_tabIn (tgt := 57) (off := 44) (i := 3) hx hb dX3_chosenSlot_13 cs3 (by decide) (by decide) (by decide) (by decide) ?_
        refine lv_aload_n hx hb dX3_chosenSlot_57 rfl (lv_at hl 3 rfl) ?_
        obtain ⟨y9, h1, h⟩ := k_ob h
        refine k_callVl C hP hap hAA (c_X0_shuttingEdges l ev (fun j => ad (j + 2)) (x_thought σ)   _ h1) (em_G2r) (apart_1 _) gz_X0_shuttingEdges qML_RX3_380 qIM_yX0_shuttingEdges qSE_yX0_shuttingEdges ⟨(Nat.le_of_ble_eq_true rfl), (Nat.le_of_ble_eq_true rfl)⟩ (q0 := 2) rfl (by decide) rfl rfl rfl rfl hl.1 rfl (Nat.le_of_ble_eq_true rfl) dX3_chosenSlot_58 ⟨Nat.le_refl _, Nat.le_refl _⟩ (fun H locs hP => ?_)
        refine lv_lstore (lv' := [(5, .long y9), (3, .long y1), (0, .ref (ad 0)), (1, .ref (ad 2)), (2, .int a2)]) hx hb dX3_chosenSlot_61 hl (by decide) rfl (fun ls hl => ?_)
        refine lv_lload hx hb dX3_chosenSlot_63 (lv_at hl 0 rfl) ?_
        refine lv_lconst (v := 0) hx hb dX3_chosenSlot_65 (by decide) ?_
        refine W.lcmp hx hb dX3_chosenSlot_66 ?_
        refine lv_if_ne (tgt := 125) hx hb dX3_chosenSlot_67 (by decide) (fun c67 => ?_) (fun c67 => ?_)
        · have h := k_nf c67 h
          exact hB125 _ _ _ _ _ _ h hP (lv_sub hl [1, 0] rfl)
        · have h := k_if c67 h
          refine lv_aload_n hx hb dX3_chosenSlot_70 rfl (lv_at hl 3 rfl) ?_
          obtain ⟨y10, h1, h⟩ := k_ob h
          refine k_callVl C hP hap hAA (c_X0_calmEdges l ev (fun j => ad (j + 2)) (x_thought σ)   _ h1) (em_G2r) (apart_1 _) gz_X0_calmEdges qML_RX3_290 qIM_yX0_calmEdges qSE_yX0_calmEdges ⟨(Nat.le_of_ble_eq_true rfl), (Nat.le_of_ble_eq_true rfl)⟩ (q0 := 2) rfl (by decide) rfl rfl rfl rfl hl.1 rfl (Nat.le_of_ble_eq_true rfl) dX3_chosenSlot_71 ⟨Nat.le_refl _, Nat.le_refl _⟩ (fun H locs hP => ?_)
          refine lv_lstore (lv' := [(5, .long y10), (3, .long y1), (0, .ref (ad 0)), (1, .ref (ad 2)), (2, .int a2)]) hx hb dX3_chosenSlot_74 hl (by decide) rfl (fun ls hl => ?_)
          refine lv_goto (tgt := 125) hx hb dX3_chosenSlot_76 (by decide) ?_
          exact hB125 _ _ _ _ _ _ h hP (lv_sub hl [1, 0] rfl)
      · have h := k_nf cs3 h
        by_cases cs4 : x2 = 4
        · have h := k_if cs4 h
          refine r_tabIn (tgt := 97) (off := 84) (i := 4) hx hb dX3_chosenSlot_13 cs4 (by decide) (by decide) (by decide) (by decide) ?_
          refine lv_aload_n hx hb dX3_chosenSlot_97 rfl (lv_at hl 3 rfl) ?_
          refine lv_aload_n hx hb dX3_chosenSlot_98 rfl (lv_at hl 2 rfl) ?_
          refine lv_iload_n hx hb dX3_chosenSlot_99 rfl (lv_at hl 4 rfl) ?_
          obtain ⟨x11, h1, h⟩ := k_ob h
          refine k_callVi C hP hap hAA (c_X3_amountOf l ev ad σ a2   _ h1) Emb.same hap gz_X3_amountOf qML_RX3_124 qIM_yX3_amountOf qSE_yX3_amountOf ⟨(Nat.le_of_ble_eq_true rfl), (Nat.le_of_ble_eq_true rfl)⟩ (q0 := 0) rfl (by decide) rfl rfl rfl rfl hl.1 rfl (Nat.le_of_ble_eq_true rfl) dX3_chosenSlot_100 ⟨Nat.le_refl _, Nat.le_refl _⟩ (fun H locs hP => ?_)
          refine lv_aload_n hx hb dX3_chosenSlot_103 rfl (lv_at hl 3 rfl) ?_
          refine lv_aload_n hx hb dX3_chosenSlot_104 rfl (lv_at hl 3 rfl) ?_
          refine r_get C hP (ci := 0) rfl uin_X0 8 (by decide) 2 (by decide) rfl qFL_RX3_221 rfl rfl dX3_chosenSlot_105 ?_
          obtain ⟨x12, h1, h⟩ := k_ob h
          refine k_callVi C hP hap hAA (c_X0_touched l ev (fun j => ad (j + 2)) (x_thought σ) (g_rimEdges (x_thought σ))   _ h1) (em_G2r) (apart_1 _) gz_X0_touched qML_RX3_224 qIM_yX0_touched qSE_yX0_touched ⟨(Nat.le_of_ble_eq_true rfl), (Nat.le_of_ble_eq_true rfl)⟩ (q0 := 2) rfl (by decide) rfl rfl rfl rfl hl.1 rfl (Nat.le_of_ble_eq_true rfl) dX3_chosenSlot_108 ⟨Nat.le_refl _, Nat.le_refl _⟩ (fun H locs hP => ?_)
          refine k_callVl C hP hap hAA (c_X0_digsBelow l ev (fun j => ad (j + 2)) (x_thought σ) x11 x12   _ rfl) (em_G2r) (apart_1 _) gz_X0_digsBelow qML_RX3_383 qIM_yX0_digsBelow qSE_yX0_digsBelow ⟨(Nat.le_of_ble_eq_true rfl), (Nat.le_of_ble_eq_true rfl)⟩ (q0 := 2) rfl (by decide) rfl rfl rfl rfl hl.1 rfl (Nat.le_of_ble_eq_true rfl) dX3_chosenSlot_111 ⟨Nat.le_refl _, Nat.le_refl _⟩ (fun H locs hP => ?_)
          refine lv_topl (fun y13 ey13 => ?_)
          have h := k_lt ey13 h
          refine lv_lstore (lv' := [(5, .long y13), (3, .long y1), (0, .ref (ad 0)), (1, .ref (ad 2)), (2, .int a2)]) hx hb dX3_chosenSlot_114 hl (by decide) rfl (fun ls hl => ?_)
          refine lv_goto (tgt := 125) hx hb dX3_chosenSlot_116 (by decide) ?_
          exact hB125 _ _ _ _ _ _ h hP (lv_sub hl [1, 0] rfl)
        · have h := k_nf cs4 h
          by_cases cs5 : x2 = 5
          · have h := k_if cs5 h
            refine r_tabIn (tgt := 119) (off := 106) (i := 5) hx hb dX3_chosenSlot_13 cs5 (by decide) (by decide) (by decide) (by decide) ?_
            refine lv_aload_n hx hb dX3_chosenSlot_119 rfl (lv_at hl 3 rfl) ?_
            refine lv_lload_n hx hb dX3_chosenSlot_120 rfl (lv_at hl 1 rfl) ?_
            obtain ⟨x15, σ14, h1, h⟩ := k_ob2 h
            refine k_callVi C hP hap hAA (c_X0_drawnSlot l ev (fun j => ad (j + 2)) (x_thought σ) y1   _ _ h1) (em_G2) (apart_1 _) gz_X0_drawnSlot qML_RX3_387 qIM_yX0_drawnSlot qSE_yX0_drawnSlot ⟨(Nat.le_of_ble_eq_true rfl), (Nat.le_of_ble_eq_true rfl)⟩ (q0 := 2) rfl (by decide) rfl rfl rfl rfl hl.1 rfl (Nat.le_of_ble_eq_true rfl) dX3_chosenSlot_121 ⟨Nat.le_refl _, Nat.le_refl _⟩ (fun H locs hP => ?_)
            obtain ⟨σ16, eσ16, h⟩ := k_ltx h
            rw [← eσ16] at hP
            exact e_iret C hend hP (k_some2 h).1 (congrArg (xw ev ad) (k_some2 h).2) dX3_chosenSlot_124
          · have h := k_nf cs5 h
            refine r_tabOut (tgt := 125) hx hb dX3_chosenSlot_13 (fun i h1 h2 => by
              have h3 : i = 1 ∨ i = 2 ∨ i = 3 ∨ i = 4 ∨ i = 5 := by omega
              rcases h3 with rfl | rfl | rfl | rfl | rfl
              · exact cs1
              · exact cs2
              · exact cs3
              · exact cs4
              · exact cs5
              ) (by decide) ?_
            exact hB125 _ _ _ _ _ _ h hP (lv_sub hl [1, 0] rfl)
