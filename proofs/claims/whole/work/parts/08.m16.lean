/-! functions read off, and their contracts: by program (wip/whole/gen2.py) -/
def f_X3_isSide (a1 : Int32) : Bool :=
  if a1 < 1 then false else if 4 < a1 then false else true
set_option maxHeartbeats 4000000 in
set_option maxRecDepth 100000 in
theorem c_X3_isSide (l : Launch) (ev : EV) (ad : Nat → Nat) (a1 : Int32)   (r : Bool)  (h : f_X3_isSide a1 = r) : Ct l yX3_isSide prog_1_method_65_code 1 (Option.some Jvm.ClassFile.FieldType.boolean) (rmk 0 0) ev 0 ad w00 w00 [.int a1] (some (.int (bi r))) := by
  refine Ct.of (by decide +kernel) (Nat.le_of_ble_eq_true rfl) ?_
  intro p e s m args below meth c Qc C hap hP hend ls hl
  have hAA : ∀ j, j < 0 → inA ad 0 (ad j) := fun j hj => ⟨j, hj, rfl⟩
  have hx := C.1
  have hb := C.2.1
  have hl : lv_has ls 1 [(0, .int a1)] := hl
  have h := (f_X3_isSide.eq_1 _ ).symm.trans h
  refine lv_iload_n hx hb dX3_isSide_0 rfl (lv_at hl 0 rfl) ?_
  refine lv_iconst (v := 1) hx hb dX3_isSide_1 (by decide) ?_
  refine lv_icmp_lt (tgt := 14) hx hb dX3_isSide_2 (by decide) (fun c2 => ?_) (fun c2 => ?_)
  · have h := k_if c2 h
    refine lv_iconst (v := 0) hx hb dX3_isSide_14 (by decide) ?_
    exact e_zret C hend hP h rfl dX3_isSide_15 rfl
  · have h := k_nf c2 h
    refine lv_iload_n hx hb dX3_isSide_5 rfl (lv_at hl 0 rfl) ?_
    refine lv_iconst (v := 4) hx hb dX3_isSide_6 (by decide) ?_
    refine lv_icmp_gt (tgt := 14) hx hb dX3_isSide_7 (by decide) (fun c7 => ?_) (fun c7 => ?_)
    · have h := k_if c7 h
      refine lv_iconst (v := 0) hx hb dX3_isSide_14 (by decide) ?_
      exact e_zret C hend hP h rfl dX3_isSide_15 rfl
    · have h := k_nf c7 h
      refine lv_iconst (v := 1) hx hb dX3_isSide_10 (by decide) ?_
      refine lv_goto (tgt := 15) hx hb dX3_isSide_11 (by decide) ?_
      exact e_zret C hend hP h rfl dX3_isSide_15 rfl
def f_X3_size (σ : XX) (a1 : Int32) (a2 : Int32) : Option (Int32 × XX) :=
  if (f_X3_isSide a1) = true then if (f_X3_isSide a2) = true then ob (f_X0_lay (x_now σ) a1 a2) (fun σ3 => lt (x_now' σ σ3) (fun σ4 => some ((g_edges (x_now σ4)), σ4))) else ob2 (f_X3_refuse σ (-2)) (fun x6 σ5 => some (x6, σ5)) else ob2 (f_X3_refuse σ (-2)) (fun x2 σ1 => some (x2, σ1))
set_option maxHeartbeats 4000000 in
set_option maxRecDepth 100000 in
theorem c_X3_size (l : Launch) (ev : EV) (ad : Nat → Nat) (σ : XX) (a1 : Int32) (a2 : Int32)   (r : Int32) (σ' : XX) (h : f_X3_size σ a1 a2 = some (r, σ')) : Ct l yX3_size prog_1_method_9_code 3 (Option.some Jvm.ClassFile.FieldType.int) (rmk 3 68) ev 26 ad (xw ev ad σ) (xw ev ad σ') [.ref (ad 0), .int a1, .int a2] (some (.int r)) := by
  refine Ct.of (by decide +kernel) (Nat.le_of_ble_eq_true rfl) ?_
  intro p e s m args below meth c Qc C hap hP hend ls hl
  have hAA : ∀ j, j < 26 → inA ad 26 (ad j) := fun j hj => ⟨j, hj, rfl⟩
  have hx := C.1
  have hb := C.2.1
  have hl : lv_has ls 3 [(0, .ref (ad 0)), (1, .int a1), (2, .int a2)] := hl
  have h := (f_X3_size.eq_1 _ _ _ ).symm.trans h
  refine lv_iload_n hx hb dX3_size_0 rfl (lv_at hl 1 rfl) ?_
  refine k_callSi C hP hap hAA (c_X3_isSide l ev ad a1   _ rfl) Emb.none (apart_0 _) gz_X3_isSide qML_RX3_140 qSM_yX3_isSide ⟨(Nat.le_of_ble_eq_true rfl), (Nat.le_of_ble_eq_true rfl)⟩ rfl hl.1 rfl (Nat.le_of_ble_eq_true rfl) dX3_size_1 ⟨Nat.le_refl _, Nat.le_refl _⟩ (fun H locs hP => ?_)
  refine r_ifz_eq (tgt := 14) hx hb dX3_size_4 (by decide) (fun c4 => ?_) (fun c4 => ?_)
  · have h := k_nf c4 h
    refine lv_aload_n hx hb dX3_size_14 rfl (lv_at hl 0 rfl) ?_
    refine lv_bipush (v := (-2)) hx hb dX3_size_15 (by decide) ?_
    obtain ⟨x2, σ1, h1, h⟩ := k_ob2 h
    refine k_callVi C hP hap hAA (c_X3_refuse l ev ad σ (-2)   _ _ h1) Emb.same hap gz_X3_refuse qML_RX3_60 qIM_yX3_refuse qSE_yX3_refuse ⟨(Nat.le_of_ble_eq_true rfl), (Nat.le_of_ble_eq_true rfl)⟩ (q0 := 0) rfl (by decide) rfl rfl rfl rfl hl.1 rfl (Nat.le_of_ble_eq_true rfl) dX3_size_17 ⟨Nat.le_refl _, Nat.le_refl _⟩ (fun H locs hP => ?_)
    exact e_iret C hend hP (k_some2 h).1 (congrArg (xw ev ad) (k_some2 h).2) dX3_size_20
  · have h := k_if c4 h
    refine lv_iload_n hx hb dX3_size_7 rfl (lv_at hl 2 rfl) ?_
    refine k_callSi C hP hap hAA (c_X3_isSide l ev ad a2   _ rfl) Emb.none (apart_0 _) gz_X3_isSide qML_RX3_140 qSM_yX3_isSide ⟨(Nat.le_of_ble_eq_true rfl), (Nat.le_of_ble_eq_true rfl)⟩ rfl hl.1 rfl (Nat.le_of_ble_eq_true rfl) dX3_size_8 ⟨Nat.le_refl _, Nat.le_refl _⟩ (fun H locs hP => ?_)
    refine r_ifz_ne (tgt := 21) hx hb dX3_size_11 (by decide) (fun c11 => ?_) (fun c11 => ?_)
    · have h := k_if c11 h
      refine lv_aload_n hx hb dX3_size_21 rfl (lv_at hl 0 rfl) ?_
      refine r_get C hP (ci := 3) rfl uin_X3 0 (by decide) 0 (by decide) rfl qFL_RX3_10 rfl rfl dX3_size_22 ?_
      refine lv_iload_n hx hb dX3_size_25 rfl (lv_at hl 1 rfl) ?_
      refine lv_iload_n hx hb dX3_size_26 rfl (lv_at hl 2 rfl) ?_
      obtain ⟨σ3, h1, h⟩ := k_ob h
      refine k_callVv C hP hap hAA (c_X0_lay l ev (fun j => ad (j + 1)) (x_now σ) a1 a2   _ h1) (em_G1) (apart_1 _) gz_X0_lay qML_RX3_143 qIM_yX0_lay qSE_yX0_lay ⟨(Nat.le_of_ble_eq_true rfl), (Nat.le_of_ble_eq_true rfl)⟩ (q0 := 1) rfl (by decide) rfl rfl rfl rfl hl.1 rfl (Nat.le_of_ble_eq_true rfl) dX3_size_27 ⟨Nat.le_refl _, Nat.le_refl _⟩ (fun H locs hP => ?_)
      obtain ⟨σ4, eσ4, h⟩ := k_ltx h
      rw [← eσ4] at hP
      refine lv_aload_n hx hb dX3_size_30 rfl (lv_at hl 0 rfl) ?_
      refine r_get C hP (ci := 3) rfl uin_X3 0 (by decide) 0 (by decide) rfl qFL_RX3_10 rfl rfl dX3_size_31 ?_
      refine r_get C hP (ci := 0) rfl uin_X0 3 (by decide) 1 (by decide) rfl qFL_RX3_146 rfl rfl dX3_size_34 ?_
      exact e_iret C hend hP (k_some2 h).1 (congrArg (xw ev ad) (k_some2 h).2) dX3_size_37
    · have h := k_nf c11 h
      refine lv_aload_n hx hb dX3_size_14 rfl (lv_at hl 0 rfl) ?_
      refine lv_bipush (v := (-2)) hx hb dX3_size_15 (by decide) ?_
      obtain ⟨x6, σ5, h1, h⟩ := k_ob2 h
      refine k_callVi C hP hap hAA (c_X3_refuse l ev ad σ (-2)   _ _ h1) Emb.same hap gz_X3_refuse qML_RX3_60 qIM_yX3_refuse qSE_yX3_refuse ⟨(Nat.le_of_ble_eq_true rfl), (Nat.le_of_ble_eq_true rfl)⟩ (q0 := 0) rfl (by decide) rfl rfl rfl rfl hl.1 rfl (Nat.le_of_ble_eq_true rfl) dX3_size_17 ⟨Nat.le_refl _, Nat.le_refl _⟩ (fun H locs hP => ?_)
      exact e_iret C hend hP (k_some2 h).1 (congrArg (xw ev ad) (k_some2 h).2) dX3_size_20
def f_X3_enlist (σ : XX) (a1 : Int32) (a2 : Int32) (a3 : Int32) : Option XX :=
  if a1 < 0 then some σ else if 6 ≤ a1 then some σ else if 6 ≤ a1 then some σ else gd (inb a1 6) (lt (x_kinds' σ (upd (x_kinds σ) (Int32.toNatClampNeg a1) a2)) (fun σ1 => gd (inb a1 6) (lt (x_amounts' σ1 (upd (x_amounts σ1) (Int32.toNatClampNeg a1) a3)) (fun σ2 => some σ2))))
set_option maxHeartbeats 4000000 in
set_option maxRecDepth 100000 in
theorem c_X3_enlist (l : Launch) (ev : EV) (ad : Nat → Nat) (σ : XX) (a1 : Int32) (a2 : Int32) (a3 : Int32)    (σ' : XX) (h : f_X3_enlist σ a1 a2 a3 = some σ') : Ct l yX3_enlist prog_1_method_79_code 4 (Option.none : Option Jvm.ClassFile.FieldType) (rmk 0 0) ev 26 ad (xw ev ad σ) (xw ev ad σ') [.ref (ad 0), .int a1, .int a2, .int a3] none := by
  refine Ct.of (by decide +kernel) (Nat.le_of_ble_eq_true rfl) ?_
  intro p e s m args below meth c Qc C hap hP hend ls hl
  have hAA : ∀ j, j < 26 → inA ad 26 (ad j) := fun j hj => ⟨j, hj, rfl⟩
  have hx := C.1
  have hb := C.2.1
  have hl : lv_has ls 4 [(0, .ref (ad 0)), (1, .int a1), (2, .int a2), (3, .int a3)] := hl
  have h := (f_X3_enlist.eq_1 _ _ _ _ ).symm.trans h
  refine lv_iload_n hx hb dX3_enlist_0 rfl (lv_at hl 1 rfl) ?_
  refine lv_if_lt (tgt := 36) hx hb dX3_enlist_1 (by decide) (fun c1 => ?_) (fun c1 => ?_)
  · have h := k_if c1 h
    exact e_vret C hend hP (congrArg (xw ev ad) (k_some h)) dX3_enlist_36
  · have h := k_nf c1 h
    refine lv_iload_n hx hb dX3_enlist_4 rfl (lv_at hl 1 rfl) ?_
    refine lv_aload_n hx hb dX3_enlist_5 rfl (lv_at hl 0 rfl) ?_
    refine r_get C hP (ci := 3) rfl uin_X3 4 (by decide) 0 (by decide) rfl qFL_RX3_26 rfl rfl dX3_enlist_6 ?_
    refine r_alen C hP 4 (by decide) 0 rfl rfl (v := 6) rfl dX3_enlist_9 ?_
    refine lv_icmp_ge (tgt := 36) hx hb dX3_enlist_10 (by decide) (fun c10 => ?_) (fun c10 => ?_)
    · have h := k_if c10 h
      exact e_vret C hend hP (congrArg (xw ev ad) (k_some h)) dX3_enlist_36
    · have h := k_nf c10 h
      refine lv_iload_n hx hb dX3_enlist_13 rfl (lv_at hl 1 rfl) ?_
      refine lv_aload_n hx hb dX3_enlist_14 rfl (lv_at hl 0 rfl) ?_
      refine r_get C hP (ci := 3) rfl uin_X3 5 (by decide) 0 (by decide) rfl qFL_RX3_30 rfl rfl dX3_enlist_15 ?_
      refine r_alen C hP 5 (by decide) 0 rfl rfl (v := 6) rfl dX3_enlist_18 ?_
      refine lv_icmp_ge (tgt := 36) hx hb dX3_enlist_19 (by decide) (fun c19 => ?_) (fun c19 => ?_)
      · have h := k_if c19 h
        exact e_vret C hend hP (congrArg (xw ev ad) (k_some h)) dX3_enlist_36
      · have h := k_nf c19 h
        refine lv_aload_n hx hb dX3_enlist_22 rfl (lv_at hl 0 rfl) ?_
        refine r_get C hP (ci := 3) rfl uin_X3 4 (by decide) 0 (by decide) rfl qFL_RX3_26 rfl rfl dX3_enlist_23 ?_
        refine lv_iload_n hx hb dX3_enlist_26 rfl (lv_at hl 1 rfl) ?_
        refine lv_iload_n hx hb dX3_enlist_27 rfl (lv_at hl 2 rfl) ?_
        obtain ⟨hg, h⟩ := k_gd h
        obtain ⟨σ1, eσ1, h⟩ := k_ltx h
        refine st_X_kinds C hP hap hAA eσ1 hg dX3_enlist_28 (fun H locs hP => ?_)
        refine lv_aload_n hx hb dX3_enlist_29 rfl (lv_at hl 0 rfl) ?_
        refine r_get C hP (ci := 3) rfl uin_X3 5 (by decide) 0 (by decide) rfl qFL_RX3_30 rfl rfl dX3_enlist_30 ?_
        refine lv_iload_n hx hb dX3_enlist_33 rfl (lv_at hl 1 rfl) ?_
        refine lv_iload_n hx hb dX3_enlist_34 rfl (lv_at hl 3 rfl) ?_
        obtain ⟨hg, h⟩ := k_gd h
        obtain ⟨σ2, eσ2, h⟩ := k_ltx h
        refine st_X_amounts C hP hap hAA eσ2 hg dX3_enlist_35 (fun H locs hP => ?_)
        exact e_vret C hend hP (congrArg (xw ev ad) (k_some h)) dX3_enlist_36
def f_X3_player (σ : XX) (a1 : Int32) (a2 : Int32) : Option (Int32 × XX) :=
  if a1 < 0 then ob2 (f_X3_refuse σ (-2)) (fun x2 σ1 => some (x2, σ1)) else if 6 ≤ a1 then ob2 (f_X3_refuse σ (-2)) (fun x4 σ3 => some (x4, σ3)) else if a2 < 0 then ob2 (f_X3_refuse σ (-2)) (fun x6 σ5 => some (x6, σ5)) else if a2 ≤ 9 then if (x_crew σ) < 6 then ob (f_X3_enlist σ (x_crew σ) a1 a2) (fun σ7 => lt (x_crew' σ7 ((x_crew σ7) + 1)) (fun σ8 => some (((x_crew σ8) - 1), σ8))) else ob2 (f_X3_refuse σ (-6)) (fun x10 σ9 => some (x10, σ9)) else ob2 (f_X3_refuse σ (-2)) (fun x12 σ11 => some (x12, σ11))
set_option maxHeartbeats 4000000 in
set_option maxRecDepth 100000 in
theorem c_X3_player (l : Launch) (ev : EV) (ad : Nat → Nat) (σ : XX) (a1 : Int32) (a2 : Int32)   (r : Int32) (σ' : XX) (h : f_X3_player σ a1 a2 = some (r, σ')) : Ct l yX3_player prog_1_method_10_code 3 (Option.some Jvm.ClassFile.FieldType.int) (rmk 1 23) ev 26 ad (xw ev ad σ) (xw ev ad σ') [.ref (ad 0), .int a1, .int a2] (some (.int r)) := by
  refine Ct.of (by decide +kernel) (Nat.le_of_ble_eq_true rfl) ?_
  intro p e s m args below meth c Qc C hap hP hend ls hl
  have hAA : ∀ j, j < 26 → inA ad 26 (ad j) := fun j hj => ⟨j, hj, rfl⟩
  have hx := C.1
  have hb := C.2.1
  have hl : lv_has ls 3 [(0, .ref (ad 0)), (1, .int a1), (2, .int a2)] := hl
  have h := (f_X3_player.eq_1 _ _ _ ).symm.trans h
  refine lv_iload_n hx hb dX3_player_0 rfl (lv_at hl 1 rfl) ?_
  refine lv_if_lt (tgt := 20) hx hb dX3_player_1 (by decide) (fun c1 => ?_) (fun c1 => ?_)
  · have h := k_if c1 h
    refine lv_aload_n hx hb dX3_player_20 rfl (lv_at hl 0 rfl) ?_
    refine lv_bipush (v := (-2)) hx hb dX3_player_21 (by decide) ?_
    obtain ⟨x2, σ1, h1, h⟩ := k_ob2 h
    refine k_callVi C hP hap hAA (c_X3_refuse l ev ad σ (-2)   _ _ h1) Emb.same hap gz_X3_refuse qML_RX3_60 qIM_yX3_refuse qSE_yX3_refuse ⟨(Nat.le_of_ble_eq_true rfl), (Nat.le_of_ble_eq_true rfl)⟩ (q0 := 0) rfl (by decide) rfl rfl rfl rfl hl.1 rfl (Nat.le_of_ble_eq_true rfl) dX3_player_23 ⟨Nat.le_refl _, Nat.le_refl _⟩ (fun H locs hP => ?_)
    exact e_iret C hend hP (k_some2 h).1 (congrArg (xw ev ad) (k_some2 h).2) dX3_player_26
  · have h := k_nf c1 h
    refine lv_iload_n hx hb dX3_player_4 rfl (lv_at hl 1 rfl) ?_
    refine lv_bipush (v := 6) hx hb dX3_player_5 (by decide) ?_
    refine lv_icmp_ge (tgt := 20) hx hb dX3_player_7 (by decide) (fun c7 => ?_) (fun c7 => ?_)
    · have h := k_if c7 h
      refine lv_aload_n hx hb dX3_player_20 rfl (lv_at hl 0 rfl) ?_
      refine lv_bipush (v := (-2)) hx hb dX3_player_21 (by decide) ?_
      obtain ⟨x4, σ3, h1, h⟩ := k_ob2 h
      refine k_callVi C hP hap hAA (c_X3_refuse l ev ad σ (-2)   _ _ h1) Emb.same hap gz_X3_refuse qML_RX3_60 qIM_yX3_refuse qSE_yX3_refuse ⟨(Nat.le_of_ble_eq_true rfl), (Nat.le_of_ble_eq_true rfl)⟩ (q0 := 0) rfl (by decide) rfl rfl rfl rfl hl.1 rfl (Nat.le_of_ble_eq_true rfl) dX3_player_23 ⟨Nat.le_refl _, Nat.le_refl _⟩ (fun H locs hP => ?_)
      exact e_iret C hend hP (k_some2 h).1 (congrArg (xw ev ad) (k_some2 h).2) dX3_player_26
    · have h := k_nf c7 h
      refine lv_iload_n hx hb dX3_player_10 rfl (lv_at hl 2 rfl) ?_
      refine lv_if_lt (tgt := 20) hx hb dX3_player_11 (by decide) (fun c11 => ?_) (fun c11 => ?_)
      · have h := k_if c11 h
        refine lv_aload_n hx hb dX3_player_20 rfl (lv_at hl 0 rfl) ?_
        refine lv_bipush (v := (-2)) hx hb dX3_player_21 (by decide) ?_
        obtain ⟨x6, σ5, h1, h⟩ := k_ob2 h
        refine k_callVi C hP hap hAA (c_X3_refuse l ev ad σ (-2)   _ _ h1) Emb.same hap gz_X3_refuse qML_RX3_60 qIM_yX3_refuse qSE_yX3_refuse ⟨(Nat.le_of_ble_eq_true rfl), (Nat.le_of_ble_eq_true rfl)⟩ (q0 := 0) rfl (by decide) rfl rfl rfl rfl hl.1 rfl (Nat.le_of_ble_eq_true rfl) dX3_player_23 ⟨Nat.le_refl _, Nat.le_refl _⟩ (fun H locs hP => ?_)
        exact e_iret C hend hP (k_some2 h).1 (congrArg (xw ev ad) (k_some2 h).2) dX3_player_26
      · have h := k_nf c11 h
        refine lv_iload_n hx hb dX3_player_14 rfl (lv_at hl 2 rfl) ?_
        refine lv_bipush (v := 9) hx hb dX3_player_15 (by decide) ?_
        refine lv_icmp_le (tgt := 27) hx hb dX3_player_17 (by decide) (fun c17 => ?_) (fun c17 => ?_)
        · have h := k_if c17 h
          refine lv_aload_n hx hb dX3_player_27 rfl (lv_at hl 0 rfl) ?_
          refine r_get C hP (ci := 3) rfl uin_X3 6 (by decide) 0 (by decide) rfl qFL_RX3_33 rfl rfl dX3_player_28 ?_
          refine lv_bipush (v := 6) hx hb dX3_player_31 (by decide) ?_
          refine lv_icmp_lt (tgt := 43) hx hb dX3_player_33 (by decide) (fun c33 => ?_) (fun c33 => ?_)
          · have h := k_if c33 h
            refine lv_aload_n hx hb dX3_player_43 rfl (lv_at hl 0 rfl) ?_
            refine lv_aload_n hx hb dX3_player_44 rfl (lv_at hl 0 rfl) ?_
            refine r_get C hP (ci := 3) rfl uin_X3 6 (by decide) 0 (by decide) rfl qFL_RX3_33 rfl rfl dX3_player_45 ?_
            refine lv_iload_n hx hb dX3_player_48 rfl (lv_at hl 1 rfl) ?_
            refine lv_iload_n hx hb dX3_player_49 rfl (lv_at hl 2 rfl) ?_
            obtain ⟨σ7, h1, h⟩ := k_ob h
            refine k_callVv C hP hap hAA (c_X3_enlist l ev ad σ (x_crew σ) a1 a2   _ h1) Emb.same hap gz_X3_enlist qML_RX3_149 qIM_yX3_enlist qSE_yX3_enlist ⟨(Nat.le_of_ble_eq_true rfl), (Nat.le_of_ble_eq_true rfl)⟩ (q0 := 0) rfl (by decide) rfl rfl rfl rfl hl.1 rfl (Nat.le_of_ble_eq_true rfl) dX3_player_50 ⟨Nat.le_refl _, Nat.le_refl _⟩ (fun H locs hP => ?_)
            refine lv_aload_n hx hb dX3_player_53 rfl (lv_at hl 0 rfl) ?_
            refine lv_dup hx hb dX3_player_54 rfl ?_
            refine r_get C hP (ci := 3) rfl uin_X3 6 (by decide) 0 (by decide) rfl qFL_RX3_33 rfl rfl dX3_player_55 ?_
            refine lv_iconst (v := 1) hx hb dX3_player_58 (by decide) ?_
            refine lv_iadd hx hb dX3_player_59 ?_
            obtain ⟨σ8, eσ8, h⟩ := k_ltx h
            refine pt_X_X3_crew C hP hap hAA eσ8 qFL_RX3_33 dX3_player_60 (fun H locs hP => ?_)
            refine lv_aload_n hx hb dX3_player_63 rfl (lv_at hl 0 rfl) ?_
            refine r_get C hP (ci := 3) rfl uin_X3 6 (by decide) 0 (by decide) rfl qFL_RX3_33 rfl rfl dX3_player_64 ?_
            refine lv_iconst (v := 1) hx hb dX3_player_67 (by decide) ?_
            refine lv_isub hx hb dX3_player_68 ?_
            exact e_iret C hend hP (k_some2 h).1 (congrArg (xw ev ad) (k_some2 h).2) dX3_player_69
          · have h := k_nf c33 h
            refine lv_aload_n hx hb dX3_player_36 rfl (lv_at hl 0 rfl) ?_
            refine lv_bipush (v := (-6)) hx hb dX3_player_37 (by decide) ?_
            obtain ⟨x10, σ9, h1, h⟩ := k_ob2 h
            refine k_callVi C hP hap hAA (c_X3_refuse l ev ad σ (-6)   _ _ h1) Emb.same hap gz_X3_refuse qML_RX3_60 qIM_yX3_refuse qSE_yX3_refuse ⟨(Nat.le_of_ble_eq_true rfl), (Nat.le_of_ble_eq_true rfl)⟩ (q0 := 0) rfl (by decide) rfl rfl rfl rfl hl.1 rfl (Nat.le_of_ble_eq_true rfl) dX3_player_39 ⟨Nat.le_refl _, Nat.le_refl _⟩ (fun H locs hP => ?_)
            exact e_iret C hend hP (k_some2 h).1 (congrArg (xw ev ad) (k_some2 h).2) dX3_player_42
        · have h := k_nf c17 h
          refine lv_aload_n hx hb dX3_player_20 rfl (lv_at hl 0 rfl) ?_
          refine lv_bipush (v := (-2)) hx hb dX3_player_21 (by decide) ?_
          obtain ⟨x12, σ11, h1, h⟩ := k_ob2 h
          refine k_callVi C hP hap hAA (c_X3_refuse l ev ad σ (-2)   _ _ h1) Emb.same hap gz_X3_refuse qML_RX3_60 qIM_yX3_refuse qSE_yX3_refuse ⟨(Nat.le_of_ble_eq_true rfl), (Nat.le_of_ble_eq_true rfl)⟩ (q0 := 0) rfl (by decide) rfl rfl rfl rfl hl.1 rfl (Nat.le_of_ble_eq_true rfl) dX3_player_23 ⟨Nat.le_refl _, Nat.le_refl _⟩ (fun H locs hP => ?_)
          exact e_iret C hend hP (k_some2 h).1 (congrArg (xw ev ad) (k_some2 h).2) dX3_player_26
def f_X3_isSeat (a1 : Int32) : Bool :=
  if a1 = 0 then true else if a1 = 1 then true else false
set_option maxHeartbeats 4000000 in
set_option maxRecDepth 100000 in
theorem c_X3_isSeat (l : Launch) (ev : EV) (ad : Nat → Nat) (a1 : Int32)   (r : Bool)  (h : f_X3_isSeat a1 = r) : Ct l yX3_isSeat prog_1_method_64_code 1 (Option.some Jvm.ClassFile.FieldType.boolean) (rmk 0 0) ev 0 ad w00 w00 [.int a1] (some (.int (bi r))) := by
  refine Ct.of (by decide +kernel) (Nat.le_of_ble_eq_true rfl) ?_
  intro p e s m args below meth c Qc C hap hP hend ls hl
  have hAA : ∀ j, j < 0 → inA ad 0 (ad j) := fun j hj => ⟨j, hj, rfl⟩
  have hx := C.1
  have hb := C.2.1
  have hl : lv_has ls 1 [(0, .int a1)] := hl
  have h := (f_X3_isSeat.eq_1 _ ).symm.trans h
  refine lv_iload_n hx hb dX3_isSeat_0 rfl (lv_at hl 0 rfl) ?_
  refine lv_if_eq (tgt := 9) hx hb dX3_isSeat_1 (by decide) (fun c1 => ?_) (fun c1 => ?_)
  · have h := k_if c1 h
    refine lv_iconst (v := 1) hx hb dX3_isSeat_9 (by decide) ?_
    refine lv_goto (tgt := 14) hx hb dX3_isSeat_10 (by decide) ?_
    exact e_zret C hend hP h rfl dX3_isSeat_14 rfl
  · have h := k_nf c1 h
    refine lv_iload_n hx hb dX3_isSeat_4 rfl (lv_at hl 0 rfl) ?_
    refine lv_iconst (v := 1) hx hb dX3_isSeat_5 (by decide) ?_
    refine lv_icmp_ne (tgt := 13) hx hb dX3_isSeat_6 (by decide) (fun c6 => ?_) (fun c6 => ?_)
    · have h := k_nf c6 h
      refine lv_iconst (v := 0) hx hb dX3_isSeat_13 (by decide) ?_
      exact e_zret C hend hP h rfl dX3_isSeat_14 rfl
    · have h := k_if c6 h
      refine lv_iconst (v := 1) hx hb dX3_isSeat_9 (by decide) ?_
      refine lv_goto (tgt := 14) hx hb dX3_isSeat_10 (by decide) ?_
      exact e_zret C hend hP h rfl dX3_isSeat_14 rfl
def f_X3_turn (σ : XX) (a1 : Int32) : Option (Int32 × XX) :=
  if (f_X3_isSeat a1) = true then lt (g_turn (x_now σ)) (fun x1 => lt (x_now' σ (g_turn' (x_now σ) a1)) (fun σ2 => some (x1, σ2))) else ob2 (f_X3_refuse σ (-2)) (fun x4 σ3 => some (x4, σ3))
set_option maxHeartbeats 4000000 in
set_option maxRecDepth 100000 in
theorem c_X3_turn (l : Launch) (ev : EV) (ad : Nat → Nat) (σ : XX) (a1 : Int32)   (r : Int32) (σ' : XX) (h : f_X3_turn σ a1 = some (r, σ')) : Ct l yX3_turn prog_1_method_11_code 3 (Option.some Jvm.ClassFile.FieldType.int) (rmk 1 22) ev 26 ad (xw ev ad σ) (xw ev ad σ') [.ref (ad 0), .int a1] (some (.int r)) := by
  refine Ct.of (by decide +kernel) (Nat.le_of_ble_eq_true rfl) ?_
  intro p e s m args below meth c Qc C hap hP hend ls hl
  have hAA : ∀ j, j < 26 → inA ad 26 (ad j) := fun j hj => ⟨j, hj, rfl⟩
  have hx := C.1
  have hb := C.2.1
  have hl : lv_has ls 3 [(0, .ref (ad 0)), (1, .int a1)] := hl
  have h := (f_X3_turn.eq_1 _ _ ).symm.trans h
  refine lv_iload_n hx hb dX3_turn_0 rfl (lv_at hl 1 rfl) ?_
  refine k_callSi C hP hap hAA (c_X3_isSeat l ev ad a1   _ rfl) Emb.none (apart_0 _) gz_X3_isSeat qML_RX3_153 qSM_yX3_isSeat ⟨(Nat.le_of_ble_eq_true rfl), (Nat.le_of_ble_eq_true rfl)⟩ rfl hl.1 rfl (Nat.le_of_ble_eq_true rfl) dX3_turn_1 ⟨Nat.le_refl _, Nat.le_refl _⟩ (fun H locs hP => ?_)
  refine r_ifz_ne (tgt := 14) hx hb dX3_turn_4 (by decide) (fun c4 => ?_) (fun c4 => ?_)
  · have h := k_if c4 h
    refine lv_aload_n hx hb dX3_turn_14 rfl (lv_at hl 0 rfl) ?_
    refine r_get C hP (ci := 3) rfl uin_X3 0 (by decide) 0 (by decide) rfl qFL_RX3_10 rfl rfl dX3_turn_15 ?_
    refine r_get C hP (ci := 0) rfl uin_X0 13 (by decide) 1 (by decide) rfl qFL_RX3_156 rfl rfl dX3_turn_18 ?_
    refine lv_topi (fun x1 ex1 => ?_)
    have h := k_lt ex1 h
    refine lv_istore_n (lv' := [(2, .int x1), (0, .ref (ad 0)), (1, .int a1)]) hx hb dX3_turn_21 rfl hl (by decide) rfl (fun ls hl => ?_)
    refine lv_aload_n hx hb dX3_turn_22 rfl (lv_at hl 1 rfl) ?_
    refine r_get C hP (ci := 3) rfl uin_X3 0 (by decide) 0 (by decide) rfl qFL_RX3_10 rfl rfl dX3_turn_23 ?_
    refine lv_iload_n hx hb dX3_turn_26 rfl (lv_at hl 2 rfl) ?_
    obtain ⟨σ2, eσ2, h⟩ := k_ltx h
    refine pt_X1_X0_turn C hP hap hAA eσ2 qFL_RX3_156 dX3_turn_27 (fun H locs hP => ?_)
    refine lv_iload_n hx hb dX3_turn_30 rfl (lv_at hl 0 rfl) ?_
    exact e_iret C hend hP (k_some2 h).1 (congrArg (xw ev ad) (k_some2 h).2) dX3_turn_31
  · have h := k_nf c4 h
    refine lv_aload_n hx hb dX3_turn_7 rfl (lv_at hl 0 rfl) ?_
    refine lv_bipush (v := (-2)) hx hb dX3_turn_8 (by decide) ?_
    obtain ⟨x4, σ3, h1, h⟩ := k_ob2 h
    refine k_callVi C hP hap hAA (c_X3_refuse l ev ad σ (-2)   _ _ h1) Emb.same hap gz_X3_refuse qML_RX3_60 qIM_yX3_refuse qSE_yX3_refuse ⟨(Nat.le_of_ble_eq_true rfl), (Nat.le_of_ble_eq_true rfl)⟩ (q0 := 0) rfl (by decide) rfl rfl rfl rfl hl.1 rfl (Nat.le_of_ble_eq_true rfl) dX3_turn_10 ⟨Nat.le_refl _, Nat.le_refl _⟩ (fun H locs hP => ?_)
    exact e_iret C hend hP (k_some2 h).1 (congrArg (xw ev ad) (k_some2 h).2) dX3_turn_13
