/-! functions read off, and their contracts: by program (wip/whole/gen2.py) -/
def f_X0_uprightRow (σ : GG) (a1 : Int32) : Option (Int32) :=
  lt ((g_width σ) + 1) (fun x1 => if x1 ≤ 0 then some 0 else gd (nz x1) (some (idiv (a1 - (g_uprights σ)) x1)))
set_option maxHeartbeats 4000000 in
set_option maxRecDepth 100000 in
theorem c_X0_uprightRow (l : Launch) (ev : EV) (ad : Nat → Nat) (σ : GG) (a1 : Int32)   (r : Int32)  (h : f_X0_uprightRow σ a1 = some r) : Ct l yX0_uprightRow prog_2_method_13_code 3 (Option.some Jvm.ClassFile.FieldType.int) (rmk 0 0) ev 1 ad (gw1 σ) (gw1 σ) [.ref (ad 0), .int a1] (some (.int r)) := by
  refine Ct.of (by decide +kernel) (Nat.le_of_ble_eq_true rfl) ?_
  intro p e s m args below meth c Qc C hap hP hend ls hl
  have hAA : ∀ j, j < 1 → inA ad 1 (ad j) := fun j hj => ⟨j, hj, rfl⟩
  have hx := C.1
  have hb := C.2.1
  have hl : lv_has ls 3 [(0, .ref (ad 0)), (1, .int a1)] := hl
  have h := (f_X0_uprightRow.eq_1 _ _ ).symm.trans h
  refine lv_aload_n hx hb dX0_uprightRow_0 rfl (lv_at hl 0 rfl) ?_
  refine r_get C hP (ci := 0) rfl uin_X0 0 (by decide) 0 (by decide) rfl qFL_RX0_19 rfl rfl dX0_uprightRow_1 ?_
  refine lv_iconst (v := 1) hx hb dX0_uprightRow_4 (by decide) ?_
  refine lv_iadd hx hb dX0_uprightRow_5 ?_
  refine lv_topi (fun x1 ex1 => ?_)
  have h := k_lt ex1 h
  refine lv_istore_n (lv' := [(2, .int x1), (0, .ref (ad 0)), (1, .int a1)]) hx hb dX0_uprightRow_6 rfl hl (by decide) rfl (fun ls hl => ?_)
  refine lv_iload_n hx hb dX0_uprightRow_7 rfl (lv_at hl 0 rfl) ?_
  refine lv_if_le (tgt := 22) hx hb dX0_uprightRow_8 (by decide) (fun c8 => ?_) (fun c8 => ?_)
  · have h := k_if c8 h
    refine lv_iconst (v := 0) hx hb dX0_uprightRow_22 (by decide) ?_
    exact e_iret C hend hP (k_some h) rfl dX0_uprightRow_23
  · have h := k_nf c8 h
    refine lv_iload_n hx hb dX0_uprightRow_11 rfl (lv_at hl 2 rfl) ?_
    refine lv_aload_n hx hb dX0_uprightRow_12 rfl (lv_at hl 1 rfl) ?_
    refine r_get C hP (ci := 0) rfl uin_X0 4 (by decide) 0 (by decide) rfl qFL_RX0_28 rfl rfl dX0_uprightRow_13 ?_
    refine lv_isub hx hb dX0_uprightRow_16 ?_
    refine lv_iload_n hx hb dX0_uprightRow_17 rfl (lv_at hl 0 rfl) ?_
    obtain ⟨hg, h⟩ := k_gd h
    refine r_idiv hx hb dX0_uprightRow_18 (nz_ne hg) ?_
    refine lv_goto (tgt := 23) hx hb dX0_uprightRow_19 (by decide) ?_
    exact e_iret C hend hP (k_some h) rfl dX0_uprightRow_23
def f_X0_fieldAhead (σ : GG) (a1 : Int32) : Option (Int32) :=
  if (g_uprights σ) ≤ a1 then ob (f_X0_uprightRow σ a1) (fun x1 => lt ((a1 - (g_uprights σ)) - (x1 * ((g_width σ) + 1))) (fun x2 => if x2 ≤ 0 then some (-1) else some (((x1 * (g_width σ)) + x2) - 1))) else if a1 < (g_width σ) then some (-1) else some (a1 - (g_width σ))
set_option maxHeartbeats 4000000 in
set_option maxRecDepth 100000 in
theorem c_X0_fieldAhead (l : Launch) (ev : EV) (ad : Nat → Nat) (σ : GG) (a1 : Int32)   (r : Int32)  (h : f_X0_fieldAhead σ a1 = some r) : Ct l yX0_fieldAhead prog_2_method_14_code 4 (Option.some Jvm.ClassFile.FieldType.int) (rmk 1 22) ev 1 ad (gw1 σ) (gw1 σ) [.ref (ad 0), .int a1] (some (.int r)) := by
  refine Ct.of (by decide +kernel) (Nat.le_of_ble_eq_true rfl) ?_
  intro p e s m args below meth c Qc C hap hP hend ls hl
  have hAA : ∀ j, j < 1 → inA ad 1 (ad j) := fun j hj => ⟨j, hj, rfl⟩
  have hx := C.1
  have hb := C.2.1
  have hl : lv_has ls 4 [(0, .ref (ad 0)), (1, .int a1)] := hl
  have h := (f_X0_fieldAhead.eq_1 _ _ ).symm.trans h
  refine lv_iload_n hx hb dX0_fieldAhead_0 rfl (lv_at hl 1 rfl) ?_
  refine lv_aload_n hx hb dX0_fieldAhead_1 rfl (lv_at hl 0 rfl) ?_
  refine r_get C hP (ci := 0) rfl uin_X0 4 (by decide) 0 (by decide) rfl qFL_RX0_28 rfl rfl dX0_fieldAhead_2 ?_
  refine lv_icmp_ge (tgt := 27) hx hb dX0_fieldAhead_5 (by decide) (fun c5 => ?_) (fun c5 => ?_)
  · have h := k_if c5 h
    refine lv_aload_n hx hb dX0_fieldAhead_27 rfl (lv_at hl 0 rfl) ?_
    refine lv_iload_n hx hb dX0_fieldAhead_28 rfl (lv_at hl 1 rfl) ?_
    obtain ⟨x1, h1, h⟩ := k_ob h
    refine k_callVi C hP hap hAA (c_X0_uprightRow l ev ad σ a1   _ h1) Emb.same hap gz_X0_uprightRow qML_RX0_81 qIM_yX0_uprightRow qSE_yX0_uprightRow ⟨(Nat.le_of_ble_eq_true rfl), (Nat.le_of_ble_eq_true rfl)⟩ (q0 := 0) rfl (by decide) rfl rfl rfl rfl hl.1 rfl (Nat.le_of_ble_eq_true rfl) dX0_fieldAhead_29 ⟨Nat.le_refl _, Nat.le_refl _⟩ (fun H locs hP => ?_)
    refine lv_istore_n (lv' := [(2, .int x1), (0, .ref (ad 0)), (1, .int a1)]) hx hb dX0_fieldAhead_32 rfl hl (by decide) rfl (fun ls hl => ?_)
    refine lv_iload_n hx hb dX0_fieldAhead_33 rfl (lv_at hl 2 rfl) ?_
    refine lv_aload_n hx hb dX0_fieldAhead_34 rfl (lv_at hl 1 rfl) ?_
    refine r_get C hP (ci := 0) rfl uin_X0 4 (by decide) 0 (by decide) rfl qFL_RX0_28 rfl rfl dX0_fieldAhead_35 ?_
    refine lv_isub hx hb dX0_fieldAhead_38 ?_
    refine lv_iload_n hx hb dX0_fieldAhead_39 rfl (lv_at hl 0 rfl) ?_
    refine lv_aload_n hx hb dX0_fieldAhead_40 rfl (lv_at hl 1 rfl) ?_
    refine r_get C hP (ci := 0) rfl uin_X0 0 (by decide) 0 (by decide) rfl qFL_RX0_19 rfl rfl dX0_fieldAhead_41 ?_
    refine lv_iconst (v := 1) hx hb dX0_fieldAhead_44 (by decide) ?_
    refine lv_iadd hx hb dX0_fieldAhead_45 ?_
    refine lv_imul hx hb dX0_fieldAhead_46 ?_
    refine lv_isub hx hb dX0_fieldAhead_47 ?_
    refine lv_topi (fun x2 ex2 => ?_)
    have h := k_lt ex2 h
    refine lv_istore_n (lv' := [(3, .int x2), (2, .int x1), (0, .ref (ad 0)), (1, .int a1)]) hx hb dX0_fieldAhead_48 rfl hl (by decide) rfl (fun ls hl => ?_)
    refine lv_iload_n hx hb dX0_fieldAhead_49 rfl (lv_at hl 0 rfl) ?_
    refine lv_if_le (tgt := 66) hx hb dX0_fieldAhead_50 (by decide) (fun c50 => ?_) (fun c50 => ?_)
    · have h := k_if c50 h
      refine lv_iconst (v := (-1)) hx hb dX0_fieldAhead_66 (by decide) ?_
      exact e_iret C hend hP (k_some h) rfl dX0_fieldAhead_67
    · have h := k_nf c50 h
      refine lv_iload_n hx hb dX0_fieldAhead_53 rfl (lv_at hl 1 rfl) ?_
      refine lv_aload_n hx hb dX0_fieldAhead_54 rfl (lv_at hl 2 rfl) ?_
      refine r_get C hP (ci := 0) rfl uin_X0 0 (by decide) 0 (by decide) rfl qFL_RX0_19 rfl rfl dX0_fieldAhead_55 ?_
      refine lv_imul hx hb dX0_fieldAhead_58 ?_
      refine lv_iload_n hx hb dX0_fieldAhead_59 rfl (lv_at hl 0 rfl) ?_
      refine lv_iadd hx hb dX0_fieldAhead_60 ?_
      refine lv_iconst (v := 1) hx hb dX0_fieldAhead_61 (by decide) ?_
      refine lv_isub hx hb dX0_fieldAhead_62 ?_
      refine lv_goto (tgt := 67) hx hb dX0_fieldAhead_63 (by decide) ?_
      exact e_iret C hend hP (k_some h) rfl dX0_fieldAhead_67
  · have h := k_nf c5 h
    refine lv_iload_n hx hb dX0_fieldAhead_8 rfl (lv_at hl 1 rfl) ?_
    refine lv_aload_n hx hb dX0_fieldAhead_9 rfl (lv_at hl 0 rfl) ?_
    refine r_get C hP (ci := 0) rfl uin_X0 0 (by decide) 0 (by decide) rfl qFL_RX0_19 rfl rfl dX0_fieldAhead_10 ?_
    refine lv_icmp_lt (tgt := 25) hx hb dX0_fieldAhead_13 (by decide) (fun c13 => ?_) (fun c13 => ?_)
    · have h := k_if c13 h
      refine lv_iconst (v := (-1)) hx hb dX0_fieldAhead_25 (by decide) ?_
      exact e_iret C hend hP (k_some h) rfl dX0_fieldAhead_26
    · have h := k_nf c13 h
      refine lv_iload_n hx hb dX0_fieldAhead_16 rfl (lv_at hl 1 rfl) ?_
      refine lv_aload_n hx hb dX0_fieldAhead_17 rfl (lv_at hl 0 rfl) ?_
      refine r_get C hP (ci := 0) rfl uin_X0 0 (by decide) 0 (by decide) rfl qFL_RX0_19 rfl rfl dX0_fieldAhead_18 ?_
      refine lv_isub hx hb dX0_fieldAhead_21 ?_
      refine lv_goto (tgt := 26) hx hb dX0_fieldAhead_22 (by decide) ?_
      exact e_iret C hend hP (k_some h) rfl dX0_fieldAhead_26
def f_X0_fieldBeyond (σ : GG) (a1 : Int32) : Option (Int32) :=
  if (g_uprights σ) ≤ a1 then ob (f_X0_uprightRow σ a1) (fun x1 => lt ((a1 - (g_uprights σ)) - (x1 * ((g_width σ) + 1))) (fun x2 => if (g_width σ) ≤ x2 then some (-1) else some ((x1 * (g_width σ)) + x2))) else if (g_fields σ) ≤ a1 then some (-1) else some a1
set_option maxHeartbeats 4000000 in
set_option maxRecDepth 100000 in
theorem c_X0_fieldBeyond (l : Launch) (ev : EV) (ad : Nat → Nat) (σ : GG) (a1 : Int32)   (r : Int32)  (h : f_X0_fieldBeyond σ a1 = some r) : Ct l yX0_fieldBeyond prog_2_method_15_code 4 (Option.some Jvm.ClassFile.FieldType.int) (rmk 1 22) ev 1 ad (gw1 σ) (gw1 σ) [.ref (ad 0), .int a1] (some (.int r)) := by
  refine Ct.of (by decide +kernel) (Nat.le_of_ble_eq_true rfl) ?_
  intro p e s m args below meth c Qc C hap hP hend ls hl
  have hAA : ∀ j, j < 1 → inA ad 1 (ad j) := fun j hj => ⟨j, hj, rfl⟩
  have hx := C.1
  have hb := C.2.1
  have hl : lv_has ls 4 [(0, .ref (ad 0)), (1, .int a1)] := hl
  have h := (f_X0_fieldBeyond.eq_1 _ _ ).symm.trans h
  refine lv_iload_n hx hb dX0_fieldBeyond_0 rfl (lv_at hl 1 rfl) ?_
  refine lv_aload_n hx hb dX0_fieldBeyond_1 rfl (lv_at hl 0 rfl) ?_
  refine r_get C hP (ci := 0) rfl uin_X0 4 (by decide) 0 (by decide) rfl qFL_RX0_28 rfl rfl dX0_fieldBeyond_2 ?_
  refine lv_icmp_ge (tgt := 22) hx hb dX0_fieldBeyond_5 (by decide) (fun c5 => ?_) (fun c5 => ?_)
  · have h := k_if c5 h
    refine lv_aload_n hx hb dX0_fieldBeyond_22 rfl (lv_at hl 0 rfl) ?_
    refine lv_iload_n hx hb dX0_fieldBeyond_23 rfl (lv_at hl 1 rfl) ?_
    obtain ⟨x1, h1, h⟩ := k_ob h
    refine k_callVi C hP hap hAA (c_X0_uprightRow l ev ad σ a1   _ h1) Emb.same hap gz_X0_uprightRow qML_RX0_81 qIM_yX0_uprightRow qSE_yX0_uprightRow ⟨(Nat.le_of_ble_eq_true rfl), (Nat.le_of_ble_eq_true rfl)⟩ (q0 := 0) rfl (by decide) rfl rfl rfl rfl hl.1 rfl (Nat.le_of_ble_eq_true rfl) dX0_fieldBeyond_24 ⟨Nat.le_refl _, Nat.le_refl _⟩ (fun H locs hP => ?_)
    refine lv_istore_n (lv' := [(2, .int x1), (0, .ref (ad 0)), (1, .int a1)]) hx hb dX0_fieldBeyond_27 rfl hl (by decide) rfl (fun ls hl => ?_)
    refine lv_iload_n hx hb dX0_fieldBeyond_28 rfl (lv_at hl 2 rfl) ?_
    refine lv_aload_n hx hb dX0_fieldBeyond_29 rfl (lv_at hl 1 rfl) ?_
    refine r_get C hP (ci := 0) rfl uin_X0 4 (by decide) 0 (by decide) rfl qFL_RX0_28 rfl rfl dX0_fieldBeyond_30 ?_
    refine lv_isub hx hb dX0_fieldBeyond_33 ?_
    refine lv_iload_n hx hb dX0_fieldBeyond_34 rfl (lv_at hl 0 rfl) ?_
    refine lv_aload_n hx hb dX0_fieldBeyond_35 rfl (lv_at hl 1 rfl) ?_
    refine r_get C hP (ci := 0) rfl uin_X0 0 (by decide) 0 (by decide) rfl qFL_RX0_19 rfl rfl dX0_fieldBeyond_36 ?_
    refine lv_iconst (v := 1) hx hb dX0_fieldBeyond_39 (by decide) ?_
    refine lv_iadd hx hb dX0_fieldBeyond_40 ?_
    refine lv_imul hx hb dX0_fieldBeyond_41 ?_
    refine lv_isub hx hb dX0_fieldBeyond_42 ?_
    refine lv_topi (fun x2 ex2 => ?_)
    have h := k_lt ex2 h
    refine lv_istore_n (lv' := [(3, .int x2), (2, .int x1), (0, .ref (ad 0)), (1, .int a1)]) hx hb dX0_fieldBeyond_43 rfl hl (by decide) rfl (fun ls hl => ?_)
    refine lv_iload_n hx hb dX0_fieldBeyond_44 rfl (lv_at hl 0 rfl) ?_
    refine lv_aload_n hx hb dX0_fieldBeyond_45 rfl (lv_at hl 2 rfl) ?_
    refine r_get C hP (ci := 0) rfl uin_X0 0 (by decide) 0 (by decide) rfl qFL_RX0_19 rfl rfl dX0_fieldBeyond_46 ?_
    refine lv_icmp_ge (tgt := 63) hx hb dX0_fieldBeyond_49 (by decide) (fun c49 => ?_) (fun c49 => ?_)
    · have h := k_if c49 h
      refine lv_iconst (v := (-1)) hx hb dX0_fieldBeyond_63 (by decide) ?_
      exact e_iret C hend hP (k_some h) rfl dX0_fieldBeyond_64
    · have h := k_nf c49 h
      refine lv_iload_n hx hb dX0_fieldBeyond_52 rfl (lv_at hl 1 rfl) ?_
      refine lv_aload_n hx hb dX0_fieldBeyond_53 rfl (lv_at hl 2 rfl) ?_
      refine r_get C hP (ci := 0) rfl uin_X0 0 (by decide) 0 (by decide) rfl qFL_RX0_19 rfl rfl dX0_fieldBeyond_54 ?_
      refine lv_imul hx hb dX0_fieldBeyond_57 ?_
      refine lv_iload_n hx hb dX0_fieldBeyond_58 rfl (lv_at hl 0 rfl) ?_
      refine lv_iadd hx hb dX0_fieldBeyond_59 ?_
      refine lv_goto (tgt := 64) hx hb dX0_fieldBeyond_60 (by decide) ?_
      exact e_iret C hend hP (k_some h) rfl dX0_fieldBeyond_64
  · have h := k_nf c5 h
    refine lv_iload_n hx hb dX0_fieldBeyond_8 rfl (lv_at hl 1 rfl) ?_
    refine lv_aload_n hx hb dX0_fieldBeyond_9 rfl (lv_at hl 0 rfl) ?_
    refine r_get C hP (ci := 0) rfl uin_X0 2 (by decide) 0 (by decide) rfl qFL_RX0_25 rfl rfl dX0_fieldBeyond_10 ?_
    refine lv_icmp_ge (tgt := 20) hx hb dX0_fieldBeyond_13 (by decide) (fun c13 => ?_) (fun c13 => ?_)
    · have h := k_if c13 h
      refine lv_iconst (v := (-1)) hx hb dX0_fieldBeyond_20 (by decide) ?_
      exact e_iret C hend hP (k_some h) rfl dX0_fieldBeyond_21
    · have h := k_nf c13 h
      refine lv_iload_n hx hb dX0_fieldBeyond_16 rfl (lv_at hl 1 rfl) ?_
      refine lv_goto (tgt := 21) hx hb dX0_fieldBeyond_17 (by decide) ?_
      exact e_iret C hend hP (k_some h) rfl dX0_fieldBeyond_21
def f_X0_clear (σ : GG) : Option GG :=
  lt (g_hedges' σ 0) (fun σ1 => lt (g_dug' σ1 0) (fun σ2 => lt (g_ownedBy0' σ2 0) (fun σ3 => lt (g_ownedBy1' σ3 0) (fun σ4 => lt (g_turn' σ4 0) (fun σ5 => lt (g_made' σ5 0) (fun σ6 => some σ6))))))
set_option maxHeartbeats 4000000 in
set_option maxRecDepth 100000 in
theorem c_X0_clear (l : Launch) (ev : EV) (ad : Nat → Nat) (σ : GG)    (σ' : GG) (h : f_X0_clear σ = some σ') : Ct l yX0_clear prog_2_method_3_code 1 (Option.none : Option Jvm.ClassFile.FieldType) (rmk 0 0) ev 1 ad (gw1 σ) (gw1 σ') [.ref (ad 0)] none := by
  refine Ct.of (by decide +kernel) (Nat.le_of_ble_eq_true rfl) ?_
  intro p e s m args below meth c Qc C hap hP hend ls hl
  have hAA : ∀ j, j < 1 → inA ad 1 (ad j) := fun j hj => ⟨j, hj, rfl⟩
  have hx := C.1
  have hb := C.2.1
  have hl : lv_has ls 1 [(0, .ref (ad 0))] := hl
  have h := (f_X0_clear.eq_1 _ ).symm.trans h
  refine lv_aload_n hx hb dX0_clear_0 rfl (lv_at hl 0 rfl) ?_
  refine lv_lconst (v := 0) hx hb dX0_clear_1 (by decide) ?_
  obtain ⟨σ1, eσ1, h⟩ := k_ltx h
  refine pt_G_X0_hedges C hP hap hAA eσ1 qFL_RX0_57 dX0_clear_2 (fun H locs hP => ?_)
  refine lv_aload_n hx hb dX0_clear_5 rfl (lv_at hl 0 rfl) ?_
  refine lv_iconst (v := 0) hx hb dX0_clear_6 (by decide) ?_
  obtain ⟨σ2, eσ2, h⟩ := k_ltx h
  refine pt_G_X0_dug C hP hap hAA eσ2 qFL_RX0_60 dX0_clear_7 (fun H locs hP => ?_)
  refine lv_aload_n hx hb dX0_clear_10 rfl (lv_at hl 0 rfl) ?_
  refine lv_iconst (v := 0) hx hb dX0_clear_11 (by decide) ?_
  obtain ⟨σ3, eσ3, h⟩ := k_ltx h
  refine pt_G_X0_ownedBy0 C hP hap hAA eσ3 qFL_RX0_63 dX0_clear_12 (fun H locs hP => ?_)
  refine lv_aload_n hx hb dX0_clear_15 rfl (lv_at hl 0 rfl) ?_
  refine lv_iconst (v := 0) hx hb dX0_clear_16 (by decide) ?_
  obtain ⟨σ4, eσ4, h⟩ := k_ltx h
  refine pt_G_X0_ownedBy1 C hP hap hAA eσ4 qFL_RX0_66 dX0_clear_17 (fun H locs hP => ?_)
  refine lv_aload_n hx hb dX0_clear_20 rfl (lv_at hl 0 rfl) ?_
  refine lv_iconst (v := 0) hx hb dX0_clear_21 (by decide) ?_
  obtain ⟨σ5, eσ5, h⟩ := k_ltx h
  refine pt_G_X0_turn C hP hap hAA eσ5 qFL_RX0_69 dX0_clear_22 (fun H locs hP => ?_)
  refine lv_aload_n hx hb dX0_clear_25 rfl (lv_at hl 0 rfl) ?_
  refine lv_iconst (v := 0) hx hb dX0_clear_26 (by decide) ?_
  obtain ⟨σ6, eσ6, h⟩ := k_ltx h
  refine pt_G_X0_made C hP hap hAA eσ6 qFL_RX0_72 dX0_clear_27 (fun H locs hP => ?_)
  exact e_vret C hend hP (congrArg (gw1) (k_some h)) dX0_clear_30
def f_X0_lay_L59_b (a1 : Int32) (a2 : Int32) (k84 : GG → Option GG) (rec59 : Int32 → GG → Option GG) (x8 : Int32) (σ9 : GG) : Option GG :=
  if a2 ≤ x8 then k84 σ9 else lt (g_leftmost' σ9 ((g_leftmost σ9) ||| (ishl 1 (x8 * a1)))) (fun σ10 => lt (x8 + 1) (fun x11 => rec59 x11 σ10))
def f_X0_lay_L59 (a1 : Int32) (a2 : Int32) (k84 : GG → Option GG) (x8 : Int32) (σ9 : GG) : Option GG :=
  lp (fun _ _ => none) (f_X0_lay_L59_b a1 a2 k84) FU x8 σ9
def f_X0_lay_L103_b  (k147 : GG → Option GG) (rec103 : Int32 → GG → Option GG) (x15 : Int32) (σ16 : GG) : Option GG :=
  if (g_edges σ16) ≤ x15 then k147 σ16 else ob (f_X0_fieldAhead σ16 x15) (fun x17 => if x17 = (-1) then lt (g_rimEdges' σ16 ((g_rimEdges σ16) ||| (lshl 1 x15))) (fun σ18 => lt (x15 + 1) (fun x19 => rec103 x19 σ18)) else ob (f_X0_fieldBeyond σ16 x15) (fun x20 => if x20 = (-1) then lt (g_rimEdges' σ16 ((g_rimEdges σ16) ||| (lshl 1 x15))) (fun σ22 => lt (x15 + 1) (fun x23 => rec103 x23 σ22)) else lt (x15 + 1) (fun x21 => rec103 x21 σ16)))
def f_X0_lay_L103  (k147 : GG → Option GG) (x15 : Int32) (σ16 : GG) : Option GG :=
  lp (fun _ _ => none) (f_X0_lay_L103_b  k147) FU x15 σ16
def f_X0_lay (σ : GG) (a1 : Int32) (a2 : Int32) : Option GG :=
  lt (g_width' σ a1) (fun σ1 => lt (g_height' σ1 a2) (fun σ2 => lt (g_fields' σ2 (a1 * a2)) (fun σ3 => lt (g_uprights' σ3 ((a2 + 1) * a1)) (fun σ4 => lt (g_edges' σ4 ((g_uprights σ4) + (a2 * (a1 + 1)))) (fun σ5 => lt (g_all' σ5 ((ishl 1 (g_fields σ5)) - 1)) (fun σ6 => lt (g_leftmost' σ6 0) (fun σ7 => f_X0_lay_L59 a1 a2 (fun σ12 => lt (g_rightmost' σ12 (ishl (g_leftmost σ12) (a1 - 1))) (fun σ13 => lt (g_rimEdges' σ13 0) (fun σ14 => f_X0_lay_L103 (fun σ24 => ob (f_X0_clear σ24) (fun σ25 => some σ25)) 0 σ14))) 0 σ7)))))))
set_option maxHeartbeats 4000000 in
set_option maxRecDepth 100000 in
theorem c_X0_lay (l : Launch) (ev : EV) (ad : Nat → Nat) (σ : GG) (a1 : Int32) (a2 : Int32)    (σ' : GG) (h : f_X0_lay σ a1 a2 = some σ') : Ct l yX0_lay prog_2_method_2_code 4 (Option.none : Option Jvm.ClassFile.FieldType) (rmk 2 45) ev 1 ad (gw1 σ) (gw1 σ') [.ref (ad 0), .int a1, .int a2] none := by
  refine Ct.of (by decide +kernel) (Nat.le_of_ble_eq_true rfl) ?_
  intro p e s m args below meth c Qc C hap hP hend ls hl
  have hAA : ∀ j, j < 1 → inA ad 1 (ad j) := fun j hj => ⟨j, hj, rfl⟩
  have hx := C.1
  have hb := C.2.1
  have hl : lv_has ls 4 [(0, .ref (ad 0)), (1, .int a1), (2, .int a2)] := hl
  have h := (f_X0_lay.eq_1 _ _ _ ).symm.trans h
  refine lv_aload_n hx hb dX0_lay_0 rfl (lv_at hl 0 rfl) ?_
  refine lv_iload_n hx hb dX0_lay_1 rfl (lv_at hl 1 rfl) ?_
  obtain ⟨σ1, eσ1, h⟩ := k_ltx h
  refine pt_G_X0_width C hP hap hAA eσ1 qFL_RX0_19 dX0_lay_2 (fun H locs hP => ?_)
  refine lv_aload_n hx hb dX0_lay_5 rfl (lv_at hl 0 rfl) ?_
  refine lv_iload_n hx hb dX0_lay_6 rfl (lv_at hl 2 rfl) ?_
  obtain ⟨σ2, eσ2, h⟩ := k_ltx h
  refine pt_G_X0_height C hP hap hAA eσ2 qFL_RX0_22 dX0_lay_7 (fun H locs hP => ?_)
  refine lv_aload_n hx hb dX0_lay_10 rfl (lv_at hl 0 rfl) ?_
  refine lv_iload_n hx hb dX0_lay_11 rfl (lv_at hl 1 rfl) ?_
  refine lv_iload_n hx hb dX0_lay_12 rfl (lv_at hl 2 rfl) ?_
  refine lv_imul hx hb dX0_lay_13 ?_
  obtain ⟨σ3, eσ3, h⟩ := k_ltx h
  refine pt_G_X0_fields C hP hap hAA eσ3 qFL_RX0_25 dX0_lay_14 (fun H locs hP => ?_)
  refine lv_aload_n hx hb dX0_lay_17 rfl (lv_at hl 0 rfl) ?_
  refine lv_iload_n hx hb dX0_lay_18 rfl (lv_at hl 2 rfl) ?_
  refine lv_iconst (v := 1) hx hb dX0_lay_19 (by decide) ?_
  refine lv_iadd hx hb dX0_lay_20 ?_
  refine lv_iload_n hx hb dX0_lay_21 rfl (lv_at hl 1 rfl) ?_
  refine lv_imul hx hb dX0_lay_22 ?_
  obtain ⟨σ4, eσ4, h⟩ := k_ltx h
  refine pt_G_X0_uprights C hP hap hAA eσ4 qFL_RX0_28 dX0_lay_23 (fun H locs hP => ?_)
  refine lv_aload_n hx hb dX0_lay_26 rfl (lv_at hl 0 rfl) ?_
  refine lv_aload_n hx hb dX0_lay_27 rfl (lv_at hl 0 rfl) ?_
  refine r_get C hP (ci := 0) rfl uin_X0 4 (by decide) 0 (by decide) rfl qFL_RX0_28 rfl rfl dX0_lay_28 ?_
  refine lv_iload_n hx hb dX0_lay_31 rfl (lv_at hl 2 rfl) ?_
  refine lv_iload_n hx hb dX0_lay_32 rfl (lv_at hl 1 rfl) ?_
  refine lv_iconst (v := 1) hx hb dX0_lay_33 (by decide) ?_
  refine lv_iadd hx hb dX0_lay_34 ?_
  refine lv_imul hx hb dX0_lay_35 ?_
  refine lv_iadd hx hb dX0_lay_36 ?_
  obtain ⟨σ5, eσ5, h⟩ := k_ltx h
  refine pt_G_X0_edges C hP hap hAA eσ5 qFL_RX0_31 dX0_lay_37 (fun H locs hP => ?_)
  refine lv_aload_n hx hb dX0_lay_40 rfl (lv_at hl 0 rfl) ?_
  refine lv_iconst (v := 1) hx hb dX0_lay_41 (by decide) ?_
  refine lv_aload_n hx hb dX0_lay_42 rfl (lv_at hl 0 rfl) ?_
  refine r_get C hP (ci := 0) rfl uin_X0 2 (by decide) 0 (by decide) rfl qFL_RX0_25 rfl rfl dX0_lay_43 ?_
  refine r_ishl hx hb dX0_lay_46 ?_
  refine lv_iconst (v := 1) hx hb dX0_lay_47 (by decide) ?_
  refine lv_isub hx hb dX0_lay_48 ?_
  obtain ⟨σ6, eσ6, h⟩ := k_ltx h
  refine pt_G_X0_all C hP hap hAA eσ6 qFL_RX0_34 dX0_lay_49 (fun H locs hP => ?_)
  refine lv_aload_n hx hb dX0_lay_52 rfl (lv_at hl 0 rfl) ?_
  refine lv_iconst (v := 0) hx hb dX0_lay_53 (by decide) ?_
  obtain ⟨σ7, eσ7, h⟩ := k_ltx h
  refine pt_G_X0_leftmost C hP hap hAA eσ7 qFL_RX0_37 dX0_lay_54 (fun H locs hP => ?_)
  refine lv_iconst (v := 0) hx hb dX0_lay_57 (by decide) ?_
  refine lv_istore_n (lv' := [(3, .int 0), (0, .ref (ad 0)), (1, .int a1), (2, .int a2)]) hx hb dX0_lay_58 rfl hl (by decide) rfl (fun ls hl => ?_)
  have hL59 : ∀ (k84 : GG → Option GG) (hk84 : ∀  (σk : GG) (H : Heap) (locs : List Loc) (ls : Array Slot), k84  σk = some σ' → PS ev 1 ad (gw1 σk) (inA ad 1) s H locs → lv_has ls 4 [(0, .ref (ad 0)), (1, .int a1)] → WW ev p l e (rmk 2 45) s m args below meth c Qc ad 1 H locs 84 ls []) (n : Nat) (x8 : Int32) (σ9 : GG) (H : Heap) (locs : List Loc) (ls : Array Slot), lp (fun _ _ => none) (f_X0_lay_L59_b a1 a2 k84) n x8 σ9 = some σ' → PS ev 1 ad (gw1 σ9) (inA ad 1) s H locs → lv_has ls 4 [(0, .ref (ad 0)), (1, .int a1), (2, .int a2), (3, .int x8)] → WW ev p l e (rmk 2 45) s m args below meth c Qc ad 1 H locs 59 ls [] := by
    intro k84 hk84 n
    induction n with
    | zero =>
      intro x8 σ9 H locs ls h; exact k_none h
    | succ n ih =>
      intro x8 σ9 H locs ls h hP hl
      have h : f_X0_lay_L59_b a1 a2 k84 (lp (fun _ _ => none) (f_X0_lay_L59_b a1 a2 k84) n) x8 σ9 = some σ' := h
      have h := (f_X0_lay_L59_b.eq_1 _ _ _ _ _ _ ).symm.trans h
      refine lv_iload_n hx hb dX0_lay_59 rfl (lv_at hl 3 rfl) ?_
      refine lv_iload_n hx hb dX0_lay_60 rfl (lv_at hl 2 rfl) ?_
      refine lv_icmp_ge (tgt := 84) hx hb dX0_lay_61 (by decide) (fun c61 => ?_) (fun c61 => ?_)
      · have h := k_if c61 h
        exact hk84 _ _ _ _ h hP (lv_sub hl [0, 1] rfl)
      · have h := k_nf c61 h
        refine lv_aload_n hx hb dX0_lay_64 rfl (lv_at hl 0 rfl) ?_
        refine lv_dup hx hb dX0_lay_65 rfl ?_
        refine r_get C hP (ci := 0) rfl uin_X0 6 (by decide) 0 (by decide) rfl qFL_RX0_37 rfl rfl dX0_lay_66 ?_
        refine lv_iconst (v := 1) hx hb dX0_lay_69 (by decide) ?_
        refine lv_iload_n hx hb dX0_lay_70 rfl (lv_at hl 3 rfl) ?_
        refine lv_iload_n hx hb dX0_lay_71 rfl (lv_at hl 1 rfl) ?_
        refine lv_imul hx hb dX0_lay_72 ?_
        refine r_ishl hx hb dX0_lay_73 ?_
        refine lv_ior hx hb dX0_lay_74 ?_
        obtain ⟨σ10, eσ10, h⟩ := k_ltx h
        refine pt_G_X0_leftmost C hP hap hAA eσ10 qFL_RX0_37 dX0_lay_75 (fun H locs hP => ?_)
        obtain ⟨x11, ex11, h⟩ := k_ltx h
        refine lv_iinc (v := x11) (lv' := [(3, .int x11), (0, .ref (ad 0)), (1, .int a1), (2, .int a2)]) hx hb dX0_lay_78 hl (k := 3) rfl (by rw [ex11]; rfl) (by decide) rfl (fun ls hl => ?_)
        refine lv_goto (tgt := 59) hx hb dX0_lay_81 (by decide) ?_
        exact ih _ _ _ _ _ h hP (lv_sub hl [1, 2, 3, 0] rfl)
  refine hL59 _ (fun σ12 H locs ls h hP hl => ?_) FU _ _ _ _ _ h hP (lv_sub hl [1, 2, 3, 0] rfl)
  refine lv_aload_n hx hb dX0_lay_84 rfl (lv_at hl 0 rfl) ?_
  refine lv_aload_n hx hb dX0_lay_85 rfl (lv_at hl 0 rfl) ?_
  refine r_get C hP (ci := 0) rfl uin_X0 6 (by decide) 0 (by decide) rfl qFL_RX0_37 rfl rfl dX0_lay_86 ?_
  refine lv_iload_n hx hb dX0_lay_89 rfl (lv_at hl 1 rfl) ?_
  refine lv_iconst (v := 1) hx hb dX0_lay_90 (by decide) ?_
  refine lv_isub hx hb dX0_lay_91 ?_
  refine r_ishl hx hb dX0_lay_92 ?_
  obtain ⟨σ13, eσ13, h⟩ := k_ltx h
  refine pt_G_X0_rightmost C hP hap hAA eσ13 qFL_RX0_40 dX0_lay_93 (fun H locs hP => ?_)
  refine lv_aload_n hx hb dX0_lay_96 rfl (lv_at hl 0 rfl) ?_
  refine lv_lconst (v := 0) hx hb dX0_lay_97 (by decide) ?_
  obtain ⟨σ14, eσ14, h⟩ := k_ltx h
  refine pt_G_X0_rimEdges C hP hap hAA eσ14 qFL_RX0_43 dX0_lay_98 (fun H locs hP => ?_)
  refine lv_iconst (v := 0) hx hb dX0_lay_101 (by decide) ?_
  refine lv_istore_n (lv' := [(3, .int 0), (0, .ref (ad 0)), (1, .int a1)]) hx hb dX0_lay_102 rfl hl (by decide) rfl (fun ls hl => ?_)
  have hL103 : ∀ (k147 : GG → Option GG) (hk147 : ∀  (σk : GG) (H : Heap) (locs : List Loc) (ls : Array Slot), k147  σk = some σ' → PS ev 1 ad (gw1 σk) (inA ad 1) s H locs → lv_has ls 4 [(0, .ref (ad 0))] → WW ev p l e (rmk 2 45) s m args below meth c Qc ad 1 H locs 147 ls []) (n : Nat) (x15 : Int32) (σ16 : GG) (H : Heap) (locs : List Loc) (ls : Array Slot), lp (fun _ _ => none) (f_X0_lay_L103_b  k147) n x15 σ16 = some σ' → PS ev 1 ad (gw1 σ16) (inA ad 1) s H locs → lv_has ls 4 [(0, .ref (ad 0)), (3, .int x15)] → WW ev p l e (rmk 2 45) s m args below meth c Qc ad 1 H locs 103 ls [] := by
    intro k147 hk147 n
    induction n with
    | zero =>
      intro x15 σ16 H locs ls h; exact k_none h
    | succ n ih =>
      intro x15 σ16 H locs ls h hP hl
      have h : f_X0_lay_L103_b  k147 (lp (fun _ _ => none) (f_X0_lay_L103_b  k147) n) x15 σ16 = some σ' := h
      have h := (f_X0_lay_L103_b.eq_1 _ _ _ _ ).symm.trans h
      refine lv_iload_n hx hb dX0_lay_103 rfl (lv_at hl 1 rfl) ?_
      refine lv_aload_n hx hb dX0_lay_104 rfl (lv_at hl 0 rfl) ?_
      refine r_get C hP (ci := 0) rfl uin_X0 3 (by decide) 0 (by decide) rfl qFL_RX0_31 rfl rfl dX0_lay_105 ?_
      refine lv_icmp_ge (tgt := 147) hx hb dX0_lay_108 (by decide) (fun c108 => ?_) (fun c108 => ?_)
      · have h := k_if c108 h
        exact hk147 _ _ _ _ h hP (lv_sub hl [0] rfl)
      · have h := k_nf c108 h
        refine lv_aload_n hx hb dX0_lay_111 rfl (lv_at hl 0 rfl) ?_
        refine lv_iload_n hx hb dX0_lay_112 rfl (lv_at hl 1 rfl) ?_
        obtain ⟨x17, h1, h⟩ := k_ob h
        refine k_callVi C hP hap hAA (c_X0_fieldAhead l ev ad σ16 x15   _ h1) Emb.same hap gz_X0_fieldAhead qML_RX0_47 qIM_yX0_fieldAhead qSE_yX0_fieldAhead ⟨(Nat.le_of_ble_eq_true rfl), (Nat.le_of_ble_eq_true rfl)⟩ (q0 := 0) rfl (by decide) rfl rfl rfl rfl hl.1 rfl (Nat.le_of_ble_eq_true rfl) dX0_lay_113 ⟨Nat.le_refl _, Nat.le_refl _⟩ (fun H locs hP => ?_)
        refine lv_iconst (v := (-1)) hx hb dX0_lay_116 (by decide) ?_
        refine lv_icmp_eq (tgt := 129) hx hb dX0_lay_117 (by decide) (fun c117 => ?_) (fun c117 => ?_)
        · have h := k_if c117 h
          refine lv_aload_n hx hb dX0_lay_129 rfl (lv_at hl 0 rfl) ?_
          refine lv_dup hx hb dX0_lay_130 rfl ?_
          refine r_get C hP (ci := 0) rfl uin_X0 8 (by decide) 0 (by decide) rfl qFL_RX0_43 rfl rfl dX0_lay_131 ?_
          refine lv_lconst (v := 1) hx hb dX0_lay_134 (by decide) ?_
          refine lv_iload_n hx hb dX0_lay_135 rfl (lv_at hl 1 rfl) ?_
          refine r_lshl hx hb dX0_lay_136 ?_
          refine lv_lor hx hb dX0_lay_137 ?_
          obtain ⟨σ18, eσ18, h⟩ := k_ltx h
          refine pt_G_X0_rimEdges C hP hap hAA eσ18 qFL_RX0_43 dX0_lay_138 (fun H locs hP => ?_)
          obtain ⟨x19, ex19, h⟩ := k_ltx h
          refine lv_iinc (v := x19) (lv' := [(3, .int x19), (0, .ref (ad 0))]) hx hb dX0_lay_141 hl (k := 1) rfl (by rw [ex19]; rfl) (by decide) rfl (fun ls hl => ?_)
          refine lv_goto (tgt := 103) hx hb dX0_lay_144 (by decide) ?_
          exact ih _ _ _ _ _ h hP (lv_sub hl [1, 0] rfl)
        · have h := k_nf c117 h
          refine lv_aload_n hx hb dX0_lay_120 rfl (lv_at hl 0 rfl) ?_
          refine lv_iload_n hx hb dX0_lay_121 rfl (lv_at hl 1 rfl) ?_
          obtain ⟨x20, h1, h⟩ := k_ob h
          refine k_callVi C hP hap hAA (c_X0_fieldBeyond l ev ad σ16 x15   _ h1) Emb.same hap gz_X0_fieldBeyond qML_RX0_51 qIM_yX0_fieldBeyond qSE_yX0_fieldBeyond ⟨(Nat.le_of_ble_eq_true rfl), (Nat.le_of_ble_eq_true rfl)⟩ (q0 := 0) rfl (by decide) rfl rfl rfl rfl hl.1 rfl (Nat.le_of_ble_eq_true rfl) dX0_lay_122 ⟨Nat.le_refl _, Nat.le_refl _⟩ (fun H locs hP => ?_)
          refine lv_iconst (v := (-1)) hx hb dX0_lay_125 (by decide) ?_
          refine lv_icmp_ne (tgt := 141) hx hb dX0_lay_126 (by decide) (fun c126 => ?_) (fun c126 => ?_)
          · have h := k_nf c126 h
            obtain ⟨x21, ex21, h⟩ := k_ltx h
            refine lv_iinc (v := x21) (lv' := [(3, .int x21), (0, .ref (ad 0))]) hx hb dX0_lay_141 hl (k := 1) rfl (by rw [ex21]; rfl) (by decide) rfl (fun ls hl => ?_)
            refine lv_goto (tgt := 103) hx hb dX0_lay_144 (by decide) ?_
            exact ih _ _ _ _ _ h hP (lv_sub hl [1, 0] rfl)
          · have h := k_if c126 h
            refine lv_aload_n hx hb dX0_lay_129 rfl (lv_at hl 0 rfl) ?_
            refine lv_dup hx hb dX0_lay_130 rfl ?_
            refine r_get C hP (ci := 0) rfl uin_X0 8 (by decide) 0 (by decide) rfl qFL_RX0_43 rfl rfl dX0_lay_131 ?_
            refine lv_lconst (v := 1) hx hb dX0_lay_134 (by decide) ?_
            refine lv_iload_n hx hb dX0_lay_135 rfl (lv_at hl 1 rfl) ?_
            refine r_lshl hx hb dX0_lay_136 ?_
            refine lv_lor hx hb dX0_lay_137 ?_
            obtain ⟨σ22, eσ22, h⟩ := k_ltx h
            refine pt_G_X0_rimEdges C hP hap hAA eσ22 qFL_RX0_43 dX0_lay_138 (fun H locs hP => ?_)
            obtain ⟨x23, ex23, h⟩ := k_ltx h
            refine lv_iinc (v := x23) (lv' := [(3, .int x23), (0, .ref (ad 0))]) hx hb dX0_lay_141 hl (k := 1) rfl (by rw [ex23]; rfl) (by decide) rfl (fun ls hl => ?_)
            refine lv_goto (tgt := 103) hx hb dX0_lay_144 (by decide) ?_
            exact ih _ _ _ _ _ h hP (lv_sub hl [1, 0] rfl)
  refine hL103 _ (fun σ24 H locs ls h hP hl => ?_) FU _ _ _ _ _ h hP (lv_sub hl [1, 0] rfl)
  refine lv_aload_n hx hb dX0_lay_147 rfl (lv_at hl 0 rfl) ?_
  obtain ⟨σ25, h1, h⟩ := k_ob h
  refine k_callVv C hP hap hAA (c_X0_clear l ev ad σ24   _ h1) Emb.same hap gz_X0_clear qML_RX0_54 qIM_yX0_clear qSE_yX0_clear ⟨(Nat.le_of_ble_eq_true rfl), (Nat.le_of_ble_eq_true rfl)⟩ (q0 := 0) rfl (by decide) rfl rfl rfl rfl hl.1 rfl (Nat.le_of_ble_eq_true rfl) dX0_lay_148 ⟨Nat.le_refl _, Nat.le_refl _⟩ (fun H locs hP => ?_)
  exact e_vret C hend hP (congrArg (gw1) (k_some h)) dX0_lay_151
