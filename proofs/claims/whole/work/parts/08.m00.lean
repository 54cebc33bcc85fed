/-! functions read off, and their contracts: by program (wip/whole/gen2.py) -/
def f_X0_uprightRow (σ : GG) (a1 : Int32) : Option (Int32) :=
  lt ((g_width σ) + 1) (fun x1 => if x1 ≤ 0 then some 0 else gd (nz x1) (some (idiv (a1 - (g_uprights σ)) x1)))
set_option maxHeartbeats 4000000 in
set_option maxRecDepth 100000 in
theorem c_X0_uprightRow (l : Launch) (ev : EV) (ad : Nat → Nat) (σ : GG) (a1 : Int32)   (r : Int32)  (h : f_X0_uprightRow σ a1 = some r) : Ct l yX0_uprightRow prog_2_method_13_code 3 (Option.some Jvm.ClassFile.FieldType.int) (rmk 0 0) ev 1 ad (gw1 σ) (gw1 σ) [.ref (ad 0), .int a1] (some (.int r)) := by
  refine Ct.of (by decide +kernel) (Nat.le_of_ble_eq_true rfl) ?_
  intro p e s m args below meth c Qc C hap hP hend ls hl
  have hAA : ∀ j, j < 1 → inA ad 1 (ad j) := fun j hj => ⟨j, hj, rfl⟩
  have hx := C.1
  have hb := C.2.1
  have hl : lv_has ls 3 [(0, .ref (ad 0)), (1, .int a1)] := hl
  have h := (f_X0_uprightRow.eq_1 _ _ ).symm.trans h
  refine lv_aload_n hx hb dX0_uprightRow_0 rfl (lv_at hl 0 rfl) ?_
  refine r_get C hP (ci := 0) rfl uin_X0 0 (by decide) 0 (by decide) rfl qFL_RX0_19 rfl rfl dX0_uprightRow_1 ?_
  refine lv_iconst (v := 1) hx hb dX0_uprightRow_4 (by decide) ?_
  refine lv_iadd hx hb dX0_uprightRow_5 ?_
  refine lv_topi (fun x1 ex1 => ?_)
  have h := k_lt ex1 h
  refine lv_istore_n (lv' := [(2, .int x1), (0, .ref (ad 0)), (1, .int a1)]) hx hb dX0_uprightRow_6 rfl hl (by decide) rfl (fun ls hl => ?_)
  refine lv_iload_n hx hb dX0_uprightRow_7 rfl (lv_at hl 0 rfl) ?_
  refine lv_if_le (tgt := 22) hx hb dX0_uprightRow_8 (by decide) (fun c8 => ?_) (fun c8 => ?_)
  · have h := k_if c8 h
    refine lv_iconst (v := 0) hx hb dX0_uprightRow_22 (by decide) ?_
    exact e_iret C hend hP (k_some h) rfl dX0_uprightRow_23
  · have h := k_nf c8 h
    refine lv_iload_n hx hb dX0_uprightRow_11 rfl (lv_at hl 2 rfl) ?_
    refine lv_aload_n hx hb dX0_uprightRow_12 rfl (lv_at hl 1 rfl) ?_
    refine r_get C hP (ci := 0) rfl uin_X0 4 (by decide) 0 (by decide) rfl qFL_RX0_28 rfl rfl dX0_uprightRow_13 ?_
    refine lv_isub hx hb dX0_uprightRow_16 ?_
    refine lv_iload_n hx hb dX0_uprightRow_17 rfl (lv_at hl 0 rfl) ?_
    obtain ⟨hg, h⟩ := k_gd h
    refine r_idiv hx hb dX0_uprightRow_18 (nz_ne hg) ?_
    refine lv_goto (tgt := 23) hx hb dX0_uprightRow_19 (by decide) ?_
    exact e_iret C hend hP (k_some h) rfl dX0_uprightRow_23
def f_X0_fieldAhead (σ : GG) (a1 : Int32) : Option (Int32) :=
  if (g_uprights σ) ≤ a1 then ob (f_X0_uprightRow σ a1) (fun x1 => lt ((a1 - (g_uprights σ)) - (x1 * ((g_width σ) + 1))) (fun x2 => if x2 ≤ 0 then some (-1) else some (((x1 * (g_width σ)) + x2) - 1))) else if a1 < (g_width σ) then some (-1) else some (a1 - (g_width σ))
set_option maxHeartbeats 4000000 in
set_option maxRecDepth 100000 in
theorem c_X0_fieldAhead (l : Launch) (ev : EV) (ad : Nat → Nat) (σ : GG) (a1 : Int32)   (r : Int32)  (h : f_X0_fieldAhead σ a1 = some r) : Ct l yX0_fieldAhead prog_2_method_14_code 4 (Option.some Jvm.ClassFile.FieldType.int) (rmk 1 22) ev 1 ad (gw1 σ) (gw1 σ) [.ref (ad 0), .int a1] (some (.int r)) := by
  refine Ct.of (by decide +kernel) (Nat.le_of_ble_eq_true rfl) ?_
  intro p e s m args below meth c Qc C hap hP hend ls hl
  have hAA : ∀ j, j < 1 → inA ad 1 (ad j) := fun j hj => ⟨j, hj, rfl⟩
  have hx := C.1
  have hb := C.2.1
  have hl : lv_has ls 4 [(0, .ref (ad 0)), (1, .int a1)] := hl
  have h := (f_X0_fieldAhead.eq_1 _ _ ).symm.trans h
  refine lv_iload_n hx hb dX0_fieldAhead_0 rfl (lv_at hl 1 rfl) ?_
  refine lv_aload_n hx hb dX0_fieldAhead_1 rfl (lv_at hl 0 rfl) ?_
  refine r_get C hP (ci := 0) rfl uin_X0 4 (by decide) 0 (by decide) rfl qFL_RX0_28 rfl rfl dX0_fieldAhead_2 ?_
  refine lv_icmp_ge (tgt := 27) hx hb dX0_fieldAhead_5 (by decide) (fun c5 => ?_) (fun c5 => ?_)
  · have h := k_if c5 h
    refine lv_aload_n hx hb dX0_fieldAhead_27 rfl (lv_at hl 0 rfl) ?_
    refine lv_iload_n hx hb dX0_fieldAhead_28 rfl (lv_at hl 1 rfl) ?_
    obtain ⟨x1, h1, h⟩ := k_ob h
    refine k_callVi C hP hap hAA (c_X0_uprightRow l ev ad σ a1   _ h1) Emb.same hap gz_X0_uprightRow qML_RX0_81 qIM_yX0_uprightRow qSE_yX0_uprightRow ⟨(Nat.le_of_ble_eq_true rfl), (Nat.le_of_ble_eq_true rfl)⟩ (q0 := 0) rfl (by decide) rfl rfl rfl rfl hl.1 rfl (Nat.le_of_ble_eq_true rfl) dX0_fieldAhead_29 ⟨Nat.le_refl _, Nat.le_refl _⟩ (fun H locs hP => ?_)
    refine lv_istore_n (lv' := [(2, .int x1), (0, .ref (ad 0)), (1, .int a1)]) hx hb dX0_fieldAhead_32 rfl hl (by decide) rfl (fun ls hl => ?_)
    refine lv_iload_n hx hb dX0_fieldAhead_33 rfl (lv_at hl 2 rfl) ?_
    refine lv_aload_n hx hb dX0_fieldAhead_34 rfl (lv_at hl 1 rfl) ?_
    refine r_get C hP (ci := 0) rfl uin_X0 4 (by decide) 0 (by decide) rfl qFL_RX0_28 rfl rfl dX0_fieldAhead_35 ?_
    refine lv_isub hx hb dX0_fieldAhead_38 ?_
    refine lv_iload_n hx hb dX0_fieldAhead_39 rfl (lv_at hl 0 rfl) ?_
    refine lv_aload_n hx hb dX0_fieldAhead_40 rfl (lv_at hl 1 rfl) ?_
    refine r_get C hP (ci := 0) rfl uin_X0 0 (by decide) 0 (by decide) rfl qFL_RX0_19 rfl rfl dX0_fieldAhead_41 ?_
    refine lv_iconst (v := 1) hx hb dX0_fieldAhead_44 (by decide) ?_
    refine lv_iadd hx hb dX0_fieldAhead_45 ?_
    refine lv_imul hx hb dX0_fieldAhead_46 ?_
    refine lv_isub hx hb dX0_fieldAhead_47 ?_
    refine lv_topi (fun x2 ex2 => ?_)
    have h := k_lt ex2 h
    refine lv_istore_n (lv' := [(3, .int x2), (2, .int x1), (0, .ref (ad 0)), (1, .int a1)]) hx hb dX0_fieldAhead_48 rfl hl (by decide) rfl (fun ls hl => ?_)
    refine lv_iload_n hx hb dX0_fieldAhead_49 rfl (lv_at hl 0 rfl) ?_
    refine lv_if_le (tgt := 66) hx hb dX0_fieldAhead_50 (by decide) (fun c50 => ?_) (fun c50 => ?_)
    · have h := k_if c50 h
      refine lv_iconst (v := (-1)) hx hb dX0_fieldAhead_66 (by decide) ?_
      exact e_iret C hend hP (k_some h) rfl dX0_fieldAhead_67
    · have h := k_nf c50 h
      refine lv_iload_n hx hb dX0_fieldAhead_53 rfl (lv_at hl 1 rfl) ?_
      refine lv_aload_n hx hb dX0_fieldAhead_54 rfl (lv_at hl 2 rfl) ?_
      refine r_get C hP (ci := 0) rfl uin_X0 0 (by decide) 0 (by decide) rfl qFL_RX0_19 rfl rfl dX0_fieldAhead_55 ?_
      refine lv_imul hx hb dX0_fieldAhead_58 ?_
      refine lv_iload_n hx hb dX0_fieldAhead_59 rfl (lv_at hl 0 rfl) ?_
      refine lv_iadd hx hb dX0_fieldAhead_60 ?_
      refine lv_iconst (v := 1) hx hb dX0_fieldAhead_61 (by decide) ?_
      refine lv_isub hx hb dX0_fieldAhead_62 ?_
      refine lv_goto (tgt := 67) hx hb dX0_fieldAhead_63 (by decide) ?_
      exact e_iret C hend hP (k_some h) rfl dX0_fieldAhead_67
  · have h := k_nf c5 h
    refine lv_iload_n hx hb dX0_fieldAhead_8 rfl (lv_at hl 1 rfl) ?_
    refine lv_aload_n hx hb dX0_fieldAhead_9 rfl (lv_at hl 0 rfl) ?_
    refine r_get C hP (ci := 0) rfl uin_X0 0 (by decide) 0 (by decide) rfl qFL_RX0_19 rfl rfl dX0_fieldAhead_10 ?_
    refine lv_icmp_lt (tgt := 25) hx hb dX0_fieldAhead_13 (by decide) (fun c13 => ?_) (fun c13 => ?_)
    · have h := k_if c13 h
      refine lv_iconst (v := (-1)) hx hb dX0_fieldAhead_25 (by decide) ?_
      exact e_iret C hend hP (k_some h) rfl dX0_fieldAhead_26
    · have h := k_nf c13 h
      refine lv_iload_n hx hb dX0_fieldAhead_16 rfl (lv_at hl 1 rfl) ?_
      refine lv_aload_n hx hb dX0_fieldAhead_17 rfl (lv_at hl 0 rfl) ?_
      refine r_get C hP (ci := 0) rfl uin_X0 0 (by decide) 0 (by decide) rfl qFL_RX0_19 rfl rfl dX0_fieldAhead_18 ?_
      refine lv_isub hx hb dX0_fieldAhead_21 ?_
      refine lv_goto (tgt := 26) hx hb dX0_fieldAhead_22 (by decide) ?_
      exact e_iret C hend hP (k_some h) rfl dX0_fieldAhead_26
def f_X0_fieldBeyond (σ : GG) (a1 : Int32) : Option (Int32) :=
  if (g_uprights σ) ≤ a1 then ob (f_X0_uprightRow σ a1) (fun x1 => lt ((a1 - (g_uprights σ)) - (x1 * ((g_width σ) + 1))) (fun x2 => if (g_width σ) ≤ x2 then some (-1) else some ((x1 * (g_width σ)) + x2))) else if (g_fields σ) ≤ a1 then some (-1) else some a1
set_option maxHeartbeats 4000000 in
set_option maxRecDepth 100000 in
theorem c_X0_fieldBeyond (l : Launch) (ev : EV) (ad : Nat → Nat) (σ : GG) (a1 : Int32)   (r : Int32)  (h : f_X0_fieldBeyond σ a1 = some r) : Ct l yX0_fieldBeyond prog_2_method_15_code 4 (Option.some Jvm.ClassFile.FieldType.int) (rmk 1 22) ev 1 ad (gw1 σ) (gw1 σ) [.ref (ad 0), .int a1] (some (.int r)) := by
  refine Ct.of (by decide +kernel) (Nat.le_of_ble_eq_true rfl) ?_
  intro p e s m args below meth c Qc C hap hP hend ls hl
  have hAA : ∀ j, j < 1 → inA ad 1 (ad j) := fun j hj => ⟨j, hj, rfl⟩
  have hx := C.1
  have hb := C.2.1
  have hl : lv_has ls 4 [(0, .ref (ad 0)), (1, .int a1)] := hl
  have h := (f_X0_fieldBeyond.eq_1 _ _ ).symm.trans h
  refine lv_iload_n hx hb dX0_fieldBeyond_0 rfl (lv_at hl 1 rfl) ?_
  refine lv_aload_n hx hb dX0_fieldBeyond_1 rfl (lv_at hl 0 rfl) ?_
  refine r_get C hP (ci := 0) rfl uin_X0 4 (by decide) 0 (by decide) rfl qFL_RX0_28 rfl rfl dX0_fieldBeyond_2 ?_
  refine lv_icmp_ge (tgt := 22) hx hb dX0_fieldBeyond_5 (by decide) (fun c5 => ?_) (fun c5 => ?_)
  · have h := k_if c5 h
    refine lv_aload_n hx hb dX0_fieldBeyond_22 rfl (lv_at hl 0 rfl) ?_
    refine lv_iload_n hx hb dX0_fieldBeyond_23 rfl (lv_at hl 1 rfl) ?_
    obtain ⟨x1, h1, h⟩ := k_ob h
    refine k_callVi C hP hap hAA (c_X0_uprightRow l ev ad σ a1   _ h1) Emb.same hap gz_X0_uprightRow qML_RX0_81 qIM_yX0_uprightRow qSE_yX0_uprightRow ⟨(Nat.le_of_ble_eq_true rfl), (Nat.le_of_ble_eq_true rfl)⟩ (q0 := 0) rfl (by decide) rfl rfl rfl rfl hl.1 rfl (Nat.le_of_ble_eq_true rfl) dX0_fieldBeyond_24 ⟨Nat.le_refl _, Nat.le_refl _⟩ (fun H locs hP => ?_)
    refine lv_istore_n (lv' := [(2, .int x1), (0, .ref (ad 0)), (1, .int a1)]) hx hb dX0_fieldBeyond_27 rfl hl (by decide) rfl (fun ls hl => ?_)
    refine lv_iload_n hx hb dX0_fieldBeyond_28 rfl (lv_at hl 2 rfl) ?_
    refine lv_aload_n hx hb dX0_fieldBeyond_29 rfl (lv_at hl 1 rfl) ?_
    refine r_get C hP (ci := 0) rfl uin_X0 4 (by decide) 0 (by decide) rfl qFL_RX0_28 rfl rfl dX0_fieldBeyond_30 ?_
    refine lv_isub hx hb dX0_fieldBeyond_33 ?_
    refine lv_iload_n hx hb dX0_fieldBeyond_34 rfl (lv_at hl 0 rfl) ?_
    refine lv_aload_n hx hb dX0_fieldBeyond_35 rfl (lv_at hl 1 rfl) ?_
    refine r_get C hP (ci := 0) rfl uin_X0 0 (by decide) 0 (by decide) rfl qFL_RX0_19 rfl rfl dX0_fieldBeyond_36 ?_
    refine lv_iconst (v := 1) hx hb dX0_fieldBeyond_39 (by decide) ?_
    refine lv_iadd hx hb dX0_fieldBeyond_40 ?_
    refine lv_imul hx hb dX0_fieldBeyond_41 ?_
    refine lv_isub hx hb dX0_fieldBeyond_42 ?_
    refine lv_topi (fun x2 ex2 => ?_)
    have h := k_lt ex2 h
    refine lv_istore_n (lv' := [(3, .int x2), (2, .int x1), (0, .ref (ad 0)), (1, .int a1)]) hx hb dX0_fieldBeyond_43 rfl hl (by decide) rfl (fun ls hl => ?_)
    refine lv_iload_n hx hb dX0_fieldBeyond_44 rfl (lv_at hl 0 rfl) ?_
    refine lv_aload_n hx hb dX0_fieldBeyond_45 rfl (lv_at hl 2 rfl) ?_
    refine r_get C hP (ci := 0) rfl uin_X0 0 (by decide) 0 (by decide) rfl qFL_RX0_19 rfl rfl dX0_fieldBeyond_46 ?_
    refine lv_icmp_ge (tgt := 63) hx hb dX0_fieldBeyond_49 (by decide) (fun c49 => ?_) (fun c49 => ?_)
    · have h := k_if c49 h
      refine lv_iconst (v := (-1)) hx hb dX0_fieldBeyond_63 (by decide) ?_
      exact e_iret C hend hP (k_some h) rfl dX0_fieldBeyond_64
    · have h := k_nf c49 h
      refine lv_iload_n hx hb dX0_fieldBeyond_52 rfl (lv_at hl 1 rfl) ?_
      refine lv_aload_n hx hb dX0_fieldBeyond_53 rfl (lv_at hl 2 rfl) ?_
      refine r_get C hP (ci := 0) rfl uin_X0 0 (by decide) 0 (by decide) rfl qFL_RX0_19 rfl rfl dX0_fieldBeyond_54 ?_
      refine lv_imul hx hb dX0_fieldBeyond_57 ?_
      refine lv_iload_n hx hb dX0_fieldBeyond_58 rfl (lv_at hl 0 rfl) ?_
      refine lv_iadd hx hb dX0_fieldBeyond_59 ?_
      refine lv_goto (tgt := 64) hx hb dX0_fieldBeyond_60 (by decide) ?_
      exact e_iret C hend hP (k_some h) rfl dX0_fieldBeyond_64
  · have h := k_nf c5 h
    refine lv_iload_n hx hb dX0_fieldBeyond_8 rfl (lv_at hl 1 rfl) ?_
    refine lv_aload_n hx hb dX0_fieldBeyond_9 rfl (lv_at hl 0 rfl) ?_
    refine r_get C hP (ci := 0) rfl uin_X0 2 (by decide) 0 (by decide) rfl qFL_RX0_25 rfl rfl dX0_fieldBeyond_10 ?_
    refine lv_icmp_ge (tgt := 20) hx hb dX0_fieldBeyond_13 (by decide) (fun c13 => ?_) (fun c13 => ?_)
    · have h := k_if c13 h
      refine lv_iconst (v := (-1)) hx hb dX0_fieldBeyond_20 (by decide) ?_
      exact e_iret C hend hP (k_some h) rfl dX0_fieldBeyond_21
    · have h := k_nf c13 h
      refine lv_iload_n hx hb dX0_fieldBeyond_16 rfl (lv_at hl 1 rfl) ?_
      refine lv_goto (tgt := 21) hx hb dX0_fieldBeyond_17 (by decide) ?_
      exact e_iret C hend hP (k_some h) rfl dX0_fieldBeyond_21
def f_X0_clear (σ : GG) : Option GG :=
  lt (g_hedges' σ 0) (fun σ1 => lt (g_dug' σ1 0) (fun σ2 => lt (g_ownedBy0' σ2 0) (fun σ3 => lt (g_ownedBy1' σ3 0) (fun σ4 => lt (g_turn' σ4 0) (fun σ5 => lt (g_made' σ5 0) (fun σ6 => some σ6))))))
set_option maxHeartbeats 4000000 in
set_option maxRecDepth 100000 in
theorem c_X0_clear (l : Launch) (ev : EV) (ad : Nat → Nat) (σ : GG)    (σ' : GG) (h : f_X0_clear σ = some σ') : Ct l yX0_clear prog_2_method_3_code 1 (Option.none : Option Jvm.ClassFile.FieldType) (rmk 0 0) ev 1 ad (gw1 σ) (gw1 σ') [.ref (ad 0)] none := by
  refine Ct.of (by decide +kernel) (Nat.le_of_ble_eq_true rfl) ?_
  intro p e s m args below meth c Qc C hap hP hend ls hl
  have hAA : ∀ j, j < 1 → inA ad 1 (ad j) := fun j hj => ⟨j, hj, rfl⟩
  have hx := C.1
  have hb := C.2.1
  have hl : lv_has ls 1 [(0, .ref (ad 0))] := hl
  have h := (f_X0_clear.eq_1 _ ).symm.trans h
  refine lv_aload_n hx hb dX0_clear_0 rfl (lv_at hl 0 rfl) ?_
  refine lv_lconst (v := 0) hx hb dX0_clear_1 (by decide) ?_
  obtain ⟨σ1, eσ1, h⟩ := k_ltx h
  refine pt_G_X0_hedges C hP hap hAA eσ1 qFL_RX0_57 dX0_clear_2 (fun H locs hP => ?_)
  refine lv_aload_n hx hb dX0_clear_5 rfl (lv_at hl 0 rfl) ?_
  refine lv_iconst (v := 0) hx hb dX0_clear_6 (by decide) ?_
  obtain ⟨σ2, eσ2, h⟩ := k_ltx h
  refine pt_G_X0_dug C hP hap hAA eσ2 qFL_RX0_60 dX0_clear_7 (fun H locs hP => ?_)
  refine lv_aload_n hx hb dX0_clear_10 rfl (lv_at hl 0 rfl) ?_
  refine lv_iconst (v := 0) hx hb dX0_clear_11 (by decide) ?_
  obtain ⟨σ3, eσ3, h⟩ := k_ltx h
  refine pt_G_X0_ownedBy0 C hP hap hAA eσ3 qFL_RX0_63 dX0_clear_12 (fun H locs hP => ?_)
  refine lv_aload_n hx hb dX0_clear_15 rfl (lv_at hl 0 rfl) ?_
  refine lv_iconst (v := 0) hx hb dX0_clear_16 (by decide) ?_
  obtain ⟨σ4, eσ4, h⟩ := k_ltx h
  refine pt_G_X0_ownedBy1 C hP hap hAA eσ4 qFL_RX0_66 dX0_clear_17 (fun H locs hP => ?_)
  refine lv_aload_n hx hb dX0_clear_20 rfl (lv_at hl 0 rfl) ?_
  refine lv_iconst (v := 0) hx hb dX0_clear_21 (by decide) ?_
  obtain ⟨σ5, eσ5, h⟩ := k_ltx h
  refine pt_G_X0_turn C hP hap hAA eσ5 qFL_RX0_69 dX0_clear_22 (fun H locs hP => ?_)
  refine lv_aload_n hx hb dX0_clear_25 rfl (lv_at hl 0 rfl) ?_
  refine lv_iconst (v := 0) hx hb dX0_clear_26 (by decide) ?_
  obtain ⟨σ6, eσ6, h⟩ := k_ltx h
  refine pt_G_X0_made C hP hap hAA eσ6 qFL_RX0_72 dX0_clear_27 (fun H locs hP => ?_)
  exact e_vret C hend hP (congrArg (gw1) (k_some h)) dX0_clear_30
def f_X0_lay_L59_b (a1 : Int32) (a2 : Int32) (k84 : GG → Option GG) (rec59 : Int32 → GG → Option GG) (x8 : Int32) (σ9 : GG) : Option GG :=
  if a2 ≤ x8 then k84 σ9 else lt (g_leftmost' σ9 ((g_leftmost σ9) ||| (ishl 1 (x8 * a1)))) (fun σ10 => lt (x8 + 1) (fun x11 => rec59 x11 σ10))
def f_X0_lay_L59 (a1 : Int32) (a2 : Int32) (k84 : GG → Option GG) (x8 : Int32) (σ9 : GG) : Option GG :=
  lp (fun _ _ => none) (f_X0_lay_L59_b a1 a2 k84) FU x8 σ9
def f_X0_lay_L103_b  (k147 : GG → Option GG) (rec103 : Int32 → GG → Option GG) (x15 : Int32) (σ16 : GG) : Option GG :=
  if (g_edges σ16) ≤ x15 then k147 σ16 else ob (f_X0_fieldAhead σ16 x15) (fun x17 => if x17 = (-1) then lt (g_rimEdges' σ16 ((g_rimEdges σ16) ||| (lshl 1 x15))) (fun σ18 => lt (x15 + 1) (fun x19 => rec103 x19 σ18)) else ob (f_X0_fieldBeyond σ16 x15) (fun x20 => if x20 = (-1) then lt (g_rimEdges' σ16 ((g_rimEdges σ16) ||| (lshl 1 x15))) (fun σ22 => lt (x15 + 1) (fun x23 => rec103 x23 σ22)) else lt (x15 + 1) (fun x21 => rec103 x21 σ16)))
def f_X0_lay_L103  (k147 : GG → Option GG) (x15 : Int32) (σ16 : GG) : Option GG :=
  lp (fun _ _ => none) (f_X0_lay_L103_b  k147) FU x15 σ16
def f_X0_lay (σ : GG) (a1 : Int32) (a2 : Int32) : Option GG :=
  lt (g_width' σ a1) (fun σ1 => lt (g_height' σ1 a2) (fun σ2 => lt (g_fields' σ2 (a1 * a2)) (fun σ3 => lt (g_uprights' σ3 ((a2 + 1) * a1)) (fun σ4 => lt (g_edges' σ4 ((g_uprights σ4) + (a2 * (a1 + 1)))) (fun σ5 => lt (g_all' σ5 ((ishl 1 (g_fields σ5)) - 1)) (fun σ6 => lt (g_leftmost' σ6 0) (fun σ7 => f_X0_lay_L59 a1 a2 (fun σ12 => lt (g_rightmost' σ12 (ishl (g_leftmost σ12) (a1 - 1))) (fun σ13 => lt (g_rimEdges' σ13 0) (fun σ14 => f_X0_lay_L103 (fun σ24 => ob (f_X0_clear σ24) (fun σ25 => some σ25)) 0 σ14))) 0 σ7)))))))
set_option maxHeartbeats 4000000 in
set_option maxRecDepth 100000 in
theorem c_X0_lay (l : Launch) (ev : EV) (ad : Nat → Nat) (σ : GG) (a1 : Int32) (a2 : Int32)    (σ' : GG) (h : f_X0_lay σ a1 a2 = some σ') : Ct l yX0_lay prog_2_method_2_code 4 (Option.none : Option Jvm.ClassFile.FieldType) (rmk 2 45) ev 1 ad (gw1 σ) (gw1 σ') [.ref (ad 0), .int a1, .int a2] none := by
  refine Ct.of (by decide +kernel) (Nat.le_of_ble_eq_true rfl) ?_
  intro p e s m args below meth c Qc C hap hP hend ls hl
  have hAA : ∀ j, j < 1 → inA ad 1 (ad j) := fun j hj => ⟨j, hj, rfl⟩
  have hx := C.1
  have hb := C.2.1
  have hl : lv_has ls 4 [(0, .ref (ad 0)), (1, .int a1), (2, .int a2)] := hl
  have h := (f_X0_lay.eq_1 _ _ _ ).symm.trans h
  refine lv_aload_n hx hb dX0_lay_0 rfl (lv_at hl 0 rfl) ?_
  refine lv_iload_n hx hb dX0_lay_1 rfl (lv_at hl 1 rfl) ?_
  obtain ⟨σ1, eσ1, h⟩ := k_ltx h
  refine pt_G_X0_width C hP hap hAA eσ1 qFL_RX0_19 dX0_lay_2 (fun H locs hP => ?_)
  refine lv_aload_n hx hb dX0_lay_5 rfl (lv_at hl 0 rfl) ?_
  refine lv_iload_n hx hb dX0_lay_6 rfl (lv_at hl 2 rfl) ?_
  obtain ⟨σ2, eσ2, h⟩ := k_ltx h
  refine pt_G_X0_height C hP hap hAA eσ2 qFL_RX0_22 dX0_lay_7 (fun H locs hP => ?_)
  refine lv_aload_n hx hb dX0_lay_10 rfl (lv_at hl 0 rfl) ?_
  refine lv_iload_n hx hb dX0_lay_11 rfl (lv_at hl 1 rfl) ?_
  refine lv_iload_n hx hb dX0_lay_12 rfl (lv_at hl 2 rfl) ?_
  refine lv_imul hx hb dX0_lay_13 ?_
  obtain ⟨σ3, eσ3, h⟩ := k_ltx h
  refine pt_G_X0_fields C hP hap hAA eσ3 qFL_RX0_25 dX0_lay_14 (fun H locs hP => ?_)
  refine lv_aload_n hx hb dX0_lay_17 rfl (lv_at hl 0 rfl) ?_
  refine lv_iload_n hx hb dX0_lay_18 rfl (lv_at hl 2 rfl) ?_
  refine lv_iconst (v := 1) hx hb dX0_lay_19 (by decide) ?_
  refine lv_iadd hx hb dX0_lay_20 ?_
  refine lv_iload_n hx hb dX0_lay_21 rfl (lv_at hl 1 rfl) ?_
  refine lv_imul hx hb dX0_lay_22 ?_
  obtain ⟨σ4, eσ4, h⟩ := k_ltx h
  refine pt_G_X0_uprights C hP hap hAA eσ4 qFL_RX0_28 dX0_lay_23 (fun H locs hP => ?_)
  refine lv_aload_n hx hb dX0_lay_26 rfl (lv_at hl 0 rfl) ?_
  refine lv_aload_n hx hb dX0_lay_27 rfl (lv_at hl 0 rfl) ?_
  refine r_get C hP (ci := 0) rfl uin_X0 4 (by decide) 0 (by decide) rfl qFL_RX0_28 rfl rfl dX0_lay_28 ?_
  refine lv_iload_n hx hb dX0_lay_31 rfl (lv_at hl 2 rfl) ?_
  refine lv_iload_n hx hb dX0_lay_32 rfl (lv_at hl 1 rfl) ?_
  refine lv_iconst (v := 1) hx hb dX0_lay_33 (by decide) ?_
  refine lv_iadd hx hb dX0_lay_34 ?_
  refine lv_imul hx hb dX0_lay_35 ?_
  refine lv_iadd hx hb dX0_lay_36 ?_
  obtain ⟨σ5, eσ5, h⟩ := k_ltx h
  refine pt_G_X0_edges C hP hap hAA eσ5 qFL_RX0_31 dX0_lay_37 (fun H locs hP => ?_)
  refine lv_aload_n hx hb dX0_lay_40 rfl (lv_at hl 0 rfl) ?_
  refine lv_iconst (v := 1) hx hb dX0_lay_41 (by decide) ?_
  refine lv_aload_n hx hb dX0_lay_42 rfl (lv_at hl 0 rfl) ?_
  refine r_get C hP (ci := 0) rfl uin_X0 2 (by decide) 0 (by decide) rfl qFL_RX0_25 rfl rfl dX0_lay_43 ?_
  refine r_ishl hx hb dX0_lay_46 ?_
  refine lv_iconst (v := 1) hx hb dX0_lay_47 (by decide) ?_
  refine lv_isub hx hb dX0_lay_48 ?_
  obtain ⟨σ6, eσ6, h⟩ := k_ltx h
  refine pt_G_X0_all C hP hap hAA eσ6 qFL_RX0_34 dX0_lay_49 (fun H locs hP => ?_)
  refine lv_aload_n hx hb dX0_lay_52 rfl (lv_at hl 0 rfl) ?_
  refine lv_iconst (v := 0) hx hb dX0_lay_53 (by decide) ?_
  obtain ⟨σ7, eσ7, h⟩ := k_ltx h
  refine pt_G_X0_leftmost C hP hap hAA eσ7 qFL_RX0_37 dX0_lay_54 (fun H locs hP => ?_)
  refine lv_iconst (v := 0) hx hb dX0_lay_57 (by decide) ?_
  refine lv_istore_n (lv' := [(3, .int 0), (0, .ref (ad 0)), (1, .int a1), (2, .int a2)]) hx hb dX0_lay_58 rfl hl (by decide) rfl (fun ls hl => ?_)
  have hL59 : ∀ (k84 : GG → Option GG) (hk84 : ∀  (σk : GG) (H : Heap) (locs : List Loc) (ls : Array Slot), k84  σk = some σ' → PS ev 1 ad (gw1 σk) (inA ad 1) s H locs → lv_has ls 4 [(0, .ref (ad 0)), (1, .int a1)] → WW ev p l e (rmk 2 45) s m args below meth c Qc ad 1 H locs 84 ls []) (n : Nat) (x8 : Int32) (σ9 : GG) (H : Heap) (locs : List Loc) (ls : Array Slot), lp (fun _ _ => none) (f_X0_lay_L59_b a1 a2 k84) n x8 σ9 = some σ' → PS ev 1 ad (gw1 σ9) (inA ad 1) s H locs → lv_has ls 4 [(0, .ref (ad 0)), (1, .int a1), (2, .int a2), (3, .int x8)] → WW ev p l e (rmk 2 45) s m args below meth c Qc ad 1 H locs 59 ls [] := by
    intro k84 hk84 n
    induction n with
    | zero =>
      intro x8 σ9 H locs ls h; exact k_none h
    | succ n ih =>
      intro x8 σ9 H locs ls h hP hl
      have h : f_X0_lay_L59_b a1 a2 k84 (lp (fun _ _ => none) (f_X0_lay_L59_b a1 a2 k84) n) x8 σ9 = some σ' := h
      have h := (f_X0_lay_L59_b.eq_1 _ _ _ _ _ _ ).symm.trans h
      refine lv_iload_n hx hb dX0_lay_59 rfl (lv_at hl 3 rfl) ?_
      refine lv_iload_n hx hb dX0_lay_60 rfl (lv_at hl 2 rfl) ?_
      refine lv_icmp_ge (tgt := 84) hx hb dX0_lay_61 (by decide) (fun c61 => ?_) (fun c61 => ?_)
      · have h := k_if c61 h
        exact hk84 _ _ _ _ h hP (lv_sub hl [0, 1] rfl)
      · have h := k_nf c61 h
        refine lv_aload_n hx hb dX0_lay_64 rfl (lv_at hl 0 rfl) ?_
        refine lv_dup hx hb dX0_lay_65 rfl ?_
        refine r_get C hP (ci := 0) rfl uin_X0 6 (by decide) 0 (by decide) rfl qFL_RX0_37 rfl rfl dX0_lay_66 ?_
        refine lv_iconst (v := 1) hx hb dX0_lay_69 (by decide) ?_
        refine lv_iload_n hx hb dX0_lay_70 rfl (lv_at hl 3 rfl) ?_
        refine lv_iload_n hx hb dX0_lay_71 rfl (lv_at hl 1 rfl) ?_
        refine lv_imul hx hb dX0_lay_72 ?_
        refine r_ishl hx hb dX0_lay_73 ?_
        refine lv_ior hx hb dX0_lay_74 ?_
        obtain ⟨σ10, eσ10, h⟩ := k_ltx h
        refine pt_G_X0_leftmost C hP hap hAA eσ10 qFL_RX0_37 dX0_lay_75 (fun H locs hP => ?_)
        obtain ⟨x11, ex11, h⟩ := k_ltx h
        refine lv_iinc (v := x11) (lv' := [(3, .int x11), (0, .ref (ad 0)), (1, .int a1), (2, .int a2)]) hx hb dX0_lay_78 hl (k := 3) rfl (by rw [ex11]; rfl) (by decide) rfl (fun ls hl => ?_)
        refine lv_goto (tgt := 59) hx hb dX0_lay_81 (by decide) ?_
        exact ih _ _ _ _ _ h hP (lv_sub hl [1, 2, 3, 0] rfl)
  refine hL59 _ (fun σ12 H locs ls h hP hl => ?_) FU _ _ _ _ _ h hP (lv_sub hl [1, 2, 3, 0] rfl)
  refine lv_aload_n hx hb dX0_lay_84 rfl (lv_at hl 0 rfl) ?_
  refine lv_aload_n hx hb dX0_lay_85 rfl (lv_at hl 0 rfl) ?_
  refine r_get C hP (ci := 0) rfl uin_X0 6 (by decide) 0 (by decide) rfl qFL_RX0_37 rfl rfl dX0_lay_86 ?_
  refine lv_iload_n hx hb dX0_lay_89 rfl (lv_at hl 1 rfl) ?_
  refine lv_iconst (v := 1) hx hb dX0_lay_90 (by decide) ?_
  refine lv_isub hx hb dX0_lay_91 ?_
  refine r_ishl hx hb dX0_lay_92 ?_
  obtain ⟨σ13, eσ13, h⟩ := k_ltx h
  refine pt_G_X0_rightmost C hP hap hAA eσ13 qFL_RX0_40 dX0_lay_93 (fun H locs hP => ?_)
  refine lv_aload_n hx hb dX0_lay_96 rfl (lv_at hl 0 rfl) ?_
  refine lv_lconst (v := 0) hx hb dX0_lay_97 (by decide) ?_
  obtain ⟨σ14, eσ14, h⟩ := k_ltx h
  refine pt_G_X0_rimEdges C hP hap hAA eσ14 qFL_RX0_43 dX0_lay_98 (fun H locs hP => ?_)
  refine lv_iconst (v := 0) hx hb dX0_lay_101 (by decide) ?_
  refine lv_istore_n (lv' := [(3, .int 0), (0, .ref (ad 0)), (1, .int a1)]) hx hb dX0_lay_102 rfl hl (by decide) rfl (fun ls hl => ?_)
  have hL103 : ∀ (k147 : GG → Option GG) (hk147 : ∀  (σk : GG) (H : Heap) (locs : List Loc) (ls : Array Slot), k147  σk = some σ' → PS ev 1 ad (gw1 σk) (inA ad 1) s H locs → lv_has ls 4 [(0, .ref (ad 0))] → WW ev p l e (rmk 2 45) s m args below meth c Qc ad 1 H locs 147 ls []) (n : Nat) (x15 : Int32) (σ16 : GG) (H : Heap) (locs : List Loc) (ls : Array Slot), lp (fun _ _ => none) (f_X0_lay_L103_b  k147) n x15 σ16 = some σ' → PS ev 1 ad (gw1 σ16) (inA ad 1) s H locs → lv_has ls 4 [(0, .ref (ad 0)), (3, .int x15)] → WW ev p l e (rmk 2 45) s m args below meth c Qc ad 1 H locs 103 ls [] := by
    intro k147 hk147 n
    induction n with
    | zero =>
      intro x15 σ16 H locs ls h; exact k_none h
    | succ n ih =>
      intro x15 σ16 H locs ls h hP hl
      have h : f_X0_lay_L103_b  k147 (lp (fun _ _ => none) (f_X0_lay_L103_b  k147) n) x15 σ16 = some σ' := h
      have h := (f_X0_lay_L103_b.eq_1 _ _ _ _ ).symm.trans h
      refine lv_iload_n hx hb dX0_lay_103 rfl (lv_at hl 1 rfl) ?_
      refine lv_aload_n hx hb dX0_lay_104 rfl (lv_at hl 0 rfl) ?_
      refine r_get C hP (ci := 0) rfl uin_X0 3 (by decide) 0 (by decide) rfl qFL_RX0_31 rfl rfl dX0_lay_105 ?_
      refine lv_icmp_ge (tgt := 147) hx hb dX0_lay_108 (by decide) (fun c108 => ?_) (fun c108 => ?_)
      · have h := k_if c108 h
        exact hk147 _ _ _ _ h hP (lv_sub hl [0] rfl)
      · have h := k_nf c108 h
        refine lv_aload_n hx hb dX0_lay_111 rfl (lv_at hl 0 rfl) ?_
        refine lv_iload_n hx hb dX0_lay_112 rfl (lv_at hl 1 rfl) ?_
        obtain ⟨x17, h1, h⟩ := k_ob h
        refine k_callVi C hP hap hAA (c_X0_fieldAhead l ev ad σ16 x15   _ h1) Emb.same hap gz_X0_fieldAhead qML_RX0_47 qIM_yX0_fieldAhead qSE_yX0_fieldAhead ⟨(Nat.le_of_ble_eq_true rfl), (Nat.le_of_ble_eq_true rfl)⟩ (q0 := 0) rfl (by decide) rfl rfl rfl rfl hl.1 rfl (Nat.le_of_ble_eq_true rfl) dX0_lay_113 ⟨Nat.le_refl _, Nat.le_refl _⟩ (fun H locs hP => ?_)
        refine lv_iconst (v := (-1)) hx hb dX0_lay_116 (by decide) ?_
        refine lv_icmp_eq (tgt := 129) hx hb dX0_lay_117 (by decide) (fun c117 => ?_) (fun c117 => ?_)
        · have h := k_if c117 h
          refine lv_aload_n hx hb dX0_lay_129 rfl (lv_at hl 0 rfl) ?_
          refine lv_dup hx hb dX0_lay_130 rfl ?_
          refine r_get C hP (ci := 0) rfl uin_X0 8 (by decide) 0 (by decide) rfl qFL_RX0_43 rfl rfl dX0_lay_131 ?_
          refine lv_lconst (v := 1) hx hb dX0_lay_134 (by decide) ?_
          refine lv_iload_n hx hb dX0_lay_135 rfl (lv_at hl 1 rfl) ?_
          refine r_lshl hx hb dX0_lay_136 ?_
          refine lv_lor hx hb dX0_lay_137 ?_
          obtain ⟨σ18, eσ18, h⟩ := k_ltx h
          refine pt_G_X0_rimEdges C hP hap hAA eσ18 qFL_RX0_43 dX0_lay_138 (fun H locs hP => ?_)
          obtain ⟨x19, ex19, h⟩ := k_ltx h
          refine lv_iinc (v := x19) (lv' := [(3, .int x19), (0, .ref (ad 0))]) hx hb dX0_lay_141 hl (k := 1) rfl (by rw [ex19]; rfl) (by decide) rfl (fun ls hl => ?_)
          refine lv_goto (tgt := 103) hx hb dX0_lay_144 (by decide) ?_
          exact ih _ _ _ _ _ h hP (lv_sub hl [1, 0] rfl)
        · have h := k_nf c117 h
          refine lv_aload_n hx hb dX0_lay_120 rfl (lv_at hl 0 rfl) ?_
          refine lv_iload_n hx hb dX0_lay_121 rfl (lv_at hl 1 rfl) ?_
          obtain ⟨x20, h1, h⟩ := k_ob h
          refine k_callVi C hP hap hAA (c_X0_fieldBeyond l ev ad σ16 x15   _ h1) Emb.same hap gz_X0_fieldBeyond qML_RX0_51 qIM_yX0_fieldBeyond qSE_yX0_fieldBeyond ⟨(Nat.le_of_ble_eq_true rfl), (Nat.le_of_ble_eq_true rfl)⟩ (q0 := 0) rfl (by decide) rfl rfl rfl rfl hl.1 rfl (Nat.le_of_ble_eq_true rfl) dX0_lay_122 ⟨Nat.le_refl _, Nat.le_refl _⟩ (fun H locs hP => ?_)
          refine lv_iconst (v := (-1)) hx hb dX0_lay_125 (by decide) ?_
          refine lv_icmp_ne (tgt := 141) hx hb dX0_lay_126 (by decide) (fun c126 => ?_) (fun c126 => ?_)
          · have h := k_nf c126 h
            obtain ⟨x21, ex21, h⟩ := k_ltx h
            refine lv_iinc (v := x21) (lv' := [(3, .int x21), (0, .ref (ad 0))]) hx hb dX0_lay_141 hl (k := 1) rfl (by rw [ex21]; rfl) (by decide) rfl (fun ls hl => ?_)
            refine lv_goto (tgt := 103) hx hb dX0_lay_144 (by decide) ?_
            exact ih _ _ _ _ _ h hP (lv_sub hl [1, 0] rfl)
          · have h := k_if c126 h
            refine lv_aload_n hx hb dX0_lay_129 rfl (lv_at hl 0 rfl) ?_
            refine lv_dup hx hb dX0_lay_130 rfl ?_
            refine r_get C hP (ci := 0) rfl uin_X0 8 (by decide) 0 (by decide) rfl qFL_RX0_43 rfl rfl dX0_lay_131 ?_
            refine lv_lconst (v := 1) hx hb dX0_lay_134 (by decide) ?_
            refine lv_iload_n hx hb dX0_lay_135 rfl (lv_at hl 1 rfl) ?_
            refine r_lshl hx hb dX0_lay_136 ?_
            refine lv_lor hx hb dX0_lay_137 ?_
            obtain ⟨σ22, eσ22, h⟩ := k_ltx h
            refine pt_G_X0_rimEdges C hP hap hAA eσ22 qFL_RX0_43 dX0_lay_138 (fun H locs hP => ?_)
            obtain ⟨x23, ex23, h⟩ := k_ltx h
            refine lv_iinc (v := x23) (lv' := [(3, .int x23), (0, .ref (ad 0))]) hx hb dX0_lay_141 hl (k := 1) rfl (by rw [ex23]; rfl) (by decide) rfl (fun ls hl => ?_)
            refine lv_goto (tgt := 103) hx hb dX0_lay_144 (by decide) ?_
            exact ih _ _ _ _ _ h hP (lv_sub hl [1, 0] rfl)
  refine hL103 _ (fun σ24 H locs ls h hP hl => ?_) FU _ _ _ _ _ h hP (lv_sub hl [1, 0] rfl)
  refine lv_aload_n hx hb dX0_lay_147 rfl (lv_at hl 0 rfl) ?_
  obtain ⟨σ25, h1, h⟩ := k_ob h
  refine k_callVv C hP hap hAA (c_X0_clear l ev ad σ24   _ h1) Emb.same hap gz_X0_clear qML_RX0_54 qIM_yX0_clear qSE_yX0_clear ⟨(Nat.le_of_ble_eq_true rfl), (Nat.le_of_ble_eq_true rfl)⟩ (q0 := 0) rfl (by decide) rfl rfl rfl rfl hl.1 rfl (Nat.le_of_ble_eq_true rfl) dX0_lay_148 ⟨Nat.le_refl _, Nat.le_refl _⟩ (fun H locs hP => ?_)
  exact e_vret C hend hP (congrArg (gw1) (k_some h)) dX0_lay_151
def f_X0_init (σ : GG) : Option GG :=
  lt (g_seed' σ 1) (fun σ1 => ob (f_X0_lay σ1 2 2) (fun σ2 => some σ2))
set_option maxHeartbeats 4000000 in
set_option maxRecDepth 100000 in
theorem c_X0_init (l : Launch) (ev : EV) (ad : Nat → Nat) (σ : GG)    (σ' : GG) (h : f_X0_init σ = some σ') : Ct l yX0_init prog_2_method_1_code 1 (Option.none : Option Jvm.ClassFile.FieldType) (rmk 3 68) ev 1 ad (gw1 σ) (gw1 σ') [.ref (ad 0)] none := by
  refine Ct.of (by decide +kernel) (Nat.le_of_ble_eq_true rfl) ?_
  intro p e s m args below meth c Qc C hap hP hend ls hl
  have hAA : ∀ j, j < 1 → inA ad 1 (ad j) := fun j hj => ⟨j, hj, rfl⟩
  have hx := C.1
  have hb := C.2.1
  have hl : lv_has ls 1 [(0, .ref (ad 0))] := hl
  have h := (f_X0_init.eq_1 _ ).symm.trans h
  refine lv_aload_n hx hb dX0_init_0 rfl (lv_at hl 0 rfl) ?_
  refine r_objInit C qML_RX0_3 qIM_objectInit qCO_objectInit hl.1 ⟨(Nat.le_of_ble_eq_true rfl), (Nat.le_of_ble_eq_true rfl)⟩ (Nat.le_of_ble_eq_true rfl) dX0_init_1 ?_
  refine lv_aload_n hx hb dX0_init_4 rfl (lv_at hl 0 rfl) ?_
  refine lv_iconst (v := 1) hx hb dX0_init_5 (by decide) ?_
  obtain ⟨σ1, eσ1, h⟩ := k_ltx h
  refine pt_G_X0_seed C hP hap hAA eσ1 qFL_RX0_9 dX0_init_6 (fun H locs hP => ?_)
  refine lv_aload_n hx hb dX0_init_9 rfl (lv_at hl 0 rfl) ?_
  refine lv_iconst (v := 2) hx hb dX0_init_10 (by decide) ?_
  refine lv_iconst (v := 2) hx hb dX0_init_11 (by decide) ?_
  obtain ⟨σ2, h1, h⟩ := k_ob h
  refine k_callVv C hP hap hAA (c_X0_lay l ev ad σ1 2 2   _ h1) Emb.same hap gz_X0_lay qML_RX0_15 qIM_yX0_lay qSE_yX0_lay ⟨(Nat.le_of_ble_eq_true rfl), (Nat.le_of_ble_eq_true rfl)⟩ (q0 := 0) rfl (by decide) rfl rfl rfl rfl hl.1 rfl (Nat.le_of_ble_eq_true rfl) dX0_init_12 ⟨Nat.le_refl _, Nat.le_refl _⟩ (fun H locs hP => ?_)
  exact e_vret C hend hP (congrArg (gw1) (k_some h)) dX0_init_15
def f_X0_become (σ : GG) (g2 : GG) : Option GG :=
  lt (g_width' σ (g_width g2)) (fun σ1 => lt (g_height' σ1 (g_height g2)) (fun σ2 => lt (g_fields' σ2 (g_fields g2)) (fun σ3 => lt (g_edges' σ3 (g_edges g2)) (fun σ4 => lt (g_uprights' σ4 (g_uprights g2)) (fun σ5 => lt (g_all' σ5 (g_all g2)) (fun σ6 => lt (g_leftmost' σ6 (g_leftmost g2)) (fun σ7 => lt (g_rightmost' σ7 (g_rightmost g2)) (fun σ8 => lt (g_rimEdges' σ8 (g_rimEdges g2)) (fun σ9 => lt (g_hedges' σ9 (g_hedges g2)) (fun σ10 => lt (g_dug' σ10 (g_dug g2)) (fun σ11 => lt (g_ownedBy0' σ11 (g_ownedBy0 g2)) (fun σ12 => lt (g_ownedBy1' σ12 (g_ownedBy1 g2)) (fun σ13 => lt (g_turn' σ13 (g_turn g2)) (fun σ14 => lt (g_made' σ14 (g_made g2)) (fun σ15 => lt (g_seed' σ15 (g_seed g2)) (fun σ16 => some σ16))))))))))))))))
set_option maxHeartbeats 4000000 in
set_option maxRecDepth 100000 in
theorem c_X0_become (l : Launch) (ev : EV) (ad : Nat → Nat) (σ : GG) (g2 : GG)    (σ' : GG) (h : f_X0_become σ g2 = some σ') : Ct l yX0_become prog_2_method_4_code 2 (Option.none : Option Jvm.ClassFile.FieldType) (rmk 0 0) ev 2 ad (gw2 σ g2) (gw2 σ' g2) [.ref (ad 0), .ref (ad 1)] none := by
  refine Ct.of (by decide +kernel) (Nat.le_of_ble_eq_true rfl) ?_
  intro p e s m args below meth c Qc C hap hP hend ls hl
  have hAA : ∀ j, j < 2 → inA ad 2 (ad j) := fun j hj => ⟨j, hj, rfl⟩
  have hx := C.1
  have hb := C.2.1
  have hl : lv_has ls 2 [(0, .ref (ad 0)), (1, .ref (ad 1))] := hl
  have h := (f_X0_become.eq_1 _ _ ).symm.trans h
  refine lv_aload_n hx hb dX0_become_0 rfl (lv_at hl 0 rfl) ?_
  refine lv_aload_n hx hb dX0_become_1 rfl (lv_at hl 1 rfl) ?_
  refine r_get C hP (ci := 0) rfl uin_X0 0 (by decide) 1 (by decide) rfl qFL_RX0_19 rfl rfl dX0_become_2 ?_
  obtain ⟨σ1, eσ1, h⟩ := k_ltx h
  refine pt_GG_X0_width C hP hap hAA eσ1 qFL_RX0_19 dX0_become_5 (fun H locs hP => ?_)
  refine lv_aload_n hx hb dX0_become_8 rfl (lv_at hl 0 rfl) ?_
  refine lv_aload_n hx hb dX0_become_9 rfl (lv_at hl 1 rfl) ?_
  refine r_get C hP (ci := 0) rfl uin_X0 1 (by decide) 1 (by decide) rfl qFL_RX0_22 rfl rfl dX0_become_10 ?_
  obtain ⟨σ2, eσ2, h⟩ := k_ltx h
  refine pt_GG_X0_height C hP hap hAA eσ2 qFL_RX0_22 dX0_become_13 (fun H locs hP => ?_)
  refine lv_aload_n hx hb dX0_become_16 rfl (lv_at hl 0 rfl) ?_
  refine lv_aload_n hx hb dX0_become_17 rfl (lv_at hl 1 rfl) ?_
  refine r_get C hP (ci := 0) rfl uin_X0 2 (by decide) 1 (by decide) rfl qFL_RX0_25 rfl rfl dX0_become_18 ?_
  obtain ⟨σ3, eσ3, h⟩ := k_ltx h
  refine pt_GG_X0_fields C hP hap hAA eσ3 qFL_RX0_25 dX0_become_21 (fun H locs hP => ?_)
  refine lv_aload_n hx hb dX0_become_24 rfl (lv_at hl 0 rfl) ?_
  refine lv_aload_n hx hb dX0_become_25 rfl (lv_at hl 1 rfl) ?_
  refine r_get C hP (ci := 0) rfl uin_X0 3 (by decide) 1 (by decide) rfl qFL_RX0_31 rfl rfl dX0_become_26 ?_
  obtain ⟨σ4, eσ4, h⟩ := k_ltx h
  refine pt_GG_X0_edges C hP hap hAA eσ4 qFL_RX0_31 dX0_become_29 (fun H locs hP => ?_)
  refine lv_aload_n hx hb dX0_become_32 rfl (lv_at hl 0 rfl) ?_
  refine lv_aload_n hx hb dX0_become_33 rfl (lv_at hl 1 rfl) ?_
  refine r_get C hP (ci := 0) rfl uin_X0 4 (by decide) 1 (by decide) rfl qFL_RX0_28 rfl rfl dX0_become_34 ?_
  obtain ⟨σ5, eσ5, h⟩ := k_ltx h
  refine pt_GG_X0_uprights C hP hap hAA eσ5 qFL_RX0_28 dX0_become_37 (fun H locs hP => ?_)
  refine lv_aload_n hx hb dX0_become_40 rfl (lv_at hl 0 rfl) ?_
  refine lv_aload_n hx hb dX0_become_41 rfl (lv_at hl 1 rfl) ?_
  refine r_get C hP (ci := 0) rfl uin_X0 5 (by decide) 1 (by decide) rfl qFL_RX0_34 rfl rfl dX0_become_42 ?_
  obtain ⟨σ6, eσ6, h⟩ := k_ltx h
  refine pt_GG_X0_all C hP hap hAA eσ6 qFL_RX0_34 dX0_become_45 (fun H locs hP => ?_)
  refine lv_aload_n hx hb dX0_become_48 rfl (lv_at hl 0 rfl) ?_
  refine lv_aload_n hx hb dX0_become_49 rfl (lv_at hl 1 rfl) ?_
  refine r_get C hP (ci := 0) rfl uin_X0 6 (by decide) 1 (by decide) rfl qFL_RX0_37 rfl rfl dX0_become_50 ?_
  obtain ⟨σ7, eσ7, h⟩ := k_ltx h
  refine pt_GG_X0_leftmost C hP hap hAA eσ7 qFL_RX0_37 dX0_become_53 (fun H locs hP => ?_)
  refine lv_aload_n hx hb dX0_become_56 rfl (lv_at hl 0 rfl) ?_
  refine lv_aload_n hx hb dX0_become_57 rfl (lv_at hl 1 rfl) ?_
  refine r_get C hP (ci := 0) rfl uin_X0 7 (by decide) 1 (by decide) rfl qFL_RX0_40 rfl rfl dX0_become_58 ?_
  obtain ⟨σ8, eσ8, h⟩ := k_ltx h
  refine pt_GG_X0_rightmost C hP hap hAA eσ8 qFL_RX0_40 dX0_become_61 (fun H locs hP => ?_)
  refine lv_aload_n hx hb dX0_become_64 rfl (lv_at hl 0 rfl) ?_
  refine lv_aload_n hx hb dX0_become_65 rfl (lv_at hl 1 rfl) ?_
  refine r_get C hP (ci := 0) rfl uin_X0 8 (by decide) 1 (by decide) rfl qFL_RX0_43 rfl rfl dX0_become_66 ?_
  obtain ⟨σ9, eσ9, h⟩ := k_ltx h
  refine pt_GG_X0_rimEdges C hP hap hAA eσ9 qFL_RX0_43 dX0_become_69 (fun H locs hP => ?_)
  refine lv_aload_n hx hb dX0_become_72 rfl (lv_at hl 0 rfl) ?_
  refine lv_aload_n hx hb dX0_become_73 rfl (lv_at hl 1 rfl) ?_
  refine r_get C hP (ci := 0) rfl uin_X0 9 (by decide) 1 (by decide) rfl qFL_RX0_57 rfl rfl dX0_become_74 ?_
  obtain ⟨σ10, eσ10, h⟩ := k_ltx h
  refine pt_GG_X0_hedges C hP hap hAA eσ10 qFL_RX0_57 dX0_become_77 (fun H locs hP => ?_)
  refine lv_aload_n hx hb dX0_become_80 rfl (lv_at hl 0 rfl) ?_
  refine lv_aload_n hx hb dX0_become_81 rfl (lv_at hl 1 rfl) ?_
  refine r_get C hP (ci := 0) rfl uin_X0 10 (by decide) 1 (by decide) rfl qFL_RX0_60 rfl rfl dX0_become_82 ?_
  obtain ⟨σ11, eσ11, h⟩ := k_ltx h
  refine pt_GG_X0_dug C hP hap hAA eσ11 qFL_RX0_60 dX0_become_85 (fun H locs hP => ?_)
  refine lv_aload_n hx hb dX0_become_88 rfl (lv_at hl 0 rfl) ?_
  refine lv_aload_n hx hb dX0_become_89 rfl (lv_at hl 1 rfl) ?_
  refine r_get C hP (ci := 0) rfl uin_X0 11 (by decide) 1 (by decide) rfl qFL_RX0_63 rfl rfl dX0_become_90 ?_
  obtain ⟨σ12, eσ12, h⟩ := k_ltx h
  refine pt_GG_X0_ownedBy0 C hP hap hAA eσ12 qFL_RX0_63 dX0_become_93 (fun H locs hP => ?_)
  refine lv_aload_n hx hb dX0_become_96 rfl (lv_at hl 0 rfl) ?_
  refine lv_aload_n hx hb dX0_become_97 rfl (lv_at hl 1 rfl) ?_
  refine r_get C hP (ci := 0) rfl uin_X0 12 (by decide) 1 (by decide) rfl qFL_RX0_66 rfl rfl dX0_become_98 ?_
  obtain ⟨σ13, eσ13, h⟩ := k_ltx h
  refine pt_GG_X0_ownedBy1 C hP hap hAA eσ13 qFL_RX0_66 dX0_become_101 (fun H locs hP => ?_)
  refine lv_aload_n hx hb dX0_become_104 rfl (lv_at hl 0 rfl) ?_
  refine lv_aload_n hx hb dX0_become_105 rfl (lv_at hl 1 rfl) ?_
  refine r_get C hP (ci := 0) rfl uin_X0 13 (by decide) 1 (by decide) rfl qFL_RX0_69 rfl rfl dX0_become_106 ?_
  obtain ⟨σ14, eσ14, h⟩ := k_ltx h
  refine pt_GG_X0_turn C hP hap hAA eσ14 qFL_RX0_69 dX0_become_109 (fun H locs hP => ?_)
  refine lv_aload_n hx hb dX0_become_112 rfl (lv_at hl 0 rfl) ?_
  refine lv_aload_n hx hb dX0_become_113 rfl (lv_at hl 1 rfl) ?_
  refine r_get C hP (ci := 0) rfl uin_X0 14 (by decide) 1 (by decide) rfl qFL_RX0_72 rfl rfl dX0_become_114 ?_
  obtain ⟨σ15, eσ15, h⟩ := k_ltx h
  refine pt_GG_X0_made C hP hap hAA eσ15 qFL_RX0_72 dX0_become_117 (fun H locs hP => ?_)
  refine lv_aload_n hx hb dX0_become_120 rfl (lv_at hl 0 rfl) ?_
  refine lv_aload_n hx hb dX0_become_121 rfl (lv_at hl 1 rfl) ?_
  refine r_get C hP (ci := 0) rfl uin_X0 15 (by decide) 1 (by decide) rfl qFL_RX0_9 rfl rfl dX0_become_122 ?_
  obtain ⟨σ16, eσ16, h⟩ := k_ltx h
  refine pt_GG_X0_seed C hP hap hAA eσ16 qFL_RX0_9 dX0_become_125 (fun H locs hP => ?_)
  exact e_vret C hend hP (congrArg (fun g => gw2 g g2) (k_some h)) dX0_become_128
def f_X0_isField (σ : GG) (a1 : Int32) : Bool :=
  if a1 < 0 then false else if (g_fields σ) ≤ a1 then false else true
set_option maxHeartbeats 4000000 in
set_option maxRecDepth 100000 in
theorem c_X0_isField (l : Launch) (ev : EV) (ad : Nat → Nat) (σ : GG) (a1 : Int32)   (r : Bool)  (h : f_X0_isField σ a1 = r) : Ct l yX0_isField prog_2_method_5_code 2 (Option.some Jvm.ClassFile.FieldType.boolean) (rmk 0 0) ev 1 ad (gw1 σ) (gw1 σ) [.ref (ad 0), .int a1] (some (.int (bi r))) := by
  refine Ct.of (by decide +kernel) (Nat.le_of_ble_eq_true rfl) ?_
  intro p e s m args below meth c Qc C hap hP hend ls hl
  have hAA : ∀ j, j < 1 → inA ad 1 (ad j) := fun j hj => ⟨j, hj, rfl⟩
  have hx := C.1
  have hb := C.2.1
  have hl : lv_has ls 2 [(0, .ref (ad 0)), (1, .int a1)] := hl
  have h := (f_X0_isField.eq_1 _ _ ).symm.trans h
  refine lv_iload_n hx hb dX0_isField_0 rfl (lv_at hl 1 rfl) ?_
  refine lv_if_lt (tgt := 16) hx hb dX0_isField_1 (by decide) (fun c1 => ?_) (fun c1 => ?_)
  · have h := k_if c1 h
    refine lv_iconst (v := 0) hx hb dX0_isField_16 (by decide) ?_
    exact e_zret C hend hP h rfl dX0_isField_17 rfl
  · have h := k_nf c1 h
    refine lv_iload_n hx hb dX0_isField_4 rfl (lv_at hl 1 rfl) ?_
    refine lv_aload_n hx hb dX0_isField_5 rfl (lv_at hl 0 rfl) ?_
    refine r_get C hP (ci := 0) rfl uin_X0 2 (by decide) 0 (by decide) rfl qFL_RX0_25 rfl rfl dX0_isField_6 ?_
    refine lv_icmp_ge (tgt := 16) hx hb dX0_isField_9 (by decide) (fun c9 => ?_) (fun c9 => ?_)
    · have h := k_if c9 h
      refine lv_iconst (v := 0) hx hb dX0_isField_16 (by decide) ?_
      exact e_zret C hend hP h rfl dX0_isField_17 rfl
    · have h := k_nf c9 h
      refine lv_iconst (v := 1) hx hb dX0_isField_12 (by decide) ?_
      refine lv_goto (tgt := 17) hx hb dX0_isField_13 (by decide) ?_
      exact e_zret C hend hP h rfl dX0_isField_17 rfl
def f_X0_isEdge (σ : GG) (a1 : Int32) : Bool :=
  if a1 < 0 then false else if (g_edges σ) ≤ a1 then false else true
set_option maxHeartbeats 4000000 in
set_option maxRecDepth 100000 in
theorem c_X0_isEdge (l : Launch) (ev : EV) (ad : Nat → Nat) (σ : GG) (a1 : Int32)   (r : Bool)  (h : f_X0_isEdge σ a1 = r) : Ct l yX0_isEdge prog_2_method_6_code 2 (Option.some Jvm.ClassFile.FieldType.boolean) (rmk 0 0) ev 1 ad (gw1 σ) (gw1 σ) [.ref (ad 0), .int a1] (some (.int (bi r))) := by
  refine Ct.of (by decide +kernel) (Nat.le_of_ble_eq_true rfl) ?_
  intro p e s m args below meth c Qc C hap hP hend ls hl
  have hAA : ∀ j, j < 1 → inA ad 1 (ad j) := fun j hj => ⟨j, hj, rfl⟩
  have hx := C.1
  have hb := C.2.1
  have hl : lv_has ls 2 [(0, .ref (ad 0)), (1, .int a1)] := hl
  have h := (f_X0_isEdge.eq_1 _ _ ).symm.trans h
  refine lv_iload_n hx hb dX0_isEdge_0 rfl (lv_at hl 1 rfl) ?_
  refine lv_if_lt (tgt := 16) hx hb dX0_isEdge_1 (by decide) (fun c1 => ?_) (fun c1 => ?_)
  · have h := k_if c1 h
    refine lv_iconst (v := 0) hx hb dX0_isEdge_16 (by decide) ?_
    exact e_zret C hend hP h rfl dX0_isEdge_17 rfl
  · have h := k_nf c1 h
    refine lv_iload_n hx hb dX0_isEdge_4 rfl (lv_at hl 1 rfl) ?_
    refine lv_aload_n hx hb dX0_isEdge_5 rfl (lv_at hl 0 rfl) ?_
    refine r_get C hP (ci := 0) rfl uin_X0 3 (by decide) 0 (by decide) rfl qFL_RX0_31 rfl rfl dX0_isEdge_6 ?_
    refine lv_icmp_ge (tgt := 16) hx hb dX0_isEdge_9 (by decide) (fun c9 => ?_) (fun c9 => ?_)
    · have h := k_if c9 h
      refine lv_iconst (v := 0) hx hb dX0_isEdge_16 (by decide) ?_
      exact e_zret C hend hP h rfl dX0_isEdge_17 rfl
    · have h := k_nf c9 h
      refine lv_iconst (v := 1) hx hb dX0_isEdge_12 (by decide) ?_
      refine lv_goto (tgt := 17) hx hb dX0_isEdge_13 (by decide) ?_
      exact e_zret C hend hP h rfl dX0_isEdge_17 rfl
def f_X0_isHedged (σ : GG) (a1 : Int32) : Bool :=
  if (lg_cmp ((lushr (g_hedges σ) a1) &&& 1) 0) = 0 then false else true
set_option maxHeartbeats 4000000 in
set_option maxRecDepth 100000 in
theorem c_X0_isHedged (l : Launch) (ev : EV) (ad : Nat → Nat) (σ : GG) (a1 : Int32)   (r : Bool)  (h : f_X0_isHedged σ a1 = r) : Ct l yX0_isHedged prog_2_method_7_code 2 (Option.some Jvm.ClassFile.FieldType.boolean) (rmk 0 0) ev 1 ad (gw1 σ) (gw1 σ) [.ref (ad 0), .int a1] (some (.int (bi r))) := by
  refine Ct.of (by decide +kernel) (Nat.le_of_ble_eq_true rfl) ?_
  intro p e s m args below meth c Qc C hap hP hend ls hl
  have hAA : ∀ j, j < 1 → inA ad 1 (ad j) := fun j hj => ⟨j, hj, rfl⟩
  have hx := C.1
  have hb := C.2.1
  have hl : lv_has ls 2 [(0, .ref (ad 0)), (1, .int a1)] := hl
  have h := (f_X0_isHedged.eq_1 _ _ ).symm.trans h
  refine lv_aload_n hx hb dX0_isHedged_0 rfl (lv_at hl 0 rfl) ?_
  refine r_get C hP (ci := 0) rfl uin_X0 9 (by decide) 0 (by decide) rfl qFL_RX0_57 rfl rfl dX0_isHedged_1 ?_
  refine lv_iload_n hx hb dX0_isHedged_4 rfl (lv_at hl 1 rfl) ?_
  refine r_lushr hx hb dX0_isHedged_5 ?_
  refine lv_lconst (v := 1) hx hb dX0_isHedged_6 (by decide) ?_
  refine lv_land hx hb dX0_isHedged_7 ?_
  refine lv_lconst (v := 0) hx hb dX0_isHedged_8 (by decide) ?_
  refine W.lcmp hx hb dX0_isHedged_9 ?_
  refine lv_if_eq (tgt := 17) hx hb dX0_isHedged_10 (by decide) (fun c10 => ?_) (fun c10 => ?_)
  · have h := k_if c10 h
    refine lv_iconst (v := 0) hx hb dX0_isHedged_17 (by decide) ?_
    exact e_zret C hend hP h rfl dX0_isHedged_18 rfl
  · have h := k_nf c10 h
    refine lv_iconst (v := 1) hx hb dX0_isHedged_13 (by decide) ?_
    refine lv_goto (tgt := 18) hx hb dX0_isHedged_14 (by decide) ?_
    exact e_zret C hend hP h rfl dX0_isHedged_18 rfl
def f_X0_rowOf (σ : GG) (a1 : Int32) : Option (Int32) :=
  if (g_width σ) ≤ 0 then some 0 else gd (nz (g_width σ)) (some (idiv a1 (g_width σ)))
set_option maxHeartbeats 4000000 in
set_option maxRecDepth 100000 in
theorem c_X0_rowOf (l : Launch) (ev : EV) (ad : Nat → Nat) (σ : GG) (a1 : Int32)   (r : Int32)  (h : f_X0_rowOf σ a1 = some r) : Ct l yX0_rowOf prog_2_method_8_code 2 (Option.some Jvm.ClassFile.FieldType.int) (rmk 0 0) ev 1 ad (gw1 σ) (gw1 σ) [.ref (ad 0), .int a1] (some (.int r)) := by
  refine Ct.of (by decide +kernel) (Nat.le_of_ble_eq_true rfl) ?_
  intro p e s m args below meth c Qc C hap hP hend ls hl
  have hAA : ∀ j, j < 1 → inA ad 1 (ad j) := fun j hj => ⟨j, hj, rfl⟩
  have hx := C.1
  have hb := C.2.1
  have hl : lv_has ls 2 [(0, .ref (ad 0)), (1, .int a1)] := hl
  have h := (f_X0_rowOf.eq_1 _ _ ).symm.trans h
  refine lv_aload_n hx hb dX0_rowOf_0 rfl (lv_at hl 0 rfl) ?_
  refine r_get C hP (ci := 0) rfl uin_X0 0 (by decide) 0 (by decide) rfl qFL_RX0_19 rfl rfl dX0_rowOf_1 ?_
  refine lv_if_le (tgt := 16) hx hb dX0_rowOf_4 (by decide) (fun c4 => ?_) (fun c4 => ?_)
  · have h := k_if c4 h
    refine lv_iconst (v := 0) hx hb dX0_rowOf_16 (by decide) ?_
    exact e_iret C hend hP (k_some h) rfl dX0_rowOf_17
  · have h := k_nf c4 h
    refine lv_iload_n hx hb dX0_rowOf_7 rfl (lv_at hl 1 rfl) ?_
    refine lv_aload_n hx hb dX0_rowOf_8 rfl (lv_at hl 0 rfl) ?_
    refine r_get C hP (ci := 0) rfl uin_X0 0 (by decide) 0 (by decide) rfl qFL_RX0_19 rfl rfl dX0_rowOf_9 ?_
    obtain ⟨hg, h⟩ := k_gd h
    refine r_idiv hx hb dX0_rowOf_12 (nz_ne hg) ?_
    refine lv_goto (tgt := 17) hx hb dX0_rowOf_13 (by decide) ?_
    exact e_iret C hend hP (k_some h) rfl dX0_rowOf_17
def f_X0_edgeAbove (σ : GG) (a1 : Int32) : Int32 :=
  a1
set_option maxHeartbeats 4000000 in
set_option maxRecDepth 100000 in
theorem c_X0_edgeAbove (l : Launch) (ev : EV) (ad : Nat → Nat) (σ : GG) (a1 : Int32)   (r : Int32)  (h : f_X0_edgeAbove σ a1 = r) : Ct l yX0_edgeAbove prog_2_method_9_code 2 (Option.some Jvm.ClassFile.FieldType.int) (rmk 0 0) ev 1 ad (gw1 σ) (gw1 σ) [.ref (ad 0), .int a1] (some (.int r)) := by
  refine Ct.of (by decide +kernel) (Nat.le_of_ble_eq_true rfl) ?_
  intro p e s m args below meth c Qc C hap hP hend ls hl
  have hAA : ∀ j, j < 1 → inA ad 1 (ad j) := fun j hj => ⟨j, hj, rfl⟩
  have hx := C.1
  have hb := C.2.1
  have hl : lv_has ls 2 [(0, .ref (ad 0)), (1, .int a1)] := hl
  have h := (f_X0_edgeAbove.eq_1 _ _ ).symm.trans h
  refine lv_iload_n hx hb dX0_edgeAbove_0 rfl (lv_at hl 1 rfl) ?_
  exact e_iret C hend hP h rfl dX0_edgeAbove_1
def f_X0_edgeBelow (σ : GG) (a1 : Int32) : Int32 :=
  (a1 + (g_width σ))
set_option maxHeartbeats 4000000 in
set_option maxRecDepth 100000 in
theorem c_X0_edgeBelow (l : Launch) (ev : EV) (ad : Nat → Nat) (σ : GG) (a1 : Int32)   (r : Int32)  (h : f_X0_edgeBelow σ a1 = r) : Ct l yX0_edgeBelow prog_2_method_10_code 2 (Option.some Jvm.ClassFile.FieldType.int) (rmk 0 0) ev 1 ad (gw1 σ) (gw1 σ) [.ref (ad 0), .int a1] (some (.int r)) := by
  refine Ct.of (by decide +kernel) (Nat.le_of_ble_eq_true rfl) ?_
  intro p e s m args below meth c Qc C hap hP hend ls hl
  have hAA : ∀ j, j < 1 → inA ad 1 (ad j) := fun j hj => ⟨j, hj, rfl⟩
  have hx := C.1
  have hb := C.2.1
  have hl : lv_has ls 2 [(0, .ref (ad 0)), (1, .int a1)] := hl
  have h := (f_X0_edgeBelow.eq_1 _ _ ).symm.trans h
  refine lv_iload_n hx hb dX0_edgeBelow_0 rfl (lv_at hl 1 rfl) ?_
  refine lv_aload_n hx hb dX0_edgeBelow_1 rfl (lv_at hl 0 rfl) ?_
  refine r_get C hP (ci := 0) rfl uin_X0 0 (by decide) 0 (by decide) rfl qFL_RX0_19 rfl rfl dX0_edgeBelow_2 ?_
  refine lv_iadd hx hb dX0_edgeBelow_5 ?_
  exact e_iret C hend hP h rfl dX0_edgeBelow_6
def f_X0_edgeLeft (σ : GG) (a1 : Int32) : Option (Int32) :=
  ob (f_X0_rowOf σ a1) (fun x1 => some (((g_uprights σ) + a1) + x1))
set_option maxHeartbeats 4000000 in
set_option maxRecDepth 100000 in
theorem c_X0_edgeLeft (l : Launch) (ev : EV) (ad : Nat → Nat) (σ : GG) (a1 : Int32)   (r : Int32)  (h : f_X0_edgeLeft σ a1 = some r) : Ct l yX0_edgeLeft prog_2_method_11_code 2 (Option.some Jvm.ClassFile.FieldType.int) (rmk 1 21) ev 1 ad (gw1 σ) (gw1 σ) [.ref (ad 0), .int a1] (some (.int r)) := by
  refine Ct.of (by decide +kernel) (Nat.le_of_ble_eq_true rfl) ?_
  intro p e s m args below meth c Qc C hap hP hend ls hl
  have hAA : ∀ j, j < 1 → inA ad 1 (ad j) := fun j hj => ⟨j, hj, rfl⟩
  have hx := C.1
  have hb := C.2.1
  have hl : lv_has ls 2 [(0, .ref (ad 0)), (1, .int a1)] := hl
  have h := (f_X0_edgeLeft.eq_1 _ _ ).symm.trans h
  refine lv_aload_n hx hb dX0_edgeLeft_0 rfl (lv_at hl 0 rfl) ?_
  refine r_get C hP (ci := 0) rfl uin_X0 4 (by decide) 0 (by decide) rfl qFL_RX0_28 rfl rfl dX0_edgeLeft_1 ?_
  refine lv_iload_n hx hb dX0_edgeLeft_4 rfl (lv_at hl 1 rfl) ?_
  refine lv_iadd hx hb dX0_edgeLeft_5 ?_
  refine lv_aload_n hx hb dX0_edgeLeft_6 rfl (lv_at hl 0 rfl) ?_
  refine lv_iload_n hx hb dX0_edgeLeft_7 rfl (lv_at hl 1 rfl) ?_
  obtain ⟨x1, h1, h⟩ := k_ob h
  refine k_callVi C hP hap hAA (c_X0_rowOf l ev ad σ a1   _ h1) Emb.same hap gz_X0_rowOf qML_RX0_75 qIM_yX0_rowOf qSE_yX0_rowOf ⟨(Nat.le_of_ble_eq_true rfl), (Nat.le_of_ble_eq_true rfl)⟩ (q0 := 0) rfl (by decide) rfl rfl rfl rfl hl.1 rfl (Nat.le_of_ble_eq_true rfl) dX0_edgeLeft_8 ⟨Nat.le_refl _, Nat.le_refl _⟩ (fun H locs hP => ?_)
  refine lv_iadd hx hb dX0_edgeLeft_11 ?_
  exact e_iret C hend hP (k_some h) rfl dX0_edgeLeft_12
def f_X0_edgeRight (σ : GG) (a1 : Int32) : Option (Int32) :=
  ob (f_X0_edgeLeft σ a1) (fun x1 => some (x1 + 1))
set_option maxHeartbeats 4000000 in
set_option maxRecDepth 100000 in
theorem c_X0_edgeRight (l : Launch) (ev : EV) (ad : Nat → Nat) (σ : GG) (a1 : Int32)   (r : Int32)  (h : f_X0_edgeRight σ a1 = some r) : Ct l yX0_edgeRight prog_2_method_12_code 2 (Option.some Jvm.ClassFile.FieldType.int) (rmk 2 42) ev 1 ad (gw1 σ) (gw1 σ) [.ref (ad 0), .int a1] (some (.int r)) := by
  refine Ct.of (by decide +kernel) (Nat.le_of_ble_eq_true rfl) ?_
  intro p e s m args below meth c Qc C hap hP hend ls hl
  have hAA : ∀ j, j < 1 → inA ad 1 (ad j) := fun j hj => ⟨j, hj, rfl⟩
  have hx := C.1
  have hb := C.2.1
  have hl : lv_has ls 2 [(0, .ref (ad 0)), (1, .int a1)] := hl
  have h := (f_X0_edgeRight.eq_1 _ _ ).symm.trans h
  refine lv_aload_n hx hb dX0_edgeRight_0 rfl (lv_at hl 0 rfl) ?_
  refine lv_iload_n hx hb dX0_edgeRight_1 rfl (lv_at hl 1 rfl) ?_
  obtain ⟨x1, h1, h⟩ := k_ob h
  refine k_callVi C hP hap hAA (c_X0_edgeLeft l ev ad σ a1   _ h1) Emb.same hap gz_X0_edgeLeft qML_RX0_78 qIM_yX0_edgeLeft qSE_yX0_edgeLeft ⟨(Nat.le_of_ble_eq_true rfl), (Nat.le_of_ble_eq_true rfl)⟩ (q0 := 0) rfl (by decide) rfl rfl rfl rfl hl.1 rfl (Nat.le_of_ble_eq_true rfl) dX0_edgeRight_2 ⟨Nat.le_refl _, Nat.le_refl _⟩ (fun H locs hP => ?_)
  refine lv_iconst (v := 1) hx hb dX0_edgeRight_5 (by decide) ?_
  refine lv_iadd hx hb dX0_edgeRight_6 ?_
  exact e_iret C hend hP (k_some h) rfl dX0_edgeRight_7
def f_X0_withAbove (σ : GG) (a1 : Int64) : Int32 :=
  ((Int64.toInt32 a1) &&& (g_all σ))
set_option maxHeartbeats 4000000 in
set_option maxRecDepth 100000 in
theorem c_X0_withAbove (l : Launch) (ev : EV) (ad : Nat → Nat) (σ : GG) (a1 : Int64)   (r : Int32)  (h : f_X0_withAbove σ a1 = r) : Ct l yX0_withAbove prog_2_method_16_code 3 (Option.some Jvm.ClassFile.FieldType.int) (rmk 0 0) ev 1 ad (gw1 σ) (gw1 σ) [.ref (ad 0), .long a1] (some (.int r)) := by
  refine Ct.of (by decide +kernel) (Nat.le_of_ble_eq_true rfl) ?_
  intro p e s m args below meth c Qc C hap hP hend ls hl
  have hAA : ∀ j, j < 1 → inA ad 1 (ad j) := fun j hj => ⟨j, hj, rfl⟩
  have hx := C.1
  have hb := C.2.1
  have hl : lv_has ls 3 [(0, .ref (ad 0)), (1, .long a1)] := hl
  have h := (f_X0_withAbove.eq_1 _ _ ).symm.trans h
  refine lv_lload_n hx hb dX0_withAbove_0 rfl (lv_at hl 1 rfl) ?_
  refine lv_l2i hx hb dX0_withAbove_1 rfl ?_
  refine lv_aload_n hx hb dX0_withAbove_2 rfl (lv_at hl 0 rfl) ?_
  refine r_get C hP (ci := 0) rfl uin_X0 5 (by decide) 0 (by decide) rfl qFL_RX0_34 rfl rfl dX0_withAbove_3 ?_
  refine lv_iand hx hb dX0_withAbove_6 ?_
  exact e_iret C hend hP h rfl dX0_withAbove_7
def f_X0_withBelow (σ : GG) (a1 : Int64) : Int32 :=
  ((Int64.toInt32 (lushr a1 (g_width σ))) &&& (g_all σ))
set_option maxHeartbeats 4000000 in
set_option maxRecDepth 100000 in
theorem c_X0_withBelow (l : Launch) (ev : EV) (ad : Nat → Nat) (σ : GG) (a1 : Int64)   (r : Int32)  (h : f_X0_withBelow σ a1 = r) : Ct l yX0_withBelow prog_2_method_17_code 3 (Option.some Jvm.ClassFile.FieldType.int) (rmk 0 0) ev 1 ad (gw1 σ) (gw1 σ) [.ref (ad 0), .long a1] (some (.int r)) := by
  refine Ct.of (by decide +kernel) (Nat.le_of_ble_eq_true rfl) ?_
  intro p e s m args below meth c Qc C hap hP hend ls hl
  have hAA : ∀ j, j < 1 → inA ad 1 (ad j) := fun j hj => ⟨j, hj, rfl⟩
  have hx := C.1
  have hb := C.2.1
  have hl : lv_has ls 3 [(0, .ref (ad 0)), (1, .long a1)] := hl
  have h := (f_X0_withBelow.eq_1 _ _ ).symm.trans h
  refine lv_lload_n hx hb dX0_withBelow_0 rfl (lv_at hl 1 rfl) ?_
  refine lv_aload_n hx hb dX0_withBelow_1 rfl (lv_at hl 0 rfl) ?_
  refine r_get C hP (ci := 0) rfl uin_X0 0 (by decide) 0 (by decide) rfl qFL_RX0_19 rfl rfl dX0_withBelow_2 ?_
  refine r_lushr hx hb dX0_withBelow_5 ?_
  refine lv_l2i hx hb dX0_withBelow_6 rfl ?_
  refine lv_aload_n hx hb dX0_withBelow_7 rfl (lv_at hl 0 rfl) ?_
  refine r_get C hP (ci := 0) rfl uin_X0 5 (by decide) 0 (by decide) rfl qFL_RX0_34 rfl rfl dX0_withBelow_8 ?_
  refine lv_iand hx hb dX0_withBelow_11 ?_
  exact e_iret C hend hP h rfl dX0_withBelow_12
def f_X0_withUpright_L16_b (σ : GG) (a1 : Int64) (a2 : Int32) (x1 : Int32)  (rec16 : Int32 → Int32 → Option (Int32)) (x2 : Int32) (x3 : Int32) : Option (Int32) :=
  if (g_height σ) ≤ x3 then some x2 else lt (x2 ||| (ishl ((Int64.toInt32 (lushr a1 (((g_uprights σ) + (x3 * ((g_width σ) + 1))) + a2))) &&& x1) (x3 * (g_width σ)))) (fun x4 => lt (x3 + 1) (fun x5 => rec16 x4 x5))
def f_X0_withUpright_L16 (σ : GG) (a1 : Int64) (a2 : Int32) (x1 : Int32)  (x2 : Int32) (x3 : Int32) : Option (Int32) :=
  lp (fun _ _ => none) (f_X0_withUpright_L16_b σ a1 a2 x1 ) FU x2 x3
def f_X0_withUpright (σ : GG) (a1 : Int64) (a2 : Int32) : Option (Int32) :=
  lt ((ishl 1 (g_width σ)) - 1) (fun x1 => f_X0_withUpright_L16 σ a1 a2 x1 0 0)
set_option maxHeartbeats 4000000 in
set_option maxRecDepth 100000 in
theorem c_X0_withUpright (l : Launch) (ev : EV) (ad : Nat → Nat) (σ : GG) (a1 : Int64) (a2 : Int32)   (r : Int32)  (h : f_X0_withUpright σ a1 a2 = some r) : Ct l yX0_withUpright prog_2_method_18_code 7 (Option.some Jvm.ClassFile.FieldType.int) (rmk 0 0) ev 1 ad (gw1 σ) (gw1 σ) [.ref (ad 0), .long a1, .int a2] (some (.int r)) := by
  refine Ct.of (by decide +kernel) (Nat.le_of_ble_eq_true rfl) ?_
  intro p e s m args below meth c Qc C hap hP hend ls hl
  have hAA : ∀ j, j < 1 → inA ad 1 (ad j) := fun j hj => ⟨j, hj, rfl⟩
  have hx := C.1
  have hb := C.2.1
  have hl : lv_has ls 7 [(0, .ref (ad 0)), (1, .long a1), (3, .int a2)] := hl
  have h := (f_X0_withUpright.eq_1 _ _ _ ).symm.trans h
  refine lv_iconst (v := 1) hx hb dX0_withUpright_0 (by decide) ?_
  refine lv_aload_n hx hb dX0_withUpright_1 rfl (lv_at hl 0 rfl) ?_
  refine r_get C hP (ci := 0) rfl uin_X0 0 (by decide) 0 (by decide) rfl qFL_RX0_19 rfl rfl dX0_withUpright_2 ?_
  refine r_ishl hx hb dX0_withUpright_5 ?_
  refine lv_iconst (v := 1) hx hb dX0_withUpright_6 (by decide) ?_
  refine lv_isub hx hb dX0_withUpright_7 ?_
  refine lv_topi (fun x1 ex1 => ?_)
  have h := k_lt ex1 h
  refine lv_istore (lv' := [(4, .int x1), (0, .ref (ad 0)), (1, .long a1), (3, .int a2)]) hx hb dX0_withUpright_8 hl (by decide) rfl (fun ls hl => ?_)
  refine lv_iconst (v := 0) hx hb dX0_withUpright_10 (by decide) ?_
  refine lv_istore (lv' := [(5, .int 0), (4, .int x1), (0, .ref (ad 0)), (1, .long a1), (3, .int a2)]) hx hb dX0_withUpright_11 hl (by decide) rfl (fun ls hl => ?_)
  refine lv_iconst (v := 0) hx hb dX0_withUpright_13 (by decide) ?_
  refine lv_istore (lv' := [(6, .int 0), (5, .int 0), (4, .int x1), (0, .ref (ad 0)), (1, .long a1), (3, .int a2)]) hx hb dX0_withUpright_14 hl (by decide) rfl (fun ls hl => ?_)
  have hL16 : ∀ (n : Nat) (x2 : Int32) (x3 : Int32) (H : Heap) (locs : List Loc) (ls : Array Slot), lp (fun _ _ => none) (f_X0_withUpright_L16_b σ a1 a2 x1 ) n x2 x3 = some r → PS ev 1 ad (gw1 σ) (inA ad 1) s H locs → lv_has ls 7 [(0, .ref (ad 0)), (1, .long a1), (3, .int a2), (4, .int x1), (5, .int x2), (6, .int x3)] → WW ev p l e (rmk 0 0) s m args below meth c Qc ad 1 H locs 16 ls [] := by
    intro n
    induction n with
    | zero =>
      intro x2 x3 H locs ls h; exact k_none h
    | succ n ih =>
      intro x2 x3 H locs ls h hP hl
      have h : f_X0_withUpright_L16_b σ a1 a2 x1  (lp (fun _ _ => none) (f_X0_withUpright_L16_b σ a1 a2 x1 ) n) x2 x3 = some r := h
      have h := (f_X0_withUpright_L16_b.eq_1 _ _ _ _ _ _ _ ).symm.trans h
      refine lv_iload hx hb dX0_withUpright_16 (lv_at hl 5 rfl) ?_
      refine lv_aload_n hx hb dX0_withUpright_18 rfl (lv_at hl 0 rfl) ?_
      refine r_get C hP (ci := 0) rfl uin_X0 1 (by decide) 0 (by decide) rfl qFL_RX0_22 rfl rfl dX0_withUpright_19 ?_
      refine lv_icmp_ge (tgt := 66) hx hb dX0_withUpright_22 (by decide) (fun c22 => ?_) (fun c22 => ?_)
      · have h := k_if c22 h
        refine lv_iload hx hb dX0_withUpright_66 (lv_at hl 4 rfl) ?_
        exact e_iret C hend hP (k_some h) rfl dX0_withUpright_68
      · have h := k_nf c22 h
        refine lv_iload hx hb dX0_withUpright_25 (lv_at hl 4 rfl) ?_
        refine lv_lload_n hx hb dX0_withUpright_27 rfl (lv_at hl 1 rfl) ?_
        refine lv_aload_n hx hb dX0_withUpright_28 rfl (lv_at hl 0 rfl) ?_
        refine r_get C hP (ci := 0) rfl uin_X0 4 (by decide) 0 (by decide) rfl qFL_RX0_28 rfl rfl dX0_withUpright_29 ?_
        refine lv_iload hx hb dX0_withUpright_32 (lv_at hl 5 rfl) ?_
        refine lv_aload_n hx hb dX0_withUpright_34 rfl (lv_at hl 0 rfl) ?_
        refine r_get C hP (ci := 0) rfl uin_X0 0 (by decide) 0 (by decide) rfl qFL_RX0_19 rfl rfl dX0_withUpright_35 ?_
        refine lv_iconst (v := 1) hx hb dX0_withUpright_38 (by decide) ?_
        refine lv_iadd hx hb dX0_withUpright_39 ?_
        refine lv_imul hx hb dX0_withUpright_40 ?_
        refine lv_iadd hx hb dX0_withUpright_41 ?_
        refine lv_iload_n hx hb dX0_withUpright_42 rfl (lv_at hl 2 rfl) ?_
        refine lv_iadd hx hb dX0_withUpright_43 ?_
        refine r_lushr hx hb dX0_withUpright_44 ?_
        refine lv_l2i hx hb dX0_withUpright_45 rfl ?_
        refine lv_iload hx hb dX0_withUpright_46 (lv_at hl 3 rfl) ?_
        refine lv_iand hx hb dX0_withUpright_48 ?_
        refine lv_iload hx hb dX0_withUpright_49 (lv_at hl 5 rfl) ?_
        refine lv_aload_n hx hb dX0_withUpright_51 rfl (lv_at hl 0 rfl) ?_
        refine r_get C hP (ci := 0) rfl uin_X0 0 (by decide) 0 (by decide) rfl qFL_RX0_19 rfl rfl dX0_withUpright_52 ?_
        refine lv_imul hx hb dX0_withUpright_55 ?_
        refine r_ishl hx hb dX0_withUpright_56 ?_
        refine lv_ior hx hb dX0_withUpright_57 ?_
        refine lv_topi (fun x4 ex4 => ?_)
        have h := k_lt ex4 h
        refine lv_istore (lv' := [(5, .int x4), (0, .ref (ad 0)), (1, .long a1), (3, .int a2), (4, .int x1), (6, .int x3)]) hx hb dX0_withUpright_58 hl (by decide) rfl (fun ls hl => ?_)
        obtain ⟨x5, ex5, h⟩ := k_ltx h
        refine lv_iinc (v := x5) (lv' := [(6, .int x5), (5, .int x4), (0, .ref (ad 0)), (1, .long a1), (3, .int a2), (4, .int x1)]) hx hb dX0_withUpright_60 hl (k := 5) rfl (by rw [ex5]; rfl) (by decide) rfl (fun ls hl => ?_)
        refine lv_goto (tgt := 16) hx hb dX0_withUpright_63 (by decide) ?_
        exact ih _ _ _ _ _ h hP (lv_sub hl [2, 3, 4, 5, 1, 0] rfl)
  exact hL16 FU _ _ _ _ _ h hP (lv_sub hl [3, 4, 5, 2, 1, 0] rfl)
def f_X0_touched (σ : GG) (a1 : Int64) : Option (Int32) :=
  ob (f_X0_withUpright σ a1 0) (fun x1 => ob (f_X0_withUpright σ a1 1) (fun x2 => some ((((f_X0_withAbove σ a1) ||| (f_X0_withBelow σ a1)) ||| x1) ||| x2)))
set_option maxHeartbeats 4000000 in
set_option maxRecDepth 100000 in
theorem c_X0_touched (l : Launch) (ev : EV) (ad : Nat → Nat) (σ : GG) (a1 : Int64)   (r : Int32)  (h : f_X0_touched σ a1 = some r) : Ct l yX0_touched prog_2_method_19_code 3 (Option.some Jvm.ClassFile.FieldType.int) (rmk 1 26) ev 1 ad (gw1 σ) (gw1 σ) [.ref (ad 0), .long a1] (some (.int r)) := by
  refine Ct.of (by decide +kernel) (Nat.le_of_ble_eq_true rfl) ?_
  intro p e s m args below meth c Qc C hap hP hend ls hl
  have hAA : ∀ j, j < 1 → inA ad 1 (ad j) := fun j hj => ⟨j, hj, rfl⟩
  have hx := C.1
  have hb := C.2.1
  have hl : lv_has ls 3 [(0, .ref (ad 0)), (1, .long a1)] := hl
  have h := (f_X0_touched.eq_1 _ _ ).symm.trans h
  refine lv_aload_n hx hb dX0_touched_0 rfl (lv_at hl 0 rfl) ?_
  refine lv_lload_n hx hb dX0_touched_1 rfl (lv_at hl 1 rfl) ?_
  refine k_callVi C hP hap hAA (c_X0_withAbove l ev ad σ a1   _ rfl) Emb.same hap gz_X0_withAbove qML_RX0_84 qIM_yX0_withAbove qSE_yX0_withAbove ⟨(Nat.le_of_ble_eq_true rfl), (Nat.le_of_ble_eq_true rfl)⟩ (q0 := 0) rfl (by decide) rfl rfl rfl rfl hl.1 rfl (Nat.le_of_ble_eq_true rfl) dX0_touched_2 ⟨Nat.le_refl _, Nat.le_refl _⟩ (fun H locs hP => ?_)
  refine lv_aload_n hx hb dX0_touched_5 rfl (lv_at hl 0 rfl) ?_
  refine lv_lload_n hx hb dX0_touched_6 rfl (lv_at hl 1 rfl) ?_
  refine k_callVi C hP hap hAA (c_X0_withBelow l ev ad σ a1   _ rfl) Emb.same hap gz_X0_withBelow qML_RX0_88 qIM_yX0_withBelow qSE_yX0_withBelow ⟨(Nat.le_of_ble_eq_true rfl), (Nat.le_of_ble_eq_true rfl)⟩ (q0 := 0) rfl (by decide) rfl rfl rfl rfl hl.1 rfl (Nat.le_of_ble_eq_true rfl) dX0_touched_7 ⟨Nat.le_refl _, Nat.le_refl _⟩ (fun H locs hP => ?_)
  refine lv_ior hx hb dX0_touched_10 ?_
  refine lv_aload_n hx hb dX0_touched_11 rfl (lv_at hl 0 rfl) ?_
  refine lv_lload_n hx hb dX0_touched_12 rfl (lv_at hl 1 rfl) ?_
  refine lv_iconst (v := 0) hx hb dX0_touched_13 (by decide) ?_
  obtain ⟨x1, h1, h⟩ := k_ob h
  refine k_callVi C hP hap hAA (c_X0_withUpright l ev ad σ a1 0   _ h1) Emb.same hap gz_X0_withUpright qML_RX0_91 qIM_yX0_withUpright qSE_yX0_withUpright ⟨(Nat.le_of_ble_eq_true rfl), (Nat.le_of_ble_eq_true rfl)⟩ (q0 := 0) rfl (by decide) rfl rfl rfl rfl hl.1 rfl (Nat.le_of_ble_eq_true rfl) dX0_touched_14 ⟨Nat.le_refl _, Nat.le_refl _⟩ (fun H locs hP => ?_)
  refine lv_ior hx hb dX0_touched_17 ?_
  refine lv_aload_n hx hb dX0_touched_18 rfl (lv_at hl 0 rfl) ?_
  refine lv_lload_n hx hb dX0_touched_19 rfl (lv_at hl 1 rfl) ?_
  refine lv_iconst (v := 1) hx hb dX0_touched_20 (by decide) ?_
  obtain ⟨x2, h1, h⟩ := k_ob h
  refine k_callVi C hP hap hAA (c_X0_withUpright l ev ad σ a1 1   _ h1) Emb.same hap gz_X0_withUpright qML_RX0_91 qIM_yX0_withUpright qSE_yX0_withUpright ⟨(Nat.le_of_ble_eq_true rfl), (Nat.le_of_ble_eq_true rfl)⟩ (q0 := 0) rfl (by decide) rfl rfl rfl rfl hl.1 rfl (Nat.le_of_ble_eq_true rfl) dX0_touched_21 ⟨Nat.le_refl _, Nat.le_refl _⟩ (fun H locs hP => ?_)
  refine lv_ior hx hb dX0_touched_24 ?_
  exact e_iret C hend hP (k_some h) rfl dX0_touched_25
def f_X0_closed (σ : GG) (a1 : Int64) : Option (Int32) :=
  ob (f_X0_withUpright σ a1 0) (fun x1 => ob (f_X0_withUpright σ a1 1) (fun x2 => some ((((f_X0_withAbove σ a1) &&& (f_X0_withBelow σ a1)) &&& x1) &&& x2)))
set_option maxHeartbeats 4000000 in
set_option maxRecDepth 100000 in
theorem c_X0_closed (l : Launch) (ev : EV) (ad : Nat → Nat) (σ : GG) (a1 : Int64)   (r : Int32)  (h : f_X0_closed σ a1 = some r) : Ct l yX0_closed prog_2_method_20_code 3 (Option.some Jvm.ClassFile.FieldType.int) (rmk 1 26) ev 1 ad (gw1 σ) (gw1 σ) [.ref (ad 0), .long a1] (some (.int r)) := by
  refine Ct.of (by decide +kernel) (Nat.le_of_ble_eq_true rfl) ?_
  intro p e s m args below meth c Qc C hap hP hend ls hl
  have hAA : ∀ j, j < 1 → inA ad 1 (ad j) := fun j hj => ⟨j, hj, rfl⟩
  have hx := C.1
  have hb := C.2.1
  have hl : lv_has ls 3 [(0, .ref (ad 0)), (1, .long a1)] := hl
  have h := (f_X0_closed.eq_1 _ _ ).symm.trans h
  refine lv_aload_n hx hb dX0_closed_0 rfl (lv_at hl 0 rfl) ?_
  refine lv_lload_n hx hb dX0_closed_1 rfl (lv_at hl 1 rfl) ?_
  refine k_callVi C hP hap hAA (c_X0_withAbove l ev ad σ a1   _ rfl) Emb.same hap gz_X0_withAbove qML_RX0_84 qIM_yX0_withAbove qSE_yX0_withAbove ⟨(Nat.le_of_ble_eq_true rfl), (Nat.le_of_ble_eq_true rfl)⟩ (q0 := 0) rfl (by decide) rfl rfl rfl rfl hl.1 rfl (Nat.le_of_ble_eq_true rfl) dX0_closed_2 ⟨Nat.le_refl _, Nat.le_refl _⟩ (fun H locs hP => ?_)
  refine lv_aload_n hx hb dX0_closed_5 rfl (lv_at hl 0 rfl) ?_
  refine lv_lload_n hx hb dX0_closed_6 rfl (lv_at hl 1 rfl) ?_
  refine k_callVi C hP hap hAA (c_X0_withBelow l ev ad σ a1   _ rfl) Emb.same hap gz_X0_withBelow qML_RX0_88 qIM_yX0_withBelow qSE_yX0_withBelow ⟨(Nat.le_of_ble_eq_true rfl), (Nat.le_of_ble_eq_true rfl)⟩ (q0 := 0) rfl (by decide) rfl rfl rfl rfl hl.1 rfl (Nat.le_of_ble_eq_true rfl) dX0_closed_7 ⟨Nat.le_refl _, Nat.le_refl _⟩ (fun H locs hP => ?_)
  refine lv_iand hx hb dX0_closed_10 ?_
  refine lv_aload_n hx hb dX0_closed_11 rfl (lv_at hl 0 rfl) ?_
  refine lv_lload_n hx hb dX0_closed_12 rfl (lv_at hl 1 rfl) ?_
  refine lv_iconst (v := 0) hx hb dX0_closed_13 (by decide) ?_
  obtain ⟨x1, h1, h⟩ := k_ob h
  refine k_callVi C hP hap hAA (c_X0_withUpright l ev ad σ a1 0   _ h1) Emb.same hap gz_X0_withUpright qML_RX0_91 qIM_yX0_withUpright qSE_yX0_withUpright ⟨(Nat.le_of_ble_eq_true rfl), (Nat.le_of_ble_eq_true rfl)⟩ (q0 := 0) rfl (by decide) rfl rfl rfl rfl hl.1 rfl (Nat.le_of_ble_eq_true rfl) dX0_closed_14 ⟨Nat.le_refl _, Nat.le_refl _⟩ (fun H locs hP => ?_)
  refine lv_iand hx hb dX0_closed_17 ?_
  refine lv_aload_n hx hb dX0_closed_18 rfl (lv_at hl 0 rfl) ?_
  refine lv_lload_n hx hb dX0_closed_19 rfl (lv_at hl 1 rfl) ?_
  refine lv_iconst (v := 1) hx hb dX0_closed_20 (by decide) ?_
  obtain ⟨x2, h1, h⟩ := k_ob h
  refine k_callVi C hP hap hAA (c_X0_withUpright l ev ad σ a1 1   _ h1) Emb.same hap gz_X0_withUpright qML_RX0_91 qIM_yX0_withUpright qSE_yX0_withUpright ⟨(Nat.le_of_ble_eq_true rfl), (Nat.le_of_ble_eq_true rfl)⟩ (q0 := 0) rfl (by decide) rfl rfl rfl rfl hl.1 rfl (Nat.le_of_ble_eq_true rfl) dX0_closed_21 ⟨Nat.le_refl _, Nat.le_refl _⟩ (fun H locs hP => ?_)
  refine lv_iand hx hb dX0_closed_24 ?_
  exact e_iret C hend hP (k_some h) rfl dX0_closed_25
def f_X0_withThree (σ : GG) (a1 : Int64) : Option (Int32) :=
  lt (f_X0_withAbove σ a1) (fun x1 => lt (f_X0_withBelow σ a1) (fun x2 => ob (f_X0_withUpright σ a1 0) (fun x3 => ob (f_X0_withUpright σ a1 1) (fun x4 => some (((x1 &&& x2) &&& (x3 ^^^ x4)) ||| ((x3 &&& x4) &&& (x1 ^^^ x2)))))))
set_option maxHeartbeats 4000000 in
set_option maxRecDepth 100000 in
theorem c_X0_withThree (l : Launch) (ev : EV) (ad : Nat → Nat) (σ : GG) (a1 : Int64)   (r : Int32)  (h : f_X0_withThree σ a1 = some r) : Ct l yX0_withThree prog_2_method_21_code 7 (Option.some Jvm.ClassFile.FieldType.int) (rmk 1 26) ev 1 ad (gw1 σ) (gw1 σ) [.ref (ad 0), .long a1] (some (.int r)) := by
  refine Ct.of (by decide +kernel) (Nat.le_of_ble_eq_true rfl) ?_
  intro p e s m args below meth c Qc C hap hP hend ls hl
  have hAA : ∀ j, j < 1 → inA ad 1 (ad j) := fun j hj => ⟨j, hj, rfl⟩
  have hx := C.1
  have hb := C.2.1
  have hl : lv_has ls 7 [(0, .ref (ad 0)), (1, .long a1)] := hl
  have h := (f_X0_withThree.eq_1 _ _ ).symm.trans h
  refine lv_aload_n hx hb dX0_withThree_0 rfl (lv_at hl 0 rfl) ?_
  refine lv_lload_n hx hb dX0_withThree_1 rfl (lv_at hl 1 rfl) ?_
  refine k_callVi C hP hap hAA (c_X0_withAbove l ev ad σ a1   _ rfl) Emb.same hap gz_X0_withAbove qML_RX0_84 qIM_yX0_withAbove qSE_yX0_withAbove ⟨(Nat.le_of_ble_eq_true rfl), (Nat.le_of_ble_eq_true rfl)⟩ (q0 := 0) rfl (by decide) rfl rfl rfl rfl hl.1 rfl (Nat.le_of_ble_eq_true rfl) dX0_withThree_2 ⟨Nat.le_refl _, Nat.le_refl _⟩ (fun H locs hP => ?_)
  refine lv_topi (fun x1 ex1 => ?_)
  have h := k_lt ex1 h
  refine lv_istore_n (lv' := [(3, .int x1), (0, .ref (ad 0)), (1, .long a1)]) hx hb dX0_withThree_5 rfl hl (by decide) rfl (fun ls hl => ?_)
  refine lv_aload_n hx hb dX0_withThree_6 rfl (lv_at hl 1 rfl) ?_
  refine lv_lload_n hx hb dX0_withThree_7 rfl (lv_at hl 2 rfl) ?_
  refine k_callVi C hP hap hAA (c_X0_withBelow l ev ad σ a1   _ rfl) Emb.same hap gz_X0_withBelow qML_RX0_88 qIM_yX0_withBelow qSE_yX0_withBelow ⟨(Nat.le_of_ble_eq_true rfl), (Nat.le_of_ble_eq_true rfl)⟩ (q0 := 0) rfl (by decide) rfl rfl rfl rfl hl.1 rfl (Nat.le_of_ble_eq_true rfl) dX0_withThree_8 ⟨Nat.le_refl _, Nat.le_refl _⟩ (fun H locs hP => ?_)
  refine lv_topi (fun x2 ex2 => ?_)
  have h := k_lt ex2 h
  refine lv_istore (lv' := [(4, .int x2), (3, .int x1), (0, .ref (ad 0)), (1, .long a1)]) hx hb dX0_withThree_11 hl (by decide) rfl (fun ls hl => ?_)
  refine lv_aload_n hx hb dX0_withThree_13 rfl (lv_at hl 2 rfl) ?_
  refine lv_lload_n hx hb dX0_withThree_14 rfl (lv_at hl 3 rfl) ?_
  refine lv_iconst (v := 0) hx hb dX0_withThree_15 (by decide) ?_
  obtain ⟨x3, h1, h⟩ := k_ob h
  refine k_callVi C hP hap hAA (c_X0_withUpright l ev ad σ a1 0   _ h1) Emb.same hap gz_X0_withUpright qML_RX0_91 qIM_yX0_withUpright qSE_yX0_withUpright ⟨(Nat.le_of_ble_eq_true rfl), (Nat.le_of_ble_eq_true rfl)⟩ (q0 := 0) rfl (by decide) rfl rfl rfl rfl hl.1 rfl (Nat.le_of_ble_eq_true rfl) dX0_withThree_16 ⟨Nat.le_refl _, Nat.le_refl _⟩ (fun H locs hP => ?_)
  refine lv_istore (lv' := [(5, .int x3), (4, .int x2), (3, .int x1), (0, .ref (ad 0)), (1, .long a1)]) hx hb dX0_withThree_19 hl (by decide) rfl (fun ls hl => ?_)
  refine lv_aload_n hx hb dX0_withThree_21 rfl (lv_at hl 3 rfl) ?_
  refine lv_lload_n hx hb dX0_withThree_22 rfl (lv_at hl 4 rfl) ?_
  refine lv_iconst (v := 1) hx hb dX0_withThree_23 (by decide) ?_
  obtain ⟨x4, h1, h⟩ := k_ob h
  refine k_callVi C hP hap hAA (c_X0_withUpright l ev ad σ a1 1   _ h1) Emb.same hap gz_X0_withUpright qML_RX0_91 qIM_yX0_withUpright qSE_yX0_withUpright ⟨(Nat.le_of_ble_eq_true rfl), (Nat.le_of_ble_eq_true rfl)⟩ (q0 := 0) rfl (by decide) rfl rfl rfl rfl hl.1 rfl (Nat.le_of_ble_eq_true rfl) dX0_withThree_24 ⟨Nat.le_refl _, Nat.le_refl _⟩ (fun H locs hP => ?_)
  refine lv_istore (lv' := [(6, .int x4), (5, .int x3), (4, .int x2), (3, .int x1), (0, .ref (ad 0)), (1, .long a1)]) hx hb dX0_withThree_27 hl (by decide) rfl (fun ls hl => ?_)
  refine lv_iload_n hx hb dX0_withThree_29 rfl (lv_at hl 3 rfl) ?_
  refine lv_iload hx hb dX0_withThree_30 (lv_at hl 2 rfl) ?_
  refine lv_iand hx hb dX0_withThree_32 ?_
  refine lv_iload hx hb dX0_withThree_33 (lv_at hl 1 rfl) ?_
  refine lv_iload hx hb dX0_withThree_35 (lv_at hl 0 rfl) ?_
  refine lv_ixor hx hb dX0_withThree_37 ?_
  refine lv_iand hx hb dX0_withThree_38 ?_
  refine lv_iload hx hb dX0_withThree_39 (lv_at hl 1 rfl) ?_
  refine lv_iload hx hb dX0_withThree_41 (lv_at hl 0 rfl) ?_
  refine lv_iand hx hb dX0_withThree_43 ?_
  refine lv_iload_n hx hb dX0_withThree_44 rfl (lv_at hl 3 rfl) ?_
  refine lv_iload hx hb dX0_withThree_45 (lv_at hl 2 rfl) ?_
  refine lv_ixor hx hb dX0_withThree_47 ?_
  refine lv_iand hx hb dX0_withThree_48 ?_
  refine lv_ior hx hb dX0_withThree_49 ?_
  exact e_iret C hend hP (k_some h) rfl dX0_withThree_50
