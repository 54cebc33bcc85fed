/-! functions read off, and their contracts: by program (wip/whole/gen2.py) -/
def f_X3_refuse (σ : XX) (a1 : Int32) : Option (Int32 × XX) :=
  lt ((-2) - a1) (fun x1 => if x1 < 0 then some (a1, σ) else if 5 ≤ x1 then some (a1, σ) else gd (inb x1 5) (gd (inb x1 5) (lt (x_refusals' σ (upd (x_refusals σ) (Int32.toNatClampNeg x1) (((x_refusals σ) (Int32.toNatClampNeg x1)) + 1))) (fun σ2 => some (a1, σ2)))))
set_option maxHeartbeats 4000000 in
set_option maxRecDepth 100000 in
theorem c_X3_refuse (l : Launch) (ev : EV) (ad : Nat → Nat) (σ : XX) (a1 : Int32)   (r : Int32) (σ' : XX) (h : f_X3_refuse σ a1 = some (r, σ')) : Ct l yX3_refuse prog_1_method_60_code 3 (Option.some Jvm.ClassFile.FieldType.int) (rmk 0 0) ev 26 ad (xw ev ad σ) (xw ev ad σ') [.ref (ad 0), .int a1] (some (.int r)) := by
  refine Ct.of (by decide +kernel) (Nat.le_of_ble_eq_true rfl) ?_
  intro p e s m args below meth c Qc C hap hP hend ls hl
  have hAA : ∀ j, j < 26 → inA ad 26 (ad j) := fun j hj => ⟨j, hj, rfl⟩
  have hx := C.1
  have hb := C.2.1
  have hl : lv_has ls 3 [(0, .ref (ad 0)), (1, .int a1)] := hl
  have h := (f_X3_refuse.eq_1 _ _ ).symm.trans h
  refine lv_bipush (v := (-2)) hx hb dX3_refuse_0 (by decide) ?_
  refine lv_iload_n hx hb dX3_refuse_2 rfl (lv_at hl 1 rfl) ?_
  refine lv_isub hx hb dX3_refuse_3 ?_
  refine lv_topi (fun x1 ex1 => ?_)
  have h := k_lt ex1 h
  refine lv_istore_n (lv' := [(2, .int x1), (0, .ref (ad 0)), (1, .int a1)]) hx hb dX3_refuse_4 rfl hl (by decide) rfl (fun ls hl => ?_)
  refine lv_iload_n hx hb dX3_refuse_5 rfl (lv_at hl 0 rfl) ?_
  refine lv_if_lt (tgt := 28) hx hb dX3_refuse_6 (by decide) (fun c6 => ?_) (fun c6 => ?_)
  · have h := k_if c6 h
    refine lv_iload_n hx hb dX3_refuse_28 rfl (lv_at hl 2 rfl) ?_
    exact e_iret C hend hP (k_some2 h).1 (congrArg (xw ev ad) (k_some2 h).2) dX3_refuse_29
  · have h := k_nf c6 h
    refine lv_iload_n hx hb dX3_refuse_9 rfl (lv_at hl 0 rfl) ?_
    refine lv_aload_n hx hb dX3_refuse_10 rfl (lv_at hl 1 rfl) ?_
    refine r_get C hP (ci := 3) rfl uin_X3 10 (by decide) 0 (by decide) rfl qFL_RX3_52 rfl rfl dX3_refuse_11 ?_
    refine r_alen C hP 6 (by decide) 0 rfl rfl (v := 5) rfl dX3_refuse_14 ?_
    refine lv_icmp_ge (tgt := 28) hx hb dX3_refuse_15 (by decide) (fun c15 => ?_) (fun c15 => ?_)
    · have h := k_if c15 h
      refine lv_iload_n hx hb dX3_refuse_28 rfl (lv_at hl 2 rfl) ?_
      exact e_iret C hend hP (k_some2 h).1 (congrArg (xw ev ad) (k_some2 h).2) dX3_refuse_29
    · have h := k_nf c15 h
      refine lv_aload_n hx hb dX3_refuse_18 rfl (lv_at hl 1 rfl) ?_
      refine r_get C hP (ci := 3) rfl uin_X3 10 (by decide) 0 (by decide) rfl qFL_RX3_52 rfl rfl dX3_refuse_19 ?_
      refine lv_iload_n hx hb dX3_refuse_22 rfl (lv_at hl 0 rfl) ?_
      refine lv_dup2_11 hx hb dX3_refuse_23 rfl rfl ?_
      obtain ⟨hg, h⟩ := k_gd h
      refine r_iald C hP 6 (by decide) rfl hg dX3_refuse_24 ?_
      refine lv_iconst (v := 1) hx hb dX3_refuse_25 (by decide) ?_
      refine lv_iadd hx hb dX3_refuse_26 ?_
      obtain ⟨hg, h⟩ := k_gd h
      obtain ⟨σ2, eσ2, h⟩ := k_ltx h
      refine st_X_refusals C hP hap hAA eσ2 hg dX3_refuse_27 (fun H locs hP => ?_)
      refine lv_iload_n hx hb dX3_refuse_28 rfl (lv_at hl 2 rfl) ?_
      exact e_iret C hend hP (k_some2 h).1 (congrArg (xw ev ad) (k_some2 h).2) dX3_refuse_29
def f_X3_row (σ : XX) (a1 : Int32) (a2 : Int32) (a3 : Int32) : Option (Int32 × XX) :=
  ob (f_X3_shelfAt σ a1) (fun o1 => om o1 (ob2 (f_X3_refuse σ (-2)) (fun x4 σ3 => some (x4, σ3))) (fun q2 => gd (decide (q2 < 8)) (if a2 < 0 then ob2 (f_X3_refuse σ (-2)) (fun x6 σ5 => some (x6, σ5)) else if 5 ≤ a2 then ob2 (f_X3_refuse σ (-2)) (fun x8 σ7 => some (x8, σ7)) else if a3 < 0 then ob2 (f_X3_refuse σ (-2)) (fun x10 σ9 => some (x10, σ9)) else if a3 ≤ 40 then ob (f_X1_layRow (x_shelf σ q2) a2 a3) (fun σ11 => lt (x_shelf' σ q2 σ11) (fun σ12 => some (1, σ12))) else ob2 (f_X3_refuse σ (-2)) (fun x14 σ13 => some (x14, σ13)))))
set_option maxHeartbeats 4000000 in
set_option maxRecDepth 100000 in
theorem c_X3_row (l : Launch) (ev : EV) (ad : Nat → Nat) (σ : XX) (a1 : Int32) (a2 : Int32) (a3 : Int32)   (r : Int32) (σ' : XX) (h : f_X3_row σ a1 a2 a3 = some (r, σ')) : Ct l yX3_row prog_1_method_2_code 5 (Option.some Jvm.ClassFile.FieldType.int) (rmk 1 23) ev 26 ad (xw ev ad σ) (xw ev ad σ') [.ref (ad 0), .int a1, .int a2, .int a3] (some (.int r)) := by
  refine Ct.of (by decide +kernel) (Nat.le_of_ble_eq_true rfl) ?_
  intro p e s m args below meth c Qc C hap hP hend ls hl
  have hAA : ∀ j, j < 26 → inA ad 26 (ad j) := fun j hj => ⟨j, hj, rfl⟩
  have hx := C.1
  have hb := C.2.1
  have hl : lv_has ls 5 [(0, .ref (ad 0)), (1, .int a1), (2, .int a2), (3, .int a3)] := hl
  have h := (f_X3_row.eq_1 _ _ _ _ ).symm.trans h
  refine lv_aload_n hx hb dX3_row_0 rfl (lv_at hl 0 rfl) ?_
  refine lv_iload_n hx hb dX3_row_1 rfl (lv_at hl 1 rfl) ?_
  obtain ⟨o1, h1, h⟩ := k_ob h
  refine k_callVo C hP hap hAA (c_X3_shelfAt l ev ad σ a1   _ h1) Emb.same hap gz_X3_shelfAt qML_RX3_56 qIM_yX3_shelfAt qSE_yX3_shelfAt ⟨(Nat.le_of_ble_eq_true rfl), (Nat.le_of_ble_eq_true rfl)⟩ (q0 := 0) rfl (by decide) rfl rfl rfl rfl hl.1 rfl (Nat.le_of_ble_eq_true rfl) dX3_row_2 ⟨Nat.le_refl _, Nat.le_refl _⟩ (fun H locs hP => ?_)
  rcases o1 with _ | q2
  · have h := k_omN h
    refine lv_astoreN (lv' := [(4, .null), (0, .ref (ad 0)), (1, .int a1), (2, .int a2), (3, .int a3)]) hx hb dX3_row_5 hl (by decide) rfl (fun ls hl => ?_)
    refine lv_aloadN hx hb dX3_row_7 (lv_at hl 0 rfl) ?_
    refine lv_ifnullN (tgt := 31) hx hb dX3_row_9 (by decide) ?_
    refine lv_aload_n hx hb dX3_row_31 rfl (lv_at hl 1 rfl) ?_
    refine lv_bipush (v := (-2)) hx hb dX3_row_32 (by decide) ?_
    obtain ⟨x4, σ3, h1, h⟩ := k_ob2 h
    refine k_callVi C hP hap hAA (c_X3_refuse l ev ad σ (-2)   _ _ h1) Emb.same hap gz_X3_refuse qML_RX3_60 qIM_yX3_refuse qSE_yX3_refuse ⟨(Nat.le_of_ble_eq_true rfl), (Nat.le_of_ble_eq_true rfl)⟩ (q0 := 0) rfl (by decide) rfl rfl rfl rfl hl.1 rfl (Nat.le_of_ble_eq_true rfl) dX3_row_34 ⟨Nat.le_refl _, Nat.le_refl _⟩ (fun H locs hP => ?_)
    exact e_iret C hend hP (k_some2 h).1 (congrArg (xw ev ad) (k_some2 h).2) dX3_row_37
  · obtain ⟨hg, h⟩ := k_gd (k_omS h)
    have hq2 : q2 < 8 := of_decide_eq_true hg
    refine lv_astore (lv' := [(4, .ref (ad (q2 + 10))), (0, .ref (ad 0)), (1, .int a1), (2, .int a2), (3, .int a3)]) hx hb dX3_row_5 hl (by decide) rfl (fun ls hl => ?_)
    refine lv_aload hx hb dX3_row_7 (lv_at hl 0 rfl) ?_
    refine lv_ifnull hx hb dX3_row_9 ?_
    refine lv_iload_n hx hb dX3_row_12 rfl (lv_at hl 3 rfl) ?_
    refine lv_if_lt (tgt := 31) hx hb dX3_row_13 (by decide) (fun c13 => ?_) (fun c13 => ?_)
    · have h := k_if c13 h
      refine lv_aload_n hx hb dX3_row_31 rfl (lv_at hl 1 rfl) ?_
      refine lv_bipush (v := (-2)) hx hb dX3_row_32 (by decide) ?_
      obtain ⟨x6, σ5, h1, h⟩ := k_ob2 h
      refine k_callVi C hP hap hAA (c_X3_refuse l ev ad σ (-2)   _ _ h1) Emb.same hap gz_X3_refuse qML_RX3_60 qIM_yX3_refuse qSE_yX3_refuse ⟨(Nat.le_of_ble_eq_true rfl), (Nat.le_of_ble_eq_true rfl)⟩ (q0 := 0) rfl (by decide) rfl rfl rfl rfl hl.1 rfl (Nat.le_of_ble_eq_true rfl) dX3_row_34 ⟨Nat.le_refl _, Nat.le_refl _⟩ (fun H locs hP => ?_)
      exact e_iret C hend hP (k_some2 h).1 (congrArg (xw ev ad) (k_some2 h).2) dX3_row_37
    · have h := k_nf c13 h
      refine lv_iload_n hx hb dX3_row_16 rfl (lv_at hl 3 rfl) ?_
      refine lv_iconst (v := 5) hx hb dX3_row_17 (by decide) ?_
      refine lv_icmp_ge (tgt := 31) hx hb dX3_row_18 (by decide) (fun c18 => ?_) (fun c18 => ?_)
      · have h := k_if c18 h
        refine lv_aload_n hx hb dX3_row_31 rfl (lv_at hl 1 rfl) ?_
        refine lv_bipush (v := (-2)) hx hb dX3_row_32 (by decide) ?_
        obtain ⟨x8, σ7, h1, h⟩ := k_ob2 h
        refine k_callVi C hP hap hAA (c_X3_refuse l ev ad σ (-2)   _ _ h1) Emb.same hap gz_X3_refuse qML_RX3_60 qIM_yX3_refuse qSE_yX3_refuse ⟨(Nat.le_of_ble_eq_true rfl), (Nat.le_of_ble_eq_true rfl)⟩ (q0 := 0) rfl (by decide) rfl rfl rfl rfl hl.1 rfl (Nat.le_of_ble_eq_true rfl) dX3_row_34 ⟨Nat.le_refl _, Nat.le_refl _⟩ (fun H locs hP => ?_)
        exact e_iret C hend hP (k_some2 h).1 (congrArg (xw ev ad) (k_some2 h).2) dX3_row_37
      · have h := k_nf c18 h
        refine lv_iload_n hx hb dX3_row_21 rfl (lv_at hl 4 rfl) ?_
        refine lv_if_lt (tgt := 31) hx hb dX3_row_22 (by decide) (fun c22 => ?_) (fun c22 => ?_)
        · have h := k_if c22 h
          refine lv_aload_n hx hb dX3_row_31 rfl (lv_at hl 1 rfl) ?_
          refine lv_bipush (v := (-2)) hx hb dX3_row_32 (by decide) ?_
          obtain ⟨x10, σ9, h1, h⟩ := k_ob2 h
          refine k_callVi C hP hap hAA (c_X3_refuse l ev ad σ (-2)   _ _ h1) Emb.same hap gz_X3_refuse qML_RX3_60 qIM_yX3_refuse qSE_yX3_refuse ⟨(Nat.le_of_ble_eq_true rfl), (Nat.le_of_ble_eq_true rfl)⟩ (q0 := 0) rfl (by decide) rfl rfl rfl rfl hl.1 rfl (Nat.le_of_ble_eq_true rfl) dX3_row_34 ⟨Nat.le_refl _, Nat.le_refl _⟩ (fun H locs hP => ?_)
          exact e_iret C hend hP (k_some2 h).1 (congrArg (xw ev ad) (k_some2 h).2) dX3_row_37
        · have h := k_nf c22 h
          refine lv_iload_n hx hb dX3_row_25 rfl (lv_at hl 4 rfl) ?_
          refine lv_bipush (v := 40) hx hb dX3_row_26 (by decide) ?_
          refine lv_icmp_le (tgt := 38) hx hb dX3_row_28 (by decide) (fun c28 => ?_) (fun c28 => ?_)
          · have h := k_if c28 h
            refine lv_aload hx hb dX3_row_38 (lv_at hl 0 rfl) ?_
            refine lv_iload_n hx hb dX3_row_40 rfl (lv_at hl 3 rfl) ?_
            refine lv_iload_n hx hb dX3_row_41 rfl (lv_at hl 4 rfl) ?_
            obtain ⟨σ11, h1, h⟩ := k_ob h
            refine k_callVv C hP hap hAA (c_X1_layRow l ev (fun j => ad (q2 + 10 + 8 * j)) (x_shelf σ q2) a2 a3   _ h1) (em_S hq2) (apart_S hap hq2) gz_X1_layRow qML_RX3_64 qIM_yX1_layRow qSE_yX1_layRow ⟨(Nat.le_of_ble_eq_true rfl), (Nat.le_of_ble_eq_true rfl)⟩ (q0 := (q2 + 10)) rfl (by omega) (xw_shelf hq2) rfl rfl rfl hl.1 rfl (Nat.le_of_ble_eq_true rfl) dX3_row_42 ⟨Nat.le_refl _, Nat.le_refl _⟩ (fun H locs hP => ?_)
            obtain ⟨σ12, eσ12, h⟩ := k_ltx h
            rw [← eσ12] at hP
            refine lv_iconst (v := 1) hx hb dX3_row_45 (by decide) ?_
            exact e_iret C hend hP (k_some2 h).1 (congrArg (xw ev ad) (k_some2 h).2) dX3_row_46
          · have h := k_nf c28 h
            refine lv_aload_n hx hb dX3_row_31 rfl (lv_at hl 1 rfl) ?_
            refine lv_bipush (v := (-2)) hx hb dX3_row_32 (by decide) ?_
            obtain ⟨x14, σ13, h1, h⟩ := k_ob2 h
            refine k_callVi C hP hap hAA (c_X3_refuse l ev ad σ (-2)   _ _ h1) Emb.same hap gz_X3_refuse qML_RX3_60 qIM_yX3_refuse qSE_yX3_refuse ⟨(Nat.le_of_ble_eq_true rfl), (Nat.le_of_ble_eq_true rfl)⟩ (q0 := 0) rfl (by decide) rfl rfl rfl rfl hl.1 rfl (Nat.le_of_ble_eq_true rfl) dX3_row_34 ⟨Nat.le_refl _, Nat.le_refl _⟩ (fun H locs hP => ?_)
            exact e_iret C hend hP (k_some2 h).1 (congrArg (xw ev ad) (k_some2 h).2) dX3_row_37
def f_X3_rowTrouble_n  : Int32 :=
  (-2)
set_option maxHeartbeats 4000000 in
set_option maxRecDepth 100000 in
theorem c_X3_rowTrouble_n (l : Launch) (ev : EV) (ad : Nat → Nat)    (r : Int32)  (h : f_X3_rowTrouble_n  = r) : Ct l yX3_rowTrouble prog_1_method_71_code 1 (Option.some Jvm.ClassFile.FieldType.int) (rmk 0 0) ev 0 ad w00 w00 [.null] (some (.int r)) := by
  refine Ct.of (by decide +kernel) (Nat.le_of_ble_eq_true rfl) ?_
  intro p e s m args below meth c Qc C hap hP hend ls hl
  have hAA : ∀ j, j < 0 → inA ad 0 (ad j) := fun j hj => ⟨j, hj, rfl⟩
  have hx := C.1
  have hb := C.2.1
  have hl : lv_has ls 1 [(0, .null)] := hl
  have h := (f_X3_rowTrouble_n.eq_1 ).symm.trans h
  refine lv_aload_nN hx hb dX3_rowTrouble_0 rfl (lv_at hl 0 rfl) ?_
  refine lv_ifnonnullN hx hb dX3_rowTrouble_1 ?_
  refine lv_bipush (v := (-2)) hx hb dX3_rowTrouble_4 (by decide) ?_
  exact e_iret C hend hP h rfl dX3_rowTrouble_6
def f_X3_rowTrouble_s (σ : SS) : Int32 :=
  if (f_X1_bearsPlayer σ) = true then (-3) else if (f_X1_bearsRow σ) = true then 0 else (-4)
set_option maxHeartbeats 4000000 in
set_option maxRecDepth 100000 in
theorem c_X3_rowTrouble_s (l : Launch) (ev : EV) (ad : Nat → Nat) (σ : SS)   (r : Int32)  (h : f_X3_rowTrouble_s σ = r) : Ct l yX3_rowTrouble prog_1_method_71_code 1 (Option.some Jvm.ClassFile.FieldType.int) (rmk 1 20) ev 2 ad (sw ev ad σ) (sw ev ad σ) [.ref (ad 0)] (some (.int r)) := by
  refine Ct.of (by decide +kernel) (Nat.le_of_ble_eq_true rfl) ?_
  intro p e s m args below meth c Qc C hap hP hend ls hl
  have hAA : ∀ j, j < 2 → inA ad 2 (ad j) := fun j hj => ⟨j, hj, rfl⟩
  have hx := C.1
  have hb := C.2.1
  have hl : lv_has ls 1 [(0, .ref (ad 0))] := hl
  have h := (f_X3_rowTrouble_s.eq_1 _ ).symm.trans h
  refine lv_aload_n hx hb dX3_rowTrouble_0 rfl (lv_at hl 0 rfl) ?_
  refine lv_ifnonnull (tgt := 7) hx hb dX3_rowTrouble_1 (by decide) ?_
  refine lv_aload_n hx hb dX3_rowTrouble_7 rfl (lv_at hl 0 rfl) ?_
  refine k_callVi C hP hap hAA (c_X1_bearsPlayer l ev ad σ   _ rfl) Emb.same hap gz_X1_bearsPlayer qML_RX3_80 qIM_yX1_bearsPlayer qSE_yX1_bearsPlayer ⟨(Nat.le_of_ble_eq_true rfl), (Nat.le_of_ble_eq_true rfl)⟩ (q0 := 0) rfl (by decide) rfl rfl rfl rfl hl.1 rfl (Nat.le_of_ble_eq_true rfl) dX3_rowTrouble_8 ⟨Nat.le_refl _, Nat.le_refl _⟩ (fun H locs hP => ?_)
  refine r_ifz_eq (tgt := 17) hx hb dX3_rowTrouble_11 (by decide) (fun c11 => ?_) (fun c11 => ?_)
  · have h := k_nf c11 h
    refine lv_aload_n hx hb dX3_rowTrouble_17 rfl (lv_at hl 0 rfl) ?_
    refine k_callVi C hP hap hAA (c_X1_bearsRow l ev ad σ   _ rfl) Emb.same hap gz_X1_bearsRow qML_RX3_84 qIM_yX1_bearsRow qSE_yX1_bearsRow ⟨(Nat.le_of_ble_eq_true rfl), (Nat.le_of_ble_eq_true rfl)⟩ (q0 := 0) rfl (by decide) rfl rfl rfl rfl hl.1 rfl (Nat.le_of_ble_eq_true rfl) dX3_rowTrouble_18 ⟨Nat.le_refl _, Nat.le_refl _⟩ (fun H locs hP => ?_)
    refine r_ifz_eq (tgt := 28) hx hb dX3_rowTrouble_21 (by decide) (fun c21 => ?_) (fun c21 => ?_)
    · have h := k_nf c21 h
      refine lv_bipush (v := (-4)) hx hb dX3_rowTrouble_28 (by decide) ?_
      exact e_iret C hend hP h rfl dX3_rowTrouble_30
    · have h := k_if c21 h
      refine lv_iconst (v := 0) hx hb dX3_rowTrouble_24 (by decide) ?_
      refine lv_goto (tgt := 30) hx hb dX3_rowTrouble_25 (by decide) ?_
      exact e_iret C hend hP h rfl dX3_rowTrouble_30
  · have h := k_if c11 h
    refine lv_bipush (v := (-3)) hx hb dX3_rowTrouble_14 (by decide) ?_
    exact e_iret C hend hP h rfl dX3_rowTrouble_16
def f_X3_set (σ : XX) (a1 : Int32) (a2 : Int32) (a3 : Int64) : Option (Int32 × XX) :=
  ob (f_X3_shelfAt σ a1) (fun o1 => om o1 (if f_X3_rowTrouble_n = 0 then ob2 (f_X3_refuse σ (-2)) (fun x4 σ3 => some (x4, σ3)) else ob2 (f_X3_refuse σ f_X3_rowTrouble_n) (fun x6 σ5 => some (x6, σ5))) (fun q2 => gd (decide (q2 < 8)) (lt (f_X3_rowTrouble_s (x_shelf σ q2)) (fun x7 => if x7 = 0 then if (f_X1_reaches (x_shelf σ q2) a2) = true then ob (f_X1_put (x_shelf σ q2) a2 a3) (fun σ8 => lt (x_shelf' σ q2 σ8) (fun σ9 => some (1, σ9))) else ob2 (f_X3_refuse σ (-2)) (fun x11 σ10 => some (x11, σ10)) else ob2 (f_X3_refuse σ x7) (fun x13 σ12 => some (x13, σ12))))))
set_option maxHeartbeats 4000000 in
set_option maxRecDepth 100000 in
theorem c_X3_set (l : Launch) (ev : EV) (ad : Nat → Nat) (σ : XX) (a1 : Int32) (a2 : Int32) (a3 : Int64)   (r : Int32) (σ' : XX) (h : f_X3_set σ a1 a2 a3 = some (r, σ')) : Ct l yX3_set prog_1_method_3_code 7 (Option.some Jvm.ClassFile.FieldType.int) (rmk 3 65) ev 26 ad (xw ev ad σ) (xw ev ad σ') [.ref (ad 0), .int a1, .int a2, .long a3] (some (.int r)) := by
  refine Ct.of (by decide +kernel) (Nat.le_of_ble_eq_true rfl) ?_
  intro p e s m args below meth c Qc C hap hP hend ls hl
  have hAA : ∀ j, j < 26 → inA ad 26 (ad j) := fun j hj => ⟨j, hj, rfl⟩
  have hx := C.1
  have hb := C.2.1
  have hl : lv_has ls 7 [(0, .ref (ad 0)), (1, .int a1), (2, .int a2), (3, .long a3)] := hl
  have h := (f_X3_set.eq_1 _ _ _ _ ).symm.trans h
  refine lv_aload_n hx hb dX3_set_0 rfl (lv_at hl 0 rfl) ?_
  refine lv_iload_n hx hb dX3_set_1 rfl (lv_at hl 1 rfl) ?_
  obtain ⟨o1, h1, h⟩ := k_ob h
  refine k_callVo C hP hap hAA (c_X3_shelfAt l ev ad σ a1   _ h1) Emb.same hap gz_X3_shelfAt qML_RX3_56 qIM_yX3_shelfAt qSE_yX3_shelfAt ⟨(Nat.le_of_ble_eq_true rfl), (Nat.le_of_ble_eq_true rfl)⟩ (q0 := 0) rfl (by decide) rfl rfl rfl rfl hl.1 rfl (Nat.le_of_ble_eq_true rfl) dX3_set_2 ⟨Nat.le_refl _, Nat.le_refl _⟩ (fun H locs hP => ?_)
  rcases o1 with _ | q2
  · have h := k_omN h
    refine lv_astoreN (lv' := [(5, .null), (0, .ref (ad 0)), (1, .int a1), (2, .int a2), (3, .long a3)]) hx hb dX3_set_5 hl (by decide) rfl (fun ls hl => ?_)
    refine lv_aloadN hx hb dX3_set_7 (lv_at hl 0 rfl) ?_
    refine k_callSi C hP hap hAA (c_X3_rowTrouble_n l ev ad    _ rfl) Emb.none (apart_0 _) gz_X3_rowTrouble qML_RX3_68 qSM_yX3_rowTrouble ⟨(Nat.le_of_ble_eq_true rfl), (Nat.le_of_ble_eq_true rfl)⟩ rfl hl.1 rfl (Nat.le_of_ble_eq_true rfl) dX3_set_9 ⟨Nat.le_refl _, Nat.le_refl _⟩ (fun H locs hP => ?_)
    refine lv_istore (lv' := [(6, .int f_X3_rowTrouble_n), (5, .null), (0, .ref (ad 0)), (1, .int a1), (2, .int a2), (3, .long a3)]) hx hb dX3_set_12 hl (by decide) rfl (fun ls hl => ?_)
    refine lv_iload hx hb dX3_set_14 (lv_at hl 0 rfl) ?_
    refine lv_if_eq (tgt := 26) hx hb dX3_set_16 (by decide) (fun c16 => ?_) (fun c16 => ?_)
    · have h := k_if c16 h
      refine lv_aloadN hx hb dX3_set_26 (lv_at hl 1 rfl) ?_
      refine lv_ifnullN (tgt := 40) hx hb dX3_set_28 (by decide) ?_
      refine lv_aload_n hx hb dX3_set_40 rfl (lv_at hl 2 rfl) ?_
      refine lv_bipush (v := (-2)) hx hb dX3_set_41 (by decide) ?_
      obtain ⟨x4, σ3, h1, h⟩ := k_ob2 h
      refine k_callVi C hP hap hAA (c_X3_refuse l ev ad σ (-2)   _ _ h1) Emb.same hap gz_X3_refuse qML_RX3_60 qIM_yX3_refuse qSE_yX3_refuse ⟨(Nat.le_of_ble_eq_true rfl), (Nat.le_of_ble_eq_true rfl)⟩ (q0 := 0) rfl (by decide) rfl rfl rfl rfl hl.1 rfl (Nat.le_of_ble_eq_true rfl) dX3_set_43 ⟨Nat.le_refl _, Nat.le_refl _⟩ (fun H locs hP => ?_)
      exact e_iret C hend hP (k_some2 h).1 (congrArg (xw ev ad) (k_some2 h).2) dX3_set_46
    · have h := k_nf c16 h
      refine lv_aload_n hx hb dX3_set_19 rfl (lv_at hl 2 rfl) ?_
      refine lv_iload hx hb dX3_set_20 (lv_at hl 0 rfl) ?_
      obtain ⟨x6, σ5, h1, h⟩ := k_ob2 h
      refine k_callVi C hP hap hAA (c_X3_refuse l ev ad σ f_X3_rowTrouble_n   _ _ h1) Emb.same hap gz_X3_refuse qML_RX3_60 qIM_yX3_refuse qSE_yX3_refuse ⟨(Nat.le_of_ble_eq_true rfl), (Nat.le_of_ble_eq_true rfl)⟩ (q0 := 0) rfl (by decide) rfl rfl rfl rfl hl.1 rfl (Nat.le_of_ble_eq_true rfl) dX3_set_22 ⟨Nat.le_refl _, Nat.le_refl _⟩ (fun H locs hP => ?_)
      exact e_iret C hend hP (k_some2 h).1 (congrArg (xw ev ad) (k_some2 h).2) dX3_set_25
  · obtain ⟨hg, h⟩ := k_gd (k_omS h)
    have hq2 : q2 < 8 := of_decide_eq_true hg
    refine lv_astore (lv' := [(5, .ref (ad (q2 + 10))), (0, .ref (ad 0)), (1, .int a1), (2, .int a2), (3, .long a3)]) hx hb dX3_set_5 hl (by decide) rfl (fun ls hl => ?_)
    refine lv_aload hx hb dX3_set_7 (lv_at hl 0 rfl) ?_
    refine k_callSi C hP hap hAA (c_X3_rowTrouble_s l ev (fun j => ad (q2 + 10 + 8 * j)) (x_shelf σ q2)   _ rfl) (em_Sr hq2) (apart_S hap hq2) gz_X3_rowTrouble qML_RX3_68 qSM_yX3_rowTrouble ⟨(Nat.le_of_ble_eq_true rfl), (Nat.le_of_ble_eq_true rfl)⟩ rfl hl.1 rfl (Nat.le_of_ble_eq_true rfl) dX3_set_9 ⟨Nat.le_refl _, Nat.le_refl _⟩ (fun H locs hP => ?_)
    refine lv_topi (fun x7 ex7 => ?_)
    have h := k_lt ex7 h
    refine lv_istore (lv' := [(6, .int x7), (5, .ref (ad (q2 + 10))), (0, .ref (ad 0)), (1, .int a1), (2, .int a2), (3, .long a3)]) hx hb dX3_set_12 hl (by decide) rfl (fun ls hl => ?_)
    refine lv_iload hx hb dX3_set_14 (lv_at hl 0 rfl) ?_
    refine lv_if_eq (tgt := 26) hx hb dX3_set_16 (by decide) (fun c16 => ?_) (fun c16 => ?_)
    · have h := k_if c16 h
      refine lv_aload hx hb dX3_set_26 (lv_at hl 1 rfl) ?_
      refine lv_ifnull hx hb dX3_set_28 ?_
      refine lv_aload hx hb dX3_set_31 (lv_at hl 1 rfl) ?_
      refine lv_iload_n hx hb dX3_set_33 rfl (lv_at hl 4 rfl) ?_
      refine k_callVi C hP hap hAA (c_X1_reaches l ev (fun j => ad (q2 + 10 + 8 * j)) (x_shelf σ q2) a2   _ rfl) (em_Sr hq2) (apart_S hap hq2) gz_X1_reaches qML_RX3_72 qIM_yX1_reaches qSE_yX1_reaches ⟨(Nat.le_of_ble_eq_true rfl), (Nat.le_of_ble_eq_true rfl)⟩ (q0 := (q2 + 10)) rfl (by omega) (xw_shelf hq2) rfl rfl rfl hl.1 rfl (Nat.le_of_ble_eq_true rfl) dX3_set_34 ⟨Nat.le_refl _, Nat.le_refl _⟩ (fun H locs hP => ?_)
      refine r_ifz_ne (tgt := 47) hx hb dX3_set_37 (by decide) (fun c37 => ?_) (fun c37 => ?_)
      · have h := k_if c37 h
        refine lv_aload hx hb dX3_set_47 (lv_at hl 1 rfl) ?_
        refine lv_iload_n hx hb dX3_set_49 rfl (lv_at hl 4 rfl) ?_
        refine lv_lload_n hx hb dX3_set_50 rfl (lv_at hl 5 rfl) ?_
        obtain ⟨σ8, h1, h⟩ := k_ob h
        refine k_callVv C hP hap hAA (c_X1_put l ev (fun j => ad (q2 + 10 + 8 * j)) (x_shelf σ q2) a2 a3   _ h1) (em_S hq2) (apart_S hap hq2) gz_X1_put qML_RX3_76 qIM_yX1_put qSE_yX1_put ⟨(Nat.le_of_ble_eq_true rfl), (Nat.le_of_ble_eq_true rfl)⟩ (q0 := (q2 + 10)) rfl (by omega) (xw_shelf hq2) rfl rfl rfl hl.1 rfl (Nat.le_of_ble_eq_true rfl) dX3_set_51 ⟨Nat.le_refl _, Nat.le_refl _⟩ (fun H locs hP => ?_)
        obtain ⟨σ9, eσ9, h⟩ := k_ltx h
        rw [← eσ9] at hP
        refine lv_iconst (v := 1) hx hb dX3_set_54 (by decide) ?_
        exact e_iret C hend hP (k_some2 h).1 (congrArg (xw ev ad) (k_some2 h).2) dX3_set_55
      · have h := k_nf c37 h
        refine lv_aload_n hx hb dX3_set_40 rfl (lv_at hl 2 rfl) ?_
        refine lv_bipush (v := (-2)) hx hb dX3_set_41 (by decide) ?_
        obtain ⟨x11, σ10, h1, h⟩ := k_ob2 h
        refine k_callVi C hP hap hAA (c_X3_refuse l ev ad σ (-2)   _ _ h1) Emb.same hap gz_X3_refuse qML_RX3_60 qIM_yX3_refuse qSE_yX3_refuse ⟨(Nat.le_of_ble_eq_true rfl), (Nat.le_of_ble_eq_true rfl)⟩ (q0 := 0) rfl (by decide) rfl rfl rfl rfl hl.1 rfl (Nat.le_of_ble_eq_true rfl) dX3_set_43 ⟨Nat.le_refl _, Nat.le_refl _⟩ (fun H locs hP => ?_)
        exact e_iret C hend hP (k_some2 h).1 (congrArg (xw ev ad) (k_some2 h).2) dX3_set_46
    · have h := k_nf c16 h
      refine lv_aload_n hx hb dX3_set_19 rfl (lv_at hl 2 rfl) ?_
      refine lv_iload hx hb dX3_set_20 (lv_at hl 0 rfl) ?_
      obtain ⟨x13, σ12, h1, h⟩ := k_ob2 h
      refine k_callVi C hP hap hAA (c_X3_refuse l ev ad σ x7   _ _ h1) Emb.same hap gz_X3_refuse qML_RX3_60 qIM_yX3_refuse qSE_yX3_refuse ⟨(Nat.le_of_ble_eq_true rfl), (Nat.le_of_ble_eq_true rfl)⟩ (q0 := 0) rfl (by decide) rfl rfl rfl rfl hl.1 rfl (Nat.le_of_ble_eq_true rfl) dX3_set_22 ⟨Nat.le_refl _, Nat.le_refl _⟩ (fun H locs hP => ?_)
      exact e_iret C hend hP (k_some2 h).1 (congrArg (xw ev ad) (k_some2 h).2) dX3_set_25
def f_X3_element (σ : XX) (a1 : Int32) (a2 : Int32) : Option (Int64) :=
  ob (f_X3_shelfAt σ a1) (fun o1 => om o1 (some 0) (fun q2 => gd (decide (q2 < 8)) (ob (f_X1_elementAt (x_shelf σ q2) a2) (fun y3 => some y3))))
set_option maxHeartbeats 4000000 in
set_option maxRecDepth 100000 in
theorem c_X3_element (l : Launch) (ev : EV) (ad : Nat → Nat) (σ : XX) (a1 : Int32) (a2 : Int32)   (r : Int64)  (h : f_X3_element σ a1 a2 = some r) : Ct l yX3_element prog_1_method_5_code 4 (Option.some Jvm.ClassFile.FieldType.long) (rmk 2 42) ev 26 ad (xw ev ad σ) (xw ev ad σ) [.ref (ad 0), .int a1, .int a2] (some (.long r)) := by
  refine Ct.of (by decide +kernel) (Nat.le_of_ble_eq_true rfl) ?_
  intro p e s m args below meth c Qc C hap hP hend ls hl
  have hAA : ∀ j, j < 26 → inA ad 26 (ad j) := fun j hj => ⟨j, hj, rfl⟩
  have hx := C.1
  have hb := C.2.1
  have hl : lv_has ls 4 [(0, .ref (ad 0)), (1, .int a1), (2, .int a2)] := hl
  have h := (f_X3_element.eq_1 _ _ _ ).symm.trans h
  refine lv_aload_n hx hb dX3_element_0 rfl (lv_at hl 0 rfl) ?_
  refine lv_iload_n hx hb dX3_element_1 rfl (lv_at hl 1 rfl) ?_
  obtain ⟨o1, h1, h⟩ := k_ob h
  refine k_callVo C hP hap hAA (c_X3_shelfAt l ev ad σ a1   _ h1) Emb.same hap gz_X3_shelfAt qML_RX3_56 qIM_yX3_shelfAt qSE_yX3_shelfAt ⟨(Nat.le_of_ble_eq_true rfl), (Nat.le_of_ble_eq_true rfl)⟩ (q0 := 0) rfl (by decide) rfl rfl rfl rfl hl.1 rfl (Nat.le_of_ble_eq_true rfl) dX3_element_2 ⟨Nat.le_refl _, Nat.le_refl _⟩ (fun H locs hP => ?_)
  rcases o1 with _ | q2
  · have h := k_omN h
    refine lv_astore_nN (lv' := [(3, .null), (0, .ref (ad 0)), (1, .int a1), (2, .int a2)]) hx hb dX3_element_5 rfl hl (by decide) rfl (fun ls hl => ?_)
    refine lv_aload_nN hx hb dX3_element_6 rfl (lv_at hl 0 rfl) ?_
    refine lv_ifnonnullN hx hb dX3_element_7 ?_
    refine lv_lconst (v := 0) hx hb dX3_element_10 (by decide) ?_
    refine lv_goto (tgt := 19) hx hb dX3_element_11 (by decide) ?_
    exact e_lret C hend hP (k_some h) rfl dX3_element_19
  · obtain ⟨hg, h⟩ := k_gd (k_omS h)
    have hq2 : q2 < 8 := of_decide_eq_true hg
    refine lv_astore_n (lv' := [(3, .ref (ad (q2 + 10))), (0, .ref (ad 0)), (1, .int a1), (2, .int a2)]) hx hb dX3_element_5 rfl hl (by decide) rfl (fun ls hl => ?_)
    refine lv_aload_n hx hb dX3_element_6 rfl (lv_at hl 0 rfl) ?_
    refine lv_ifnonnull (tgt := 14) hx hb dX3_element_7 (by decide) ?_
    refine lv_aload_n hx hb dX3_element_14 rfl (lv_at hl 0 rfl) ?_
    refine lv_iload_n hx hb dX3_element_15 rfl (lv_at hl 3 rfl) ?_
    obtain ⟨y3, h1, h⟩ := k_ob h
    refine k_callVl C hP hap hAA (c_X1_elementAt l ev (fun j => ad (q2 + 10 + 8 * j)) (x_shelf σ q2) a2   _ h1) (em_Sr hq2) (apart_S hap hq2) gz_X1_elementAt qML_RX3_104 qIM_yX1_elementAt qSE_yX1_elementAt ⟨(Nat.le_of_ble_eq_true rfl), (Nat.le_of_ble_eq_true rfl)⟩ (q0 := (q2 + 10)) rfl (by omega) (xw_shelf hq2) rfl rfl rfl hl.1 rfl (Nat.le_of_ble_eq_true rfl) dX3_element_16 ⟨Nat.le_refl _, Nat.le_refl _⟩ (fun H locs hP => ?_)
    exact e_lret C hend hP (k_some h) rfl dX3_element_19
