/-! functions read off, and their contracts: by program (wip/whole/gen2.py) -/
def f_X3_board (σ : XX) : Option (Int32 × XX) :=
  ob (f_X0_become (x_thought σ) (x_now σ)) (fun σ1 => lt (x_thought' σ σ1) (fun σ2 => lt (x_crewRead' σ2 (x_crew σ2)) (fun σ3 => ob (f_X2_rewind (x_tape σ3)) (fun σ4 => lt (x_tape' σ3 σ4) (fun σ5 => ob2 (f_X3_readStatements σ5) (fun x7 σ6 => lt (t_from (x_tape σ6)) (fun x8 => lt (x_tape' σ6 (t_length' (x_tape σ6) 0)) (fun σ9 => if x7 = (-1) then ob2 (f_X3_refuse σ9 (-2)) (fun x14 σ13 => some (((-20) - x8), σ13)) else ob (f_X0_become (x_now σ9) (x_thought σ9)) (fun σ10 => lt (x_now' σ9 σ10) (fun σ11 => lt (x_crew' σ11 (x_crewRead σ11)) (fun σ12 => some (x7, σ12))))))))))))
set_option maxHeartbeats 4000000 in
set_option maxRecDepth 100000 in
theorem c_X3_board (l : Launch) (ev : EV) (ad : Nat → Nat) (σ : XX)   (r : Int32) (σ' : XX) (h : f_X3_board σ = some (r, σ')) : Ct l yX3_board prog_1_method_14_code 3 (Option.some Jvm.ClassFile.FieldType.int) (rmk 11 364) ev 26 ad (xw ev ad σ) (xw ev ad σ') [.ref (ad 0)] (some (.int r)) := by
  refine Ct.of (by decide +kernel) (Nat.le_of_ble_eq_true rfl) ?_
  intro p e s m args below meth c Qc C hap hP hend ls hl
  have hAA : ∀ j, j < 26 → inA ad 26 (ad j) := fun j hj => ⟨j, hj, rfl⟩
  have hx := C.1
  have hb := C.2.1
  have hl : lv_has ls 3 [(0, .ref (ad 0))] := hl
  have h := (f_X3_board.eq_1 _ ).symm.trans h
  refine lv_aload_n hx hb dX3_board_0 rfl (lv_at hl 0 rfl) ?_
  refine r_get C hP (ci := 3) rfl uin_X3 1 (by decide) 0 (by decide) rfl qFL_RX3_16 rfl rfl dX3_board_1 ?_
  refine lv_aload_n hx hb dX3_board_4 rfl (lv_at hl 0 rfl) ?_
  refine r_get C hP (ci := 3) rfl uin_X3 0 (by decide) 0 (by decide) rfl qFL_RX3_10 rfl rfl dX3_board_5 ?_
  obtain ⟨σ1, h1, h⟩ := k_ob h
  refine k_callVv C hP hap hAA (c_X0_become l ev (fun j => if j = 0 then ad 2 else ad 1) (x_thought σ) (x_now σ)   _ h1) (em_GG21) (apart_GG hap (by decide) (by decide) (by decide)) gz_X0_become qML_RX3_165 qIM_yX0_become qSE_yX0_become ⟨(Nat.le_of_ble_eq_true rfl), (Nat.le_of_ble_eq_true rfl)⟩ (q0 := 2) rfl (by decide) rfl rfl rfl rfl hl.1 rfl (Nat.le_of_ble_eq_true rfl) dX3_board_8 ⟨Nat.le_refl _, Nat.le_refl _⟩ (fun H locs hP => ?_)
  obtain ⟨σ2, eσ2, h⟩ := k_ltx h
  rw [← eσ2] at hP
  refine lv_aload_n hx hb dX3_board_11 rfl (lv_at hl 0 rfl) ?_
  refine lv_aload_n hx hb dX3_board_12 rfl (lv_at hl 0 rfl) ?_
  refine r_get C hP (ci := 3) rfl uin_X3 6 (by decide) 0 (by decide) rfl qFL_RX3_33 rfl rfl dX3_board_13 ?_
  obtain ⟨σ3, eσ3, h⟩ := k_ltx h
  refine pt_X_X3_crewRead C hP hap hAA eσ3 qFL_RX3_36 dX3_board_16 (fun H locs hP => ?_)
  refine lv_aload_n hx hb dX3_board_19 rfl (lv_at hl 0 rfl) ?_
  refine r_get C hP (ci := 3) rfl uin_X3 9 (by decide) 0 (by decide) rfl qFL_RX3_48 rfl rfl dX3_board_20 ?_
  obtain ⟨σ4, h1, h⟩ := k_ob h
  refine k_callVv C hP hap hAA (c_X2_rewind l ev (fun j => ad (j + 8)) (x_tape σ3)   _ h1) (em_T) (apart_T hap) gz_X2_rewind qML_RX3_169 qIM_yX2_rewind qSE_yX2_rewind ⟨(Nat.le_of_ble_eq_true rfl), (Nat.le_of_ble_eq_true rfl)⟩ (q0 := 8) rfl (by decide) rfl rfl rfl rfl hl.1 rfl (Nat.le_of_ble_eq_true rfl) dX3_board_23 ⟨Nat.le_refl _, Nat.le_refl _⟩ (fun H locs hP => ?_)
  obtain ⟨σ5, eσ5, h⟩ := k_ltx h
  rw [← eσ5] at hP
  refine lv_aload_n hx hb dX3_board_26 rfl (lv_at hl 0 rfl) ?_
  obtain ⟨x7, σ6, h1, h⟩ := k_ob2 h
  refine k_callVi C hP hap hAA (c_X3_readStatements l ev ad σ5   _ _ h1) Emb.same hap gz_X3_readStatements qML_RX3_172 qIM_yX3_readStatements qSE_yX3_readStatements ⟨(Nat.le_of_ble_eq_true rfl), (Nat.le_of_ble_eq_true rfl)⟩ (q0 := 0) rfl (by decide) rfl rfl rfl rfl hl.1 rfl (Nat.le_of_ble_eq_true rfl) dX3_board_27 ⟨Nat.le_refl _, Nat.le_refl _⟩ (fun H locs hP => ?_)
  refine lv_istore_n (lv' := [(1, .int x7), (0, .ref (ad 0))]) hx hb dX3_board_30 rfl hl (by decide) rfl (fun ls hl => ?_)
  refine lv_aload_n hx hb dX3_board_31 rfl (lv_at hl 1 rfl) ?_
  refine r_get C hP (ci := 3) rfl uin_X3 9 (by decide) 0 (by decide) rfl qFL_RX3_48 rfl rfl dX3_board_32 ?_
  refine r_get C hP (ci := 2) rfl uin_X2 2 (by decide) 8 (by decide) rfl qFL_RX3_176 rfl rfl dX3_board_35 ?_
  refine lv_topi (fun x8 ex8 => ?_)
  have h := k_lt ex8 h
  refine lv_istore_n (lv' := [(2, .int x8), (1, .int x7), (0, .ref (ad 0))]) hx hb dX3_board_38 rfl hl (by decide) rfl (fun ls hl => ?_)
  refine lv_aload_n hx hb dX3_board_39 rfl (lv_at hl 2 rfl) ?_
  refine r_get C hP (ci := 3) rfl uin_X3 9 (by decide) 0 (by decide) rfl qFL_RX3_48 rfl rfl dX3_board_40 ?_
  refine lv_iconst (v := 0) hx hb dX3_board_43 (by decide) ?_
  obtain ⟨σ9, eσ9, h⟩ := k_ltx h
  refine pt_X8_X2_length C hP hap hAA eσ9 qFL_RX3_159 dX3_board_44 (fun H locs hP => ?_)
  refine lv_iload_n hx hb dX3_board_47 rfl (lv_at hl 1 rfl) ?_
  refine lv_iconst (v := (-1)) hx hb dX3_board_48 (by decide) ?_
  refine lv_icmp_ne (tgt := 64) hx hb dX3_board_49 (by decide) (fun c49 => ?_) (fun c49 => ?_)
  · have h := k_nf c49 h
    refine lv_aload_n hx hb dX3_board_64 rfl (lv_at hl 2 rfl) ?_
    refine r_get C hP (ci := 3) rfl uin_X3 0 (by decide) 0 (by decide) rfl qFL_RX3_10 rfl rfl dX3_board_65 ?_
    refine lv_aload_n hx hb dX3_board_68 rfl (lv_at hl 2 rfl) ?_
    refine r_get C hP (ci := 3) rfl uin_X3 1 (by decide) 0 (by decide) rfl qFL_RX3_16 rfl rfl dX3_board_69 ?_
    obtain ⟨σ10, h1, h⟩ := k_ob h
    refine k_callVv C hP hap hAA (c_X0_become l ev (fun j => if j = 0 then ad 1 else ad 2) (x_now σ9) (x_thought σ9)   _ h1) (em_GG12) (apart_GG hap (by decide) (by decide) (by decide)) gz_X0_become qML_RX3_165 qIM_yX0_become qSE_yX0_become ⟨(Nat.le_of_ble_eq_true rfl), (Nat.le_of_ble_eq_true rfl)⟩ (q0 := 1) rfl (by decide) rfl rfl rfl rfl hl.1 rfl (Nat.le_of_ble_eq_true rfl) dX3_board_72 ⟨Nat.le_refl _, Nat.le_refl _⟩ (fun H locs hP => ?_)
    obtain ⟨σ11, eσ11, h⟩ := k_ltx h
    rw [← eσ11] at hP
    refine lv_aload_n hx hb dX3_board_75 rfl (lv_at hl 2 rfl) ?_
    refine lv_aload_n hx hb dX3_board_76 rfl (lv_at hl 2 rfl) ?_
    refine r_get C hP (ci := 3) rfl uin_X3 7 (by decide) 0 (by decide) rfl qFL_RX3_36 rfl rfl dX3_board_77 ?_
    obtain ⟨σ12, eσ12, h⟩ := k_ltx h
    refine pt_X_X3_crew C hP hap hAA eσ12 qFL_RX3_33 dX3_board_80 (fun H locs hP => ?_)
    refine lv_iload_n hx hb dX3_board_83 rfl (lv_at hl 1 rfl) ?_
    exact e_iret C hend hP (k_some2 h).1 (congrArg (xw ev ad) (k_some2 h).2) dX3_board_84
  · have h := k_if c49 h
    refine lv_aload_n hx hb dX3_board_52 rfl (lv_at hl 2 rfl) ?_
    refine lv_bipush (v := (-2)) hx hb dX3_board_53 (by decide) ?_
    obtain ⟨x14, σ13, h1, h⟩ := k_ob2 h
    refine k_callVi C hP hap hAA (c_X3_refuse l ev ad σ9 (-2)   _ _ h1) Emb.same hap gz_X3_refuse qML_RX3_60 qIM_yX3_refuse qSE_yX3_refuse ⟨(Nat.le_of_ble_eq_true rfl), (Nat.le_of_ble_eq_true rfl)⟩ (q0 := 0) rfl (by decide) rfl rfl rfl rfl hl.1 rfl (Nat.le_of_ble_eq_true rfl) dX3_board_55 ⟨Nat.le_refl _, Nat.le_refl _⟩ (fun H locs hP => ?_)
    refine lv_pop hx hb dX3_board_58 rfl ?_
    refine lv_bipush (v := (-20)) hx hb dX3_board_59 (by decide) ?_
    refine lv_iload_n hx hb dX3_board_61 rfl (lv_at hl 0 rfl) ?_
    refine lv_isub hx hb dX3_board_62 ?_
    exact e_iret C hend hP (k_some2 h).1 (congrArg (xw ev ad) (k_some2 h).2) dX3_board_63
def f_X3_seatOf (a1 : Int32) (a2 : Int32) (a3 : Int32) : Int32 :=
  if (a2 &&& a1) = 0 then if (a3 &&& a1) = 0 then (-1) else 1 else 0
set_option maxHeartbeats 4000000 in
set_option maxRecDepth 100000 in
theorem c_X3_seatOf (l : Launch) (ev : EV) (ad : Nat → Nat) (a1 : Int32) (a2 : Int32) (a3 : Int32)   (r : Int32)  (h : f_X3_seatOf a1 a2 a3 = r) : Ct l yX3_seatOf prog_1_method_66_code 3 (Option.some Jvm.ClassFile.FieldType.int) (rmk 0 0) ev 0 ad w00 w00 [.int a1, .int a2, .int a3] (some (.int r)) := by
  refine Ct.of (by decide +kernel) (Nat.le_of_ble_eq_true rfl) ?_
  intro p e s m args below meth c Qc C hap hP hend ls hl
  have hAA : ∀ j, j < 0 → inA ad 0 (ad j) := fun j hj => ⟨j, hj, rfl⟩
  have hx := C.1
  have hb := C.2.1
  have hl : lv_has ls 3 [(0, .int a1), (1, .int a2), (2, .int a3)] := hl
  have h := (f_X3_seatOf.eq_1 _ _ _ ).symm.trans h
  refine lv_iload_n hx hb dX3_seatOf_0 rfl (lv_at hl 1 rfl) ?_
  refine lv_iload_n hx hb dX3_seatOf_1 rfl (lv_at hl 0 rfl) ?_
  refine lv_iand hx hb dX3_seatOf_2 ?_
  refine lv_if_eq (tgt := 8) hx hb dX3_seatOf_3 (by decide) (fun c3 => ?_) (fun c3 => ?_)
  · have h := k_if c3 h
    refine lv_iload_n hx hb dX3_seatOf_8 rfl (lv_at hl 2 rfl) ?_
    refine lv_iload_n hx hb dX3_seatOf_9 rfl (lv_at hl 0 rfl) ?_
    refine lv_iand hx hb dX3_seatOf_10 ?_
    refine lv_if_eq (tgt := 18) hx hb dX3_seatOf_11 (by decide) (fun c11 => ?_) (fun c11 => ?_)
    · have h := k_if c11 h
      refine lv_iconst (v := (-1)) hx hb dX3_seatOf_18 (by decide) ?_
      exact e_iret C hend hP h rfl dX3_seatOf_19
    · have h := k_nf c11 h
      refine lv_iconst (v := 1) hx hb dX3_seatOf_14 (by decide) ?_
      refine lv_goto (tgt := 19) hx hb dX3_seatOf_15 (by decide) ?_
      exact e_iret C hend hP h rfl dX3_seatOf_19
  · have h := k_nf c3 h
    refine lv_iconst (v := 0) hx hb dX3_seatOf_6 (by decide) ?_
    exact e_iret C hend hP h rfl dX3_seatOf_7
def f_X3_fieldOf (σ : XX) (a1 : Int32) (a2 : Int32) : Option (Int32 × XX) :=
  if (f_X0_isField (x_now σ) a1) = true then lt (ishl 1 a1) (fun x1 => if a2 = 0 then ob (f_X0_around (x_now σ) x1) (fun y2 => some ((f_J13_bitCount_95d88 (y2 &&& (g_hedges (x_now σ)))), σ)) else if a2 = 1 then if ((g_dug (x_now σ)) &&& x1) = 0 then some ((f_X3_truth 0), σ) else some ((f_X3_truth 1), σ) else if a2 = 2 then some ((f_X3_seatOf x1 (g_ownedBy0 (x_now σ)) (g_ownedBy1 (x_now σ))), σ) else if a2 = 3 then ob (f_X0_tinted (x_now σ) 0) (fun x3 => ob (f_X0_tinted (x_now σ) 1) (fun x4 => some ((f_X3_seatOf x1 x3 x4), σ))) else if a2 = 4 then some ((f_X0_edgeAbove (x_now σ) a1), σ) else if a2 = 5 then some ((f_X0_edgeBelow (x_now σ) a1), σ) else if a2 = 6 then ob (f_X0_edgeLeft (x_now σ) a1) (fun x5 => some (x5, σ)) else if a2 = 7 then ob (f_X0_edgeRight (x_now σ) a1) (fun x6 => some (x6, σ)) else if a2 = 8 then ob (f_X0_touched (x_now σ) (g_rimEdges (x_now σ))) (fun x7 => if (x7 &&& x1) = 0 then some ((f_X3_truth 0), σ) else some ((f_X3_truth 1), σ)) else ob2 (f_X3_refuse σ (-2)) (fun x9 σ8 => some (x9, σ8))) else ob2 (f_X3_refuse σ (-2)) (fun x11 σ10 => some (x11, σ10))
set_option maxHeartbeats 4000000 in
set_option maxRecDepth 100000 in
theorem c_X3_fieldOf (l : Launch) (ev : EV) (ad : Nat → Nat) (σ : XX) (a1 : Int32) (a2 : Int32)   (r : Int32) (σ' : XX) (h : f_X3_fieldOf σ a1 a2 = some (r, σ')) : Ct l yX3_fieldOf prog_1_method_15_code 4 (Option.some Jvm.ClassFile.FieldType.int) (rmk 6 142) ev 26 ad (xw ev ad σ) (xw ev ad σ') [.ref (ad 0), .int a1, .int a2] (some (.int r)) := by
  refine Ct.of (by decide +kernel) (Nat.le_of_ble_eq_true rfl) ?_
  intro p e s m args below meth c Qc C hap hP hend ls hl
  have hAA : ∀ j, j < 26 → inA ad 26 (ad j) := fun j hj => ⟨j, hj, rfl⟩
  have hx := C.1
  have hb := C.2.1
  have hl : lv_has ls 4 [(0, .ref (ad 0)), (1, .int a1), (2, .int a2)] := hl
  have h := (f_X3_fieldOf.eq_1 _ _ _ ).symm.trans h
  refine lv_aload_n hx hb dX3_fieldOf_0 rfl (lv_at hl 0 rfl) ?_
  refine r_get C hP (ci := 3) rfl uin_X3 0 (by decide) 0 (by decide) rfl qFL_RX3_10 rfl rfl dX3_fieldOf_1 ?_
  refine lv_iload_n hx hb dX3_fieldOf_4 rfl (lv_at hl 1 rfl) ?_
  refine k_callVi C hP hap hAA (c_X0_isField l ev (fun j => ad (j + 1)) (x_now σ) a1   _ rfl) (em_G1r) (apart_1 _) gz_X0_isField qML_RX3_179 qIM_yX0_isField qSE_yX0_isField ⟨(Nat.le_of_ble_eq_true rfl), (Nat.le_of_ble_eq_true rfl)⟩ (q0 := 1) rfl (by decide) rfl rfl rfl rfl hl.1 rfl (Nat.le_of_ble_eq_true rfl) dX3_fieldOf_5 ⟨Nat.le_refl _, Nat.le_refl _⟩ (fun H locs hP => ?_)
  refine r_ifz_ne (tgt := 18) hx hb dX3_fieldOf_8 (by decide) (fun c8 => ?_) (fun c8 => ?_)
  · have h := k_if c8 h
    refine lv_iconst (v := 1) hx hb dX3_fieldOf_18 (by decide) ?_
    refine lv_iload_n hx hb dX3_fieldOf_19 rfl (lv_at hl 1 rfl) ?_
    refine r_ishl hx hb dX3_fieldOf_20 ?_
    refine lv_topi (fun x1 ex1 => ?_)
    have h := k_lt ex1 h
    refine lv_istore_n (lv' := [(3, .int x1), (0, .ref (ad 0)), (1, .int a1), (2, .int a2)]) hx hb dX3_fieldOf_21 rfl hl (by decide) rfl (fun ls hl => ?_)
    refine lv_iload_n hx hb dX3_fieldOf_22 rfl (lv_at hl 3 rfl) ?_
    by_cases cs0 : a2 = 0
    · have h := k_if cs0 h
      refine r_tabIn (tgt := 72) (off := 49) (i := 0) hx hb dX3_fieldOf_23 cs0 (by decide) (by decide) (by decide) (by decide) ?_
      refine lv_aload_n hx hb dX3_fieldOf_72 rfl (lv_at hl 1 rfl) ?_
      refine r_get C hP (ci := 3) rfl uin_X3 0 (by decide) 0 (by decide) rfl qFL_RX3_10 rfl rfl dX3_fieldOf_73 ?_
      refine lv_iload_n hx hb dX3_fieldOf_76 rfl (lv_at hl 0 rfl) ?_
      obtain ⟨y2, h1, h⟩ := k_ob h
      refine k_callVl C hP hap hAA (c_X0_around l ev (fun j => ad (j + 1)) (x_now σ) x1   _ h1) (em_G1r) (apart_1 _) gz_X0_around qML_RX3_182 qIM_yX0_around qSE_yX0_around ⟨(Nat.le_of_ble_eq_true rfl), (Nat.le_of_ble_eq_true rfl)⟩ (q0 := 1) rfl (by decide) rfl rfl rfl rfl hl.1 rfl (Nat.le_of_ble_eq_true rfl) dX3_fieldOf_77 ⟨Nat.le_refl _, Nat.le_refl _⟩ (fun H locs hP => ?_)
      refine lv_aload_n hx hb dX3_fieldOf_80 rfl (lv_at hl 1 rfl) ?_
      refine r_get C hP (ci := 3) rfl uin_X3 0 (by decide) 0 (by decide) rfl qFL_RX3_10 rfl rfl dX3_fieldOf_81 ?_
      refine r_get C hP (ci := 0) rfl uin_X0 9 (by decide) 1 (by decide) rfl qFL_RX3_185 rfl rfl dX3_fieldOf_84 ?_
      refine lv_land hx hb dX3_fieldOf_87 ?_
      refine k_callSi C hP hap hAA (c_J13_bitCount_95d88 l ev ad (y2 &&& (g_hedges (x_now σ)))   _ rfl) Emb.none (apart_0 _) gz_J13_bitCount_95d88 qML_RX3_131 qSM_yJ13_bitCount_95d88 ⟨(Nat.le_of_ble_eq_true rfl), (Nat.le_of_ble_eq_true rfl)⟩ rfl hl.1 rfl (Nat.le_of_ble_eq_true rfl) dX3_fieldOf_88 ⟨Nat.le_refl _, Nat.le_refl _⟩ (fun H locs hP => ?_)
      exact e_iret C hend hP (k_some2 h).1 (congrArg (xw ev ad) (k_some2 h).2) dX3_fieldOf_91
    · have h := k_nf cs0 h
      by_cases cs1 : a2 = 1
      · have h := k_if cs1 h
        refine r_tabIn (tgt := 92) (off := 69) (i := 1) hx hb dX3_fieldOf_23 cs1 (by decide) (by decide) (by decide) (by decide) ?_
        refine lv_aload_n hx hb dX3_fieldOf_92 rfl (lv_at hl 1 rfl) ?_
        refine r_get C hP (ci := 3) rfl uin_X3 0 (by decide) 0 (by decide) rfl qFL_RX3_10 rfl rfl dX3_fieldOf_93 ?_
        refine r_get C hP (ci := 0) rfl uin_X0 10 (by decide) 1 (by decide) rfl qFL_RX3_189 rfl rfl dX3_fieldOf_96 ?_
        refine lv_iload_n hx hb dX3_fieldOf_99 rfl (lv_at hl 0 rfl) ?_
        refine lv_iand hx hb dX3_fieldOf_100 ?_
        refine lv_if_eq (tgt := 108) hx hb dX3_fieldOf_101 (by decide) (fun c101 => ?_) (fun c101 => ?_)
        · have h := k_if c101 h
          refine lv_iconst (v := 0) hx hb dX3_fieldOf_108 (by decide) ?_
          refine k_callSi C hP hap hAA (c_X3_truth l ev ad 0   _ rfl) Emb.none (apart_0 _) gz_X3_truth qML_RX3_192 qSM_yX3_truth ⟨(Nat.le_of_ble_eq_true rfl), (Nat.le_of_ble_eq_true rfl)⟩ rfl hl.1 rfl (Nat.le_of_ble_eq_true rfl) dX3_fieldOf_109 ⟨Nat.le_refl _, Nat.le_refl _⟩ (fun H locs hP => ?_)
          exact e_iret C hend hP (k_some2 h).1 (congrArg (xw ev ad) (k_some2 h).2) dX3_fieldOf_112
        · have h := k_nf c101 h
          refine lv_iconst (v := 1) hx hb dX3_fieldOf_104 (by decide) ?_
          refine lv_goto (tgt := 109) hx hb dX3_fieldOf_105 (by decide) ?_
          refine k_callSi C hP hap hAA (c_X3_truth l ev ad 1   _ rfl) Emb.none (apart_0 _) gz_X3_truth qML_RX3_192 qSM_yX3_truth ⟨(Nat.le_of_ble_eq_true rfl), (Nat.le_of_ble_eq_true rfl)⟩ rfl hl.1 rfl (Nat.le_of_ble_eq_true rfl) dX3_fieldOf_109 ⟨Nat.le_refl _, Nat.le_refl _⟩ (fun H locs hP => ?_)
          exact e_iret C hend hP (k_some2 h).1 (congrArg (xw ev ad) (k_some2 h).2) dX3_fieldOf_112
      · have h := k_nf cs1 h
        by_cases cs2 : a2 = 2
        · have h := k_if cs2 h
          refine r_tabIn (tgt := 113) (off := 90) (i := 2) hx hb dX3_fieldOf_23 cs2 (by decide) (by decide) (by decide) (by decide) ?_
          refine lv_iload_n hx hb dX3_fieldOf_113 rfl (lv_at hl 0 rfl) ?_
          refine lv_aload_n hx hb dX3_fieldOf_114 rfl (lv_at hl 1 rfl) ?_
          refine r_get C hP (ci := 3) rfl uin_X3 0 (by decide) 0 (by decide) rfl qFL_RX3_10 rfl rfl dX3_fieldOf_115 ?_
          refine r_get C hP (ci := 0) rfl uin_X0 11 (by decide) 1 (by decide) rfl qFL_RX3_196 rfl rfl dX3_fieldOf_118 ?_
          refine lv_aload_n hx hb dX3_fieldOf_121 rfl (lv_at hl 1 rfl) ?_
          refine r_get C hP (ci := 3) rfl uin_X3 0 (by decide) 0 (by decide) rfl qFL_RX3_10 rfl rfl dX3_fieldOf_122 ?_
          refine r_get C hP (ci := 0) rfl uin_X0 12 (by decide) 1 (by decide) rfl qFL_RX3_199 rfl rfl dX3_fieldOf_125 ?_
          refine k_callSi C hP hap hAA (c_X3_seatOf l ev ad x1 (g_ownedBy0 (x_now σ)) (g_ownedBy1 (x_now σ))   _ rfl) Emb.none (apart_0 _) gz_X3_seatOf qML_RX3_202 qSM_yX3_seatOf ⟨(Nat.le_of_ble_eq_true rfl), (Nat.le_of_ble_eq_true rfl)⟩ rfl hl.1 rfl (Nat.le_of_ble_eq_true rfl) dX3_fieldOf_128 ⟨Nat.le_refl _, Nat.le_refl _⟩ (fun H locs hP => ?_)
          exact e_iret C hend hP (k_some2 h).1 (congrArg (xw ev ad) (k_some2 h).2) dX3_fieldOf_131
        · have h := k_nf cs2 h
          by_cases cs3 : a2 = 3
          · have h := k_if cs3 h
            refine r_tabIn (tgt := 132) (off := 109) (i := 3) hx hb dX3_fieldOf_23 cs3 (by decide) (by decide) (by decide) (by decide) ?_
            refine lv_iload_n hx hb dX3_fieldOf_132 rfl (lv_at hl 0 rfl) ?_
            refine lv_aload_n hx hb dX3_fieldOf_133 rfl (lv_at hl 1 rfl) ?_
            refine r_get C hP (ci := 3) rfl uin_X3 0 (by decide) 0 (by decide) rfl qFL_RX3_10 rfl rfl dX3_fieldOf_134 ?_
            refine lv_iconst (v := 0) hx hb dX3_fieldOf_137 (by decide) ?_
            obtain ⟨x3, h1, h⟩ := k_ob h
            refine k_callVi C hP hap hAA (c_X0_tinted l ev (fun j => ad (j + 1)) (x_now σ) 0   _ h1) (em_G1r) (apart_1 _) gz_X0_tinted qML_RX3_206 qIM_yX0_tinted qSE_yX0_tinted ⟨(Nat.le_of_ble_eq_true rfl), (Nat.le_of_ble_eq_true rfl)⟩ (q0 := 1) rfl (by decide) rfl rfl rfl rfl hl.1 rfl (Nat.le_of_ble_eq_true rfl) dX3_fieldOf_138 ⟨Nat.le_refl _, Nat.le_refl _⟩ (fun H locs hP => ?_)
            refine lv_aload_n hx hb dX3_fieldOf_141 rfl (lv_at hl 1 rfl) ?_
            refine r_get C hP (ci := 3) rfl uin_X3 0 (by decide) 0 (by decide) rfl qFL_RX3_10 rfl rfl dX3_fieldOf_142 ?_
            refine lv_iconst (v := 1) hx hb dX3_fieldOf_145 (by decide) ?_
            obtain ⟨x4, h1, h⟩ := k_ob h
            refine k_callVi C hP hap hAA (c_X0_tinted l ev (fun j => ad (j + 1)) (x_now σ) 1   _ h1) (em_G1r) (apart_1 _) gz_X0_tinted qML_RX3_206 qIM_yX0_tinted qSE_yX0_tinted ⟨(Nat.le_of_ble_eq_true rfl), (Nat.le_of_ble_eq_true rfl)⟩ (q0 := 1) rfl (by decide) rfl rfl rfl rfl hl.1 rfl (Nat.le_of_ble_eq_true rfl) dX3_fieldOf_146 ⟨Nat.le_refl _, Nat.le_refl _⟩ (fun H locs hP => ?_)
            refine k_callSi C hP hap hAA (c_X3_seatOf l ev ad x1 x3 x4   _ rfl) Emb.none (apart_0 _) gz_X3_seatOf qML_RX3_202 qSM_yX3_seatOf ⟨(Nat.le_of_ble_eq_true rfl), (Nat.le_of_ble_eq_true rfl)⟩ rfl hl.1 rfl (Nat.le_of_ble_eq_true rfl) dX3_fieldOf_149 ⟨Nat.le_refl _, Nat.le_refl _⟩ (fun H locs hP => ?_)
            exact e_iret C hend hP (k_some2 h).1 (congrArg (xw ev ad) (k_some2 h).2) dX3_fieldOf_152
          · have h := k_nf cs3 h
            by_cases cs4 : a2 = 4
            · have h := k_if cs4 h
              refine r_tabIn (tgt := 153) (off := 130) (i := 4) hx hb dX3_fieldOf_23 cs4 (by decide) (by decide) (by decide) (by decide) ?_
              refine lv_aload_n hx hb dX3_fieldOf_153 rfl (lv_at hl 1 rfl) ?_
              refine r_get C hP (ci := 3) rfl uin_X3 0 (by decide) 0 (by decide) rfl qFL_RX3_10 rfl rfl dX3_fieldOf_154 ?_
              refine lv_iload_n hx hb dX3_fieldOf_157 rfl (lv_at hl 2 rfl) ?_
              refine k_callVi C hP hap hAA (c_X0_edgeAbove l ev (fun j => ad (j + 1)) (x_now σ) a1   _ rfl) (em_G1r) (apart_1 _) gz_X0_edgeAbove qML_RX3_209 qIM_yX0_edgeAbove qSE_yX0_edgeAbove ⟨(Nat.le_of_ble_eq_true rfl), (Nat.le_of_ble_eq_true rfl)⟩ (q0 := 1) rfl (by decide) rfl rfl rfl rfl hl.1 rfl (Nat.le_of_ble_eq_true rfl) dX3_fieldOf_158 ⟨Nat.le_refl _, Nat.le_refl _⟩ (fun H locs hP => ?_)
              exact e_iret C hend hP (k_some2 h).1 (congrArg (xw ev ad) (k_some2 h).2) dX3_fieldOf_161
            · have h := k_nf cs4 h
              by_cases cs5 : a2 = 5
              · have h := k_if cs5 h
                refine r_tabIn (tgt := 162) (off := 139) (i := 5) hx hb dX3_fieldOf_23 cs5 (by decide) (by decide) (by decide) (by decide) ?_
                refine lv_aload_n hx hb dX3_fieldOf_162 rfl (lv_at hl 1 rfl) ?_
                refine r_get C hP (ci := 3) rfl uin_X3 0 (by decide) 0 (by decide) rfl qFL_RX3_10 rfl rfl dX3_fieldOf_163 ?_
                refine lv_iload_n hx hb dX3_fieldOf_166 rfl (lv_at hl 2 rfl) ?_
                refine k_callVi C hP hap hAA (c_X0_edgeBelow l ev (fun j => ad (j + 1)) (x_now σ) a1   _ rfl) (em_G1r) (apart_1 _) gz_X0_edgeBelow qML_RX3_212 qIM_yX0_edgeBelow qSE_yX0_edgeBelow ⟨(Nat.le_of_ble_eq_true rfl), (Nat.le_of_ble_eq_true rfl)⟩ (q0 := 1) rfl (by decide) rfl rfl rfl rfl hl.1 rfl (Nat.le_of_ble_eq_true rfl) dX3_fieldOf_167 ⟨Nat.le_refl _, Nat.le_refl _⟩ (fun H locs hP => ?_)
                exact e_iret C hend hP (k_some2 h).1 (congrArg (xw ev ad) (k_some2 h).2) dX3_fieldOf_170
              · have h := k_nf cs5 h
                by_cases cs6 : a2 = 6
                · have h := k_if cs6 h
                  refine r_tabIn (tgt := 171) (off := 148) (i := 6) hx hb dX3_fieldOf_23 cs6 (by decide) (by decide) (by decide) (by decide) ?_
                  refine lv_aload_n hx hb dX3_fieldOf_171 rfl (lv_at hl 1 rfl) ?_
                  refine r_get C hP (ci := 3) rfl uin_X3 0 (by decide) 0 (by decide) rfl qFL_RX3_10 rfl rfl dX3_fieldOf_172 ?_
                  refine lv_iload_n hx hb dX3_fieldOf_175 rfl (lv_at hl 2 rfl) ?_
                  obtain ⟨x5, h1, h⟩ := k_ob h
                  refine k_callVi C hP hap hAA (c_X0_edgeLeft l ev (fun j => ad (j + 1)) (x_now σ) a1   _ h1) (em_G1r) (apart_1 _) gz_X0_edgeLeft qML_RX3_215 qIM_yX0_edgeLeft qSE_yX0_edgeLeft ⟨(Nat.le_of_ble_eq_true rfl), (Nat.le_of_ble_eq_true rfl)⟩ (q0 := 1) rfl (by decide) rfl rfl rfl rfl hl.1 rfl (Nat.le_of_ble_eq_true rfl) dX3_fieldOf_176 ⟨Nat.le_refl _, Nat.le_refl _⟩ (fun H locs hP => ?_)
                  exact e_iret C hend hP (k_some2 h).1 (congrArg (xw ev ad) (k_some2 h).2) dX3_fieldOf_179
                · have h := k_nf cs6 h
                  by_cases cs7 : a2 = 7
                  · have h := k_if cs7 h
                    refine r_tabIn (tgt := 180) (off := 157) (i := 7) hx hb dX3_fieldOf_23 cs7 (by decide) (by decide) (by decide) (by decide) ?_
                    refine lv_aload_n hx hb dX3_fieldOf_180 rfl (lv_at hl 1 rfl) ?_
                    refine r_get C hP (ci := 3) rfl uin_X3 0 (by decide) 0 (by decide) rfl qFL_RX3_10 rfl rfl dX3_fieldOf_181 ?_
                    refine lv_iload_n hx hb dX3_fieldOf_184 rfl (lv_at hl 2 rfl) ?_
                    obtain ⟨x6, h1, h⟩ := k_ob h
                    refine k_callVi C hP hap hAA (c_X0_edgeRight l ev (fun j => ad (j + 1)) (x_now σ) a1   _ h1) (em_G1r) (apart_1 _) gz_X0_edgeRight qML_RX3_218 qIM_yX0_edgeRight qSE_yX0_edgeRight ⟨(Nat.le_of_ble_eq_true rfl), (Nat.le_of_ble_eq_true rfl)⟩ (q0 := 1) rfl (by decide) rfl rfl rfl rfl hl.1 rfl (Nat.le_of_ble_eq_true rfl) dX3_fieldOf_185 ⟨Nat.le_refl _, Nat.le_refl _⟩ (fun H locs hP => ?_)
                    exact e_iret C hend hP (k_some2 h).1 (congrArg (xw ev ad) (k_some2 h).2) dX3_fieldOf_188
                  · have h := k_nf cs7 h
                    by_cases cs8 : a2 = 8
                    · have h := k_if cs8 h
                      refine r_tabIn (tgt := 189) (off := 166) (i := 8) hx hb dX3_fieldOf_23 cs8 (by decide) (by decide) (by decide) (by decide) ?_
                      refine lv_aload_n hx hb dX3_fieldOf_189 rfl (lv_at hl 1 rfl) ?_
                      refine r_get C hP (ci := 3) rfl uin_X3 0 (by decide) 0 (by decide) rfl qFL_RX3_10 rfl rfl dX3_fieldOf_190 ?_
                      refine lv_aload_n hx hb dX3_fieldOf_193 rfl (lv_at hl 1 rfl) ?_
                      refine r_get C hP (ci := 3) rfl uin_X3 0 (by decide) 0 (by decide) rfl qFL_RX3_10 rfl rfl dX3_fieldOf_194 ?_
                      refine r_get C hP (ci := 0) rfl uin_X0 8 (by decide) 1 (by decide) rfl qFL_RX3_221 rfl rfl dX3_fieldOf_197 ?_
                      obtain ⟨x7, h1, h⟩ := k_ob h
                      refine k_callVi C hP hap hAA (c_X0_touched l ev (fun j => ad (j + 1)) (x_now σ) (g_rimEdges (x_now σ))   _ h1) (em_G1r) (apart_1 _) gz_X0_touched qML_RX3_224 qIM_yX0_touched qSE_yX0_touched ⟨(Nat.le_of_ble_eq_true rfl), (Nat.le_of_ble_eq_true rfl)⟩ (q0 := 1) rfl (by decide) rfl rfl rfl rfl hl.1 rfl (Nat.le_of_ble_eq_true rfl) dX3_fieldOf_200 ⟨Nat.le_refl _, Nat.le_refl _⟩ (fun H locs hP => ?_)
                      refine lv_iload_n hx hb dX3_fieldOf_203 rfl (lv_at hl 0 rfl) ?_
                      refine lv_iand hx hb dX3_fieldOf_204 ?_
                      refine lv_if_eq (tgt := 212) hx hb dX3_fieldOf_205 (by decide) (fun c205 => ?_) (fun c205 => ?_)
                      · have h := k_if c205 h
                        refine lv_iconst (v := 0) hx hb dX3_fieldOf_212 (by decide) ?_
                        refine k_callSi C hP hap hAA (c_X3_truth l ev ad 0   _ rfl) Emb.none (apart_0 _) gz_X3_truth qML_RX3_192 qSM_yX3_truth ⟨(Nat.le_of_ble_eq_true rfl), (Nat.le_of_ble_eq_true rfl)⟩ rfl hl.1 rfl (Nat.le_of_ble_eq_true rfl) dX3_fieldOf_213 ⟨Nat.le_refl _, Nat.le_refl _⟩ (fun H locs hP => ?_)
                        exact e_iret C hend hP (k_some2 h).1 (congrArg (xw ev ad) (k_some2 h).2) dX3_fieldOf_216
                      · have h := k_nf c205 h
                        refine lv_iconst (v := 1) hx hb dX3_fieldOf_208 (by decide) ?_
                        refine lv_goto (tgt := 213) hx hb dX3_fieldOf_209 (by decide) ?_
                        refine k_callSi C hP hap hAA (c_X3_truth l ev ad 1   _ rfl) Emb.none (apart_0 _) gz_X3_truth qML_RX3_192 qSM_yX3_truth ⟨(Nat.le_of_ble_eq_true rfl), (Nat.le_of_ble_eq_true rfl)⟩ rfl hl.1 rfl (Nat.le_of_ble_eq_true rfl) dX3_fieldOf_213 ⟨Nat.le_refl _, Nat.le_refl _⟩ (fun H locs hP => ?_)
                        exact e_iret C hend hP (k_some2 h).1 (congrArg (xw ev ad) (k_some2 h).2) dX3_fieldOf_216
                    · have h := k_nf cs8 h
                      refine r_tabOut (tgt := 217) hx hb dX3_fieldOf_23 (fun i h1 h2 => by
                        have h3 : i = 0 ∨ i = 1 ∨ i = 2 ∨ i = 3 ∨ i = 4 ∨ i = 5 ∨ i = 6 ∨ i = 7 ∨ i = 8 := by omega
                        rcases h3 with rfl | rfl | rfl | rfl | rfl | rfl | rfl | rfl | rfl
                        · exact cs0
                        · exact cs1
                        · exact cs2
                        · exact cs3
                        · exact cs4
                        · exact cs5
                        · exact cs6
                        · exact cs7
                        · exact cs8
                        ) (by decide) ?_
                      refine lv_aload_n hx hb dX3_fieldOf_217 rfl (lv_at hl 1 rfl) ?_
                      refine lv_bipush (v := (-2)) hx hb dX3_fieldOf_218 (by decide) ?_
                      obtain ⟨x9, σ8, h1, h⟩ := k_ob2 h
                      refine k_callVi C hP hap hAA (c_X3_refuse l ev ad σ (-2)   _ _ h1) Emb.same hap gz_X3_refuse qML_RX3_60 qIM_yX3_refuse qSE_yX3_refuse ⟨(Nat.le_of_ble_eq_true rfl), (Nat.le_of_ble_eq_true rfl)⟩ (q0 := 0) rfl (by decide) rfl rfl rfl rfl hl.1 rfl (Nat.le_of_ble_eq_true rfl) dX3_fieldOf_220 ⟨Nat.le_refl _, Nat.le_refl _⟩ (fun H locs hP => ?_)
                      exact e_iret C hend hP (k_some2 h).1 (congrArg (xw ev ad) (k_some2 h).2) dX3_fieldOf_223
  · have h := k_nf c8 h
    refine lv_aload_n hx hb dX3_fieldOf_11 rfl (lv_at hl 0 rfl) ?_
    refine lv_bipush (v := (-2)) hx hb dX3_fieldOf_12 (by decide) ?_
    obtain ⟨x11, σ10, h1, h⟩ := k_ob2 h
    refine k_callVi C hP hap hAA (c_X3_refuse l ev ad σ (-2)   _ _ h1) Emb.same hap gz_X3_refuse qML_RX3_60 qIM_yX3_refuse qSE_yX3_refuse ⟨(Nat.le_of_ble_eq_true rfl), (Nat.le_of_ble_eq_true rfl)⟩ (q0 := 0) rfl (by decide) rfl rfl rfl rfl hl.1 rfl (Nat.le_of_ble_eq_true rfl) dX3_fieldOf_14 ⟨Nat.le_refl _, Nat.le_refl _⟩ (fun H locs hP => ?_)
    exact e_iret C hend hP (k_some2 h).1 (congrArg (xw ev ad) (k_some2 h).2) dX3_fieldOf_17
