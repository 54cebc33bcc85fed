/-! functions read off, and their contracts: by program (wip/whole/gen2.py) -/
def f_X3_toldTrouble_s (σ : SS) (a2 : Int32) : Int32 :=
  if a2 < 0 then (-2) else if a2 ≤ 40 then lt (f_X3_rowTrouble_s σ) (fun x1 => if x1 = 0 then if a2 ≤ (s_length σ) then x1 else (-2) else x1) else (-2)
set_option maxHeartbeats 4000000 in
set_option maxRecDepth 100000 in
theorem c_X3_toldTrouble_s (l : Launch) (ev : EV) (ad : Nat → Nat) (σ : SS) (a2 : Int32)   (r : Int32)  (h : f_X3_toldTrouble_s σ a2 = r) : Ct l yX3_toldTrouble prog_1_method_72_code 3 (Option.some Jvm.ClassFile.FieldType.int) (rmk 2 40) ev 2 ad (sw ev ad σ) (sw ev ad σ) [.ref (ad 0), .int a2] (some (.int r)) := by
  refine Ct.of (by decide +kernel) (Nat.le_of_ble_eq_true rfl) ?_
  intro p e s m args below meth c Qc C hap hP hend ls hl
  have hAA : ∀ j, j < 2 → inA ad 2 (ad j) := fun j hj => ⟨j, hj, rfl⟩
  have hx := C.1
  have hb := C.2.1
  have hl : lv_has ls 3 [(0, .ref (ad 0)), (1, .int a2)] := hl
  have h := (f_X3_toldTrouble_s.eq_1 _ _ ).symm.trans h
  refine lv_aload_n hx hb dX3_toldTrouble_0 rfl (lv_at hl 0 rfl) ?_
  refine lv_ifnull hx hb dX3_toldTrouble_1 ?_
  refine lv_iload_n hx hb dX3_toldTrouble_4 rfl (lv_at hl 1 rfl) ?_
  refine lv_if_lt (tgt := 14) hx hb dX3_toldTrouble_5 (by decide) (fun c5 => ?_) (fun c5 => ?_)
  · have h := k_if c5 h
    refine lv_bipush (v := (-2)) hx hb dX3_toldTrouble_14 (by decide) ?_
    exact e_iret C hend hP h rfl dX3_toldTrouble_16
  · have h := k_nf c5 h
    refine lv_iload_n hx hb dX3_toldTrouble_8 rfl (lv_at hl 1 rfl) ?_
    refine lv_bipush (v := 40) hx hb dX3_toldTrouble_9 (by decide) ?_
    refine lv_icmp_le (tgt := 17) hx hb dX3_toldTrouble_11 (by decide) (fun c11 => ?_) (fun c11 => ?_)
    · have h := k_if c11 h
      refine lv_aload_n hx hb dX3_toldTrouble_17 rfl (lv_at hl 0 rfl) ?_
      refine k_callSi C hP hap hAA (c_X3_rowTrouble_s l ev ad σ   _ rfl) Emb.same hap gz_X3_rowTrouble qML_RX3_68 qSM_yX3_rowTrouble ⟨(Nat.le_of_ble_eq_true rfl), (Nat.le_of_ble_eq_true rfl)⟩ rfl hl.1 rfl (Nat.le_of_ble_eq_true rfl) dX3_toldTrouble_18 ⟨Nat.le_refl _, Nat.le_refl _⟩ (fun H locs hP => ?_)
      refine lv_topi (fun x1 ex1 => ?_)
      have h := k_lt ex1 h
      refine lv_istore_n (lv' := [(2, .int x1), (0, .ref (ad 0)), (1, .int a2)]) hx hb dX3_toldTrouble_21 rfl hl (by decide) rfl (fun ls hl => ?_)
      refine lv_iload_n hx hb dX3_toldTrouble_22 rfl (lv_at hl 0 rfl) ?_
      refine lv_if_ne (tgt := 39) hx hb dX3_toldTrouble_23 (by decide) (fun c23 => ?_) (fun c23 => ?_)
      · have h := k_nf c23 h
        refine lv_iload_n hx hb dX3_toldTrouble_39 rfl (lv_at hl 0 rfl) ?_
        exact e_iret C hend hP h rfl dX3_toldTrouble_40
      · have h := k_if c23 h
        refine lv_iload_n hx hb dX3_toldTrouble_26 rfl (lv_at hl 2 rfl) ?_
        refine lv_aload_n hx hb dX3_toldTrouble_27 rfl (lv_at hl 1 rfl) ?_
        refine r_get C hP (ci := 1) rfl uin_X1 1 (by decide) 0 (by decide) rfl qFL_RX3_373 rfl rfl dX3_toldTrouble_28 ?_
        refine lv_icmp_le (tgt := 39) hx hb dX3_toldTrouble_31 (by decide) (fun c31 => ?_) (fun c31 => ?_)
        · have h := k_if c31 h
          refine lv_iload_n hx hb dX3_toldTrouble_39 rfl (lv_at hl 0 rfl) ?_
          exact e_iret C hend hP h rfl dX3_toldTrouble_40
        · have h := k_nf c31 h
          refine lv_bipush (v := (-2)) hx hb dX3_toldTrouble_34 (by decide) ?_
          refine lv_goto (tgt := 40) hx hb dX3_toldTrouble_36 (by decide) ?_
          exact e_iret C hend hP h rfl dX3_toldTrouble_40
    · have h := k_nf c11 h
      refine lv_bipush (v := (-2)) hx hb dX3_toldTrouble_14 (by decide) ?_
      exact e_iret C hend hP h rfl dX3_toldTrouble_16
def f_X3_judge (σ : XX) (a1 : Int32) (a2 : Int32) : Option (Int32 × XX) :=
  ob (f_X3_shelfAt σ a1) (fun o1 => om o1 (lt (f_X3_toldTrouble_n a2) (fun x3 => if x3 = 0 then ob (f_X3_shelfAt σ a1) (fun o6 => om o6 (ob2 (f_X3_toldWrong_n σ a2) (fun x9 σ8 => some (x9, σ8))) (fun q7 => gd (decide (q7 < 8)) (ob2 (f_X3_toldWrong_s σ q7 a2) (fun x11 σ10 => some (x11, σ10))))) else ob2 (f_X3_refuse σ x3) (fun x5 σ4 => some (x5, σ4)))) (fun q2 => gd (decide (q2 < 8)) (lt (f_X3_toldTrouble_s (x_shelf σ q2) a2) (fun x12 => if x12 = 0 then ob (f_X3_shelfAt σ a1) (fun o15 => om o15 (ob2 (f_X3_toldWrong_n σ a2) (fun x18 σ17 => some (x18, σ17))) (fun q16 => gd (decide (q16 < 8)) (ob2 (f_X3_toldWrong_s σ q16 a2) (fun x20 σ19 => some (x20, σ19))))) else ob2 (f_X3_refuse σ x12) (fun x14 σ13 => some (x14, σ13))))))
set_option maxHeartbeats 4000000 in
set_option maxRecDepth 100000 in
theorem c_X3_judge (l : Launch) (ev : EV) (ad : Nat → Nat) (σ : XX) (a1 : Int32) (a2 : Int32)   (r : Int32) (σ' : XX) (h : f_X3_judge σ a1 a2 = some (r, σ')) : Ct l yX3_judge prog_1_method_50_code 4 (Option.some Jvm.ClassFile.FieldType.int) (rmk 5 107) ev 26 ad (xw ev ad σ) (xw ev ad σ') [.ref (ad 0), .int a1, .int a2] (some (.int r)) := by
  refine Ct.of (by decide +kernel) (Nat.le_of_ble_eq_true rfl) ?_
  intro p e s m args below meth c Qc C hap hP hend ls hl
  have hAA : ∀ j, j < 26 → inA ad 26 (ad j) := fun j hj => ⟨j, hj, rfl⟩
  have hx := C.1
  have hb := C.2.1
  have hl : lv_has ls 4 [(0, .ref (ad 0)), (1, .int a1), (2, .int a2)] := hl
  have h := (f_X3_judge.eq_1 _ _ _ ).symm.trans h
  refine lv_aload_n hx hb dX3_judge_0 rfl (lv_at hl 0 rfl) ?_
  refine lv_iload_n hx hb dX3_judge_1 rfl (lv_at hl 1 rfl) ?_
  obtain ⟨o1, h1, h⟩ := k_ob h
  refine k_callVo C hP hap hAA (c_X3_shelfAt l ev ad σ a1   _ h1) Emb.same hap gz_X3_shelfAt qML_RX3_56 qIM_yX3_shelfAt qSE_yX3_shelfAt ⟨(Nat.le_of_ble_eq_true rfl), (Nat.le_of_ble_eq_true rfl)⟩ (q0 := 0) rfl (by decide) rfl rfl rfl rfl hl.1 rfl (Nat.le_of_ble_eq_true rfl) dX3_judge_2 ⟨Nat.le_refl _, Nat.le_refl _⟩ (fun H locs hP => ?_)
  rcases o1 with _ | q2
  · have h := k_omN h
    refine lv_iload_n hx hb dX3_judge_5 rfl (lv_at hl 2 rfl) ?_
    refine k_callSi C hP hap hAA (c_X3_toldTrouble_n l ev ad a2   _ rfl) Emb.none (apart_0 _) gz_X3_toldTrouble qML_RX3_337 qSM_yX3_toldTrouble ⟨(Nat.le_of_ble_eq_true rfl), (Nat.le_of_ble_eq_true rfl)⟩ rfl hl.1 rfl (Nat.le_of_ble_eq_true rfl) dX3_judge_6 ⟨Nat.le_refl _, Nat.le_refl _⟩ (fun H locs hP => ?_)
    refine lv_topi (fun x3 ex3 => ?_)
    have h := k_lt ex3 h
    refine lv_istore_n (lv' := [(3, .int x3), (0, .ref (ad 0)), (1, .int a1), (2, .int a2)]) hx hb dX3_judge_9 rfl hl (by decide) rfl (fun ls hl => ?_)
    refine lv_iload_n hx hb dX3_judge_10 rfl (lv_at hl 0 rfl) ?_
    refine lv_if_ne (tgt := 27) hx hb dX3_judge_11 (by decide) (fun c11 => ?_) (fun c11 => ?_)
    · have h := k_nf c11 h
      refine lv_aload_n hx hb dX3_judge_27 rfl (lv_at hl 1 rfl) ?_
      refine lv_iload_n hx hb dX3_judge_28 rfl (lv_at hl 0 rfl) ?_
      obtain ⟨x5, σ4, h1, h⟩ := k_ob2 h
      refine k_callVi C hP hap hAA (c_X3_refuse l ev ad σ x3   _ _ h1) Emb.same hap gz_X3_refuse qML_RX3_60 qIM_yX3_refuse qSE_yX3_refuse ⟨(Nat.le_of_ble_eq_true rfl), (Nat.le_of_ble_eq_true rfl)⟩ (q0 := 0) rfl (by decide) rfl rfl rfl rfl hl.1 rfl (Nat.le_of_ble_eq_true rfl) dX3_judge_29 ⟨Nat.le_refl _, Nat.le_refl _⟩ (fun H locs hP => ?_)
      exact e_iret C hend hP (k_some2 h).1 (congrArg (xw ev ad) (k_some2 h).2) dX3_judge_32
    · have h := k_if c11 h
      refine lv_aload_n hx hb dX3_judge_14 rfl (lv_at hl 1 rfl) ?_
      refine lv_aload_n hx hb dX3_judge_15 rfl (lv_at hl 1 rfl) ?_
      refine lv_iload_n hx hb dX3_judge_16 rfl (lv_at hl 2 rfl) ?_
      obtain ⟨o6, h1, h⟩ := k_ob h
      refine k_callVo C hP hap hAA (c_X3_shelfAt l ev ad σ a1   _ h1) Emb.same hap gz_X3_shelfAt qML_RX3_56 qIM_yX3_shelfAt qSE_yX3_shelfAt ⟨(Nat.le_of_ble_eq_true rfl), (Nat.le_of_ble_eq_true rfl)⟩ (q0 := 0) rfl (by decide) rfl rfl rfl rfl hl.1 rfl (Nat.le_of_ble_eq_true rfl) dX3_judge_17 ⟨Nat.le_refl _, Nat.le_refl _⟩ (fun H locs hP => ?_)
      rcases o6 with _ | q7
      · have h := k_omN h
        refine lv_iload_n hx hb dX3_judge_20 rfl (lv_at hl 3 rfl) ?_
        obtain ⟨x9, σ8, h1, h⟩ := k_ob2 h
        refine k_callVi C hP hap hAA (c_X3_toldWrong_n l ev ad σ a2   _ _ h1) Emb.same hap gz_X3_toldWrong qML_RX3_341 qIM_yX3_toldWrong qSE_yX3_toldWrong ⟨(Nat.le_of_ble_eq_true rfl), (Nat.le_of_ble_eq_true rfl)⟩ (q0 := 0) rfl (by decide) rfl rfl rfl rfl hl.1 rfl (Nat.le_of_ble_eq_true rfl) dX3_judge_21 ⟨Nat.le_refl _, Nat.le_refl _⟩ (fun H locs hP => ?_)
        refine lv_goto (tgt := 32) hx hb dX3_judge_24 (by decide) ?_
        exact e_iret C hend hP (k_some2 h).1 (congrArg (xw ev ad) (k_some2 h).2) dX3_judge_32
      · obtain ⟨hg, h⟩ := k_gd (k_omS h)
        have hq7 : q7 < 8 := of_decide_eq_true hg
        refine lv_iload_n hx hb dX3_judge_20 rfl (lv_at hl 3 rfl) ?_
        obtain ⟨x11, σ10, h1, h⟩ := k_ob2 h
        refine k_callVi C hP hap hAA (c_X3_toldWrong_s l ev ad σ q7 a2 hq7  _ _ h1) Emb.same hap gz_X3_toldWrong qML_RX3_341 qIM_yX3_toldWrong qSE_yX3_toldWrong ⟨(Nat.le_of_ble_eq_true rfl), (Nat.le_of_ble_eq_true rfl)⟩ (q0 := 0) rfl (by decide) rfl rfl rfl rfl hl.1 rfl (Nat.le_of_ble_eq_true rfl) dX3_judge_21 ⟨Nat.le_refl _, Nat.le_refl _⟩ (fun H locs hP => ?_)
        refine lv_goto (tgt := 32) hx hb dX3_judge_24 (by decide) ?_
        exact e_iret C hend hP (k_some2 h).1 (congrArg (xw ev ad) (k_some2 h).2) dX3_judge_32
  · obtain ⟨hg, h⟩ := k_gd (k_omS h)
    have hq2 : q2 < 8 := of_decide_eq_true hg
    refine lv_iload_n hx hb dX3_judge_5 rfl (lv_at hl 2 rfl) ?_
    refine k_callSi C hP hap hAA (c_X3_toldTrouble_s l ev (fun j => ad (q2 + 10 + 8 * j)) (x_shelf σ q2) a2   _ rfl) (em_Sr hq2) (apart_S hap hq2) gz_X3_toldTrouble qML_RX3_337 qSM_yX3_toldTrouble ⟨(Nat.le_of_ble_eq_true rfl), (Nat.le_of_ble_eq_true rfl)⟩ rfl hl.1 rfl (Nat.le_of_ble_eq_true rfl) dX3_judge_6 ⟨Nat.le_refl _, Nat.le_refl _⟩ (fun H locs hP => ?_)
    refine lv_topi (fun x12 ex12 => ?_)
    have h := k_lt ex12 h
    refine lv_istore_n (lv' := [(3, .int x12), (0, .ref (ad 0)), (1, .int a1), (2, .int a2)]) hx hb dX3_judge_9 rfl hl (by decide) rfl (fun ls hl => ?_)
    refine lv_iload_n hx hb dX3_judge_10 rfl (lv_at hl 0 rfl) ?_
    refine lv_if_ne (tgt := 27) hx hb dX3_judge_11 (by decide) (fun c11 => ?_) (fun c11 => ?_)
    · have h := k_nf c11 h
      refine lv_aload_n hx hb dX3_judge_27 rfl (lv_at hl 1 rfl) ?_
      refine lv_iload_n hx hb dX3_judge_28 rfl (lv_at hl 0 rfl) ?_
      obtain ⟨x14, σ13, h1, h⟩ := k_ob2 h
      refine k_callVi C hP hap hAA (c_X3_refuse l ev ad σ x12   _ _ h1) Emb.same hap gz_X3_refuse qML_RX3_60 qIM_yX3_refuse qSE_yX3_refuse ⟨(Nat.le_of_ble_eq_true rfl), (Nat.le_of_ble_eq_true rfl)⟩ (q0 := 0) rfl (by decide) rfl rfl rfl rfl hl.1 rfl (Nat.le_of_ble_eq_true rfl) dX3_judge_29 ⟨Nat.le_refl _, Nat.le_refl _⟩ (fun H locs hP => ?_)
      exact e_iret C hend hP (k_some2 h).1 (congrArg (xw ev ad) (k_some2 h).2) dX3_judge_32
    · have h := k_if c11 h
      refine lv_aload_n hx hb dX3_judge_14 rfl (lv_at hl 1 rfl) ?_
      refine lv_aload_n hx hb dX3_judge_15 rfl (lv_at hl 1 rfl) ?_
      refine lv_iload_n hx hb dX3_judge_16 rfl (lv_at hl 2 rfl) ?_
      obtain ⟨o15, h1, h⟩ := k_ob h
      refine k_callVo C hP hap hAA (c_X3_shelfAt l ev ad σ a1   _ h1) Emb.same hap gz_X3_shelfAt qML_RX3_56 qIM_yX3_shelfAt qSE_yX3_shelfAt ⟨(Nat.le_of_ble_eq_true rfl), (Nat.le_of_ble_eq_true rfl)⟩ (q0 := 0) rfl (by decide) rfl rfl rfl rfl hl.1 rfl (Nat.le_of_ble_eq_true rfl) dX3_judge_17 ⟨Nat.le_refl _, Nat.le_refl _⟩ (fun H locs hP => ?_)
      rcases o15 with _ | q16
      · have h := k_omN h
        refine lv_iload_n hx hb dX3_judge_20 rfl (lv_at hl 3 rfl) ?_
        obtain ⟨x18, σ17, h1, h⟩ := k_ob2 h
        refine k_callVi C hP hap hAA (c_X3_toldWrong_n l ev ad σ a2   _ _ h1) Emb.same hap gz_X3_toldWrong qML_RX3_341 qIM_yX3_toldWrong qSE_yX3_toldWrong ⟨(Nat.le_of_ble_eq_true rfl), (Nat.le_of_ble_eq_true rfl)⟩ (q0 := 0) rfl (by decide) rfl rfl rfl rfl hl.1 rfl (Nat.le_of_ble_eq_true rfl) dX3_judge_21 ⟨Nat.le_refl _, Nat.le_refl _⟩ (fun H locs hP => ?_)
        refine lv_goto (tgt := 32) hx hb dX3_judge_24 (by decide) ?_
        exact e_iret C hend hP (k_some2 h).1 (congrArg (xw ev ad) (k_some2 h).2) dX3_judge_32
      · obtain ⟨hg, h⟩ := k_gd (k_omS h)
        have hq16 : q16 < 8 := of_decide_eq_true hg
        refine lv_iload_n hx hb dX3_judge_20 rfl (lv_at hl 3 rfl) ?_
        obtain ⟨x20, σ19, h1, h⟩ := k_ob2 h
        refine k_callVi C hP hap hAA (c_X3_toldWrong_s l ev ad σ q16 a2 hq16  _ _ h1) Emb.same hap gz_X3_toldWrong qML_RX3_341 qIM_yX3_toldWrong qSE_yX3_toldWrong ⟨(Nat.le_of_ble_eq_true rfl), (Nat.le_of_ble_eq_true rfl)⟩ (q0 := 0) rfl (by decide) rfl rfl rfl rfl hl.1 rfl (Nat.le_of_ble_eq_true rfl) dX3_judge_21 ⟨Nat.le_refl _, Nat.le_refl _⟩ (fun H locs hP => ?_)
        refine lv_goto (tgt := 32) hx hb dX3_judge_24 (by decide) ?_
        exact e_iret C hend hP (k_some2 h).1 (congrArg (xw ev ad) (k_some2 h).2) dX3_judge_32
def f_X3_behind (σ : XX) (a1 : Int32) (a2 : Int32) : Option (Int32 × XX) :=
  ob (f_X3_shelfAt σ a1) (fun o1 => om o1 (lt (f_X3_toldTrouble_n a2) (fun x3 => if x3 = 0 then ob (f_X3_shelfAt σ a1) (fun o4 => om o4 (ob2 (f_X3_toldWrong_n σ a2) (fun x7 σ6 => if x7 = (-1) then ob (f_X0_leadOf (x_thought σ6) 0) (fun x10 => some (x10, σ6)) else ob2 (f_X3_refuseLead σ6 (-5)) (fun x9 σ8 => some (x9, σ8)))) (fun q5 => gd (decide (q5 < 8)) (ob2 (f_X3_toldWrong_s σ q5 a2) (fun x12 σ11 => if x12 = (-1) then ob (f_X0_leadOf (x_thought σ11) 0) (fun x15 => some (x15, σ11)) else ob2 (f_X3_refuseLead σ11 (-5)) (fun x14 σ13 => some (x14, σ13)))))) else ob2 (f_X3_refuseLead σ x3) (fun x17 σ16 => some (x17, σ16)))) (fun q2 => gd (decide (q2 < 8)) (lt (f_X3_toldTrouble_s (x_shelf σ q2) a2) (fun x18 => if x18 = 0 then ob (f_X3_shelfAt σ a1) (fun o19 => om o19 (ob2 (f_X3_toldWrong_n σ a2) (fun x22 σ21 => if x22 = (-1) then ob (f_X0_leadOf (x_thought σ21) 0) (fun x25 => some (x25, σ21)) else ob2 (f_X3_refuseLead σ21 (-5)) (fun x24 σ23 => some (x24, σ23)))) (fun q20 => gd (decide (q20 < 8)) (ob2 (f_X3_toldWrong_s σ q20 a2) (fun x27 σ26 => if x27 = (-1) then ob (f_X0_leadOf (x_thought σ26) 0) (fun x30 => some (x30, σ26)) else ob2 (f_X3_refuseLead σ26 (-5)) (fun x29 σ28 => some (x29, σ28)))))) else ob2 (f_X3_refuseLead σ x18) (fun x32 σ31 => some (x32, σ31))))))
set_option maxHeartbeats 4000000 in
set_option maxRecDepth 100000 in
theorem c_X3_behind (l : Launch) (ev : EV) (ad : Nat → Nat) (σ : XX) (a1 : Int32) (a2 : Int32)   (r : Int32) (σ' : XX) (h : f_X3_behind σ a1 a2 = some (r, σ')) : Ct l yX3_behind prog_1_method_51_code 4 (Option.some Jvm.ClassFile.FieldType.int) (rmk 6 145) ev 26 ad (xw ev ad σ) (xw ev ad σ') [.ref (ad 0), .int a1, .int a2] (some (.int r)) := by
  refine Ct.of (by decide +kernel) (Nat.le_of_ble_eq_true rfl) ?_
  intro p e s m args below meth c Qc C hap hP hend ls hl
  have hAA : ∀ j, j < 26 → inA ad 26 (ad j) := fun j hj => ⟨j, hj, rfl⟩
  have hx := C.1
  have hb := C.2.1
  have hl : lv_has ls 4 [(0, .ref (ad 0)), (1, .int a1), (2, .int a2)] := hl
  have h := (f_X3_behind.eq_1 _ _ _ ).symm.trans h
  refine lv_aload_n hx hb dX3_behind_0 rfl (lv_at hl 0 rfl) ?_
  refine lv_iload_n hx hb dX3_behind_1 rfl (lv_at hl 1 rfl) ?_
  obtain ⟨o1, h1, h⟩ := k_ob h
  refine k_callVo C hP hap hAA (c_X3_shelfAt l ev ad σ a1   _ h1) Emb.same hap gz_X3_shelfAt qML_RX3_56 qIM_yX3_shelfAt qSE_yX3_shelfAt ⟨(Nat.le_of_ble_eq_true rfl), (Nat.le_of_ble_eq_true rfl)⟩ (q0 := 0) rfl (by decide) rfl rfl rfl rfl hl.1 rfl (Nat.le_of_ble_eq_true rfl) dX3_behind_2 ⟨Nat.le_refl _, Nat.le_refl _⟩ (fun H locs hP => ?_)
  rcases o1 with _ | q2
  · have h := k_omN h
    refine lv_iload_n hx hb dX3_behind_5 rfl (lv_at hl 2 rfl) ?_
    refine k_callSi C hP hap hAA (c_X3_toldTrouble_n l ev ad a2   _ rfl) Emb.none (apart_0 _) gz_X3_toldTrouble qML_RX3_337 qSM_yX3_toldTrouble ⟨(Nat.le_of_ble_eq_true rfl), (Nat.le_of_ble_eq_true rfl)⟩ rfl hl.1 rfl (Nat.le_of_ble_eq_true rfl) dX3_behind_6 ⟨Nat.le_refl _, Nat.le_refl _⟩ (fun H locs hP => ?_)
    refine lv_topi (fun x3 ex3 => ?_)
    have h := k_lt ex3 h
    refine lv_istore_n (lv' := [(3, .int x3), (0, .ref (ad 0)), (1, .int a1), (2, .int a2)]) hx hb dX3_behind_9 rfl hl (by decide) rfl (fun ls hl => ?_)
    refine lv_iload_n hx hb dX3_behind_10 rfl (lv_at hl 0 rfl) ?_
    refine lv_if_eq (tgt := 20) hx hb dX3_behind_11 (by decide) (fun c11 => ?_) (fun c11 => ?_)
    · have h := k_if c11 h
      refine lv_aload_n hx hb dX3_behind_20 rfl (lv_at hl 1 rfl) ?_
      refine lv_aload_n hx hb dX3_behind_21 rfl (lv_at hl 1 rfl) ?_
      refine lv_iload_n hx hb dX3_behind_22 rfl (lv_at hl 2 rfl) ?_
      obtain ⟨o4, h1, h⟩ := k_ob h
      refine k_callVo C hP hap hAA (c_X3_shelfAt l ev ad σ a1   _ h1) Emb.same hap gz_X3_shelfAt qML_RX3_56 qIM_yX3_shelfAt qSE_yX3_shelfAt ⟨(Nat.le_of_ble_eq_true rfl), (Nat.le_of_ble_eq_true rfl)⟩ (q0 := 0) rfl (by decide) rfl rfl rfl rfl hl.1 rfl (Nat.le_of_ble_eq_true rfl) dX3_behind_23 ⟨Nat.le_refl _, Nat.le_refl _⟩ (fun H locs hP => ?_)
      rcases o4 with _ | q5
      · have h := k_omN h
        refine lv_iload_n hx hb dX3_behind_26 rfl (lv_at hl 3 rfl) ?_
        obtain ⟨x7, σ6, h1, h⟩ := k_ob2 h
        refine k_callVi C hP hap hAA (c_X3_toldWrong_n l ev ad σ a2   _ _ h1) Emb.same hap gz_X3_toldWrong qML_RX3_341 qIM_yX3_toldWrong qSE_yX3_toldWrong ⟨(Nat.le_of_ble_eq_true rfl), (Nat.le_of_ble_eq_true rfl)⟩ (q0 := 0) rfl (by decide) rfl rfl rfl rfl hl.1 rfl (Nat.le_of_ble_eq_true rfl) dX3_behind_27 ⟨Nat.le_refl _, Nat.le_refl _⟩ (fun H locs hP => ?_)
        refine lv_iconst (v := (-1)) hx hb dX3_behind_30 (by decide) ?_
        refine lv_icmp_ne (tgt := 45) hx hb dX3_behind_31 (by decide) (fun c31 => ?_) (fun c31 => ?_)
        · have h := k_nf c31 h
          refine lv_aload_n hx hb dX3_behind_45 rfl (lv_at hl 1 rfl) ?_
          refine lv_bipush (v := (-5)) hx hb dX3_behind_46 (by decide) ?_
          obtain ⟨x9, σ8, h1, h⟩ := k_ob2 h
          refine k_callVi C hP hap hAA (c_X3_refuseLead l ev ad σ6 (-5)   _ _ h1) Emb.same hap gz_X3_refuseLead qML_RX3_258 qIM_yX3_refuseLead qSE_yX3_refuseLead ⟨(Nat.le_of_ble_eq_true rfl), (Nat.le_of_ble_eq_true rfl)⟩ (q0 := 0) rfl (by decide) rfl rfl rfl rfl hl.1 rfl (Nat.le_of_ble_eq_true rfl) dX3_behind_48 ⟨Nat.le_refl _, Nat.le_refl _⟩ (fun H locs hP => ?_)
          exact e_iret C hend hP (k_some2 h).1 (congrArg (xw ev ad) (k_some2 h).2) dX3_behind_51
        · have h := k_if c31 h
          refine lv_aload_n hx hb dX3_behind_34 rfl (lv_at hl 1 rfl) ?_
          refine r_get C hP (ci := 3) rfl uin_X3 1 (by decide) 0 (by decide) rfl qFL_RX3_16 rfl rfl dX3_behind_35 ?_
          refine lv_iconst (v := 0) hx hb dX3_behind_38 (by decide) ?_
          obtain ⟨x10, h1, h⟩ := k_ob h
          refine k_callVi C hP hap hAA (c_X0_leadOf l ev (fun j => ad (j + 2)) (x_thought σ6) 0   _ h1) (em_G2r) (apart_1 _) gz_X0_leadOf qML_RX3_255 qIM_yX0_leadOf qSE_yX0_leadOf ⟨(Nat.le_of_ble_eq_true rfl), (Nat.le_of_ble_eq_true rfl)⟩ (q0 := 2) rfl (by decide) rfl rfl rfl rfl hl.1 rfl (Nat.le_of_ble_eq_true rfl) dX3_behind_39 ⟨Nat.le_refl _, Nat.le_refl _⟩ (fun H locs hP => ?_)
          refine lv_goto (tgt := 51) hx hb dX3_behind_42 (by decide) ?_
          exact e_iret C hend hP (k_some2 h).1 (congrArg (xw ev ad) (k_some2 h).2) dX3_behind_51
      · obtain ⟨hg, h⟩ := k_gd (k_omS h)
        have hq5 : q5 < 8 := of_decide_eq_true hg
        refine lv_iload_n hx hb dX3_behind_26 rfl (lv_at hl 3 rfl) ?_
        obtain ⟨x12, σ11, h1, h⟩ := k_ob2 h
        refine k_callVi C hP hap hAA (c_X3_toldWrong_s l ev ad σ q5 a2 hq5  _ _ h1) Emb.same hap gz_X3_toldWrong qML_RX3_341 qIM_yX3_toldWrong qSE_yX3_toldWrong ⟨(Nat.le_of_ble_eq_true rfl), (Nat.le_of_ble_eq_true rfl)⟩ (q0 := 0) rfl (by decide) rfl rfl rfl rfl hl.1 rfl (Nat.le_of_ble_eq_true rfl) dX3_behind_27 ⟨Nat.le_refl _, Nat.le_refl _⟩ (fun H locs hP => ?_)
        refine lv_iconst (v := (-1)) hx hb dX3_behind_30 (by decide) ?_
        refine lv_icmp_ne (tgt := 45) hx hb dX3_behind_31 (by decide) (fun c31 => ?_) (fun c31 => ?_)
        · have h := k_nf c31 h
          refine lv_aload_n hx hb dX3_behind_45 rfl (lv_at hl 1 rfl) ?_
          refine lv_bipush (v := (-5)) hx hb dX3_behind_46 (by decide) ?_
          obtain ⟨x14, σ13, h1, h⟩ := k_ob2 h
          refine k_callVi C hP hap hAA (c_X3_refuseLead l ev ad σ11 (-5)   _ _ h1) Emb.same hap gz_X3_refuseLead qML_RX3_258 qIM_yX3_refuseLead qSE_yX3_refuseLead ⟨(Nat.le_of_ble_eq_true rfl), (Nat.le_of_ble_eq_true rfl)⟩ (q0 := 0) rfl (by decide) rfl rfl rfl rfl hl.1 rfl (Nat.le_of_ble_eq_true rfl) dX3_behind_48 ⟨Nat.le_refl _, Nat.le_refl _⟩ (fun H locs hP => ?_)
          exact e_iret C hend hP (k_some2 h).1 (congrArg (xw ev ad) (k_some2 h).2) dX3_behind_51
        · have h := k_if c31 h
          refine lv_aload_n hx hb dX3_behind_34 rfl (lv_at hl 1 rfl) ?_
          refine r_get C hP (ci := 3) rfl uin_X3 1 (by decide) 0 (by decide) rfl qFL_RX3_16 rfl rfl dX3_behind_35 ?_
          refine lv_iconst (v := 0) hx hb dX3_behind_38 (by decide) ?_
          obtain ⟨x15, h1, h⟩ := k_ob h
          refine k_callVi C hP hap hAA (c_X0_leadOf l ev (fun j => ad (j + 2)) (x_thought σ11) 0   _ h1) (em_G2r) (apart_1 _) gz_X0_leadOf qML_RX3_255 qIM_yX0_leadOf qSE_yX0_leadOf ⟨(Nat.le_of_ble_eq_true rfl), (Nat.le_of_ble_eq_true rfl)⟩ (q0 := 2) rfl (by decide) rfl rfl rfl rfl hl.1 rfl (Nat.le_of_ble_eq_true rfl) dX3_behind_39 ⟨Nat.le_refl _, Nat.le_refl _⟩ (fun H locs hP => ?_)
          refine lv_goto (tgt := 51) hx hb dX3_behind_42 (by decide) ?_
          exact e_iret C hend hP (k_some2 h).1 (congrArg (xw ev ad) (k_some2 h).2) dX3_behind_51
    · have h := k_nf c11 h
      refine lv_aload_n hx hb dX3_behind_14 rfl (lv_at hl 1 rfl) ?_
      refine lv_iload_n hx hb dX3_behind_15 rfl (lv_at hl 0 rfl) ?_
      obtain ⟨x17, σ16, h1, h⟩ := k_ob2 h
      refine k_callVi C hP hap hAA (c_X3_refuseLead l ev ad σ x3   _ _ h1) Emb.same hap gz_X3_refuseLead qML_RX3_258 qIM_yX3_refuseLead qSE_yX3_refuseLead ⟨(Nat.le_of_ble_eq_true rfl), (Nat.le_of_ble_eq_true rfl)⟩ (q0 := 0) rfl (by decide) rfl rfl rfl rfl hl.1 rfl (Nat.le_of_ble_eq_true rfl) dX3_behind_16 ⟨Nat.le_refl _, Nat.le_refl _⟩ (fun H locs hP => ?_)
      exact e_iret C hend hP (k_some2 h).1 (congrArg (xw ev ad) (k_some2 h).2) dX3_behind_19
  · obtain ⟨hg, h⟩ := k_gd (k_omS h)
    have hq2 : q2 < 8 := of_decide_eq_true hg
    refine lv_iload_n hx hb dX3_behind_5 rfl (lv_at hl 2 rfl) ?_
    refine k_callSi C hP hap hAA (c_X3_toldTrouble_s l ev (fun j => ad (q2 + 10 + 8 * j)) (x_shelf σ q2) a2   _ rfl) (em_Sr hq2) (apart_S hap hq2) gz_X3_toldTrouble qML_RX3_337 qSM_yX3_toldTrouble ⟨(Nat.le_of_ble_eq_true rfl), (Nat.le_of_ble_eq_true rfl)⟩ rfl hl.1 rfl (Nat.le_of_ble_eq_true rfl) dX3_behind_6 ⟨Nat.le_refl _, Nat.le_refl _⟩ (fun H locs hP => ?_)
    refine lv_topi (fun x18 ex18 => ?_)
    have h := k_lt ex18 h
    refine lv_istore_n (lv' := [(3, .int x18), (0, .ref (ad 0)), (1, .int a1), (2, .int a2)]) hx hb dX3_behind_9 rfl hl (by decide) rfl (fun ls hl => ?_)
    refine lv_iload_n hx hb dX3_behind_10 rfl (lv_at hl 0 rfl) ?_
    refine lv_if_eq (tgt := 20) hx hb dX3_behind_11 (by decide) (fun c11 => ?_) (fun c11 => ?_)
    · have h := k_if c11 h
      refine lv_aload_n hx hb dX3_behind_20 rfl (lv_at hl 1 rfl) ?_
      refine lv_aload_n hx hb dX3_behind_21 rfl (lv_at hl 1 rfl) ?_
      refine lv_iload_n hx hb dX3_behind_22 rfl (lv_at hl 2 rfl) ?_
      obtain ⟨o19, h1, h⟩ := k_ob h
      refine k_callVo C hP hap hAA (c_X3_shelfAt l ev ad σ a1   _ h1) Emb.same hap gz_X3_shelfAt qML_RX3_56 qIM_yX3_shelfAt qSE_yX3_shelfAt ⟨(Nat.le_of_ble_eq_true rfl), (Nat.le_of_ble_eq_true rfl)⟩ (q0 := 0) rfl (by decide) rfl rfl rfl rfl hl.1 rfl (Nat.le_of_ble_eq_true rfl) dX3_behind_23 ⟨Nat.le_refl _, Nat.le_refl _⟩ (fun H locs hP => ?_)
      rcases o19 with _ | q20
      · have h := k_omN h
        refine lv_iload_n hx hb dX3_behind_26 rfl (lv_at hl 3 rfl) ?_
        obtain ⟨x22, σ21, h1, h⟩ := k_ob2 h
        refine k_callVi C hP hap hAA (c_X3_toldWrong_n l ev ad σ a2   _ _ h1) Emb.same hap gz_X3_toldWrong qML_RX3_341 qIM_yX3_toldWrong qSE_yX3_toldWrong ⟨(Nat.le_of_ble_eq_true rfl), (Nat.le_of_ble_eq_true rfl)⟩ (q0 := 0) rfl (by decide) rfl rfl rfl rfl hl.1 rfl (Nat.le_of_ble_eq_true rfl) dX3_behind_27 ⟨Nat.le_refl _, Nat.le_refl _⟩ (fun H locs hP => ?_)
        refine lv_iconst (v := (-1)) hx hb dX3_behind_30 (by decide) ?_
        refine lv_icmp_ne (tgt := 45) hx hb dX3_behind_31 (by decide) (fun c31 => ?_) (fun c31 => ?_)
        · have h := k_nf c31 h
          refine lv_aload_n hx hb dX3_behind_45 rfl (lv_at hl 1 rfl) ?_
          refine lv_bipush (v := (-5)) hx hb dX3_behind_46 (by decide) ?_
          obtain ⟨x24, σ23, h1, h⟩ := k_ob2 h
          refine k_callVi C hP hap hAA (c_X3_refuseLead l ev ad σ21 (-5)   _ _ h1) Emb.same hap gz_X3_refuseLead qML_RX3_258 qIM_yX3_refuseLead qSE_yX3_refuseLead ⟨(Nat.le_of_ble_eq_true rfl), (Nat.le_of_ble_eq_true rfl)⟩ (q0 := 0) rfl (by decide) rfl rfl rfl rfl hl.1 rfl (Nat.le_of_ble_eq_true rfl) dX3_behind_48 ⟨Nat.le_refl _, Nat.le_refl _⟩ (fun H locs hP => ?_)
          exact e_iret C hend hP (k_some2 h).1 (congrArg (xw ev ad) (k_some2 h).2) dX3_behind_51
        · have h := k_if c31 h
          refine lv_aload_n hx hb dX3_behind_34 rfl (lv_at hl 1 rfl) ?_
          refine r_get C hP (ci := 3) rfl uin_X3 1 (by decide) 0 (by decide) rfl qFL_RX3_16 rfl rfl dX3_behind_35 ?_
          refine lv_iconst (v := 0) hx hb dX3_behind_38 (by decide) ?_
          obtain ⟨x25, h1, h⟩ := k_ob h
          refine k_callVi C hP hap hAA (c_X0_leadOf l ev (fun j => ad (j + 2)) (x_thought σ21) 0   _ h1) (em_G2r) (apart_1 _) gz_X0_leadOf qML_RX3_255 qIM_yX0_leadOf qSE_yX0_leadOf ⟨(Nat.le_of_ble_eq_true rfl), (Nat.le_of_ble_eq_true rfl)⟩ (q0 := 2) rfl (by decide) rfl rfl rfl rfl hl.1 rfl (Nat.le_of_ble_eq_true rfl) dX3_behind_39 ⟨Nat.le_refl _, Nat.le_refl _⟩ (fun H locs hP => ?_)
          refine lv_goto (tgt := 51) hx hb dX3_behind_42 (by decide) ?_
          exact e_iret C hend hP (k_some2 h).1 (congrArg (xw ev ad) (k_some2 h).2) dX3_behind_51
      · obtain ⟨hg, h⟩ := k_gd (k_omS h)
        have hq20 : q20 < 8 := of_decide_eq_true hg
        refine lv_iload_n hx hb dX3_behind_26 rfl (lv_at hl 3 rfl) ?_
        obtain ⟨x27, σ26, h1, h⟩ := k_ob2 h
        refine k_callVi C hP hap hAA (c_X3_toldWrong_s l ev ad σ q20 a2 hq20  _ _ h1) Emb.same hap gz_X3_toldWrong qML_RX3_341 qIM_yX3_toldWrong qSE_yX3_toldWrong ⟨(Nat.le_of_ble_eq_true rfl), (Nat.le_of_ble_eq_true rfl)⟩ (q0 := 0) rfl (by decide) rfl rfl rfl rfl hl.1 rfl (Nat.le_of_ble_eq_true rfl) dX3_behind_27 ⟨Nat.le_refl _, Nat.le_refl _⟩ (fun H locs hP => ?_)
        refine lv_iconst (v := (-1)) hx hb dX3_behind_30 (by decide) ?_
        refine lv_icmp_ne (tgt := 45) hx hb dX3_behind_31 (by decide) (fun c31 => ?_) (fun c31 => ?_)
        · have h := k_nf c31 h
          refine lv_aload_n hx hb dX3_behind_45 rfl (lv_at hl 1 rfl) ?_
          refine lv_bipush (v := (-5)) hx hb dX3_behind_46 (by decide) ?_
          obtain ⟨x29, σ28, h1, h⟩ := k_ob2 h
          refine k_callVi C hP hap hAA (c_X3_refuseLead l ev ad σ26 (-5)   _ _ h1) Emb.same hap gz_X3_refuseLead qML_RX3_258 qIM_yX3_refuseLead qSE_yX3_refuseLead ⟨(Nat.le_of_ble_eq_true rfl), (Nat.le_of_ble_eq_true rfl)⟩ (q0 := 0) rfl (by decide) rfl rfl rfl rfl hl.1 rfl (Nat.le_of_ble_eq_true rfl) dX3_behind_48 ⟨Nat.le_refl _, Nat.le_refl _⟩ (fun H locs hP => ?_)
          exact e_iret C hend hP (k_some2 h).1 (congrArg (xw ev ad) (k_some2 h).2) dX3_behind_51
        · have h := k_if c31 h
          refine lv_aload_n hx hb dX3_behind_34 rfl (lv_at hl 1 rfl) ?_
          refine r_get C hP (ci := 3) rfl uin_X3 1 (by decide) 0 (by decide) rfl qFL_RX3_16 rfl rfl dX3_behind_35 ?_
          refine lv_iconst (v := 0) hx hb dX3_behind_38 (by decide) ?_
          obtain ⟨x30, h1, h⟩ := k_ob h
          refine k_callVi C hP hap hAA (c_X0_leadOf l ev (fun j => ad (j + 2)) (x_thought σ26) 0   _ h1) (em_G2r) (apart_1 _) gz_X0_leadOf qML_RX3_255 qIM_yX0_leadOf qSE_yX0_leadOf ⟨(Nat.le_of_ble_eq_true rfl), (Nat.le_of_ble_eq_true rfl)⟩ (q0 := 2) rfl (by decide) rfl rfl rfl rfl hl.1 rfl (Nat.le_of_ble_eq_true rfl) dX3_behind_39 ⟨Nat.le_refl _, Nat.le_refl _⟩ (fun H locs hP => ?_)
          refine lv_goto (tgt := 51) hx hb dX3_behind_42 (by decide) ?_
          exact e_iret C hend hP (k_some2 h).1 (congrArg (xw ev ad) (k_some2 h).2) dX3_behind_51
    · have h := k_nf c11 h
      refine lv_aload_n hx hb dX3_behind_14 rfl (lv_at hl 1 rfl) ?_
      refine lv_iload_n hx hb dX3_behind_15 rfl (lv_at hl 0 rfl) ?_
      obtain ⟨x32, σ31, h1, h⟩ := k_ob2 h
      refine k_callVi C hP hap hAA (c_X3_refuseLead l ev ad σ x18   _ _ h1) Emb.same hap gz_X3_refuseLead qML_RX3_258 qIM_yX3_refuseLead qSE_yX3_refuseLead ⟨(Nat.le_of_ble_eq_true rfl), (Nat.le_of_ble_eq_true rfl)⟩ (q0 := 0) rfl (by decide) rfl rfl rfl rfl hl.1 rfl (Nat.le_of_ble_eq_true rfl) dX3_behind_16 ⟨Nat.le_refl _, Nat.le_refl _⟩ (fun H locs hP => ?_)
      exact e_iret C hend hP (k_some2 h).1 (congrArg (xw ev ad) (k_some2 h).2) dX3_behind_19
def f_X3_done (σ : XX) (a1 : Int32) (a2 : Int32) : Option (Int32 × XX) :=
  ob (f_X3_shelfAt σ a1) (fun o1 => om o1 (lt (f_X3_toldTrouble_n a2) (fun x3 => if x3 = 0 then ob (f_X3_shelfAt σ a1) (fun o4 => om o4 (ob2 (f_X3_toldWrong_n σ a2) (fun x7 σ6 => if x7 = (-1) then ob (f_X0_become (x_now σ6) (x_thought σ6)) (fun σ8 => lt (x_now' σ6 σ8) (fun σ9 => some ((g_made (x_now σ9)), σ9))) else ob2 (f_X3_refuse σ6 (-5)) (fun x11 σ10 => some (x11, σ10)))) (fun q5 => gd (decide (q5 < 8)) (ob2 (f_X3_toldWrong_s σ q5 a2) (fun x13 σ12 => if x13 = (-1) then ob (f_X0_become (x_now σ12) (x_thought σ12)) (fun σ14 => lt (x_now' σ12 σ14) (fun σ15 => some ((g_made (x_now σ15)), σ15))) else ob2 (f_X3_refuse σ12 (-5)) (fun x17 σ16 => some (x17, σ16)))))) else ob2 (f_X3_refuse σ x3) (fun x19 σ18 => some (x19, σ18)))) (fun q2 => gd (decide (q2 < 8)) (lt (f_X3_toldTrouble_s (x_shelf σ q2) a2) (fun x20 => if x20 = 0 then ob (f_X3_shelfAt σ a1) (fun o21 => om o21 (ob2 (f_X3_toldWrong_n σ a2) (fun x24 σ23 => if x24 = (-1) then ob (f_X0_become (x_now σ23) (x_thought σ23)) (fun σ25 => lt (x_now' σ23 σ25) (fun σ26 => some ((g_made (x_now σ26)), σ26))) else ob2 (f_X3_refuse σ23 (-5)) (fun x28 σ27 => some (x28, σ27)))) (fun q22 => gd (decide (q22 < 8)) (ob2 (f_X3_toldWrong_s σ q22 a2) (fun x30 σ29 => if x30 = (-1) then ob (f_X0_become (x_now σ29) (x_thought σ29)) (fun σ31 => lt (x_now' σ29 σ31) (fun σ32 => some ((g_made (x_now σ32)), σ32))) else ob2 (f_X3_refuse σ29 (-5)) (fun x34 σ33 => some (x34, σ33)))))) else ob2 (f_X3_refuse σ x20) (fun x36 σ35 => some (x36, σ35))))))
set_option maxHeartbeats 4000000 in
set_option maxRecDepth 100000 in
theorem c_X3_done (l : Launch) (ev : EV) (ad : Nat → Nat) (σ : XX) (a1 : Int32) (a2 : Int32)   (r : Int32) (σ' : XX) (h : f_X3_done σ a1 a2 = some (r, σ')) : Ct l yX3_done prog_1_method_52_code 4 (Option.some Jvm.ClassFile.FieldType.int) (rmk 5 107) ev 26 ad (xw ev ad σ) (xw ev ad σ') [.ref (ad 0), .int a1, .int a2] (some (.int r)) := by
  refine Ct.of (by decide +kernel) (Nat.le_of_ble_eq_true rfl) ?_
  intro p e s m args below meth c Qc C hap hP hend ls hl
  have hAA : ∀ j, j < 26 → inA ad 26 (ad j) := fun j hj => ⟨j, hj, rfl⟩
  have hx := C.1
  have hb := C.2.1
  have hl : lv_has ls 4 [(0, .ref (ad 0)), (1, .int a1), (2, .int a2)] := hl
  have h := (f_X3_done.eq_1 _ _ _ ).symm.trans h
  refine lv_aload_n hx hb dX3_done_0 rfl (lv_at hl 0 rfl) ?_
  refine lv_iload_n hx hb dX3_done_1 rfl (lv_at hl 1 rfl) ?_
  obtain ⟨o1, h1, h⟩ := k_ob h
  refine k_callVo C hP hap hAA (c_X3_shelfAt l ev ad σ a1   _ h1) Emb.same hap gz_X3_shelfAt qML_RX3_56 qIM_yX3_shelfAt qSE_yX3_shelfAt ⟨(Nat.le_of_ble_eq_true rfl), (Nat.le_of_ble_eq_true rfl)⟩ (q0 := 0) rfl (by decide) rfl rfl rfl rfl hl.1 rfl (Nat.le_of_ble_eq_true rfl) dX3_done_2 ⟨Nat.le_refl _, Nat.le_refl _⟩ (fun H locs hP => ?_)
  rcases o1 with _ | q2
  · have h := k_omN h
    refine lv_iload_n hx hb dX3_done_5 rfl (lv_at hl 2 rfl) ?_
    refine k_callSi C hP hap hAA (c_X3_toldTrouble_n l ev ad a2   _ rfl) Emb.none (apart_0 _) gz_X3_toldTrouble qML_RX3_337 qSM_yX3_toldTrouble ⟨(Nat.le_of_ble_eq_true rfl), (Nat.le_of_ble_eq_true rfl)⟩ rfl hl.1 rfl (Nat.le_of_ble_eq_true rfl) dX3_done_6 ⟨Nat.le_refl _, Nat.le_refl _⟩ (fun H locs hP => ?_)
    refine lv_topi (fun x3 ex3 => ?_)
    have h := k_lt ex3 h
    refine lv_istore_n (lv' := [(3, .int x3), (0, .ref (ad 0)), (1, .int a1), (2, .int a2)]) hx hb dX3_done_9 rfl hl (by decide) rfl (fun ls hl => ?_)
    refine lv_iload_n hx hb dX3_done_10 rfl (lv_at hl 0 rfl) ?_
    refine lv_if_eq (tgt := 20) hx hb dX3_done_11 (by decide) (fun c11 => ?_) (fun c11 => ?_)
    · have h := k_if c11 h
      refine lv_aload_n hx hb dX3_done_20 rfl (lv_at hl 1 rfl) ?_
      refine lv_aload_n hx hb dX3_done_21 rfl (lv_at hl 1 rfl) ?_
      refine lv_iload_n hx hb dX3_done_22 rfl (lv_at hl 2 rfl) ?_
      obtain ⟨o4, h1, h⟩ := k_ob h
      refine k_callVo C hP hap hAA (c_X3_shelfAt l ev ad σ a1   _ h1) Emb.same hap gz_X3_shelfAt qML_RX3_56 qIM_yX3_shelfAt qSE_yX3_shelfAt ⟨(Nat.le_of_ble_eq_true rfl), (Nat.le_of_ble_eq_true rfl)⟩ (q0 := 0) rfl (by decide) rfl rfl rfl rfl hl.1 rfl (Nat.le_of_ble_eq_true rfl) dX3_done_23 ⟨Nat.le_refl _, Nat.le_refl _⟩ (fun H locs hP => ?_)
      rcases o4 with _ | q5
      · have h := k_omN h
        refine lv_iload_n hx hb dX3_done_26 rfl (lv_at hl 3 rfl) ?_
        obtain ⟨x7, σ6, h1, h⟩ := k_ob2 h
        refine k_callVi C hP hap hAA (c_X3_toldWrong_n l ev ad σ a2   _ _ h1) Emb.same hap gz_X3_toldWrong qML_RX3_341 qIM_yX3_toldWrong qSE_yX3_toldWrong ⟨(Nat.le_of_ble_eq_true rfl), (Nat.le_of_ble_eq_true rfl)⟩ (q0 := 0) rfl (by decide) rfl rfl rfl rfl hl.1 rfl (Nat.le_of_ble_eq_true rfl) dX3_done_27 ⟨Nat.le_refl _, Nat.le_refl _⟩ (fun H locs hP => ?_)
        refine lv_iconst (v := (-1)) hx hb dX3_done_30 (by decide) ?_
        refine lv_icmp_eq (tgt := 41) hx hb dX3_done_31 (by decide) (fun c31 => ?_) (fun c31 => ?_)
        · have h := k_if c31 h
          refine lv_aload_n hx hb dX3_done_41 rfl (lv_at hl 1 rfl) ?_
          refine r_get C hP (ci := 3) rfl uin_X3 0 (by decide) 0 (by decide) rfl qFL_RX3_10 rfl rfl dX3_done_42 ?_
          refine lv_aload_n hx hb dX3_done_45 rfl (lv_at hl 1 rfl) ?_
          refine r_get C hP (ci := 3) rfl uin_X3 1 (by decide) 0 (by decide) rfl qFL_RX3_16 rfl rfl dX3_done_46 ?_
          obtain ⟨σ8, h1, h⟩ := k_ob h
          refine k_callVv C hP hap hAA (c_X0_become l ev (fun j => if j = 0 then ad 1 else ad 2) (x_now σ6) (x_thought σ6)   _ h1) (em_GG12) (apart_GG hap (by decide) (by decide) (by decide)) gz_X0_become qML_RX3_165 qIM_yX0_become qSE_yX0_become ⟨(Nat.le_of_ble_eq_true rfl), (Nat.le_of_ble_eq_true rfl)⟩ (q0 := 1) rfl (by decide) rfl rfl rfl rfl hl.1 rfl (Nat.le_of_ble_eq_true rfl) dX3_done_49 ⟨Nat.le_refl _, Nat.le_refl _⟩ (fun H locs hP => ?_)
          obtain ⟨σ9, eσ9, h⟩ := k_ltx h
          rw [← eσ9] at hP
          refine lv_aload_n hx hb dX3_done_52 rfl (lv_at hl 1 rfl) ?_
          refine r_get C hP (ci := 3) rfl uin_X3 0 (by decide) 0 (by decide) rfl qFL_RX3_10 rfl rfl dX3_done_53 ?_
          refine r_get C hP (ci := 0) rfl uin_X0 14 (by decide) 1 (by decide) rfl qFL_RX3_325 rfl rfl dX3_done_56 ?_
          exact e_iret C hend hP (k_some2 h).1 (congrArg (xw ev ad) (k_some2 h).2) dX3_done_59
        · have h := k_nf c31 h
          refine lv_aload_n hx hb dX3_done_34 rfl (lv_at hl 1 rfl) ?_
          refine lv_bipush (v := (-5)) hx hb dX3_done_35 (by decide) ?_
          obtain ⟨x11, σ10, h1, h⟩ := k_ob2 h
          refine k_callVi C hP hap hAA (c_X3_refuse l ev ad σ6 (-5)   _ _ h1) Emb.same hap gz_X3_refuse qML_RX3_60 qIM_yX3_refuse qSE_yX3_refuse ⟨(Nat.le_of_ble_eq_true rfl), (Nat.le_of_ble_eq_true rfl)⟩ (q0 := 0) rfl (by decide) rfl rfl rfl rfl hl.1 rfl (Nat.le_of_ble_eq_true rfl) dX3_done_37 ⟨Nat.le_refl _, Nat.le_refl _⟩ (fun H locs hP => ?_)
          exact e_iret C hend hP (k_some2 h).1 (congrArg (xw ev ad) (k_some2 h).2) dX3_done_40
      · obtain ⟨hg, h⟩ := k_gd (k_omS h)
        have hq5 : q5 < 8 := of_decide_eq_true hg
        refine lv_iload_n hx hb dX3_done_26 rfl (lv_at hl 3 rfl) ?_
        obtain ⟨x13, σ12, h1, h⟩ := k_ob2 h
        refine k_callVi C hP hap hAA (c_X3_toldWrong_s l ev ad σ q5 a2 hq5  _ _ h1) Emb.same hap gz_X3_toldWrong qML_RX3_341 qIM_yX3_toldWrong qSE_yX3_toldWrong ⟨(Nat.le_of_ble_eq_true rfl), (Nat.le_of_ble_eq_true rfl)⟩ (q0 := 0) rfl (by decide) rfl rfl rfl rfl hl.1 rfl (Nat.le_of_ble_eq_true rfl) dX3_done_27 ⟨Nat.le_refl _, Nat.le_refl _⟩ (fun H locs hP => ?_)
        refine lv_iconst (v := (-1)) hx hb dX3_done_30 (by decide) ?_
        refine lv_icmp_eq (tgt := 41) hx hb dX3_done_31 (by decide) (fun c31 => ?_) (fun c31 => ?_)
        · have h := k_if c31 h
          refine lv_aload_n hx hb dX3_done_41 rfl (lv_at hl 1 rfl) ?_
          refine r_get C hP (ci := 3) rfl uin_X3 0 (by decide) 0 (by decide) rfl qFL_RX3_10 rfl rfl dX3_done_42 ?_
          refine lv_aload_n hx hb dX3_done_45 rfl (lv_at hl 1 rfl) ?_
          refine r_get C hP (ci := 3) rfl uin_X3 1 (by decide) 0 (by decide) rfl qFL_RX3_16 rfl rfl dX3_done_46 ?_
          obtain ⟨σ14, h1, h⟩ := k_ob h
          refine k_callVv C hP hap hAA (c_X0_become l ev (fun j => if j = 0 then ad 1 else ad 2) (x_now σ12) (x_thought σ12)   _ h1) (em_GG12) (apart_GG hap (by decide) (by decide) (by decide)) gz_X0_become qML_RX3_165 qIM_yX0_become qSE_yX0_become ⟨(Nat.le_of_ble_eq_true rfl), (Nat.le_of_ble_eq_true rfl)⟩ (q0 := 1) rfl (by decide) rfl rfl rfl rfl hl.1 rfl (Nat.le_of_ble_eq_true rfl) dX3_done_49 ⟨Nat.le_refl _, Nat.le_refl _⟩ (fun H locs hP => ?_)
          obtain ⟨σ15, eσ15, h⟩ := k_ltx h
          rw [← eσ15] at hP
          refine lv_aload_n hx hb dX3_done_52 rfl (lv_at hl 1 rfl) ?_
          refine r_get C hP (ci := 3) rfl uin_X3 0 (by decide) 0 (by decide) rfl qFL_RX3_10 rfl rfl dX3_done_53 ?_
          refine r_get C hP (ci := 0) rfl uin_X0 14 (by decide) 1 (by decide) rfl qFL_RX3_325 rfl rfl dX3_done_56 ?_
          exact e_iret C hend hP (k_some2 h).1 (congrArg (xw ev ad) (k_some2 h).2) dX3_done_59
        · have h := k_nf c31 h
          refine lv_aload_n hx hb dX3_done_34 rfl (lv_at hl 1 rfl) ?_
          refine lv_bipush (v := (-5)) hx hb dX3_done_35 (by decide) ?_
          obtain ⟨x17, σ16, h1, h⟩ := k_ob2 h
          refine k_callVi C hP hap hAA (c_X3_refuse l ev ad σ12 (-5)   _ _ h1) Emb.same hap gz_X3_refuse qML_RX3_60 qIM_yX3_refuse qSE_yX3_refuse ⟨(Nat.le_of_ble_eq_true rfl), (Nat.le_of_ble_eq_true rfl)⟩ (q0 := 0) rfl (by decide) rfl rfl rfl rfl hl.1 rfl (Nat.le_of_ble_eq_true rfl) dX3_done_37 ⟨Nat.le_refl _, Nat.le_refl _⟩ (fun H locs hP => ?_)
          exact e_iret C hend hP (k_some2 h).1 (congrArg (xw ev ad) (k_some2 h).2) dX3_done_40
    · have h := k_nf c11 h
      refine lv_aload_n hx hb dX3_done_14 rfl (lv_at hl 1 rfl) ?_
      refine lv_iload_n hx hb dX3_done_15 rfl (lv_at hl 0 rfl) ?_
      obtain ⟨x19, σ18, h1, h⟩ := k_ob2 h
      refine k_callVi C hP hap hAA (c_X3_refuse l ev ad σ x3   _ _ h1) Emb.same hap gz_X3_refuse qML_RX3_60 qIM_yX3_refuse qSE_yX3_refuse ⟨(Nat.le_of_ble_eq_true rfl), (Nat.le_of_ble_eq_true rfl)⟩ (q0 := 0) rfl (by decide) rfl rfl rfl rfl hl.1 rfl (Nat.le_of_ble_eq_true rfl) dX3_done_16 ⟨Nat.le_refl _, Nat.le_refl _⟩ (fun H locs hP => ?_)
      exact e_iret C hend hP (k_some2 h).1 (congrArg (xw ev ad) (k_some2 h).2) dX3_done_19
  · obtain ⟨hg, h⟩ := k_gd (k_omS h)
    have hq2 : q2 < 8 := of_decide_eq_true hg
    refine lv_iload_n hx hb dX3_done_5 rfl (lv_at hl 2 rfl) ?_
    refine k_callSi C hP hap hAA (c_X3_toldTrouble_s l ev (fun j => ad (q2 + 10 + 8 * j)) (x_shelf σ q2) a2   _ rfl) (em_Sr hq2) (apart_S hap hq2) gz_X3_toldTrouble qML_RX3_337 qSM_yX3_toldTrouble ⟨(Nat.le_of_ble_eq_true rfl), (Nat.le_of_ble_eq_true rfl)⟩ rfl hl.1 rfl (Nat.le_of_ble_eq_true rfl) dX3_done_6 ⟨Nat.le_refl _, Nat.le_refl _⟩ (fun H locs hP => ?_)
    refine lv_topi (fun x20 ex20 => ?_)
    have h := k_lt ex20 h
    refine lv_istore_n (lv' := [(3, .int x20), (0, .ref (ad 0)), (1, .int a1), (2, .int a2)]) hx hb dX3_done_9 rfl hl (by decide) rfl (fun ls hl => ?_)
    refine lv_iload_n hx hb dX3_done_10 rfl (lv_at hl 0 rfl) ?_
    refine lv_if_eq (tgt := 20) hx hb dX3_done_11 (by decide) (fun c11 => ?_) (fun c11 => ?_)
    · have h := k_if c11 h
      refine lv_aload_n hx hb dX3_done_20 rfl (lv_at hl 1 rfl) ?_
      refine lv_aload_n hx hb dX3_done_21 rfl (lv_at hl 1 rfl) ?_
      refine lv_iload_n hx hb dX3_done_22 rfl (lv_at hl 2 rfl) ?_
      obtain ⟨o21, h1, h⟩ := k_ob h
      refine k_callVo C hP hap hAA (c_X3_shelfAt l ev ad σ a1   _ h1) Emb.same hap gz_X3_shelfAt qML_RX3_56 qIM_yX3_shelfAt qSE_yX3_shelfAt ⟨(Nat.le_of_ble_eq_true rfl), (Nat.le_of_ble_eq_true rfl)⟩ (q0 := 0) rfl (by decide) rfl rfl rfl rfl hl.1 rfl (Nat.le_of_ble_eq_true rfl) dX3_done_23 ⟨Nat.le_refl _, Nat.le_refl _⟩ (fun H locs hP => ?_)
      rcases o21 with _ | q22
      · have h := k_omN h
        refine lv_iload_n hx hb dX3_done_26 rfl (lv_at hl 3 rfl) ?_
        obtain ⟨x24, σ23, h1, h⟩ := k_ob2 h
        refine k_callVi C hP hap hAA (c_X3_toldWrong_n l ev ad σ a2   _ _ h1) Emb.same hap gz_X3_toldWrong qML_RX3_341 qIM_yX3_toldWrong qSE_yX3_toldWrong ⟨(Nat.le_of_ble_eq_true rfl), (Nat.le_of_ble_eq_true rfl)⟩ (q0 := 0) rfl (by decide) rfl rfl rfl rfl hl.1 rfl (Nat.le_of_ble_eq_true rfl) dX3_done_27 ⟨Nat.le_refl _, Nat.le_refl _⟩ (fun H locs hP => ?_)
        refine lv_iconst (v := (-1)) hx hb dX3_done_30 (by decide) ?_
        refine lv_icmp_eq (tgt := 41) hx hb dX3_done_31 (by decide) (fun c31 => ?_) (fun c31 => ?_)
        · have h := k_if c31 h
          refine lv_aload_n hx hb dX3_done_41 rfl (lv_at hl 1 rfl) ?_
          refine r_get C hP (ci := 3) rfl uin_X3 0 (by decide) 0 (by decide) rfl qFL_RX3_10 rfl rfl dX3_done_42 ?_
          refine lv_aload_n hx hb dX3_done_45 rfl (lv_at hl 1 rfl) ?_
          refine r_get C hP (ci := 3) rfl uin_X3 1 (by decide) 0 (by decide) rfl qFL_RX3_16 rfl rfl dX3_done_46 ?_
          obtain ⟨σ25, h1, h⟩ := k_ob h
          refine k_callVv C hP hap hAA (c_X0_become l ev (fun j => if j = 0 then ad 1 else ad 2) (x_now σ23) (x_thought σ23)   _ h1) (em_GG12) (apart_GG hap (by decide) (by decide) (by decide)) gz_X0_become qML_RX3_165 qIM_yX0_become qSE_yX0_become ⟨(Nat.le_of_ble_eq_true rfl), (Nat.le_of_ble_eq_true rfl)⟩ (q0 := 1) rfl (by decide) rfl rfl rfl rfl hl.1 rfl (Nat.le_of_ble_eq_true rfl) dX3_done_49 ⟨Nat.le_refl _, Nat.le_refl _⟩ (fun H locs hP => ?_)
          obtain ⟨σ26, eσ26, h⟩ := k_ltx h
          rw [← eσ26] at hP
          refine lv_aload_n hx hb dX3_done_52 rfl (lv_at hl 1 rfl) ?_
          refine r_get C hP (ci := 3) rfl uin_X3 0 (by decide) 0 (by decide) rfl qFL_RX3_10 rfl rfl dX3_done_53 ?_
          refine r_get C hP (ci := 0) rfl uin_X0 14 (by decide) 1 (by decide) rfl qFL_RX3_325 rfl rfl dX3_done_56 ?_
          exact e_iret C hend hP (k_some2 h).1 (congrArg (xw ev ad) (k_some2 h).2) dX3_done_59
        · have h := k_nf c31 h
          refine lv_aload_n hx hb dX3_done_34 rfl (lv_at hl 1 rfl) ?_
          refine lv_bipush (v := (-5)) hx hb dX3_done_35 (by decide) ?_
          obtain ⟨x28, σ27, h1, h⟩ := k_ob2 h
          refine k_callVi C hP hap hAA (c_X3_refuse l ev ad σ23 (-5)   _ _ h1) Emb.same hap gz_X3_refuse qML_RX3_60 qIM_yX3_refuse qSE_yX3_refuse ⟨(Nat.le_of_ble_eq_true rfl), (Nat.le_of_ble_eq_true rfl)⟩ (q0 := 0) rfl (by decide) rfl rfl rfl rfl hl.1 rfl (Nat.le_of_ble_eq_true rfl) dX3_done_37 ⟨Nat.le_refl _, Nat.le_refl _⟩ (fun H locs hP => ?_)
          exact e_iret C hend hP (k_some2 h).1 (congrArg (xw ev ad) (k_some2 h).2) dX3_done_40
      · obtain ⟨hg, h⟩ := k_gd (k_omS h)
        have hq22 : q22 < 8 := of_decide_eq_true hg
        refine lv_iload_n hx hb dX3_done_26 rfl (lv_at hl 3 rfl) ?_
        obtain ⟨x30, σ29, h1, h⟩ := k_ob2 h
        refine k_callVi C hP hap hAA (c_X3_toldWrong_s l ev ad σ q22 a2 hq22  _ _ h1) Emb.same hap gz_X3_toldWrong qML_RX3_341 qIM_yX3_toldWrong qSE_yX3_toldWrong ⟨(Nat.le_of_ble_eq_true rfl), (Nat.le_of_ble_eq_true rfl)⟩ (q0 := 0) rfl (by decide) rfl rfl rfl rfl hl.1 rfl (Nat.le_of_ble_eq_true rfl) dX3_done_27 ⟨Nat.le_refl _, Nat.le_refl _⟩ (fun H locs hP => ?_)
        refine lv_iconst (v := (-1)) hx hb dX3_done_30 (by decide) ?_
        refine lv_icmp_eq (tgt := 41) hx hb dX3_done_31 (by decide) (fun c31 => ?_) (fun c31 => ?_)
        · have h := k_if c31 h
          refine lv_aload_n hx hb dX3_done_41 rfl (lv_at hl 1 rfl) ?_
          refine r_get C hP (ci := 3) rfl uin_X3 0 (by decide) 0 (by decide) rfl qFL_RX3_10 rfl rfl dX3_done_42 ?_
          refine lv_aload_n hx hb dX3_done_45 rfl (lv_at hl 1 rfl) ?_
          refine r_get C hP (ci := 3) rfl uin_X3 1 (by decide) 0 (by decide) rfl qFL_RX3_16 rfl rfl dX3_done_46 ?_
          obtain ⟨σ31, h1, h⟩ := k_ob h
          refine k_callVv C hP hap hAA (c_X0_become l ev (fun j => if j = 0 then ad 1 else ad 2) (x_now σ29) (x_thought σ29)   _ h1) (em_GG12) (apart_GG hap (by decide) (by decide) (by decide)) gz_X0_become qML_RX3_165 qIM_yX0_become qSE_yX0_become ⟨(Nat.le_of_ble_eq_true rfl), (Nat.le_of_ble_eq_true rfl)⟩ (q0 := 1) rfl (by decide) rfl rfl rfl rfl hl.1 rfl (Nat.le_of_ble_eq_true rfl) dX3_done_49 ⟨Nat.le_refl _, Nat.le_refl _⟩ (fun H locs hP => ?_)
          obtain ⟨σ32, eσ32, h⟩ := k_ltx h
          rw [← eσ32] at hP
          refine lv_aload_n hx hb dX3_done_52 rfl (lv_at hl 1 rfl) ?_
          refine r_get C hP (ci := 3) rfl uin_X3 0 (by decide) 0 (by decide) rfl qFL_RX3_10 rfl rfl dX3_done_53 ?_
          refine r_get C hP (ci := 0) rfl uin_X0 14 (by decide) 1 (by decide) rfl qFL_RX3_325 rfl rfl dX3_done_56 ?_
          exact e_iret C hend hP (k_some2 h).1 (congrArg (xw ev ad) (k_some2 h).2) dX3_done_59
        · have h := k_nf c31 h
          refine lv_aload_n hx hb dX3_done_34 rfl (lv_at hl 1 rfl) ?_
          refine lv_bipush (v := (-5)) hx hb dX3_done_35 (by decide) ?_
          obtain ⟨x34, σ33, h1, h⟩ := k_ob2 h
          refine k_callVi C hP hap hAA (c_X3_refuse l ev ad σ29 (-5)   _ _ h1) Emb.same hap gz_X3_refuse qML_RX3_60 qIM_yX3_refuse qSE_yX3_refuse ⟨(Nat.le_of_ble_eq_true rfl), (Nat.le_of_ble_eq_true rfl)⟩ (q0 := 0) rfl (by decide) rfl rfl rfl rfl hl.1 rfl (Nat.le_of_ble_eq_true rfl) dX3_done_37 ⟨Nat.le_refl _, Nat.le_refl _⟩ (fun H locs hP => ?_)
          exact e_iret C hend hP (k_some2 h).1 (congrArg (xw ev ad) (k_some2 h).2) dX3_done_40
    · have h := k_nf c11 h
      refine lv_aload_n hx hb dX3_done_14 rfl (lv_at hl 1 rfl) ?_
      refine lv_iload_n hx hb dX3_done_15 rfl (lv_at hl 0 rfl) ?_
      obtain ⟨x36, σ35, h1, h⟩ := k_ob2 h
      refine k_callVi C hP hap hAA (c_X3_refuse l ev ad σ x20   _ _ h1) Emb.same hap gz_X3_refuse qML_RX3_60 qIM_yX3_refuse qSE_yX3_refuse ⟨(Nat.le_of_ble_eq_true rfl), (Nat.le_of_ble_eq_true rfl)⟩ (q0 := 0) rfl (by decide) rfl rfl rfl rfl hl.1 rfl (Nat.le_of_ble_eq_true rfl) dX3_done_16 ⟨Nat.le_refl _, Nat.le_refl _⟩ (fun H locs hP => ?_)
      exact e_iret C hend hP (k_some2 h).1 (congrArg (xw ev ad) (k_some2 h).2) dX3_done_19
def f_X3_move (σ : XX) (a1 : Int32) : Option (Int32 × XX) :=
  lt (f_X0_slotOf (x_now σ) a1) (fun x1 => if x1 = (-1) then ob2 (f_X3_refuse σ (-2)) (fun x8 σ7 => some (x8, σ7)) else if (f_X0_isOpen (x_now σ) x1) = true then lt (f_X0_shutFields (x_now σ)) (fun x2 => ob (f_X0_make (x_now σ) x1) (fun σ3 => lt (x_now' σ σ3) (fun σ4 => some ((f_J6_bitCount_0f7a4 ((f_X0_shutFields (x_now σ4)) &&& (x2 ^^^ (-1)))), σ4)))) else ob2 (f_X3_refuse σ (-5)) (fun x6 σ5 => some (x6, σ5)))
set_option maxHeartbeats 4000000 in
set_option maxRecDepth 100000 in
theorem c_X3_move (l : Launch) (ev : EV) (ad : Nat → Nat) (σ : XX) (a1 : Int32)   (r : Int32) (σ' : XX) (h : f_X3_move σ a1 = some (r, σ')) : Ct l yX3_move prog_1_method_53_code 4 (Option.some Jvm.ClassFile.FieldType.int) (rmk 4 81) ev 26 ad (xw ev ad σ) (xw ev ad σ') [.ref (ad 0), .int a1] (some (.int r)) := by
  refine Ct.of (by decide +kernel) (Nat.le_of_ble_eq_true rfl) ?_
  intro p e s m args below meth c Qc C hap hP hend ls hl
  have hAA : ∀ j, j < 26 → inA ad 26 (ad j) := fun j hj => ⟨j, hj, rfl⟩
  have hx := C.1
  have hb := C.2.1
  have hl : lv_has ls 4 [(0, .ref (ad 0)), (1, .int a1)] := hl
  have h := (f_X3_move.eq_1 _ _ ).symm.trans h
  refine lv_aload_n hx hb dX3_move_0 rfl (lv_at hl 0 rfl) ?_
  refine r_get C hP (ci := 3) rfl uin_X3 0 (by decide) 0 (by decide) rfl qFL_RX3_10 rfl rfl dX3_move_1 ?_
  refine lv_iload_n hx hb dX3_move_4 rfl (lv_at hl 1 rfl) ?_
  refine k_callVi C hP hap hAA (c_X0_slotOf l ev (fun j => ad (j + 1)) (x_now σ) a1   _ rfl) (em_G1r) (apart_1 _) gz_X0_slotOf qML_RX3_239 qIM_yX0_slotOf qSE_yX0_slotOf ⟨(Nat.le_of_ble_eq_true rfl), (Nat.le_of_ble_eq_true rfl)⟩ (q0 := 1) rfl (by decide) rfl rfl rfl rfl hl.1 rfl (Nat.le_of_ble_eq_true rfl) dX3_move_5 ⟨Nat.le_refl _, Nat.le_refl _⟩ (fun H locs hP => ?_)
  refine lv_topi (fun x1 ex1 => ?_)
  have h := k_lt ex1 h
  refine lv_istore_n (lv' := [(2, .int x1), (0, .ref (ad 0)), (1, .int a1)]) hx hb dX3_move_8 rfl hl (by decide) rfl (fun ls hl => ?_)
  refine lv_iload_n hx hb dX3_move_9 rfl (lv_at hl 0 rfl) ?_
  refine lv_iconst (v := (-1)) hx hb dX3_move_10 (by decide) ?_
  refine lv_icmp_ne (tgt := 21) hx hb dX3_move_11 (by decide) (fun c11 => ?_) (fun c11 => ?_)
  · have h := k_nf c11 h
    refine lv_aload_n hx hb dX3_move_21 rfl (lv_at hl 1 rfl) ?_
    refine r_get C hP (ci := 3) rfl uin_X3 0 (by decide) 0 (by decide) rfl qFL_RX3_10 rfl rfl dX3_move_22 ?_
    refine lv_iload_n hx hb dX3_move_25 rfl (lv_at hl 0 rfl) ?_
    refine k_callVi C hP hap hAA (c_X0_isOpen l ev (fun j => ad (j + 1)) (x_now σ) x1   _ rfl) (em_G1r) (apart_1 _) gz_X0_isOpen qML_RX3_242 qIM_yX0_isOpen qSE_yX0_isOpen ⟨(Nat.le_of_ble_eq_true rfl), (Nat.le_of_ble_eq_true rfl)⟩ (q0 := 1) rfl (by decide) rfl rfl rfl rfl hl.1 rfl (Nat.le_of_ble_eq_true rfl) dX3_move_26 ⟨Nat.le_refl _, Nat.le_refl _⟩ (fun H locs hP => ?_)
    refine r_ifz_ne (tgt := 39) hx hb dX3_move_29 (by decide) (fun c29 => ?_) (fun c29 => ?_)
    · have h := k_if c29 h
      refine lv_aload_n hx hb dX3_move_39 rfl (lv_at hl 1 rfl) ?_
      refine r_get C hP (ci := 3) rfl uin_X3 0 (by decide) 0 (by decide) rfl qFL_RX3_10 rfl rfl dX3_move_40 ?_
      refine k_callVi C hP hap hAA (c_X0_shutFields l ev (fun j => ad (j + 1)) (x_now σ)   _ rfl) (em_G1r) (apart_1 _) gz_X0_shutFields qML_RX3_283 qIM_yX0_shutFields qSE_yX0_shutFields ⟨(Nat.le_of_ble_eq_true rfl), (Nat.le_of_ble_eq_true rfl)⟩ (q0 := 1) rfl (by decide) rfl rfl rfl rfl hl.1 rfl (Nat.le_of_ble_eq_true rfl) dX3_move_43 ⟨Nat.le_refl _, Nat.le_refl _⟩ (fun H locs hP => ?_)
      refine lv_topi (fun x2 ex2 => ?_)
      have h := k_lt ex2 h
      refine lv_istore_n (lv' := [(3, .int x2), (2, .int x1), (0, .ref (ad 0)), (1, .int a1)]) hx hb dX3_move_46 rfl hl (by decide) rfl (fun ls hl => ?_)
      refine lv_aload_n hx hb dX3_move_47 rfl (lv_at hl 2 rfl) ?_
      refine r_get C hP (ci := 3) rfl uin_X3 0 (by decide) 0 (by decide) rfl qFL_RX3_10 rfl rfl dX3_move_48 ?_
      refine lv_iload_n hx hb dX3_move_51 rfl (lv_at hl 1 rfl) ?_
      obtain ⟨σ3, h1, h⟩ := k_ob h
      refine k_callVv C hP hap hAA (c_X0_make l ev (fun j => ad (j + 1)) (x_now σ) x1   _ h1) (em_G1) (apart_1 _) gz_X0_make qML_RX3_311 qIM_yX0_make qSE_yX0_make ⟨(Nat.le_of_ble_eq_true rfl), (Nat.le_of_ble_eq_true rfl)⟩ (q0 := 1) rfl (by decide) rfl rfl rfl rfl hl.1 rfl (Nat.le_of_ble_eq_true rfl) dX3_move_52 ⟨Nat.le_refl _, Nat.le_refl _⟩ (fun H locs hP => ?_)
      obtain ⟨σ4, eσ4, h⟩ := k_ltx h
      rw [← eσ4] at hP
      refine lv_aload_n hx hb dX3_move_55 rfl (lv_at hl 2 rfl) ?_
      refine r_get C hP (ci := 3) rfl uin_X3 0 (by decide) 0 (by decide) rfl qFL_RX3_10 rfl rfl dX3_move_56 ?_
      refine k_callVi C hP hap hAA (c_X0_shutFields l ev (fun j => ad (j + 1)) (x_now σ4)   _ rfl) (em_G1r) (apart_1 _) gz_X0_shutFields qML_RX3_283 qIM_yX0_shutFields qSE_yX0_shutFields ⟨(Nat.le_of_ble_eq_true rfl), (Nat.le_of_ble_eq_true rfl)⟩ (q0 := 1) rfl (by decide) rfl rfl rfl rfl hl.1 rfl (Nat.le_of_ble_eq_true rfl) dX3_move_59 ⟨Nat.le_refl _, Nat.le_refl _⟩ (fun H locs hP => ?_)
      refine lv_iload_n hx hb dX3_move_62 rfl (lv_at hl 0 rfl) ?_
      refine lv_iconst (v := (-1)) hx hb dX3_move_63 (by decide) ?_
      refine lv_ixor hx hb dX3_move_64 ?_
      refine lv_iand hx hb dX3_move_65 ?_
      refine k_callSi C hP hap hAA (c_J6_bitCount_0f7a4 l ev ad ((f_X0_shutFields (x_now σ4)) &&& (x2 ^^^ (-1)))   _ rfl) Emb.none (apart_0 _) gz_J6_bitCount_0f7a4 qML_RX3_286 qSM_yJ6_bitCount_0f7a4 ⟨(Nat.le_of_ble_eq_true rfl), (Nat.le_of_ble_eq_true rfl)⟩ rfl hl.1 rfl (Nat.le_of_ble_eq_true rfl) dX3_move_66 ⟨Nat.le_refl _, Nat.le_refl _⟩ (fun H locs hP => ?_)
      exact e_iret C hend hP (k_some2 h).1 (congrArg (xw ev ad) (k_some2 h).2) dX3_move_69
    · have h := k_nf c29 h
      refine lv_aload_n hx hb dX3_move_32 rfl (lv_at hl 1 rfl) ?_
      refine lv_bipush (v := (-5)) hx hb dX3_move_33 (by decide) ?_
      obtain ⟨x6, σ5, h1, h⟩ := k_ob2 h
      refine k_callVi C hP hap hAA (c_X3_refuse l ev ad σ (-5)   _ _ h1) Emb.same hap gz_X3_refuse qML_RX3_60 qIM_yX3_refuse qSE_yX3_refuse ⟨(Nat.le_of_ble_eq_true rfl), (Nat.le_of_ble_eq_true rfl)⟩ (q0 := 0) rfl (by decide) rfl rfl rfl rfl hl.1 rfl (Nat.le_of_ble_eq_true rfl) dX3_move_35 ⟨Nat.le_refl _, Nat.le_refl _⟩ (fun H locs hP => ?_)
      exact e_iret C hend hP (k_some2 h).1 (congrArg (xw ev ad) (k_some2 h).2) dX3_move_38
  · have h := k_if c11 h
    refine lv_aload_n hx hb dX3_move_14 rfl (lv_at hl 1 rfl) ?_
    refine lv_bipush (v := (-2)) hx hb dX3_move_15 (by decide) ?_
    obtain ⟨x8, σ7, h1, h⟩ := k_ob2 h
    refine k_callVi C hP hap hAA (c_X3_refuse l ev ad σ (-2)   _ _ h1) Emb.same hap gz_X3_refuse qML_RX3_60 qIM_yX3_refuse qSE_yX3_refuse ⟨(Nat.le_of_ble_eq_true rfl), (Nat.le_of_ble_eq_true rfl)⟩ (q0 := 0) rfl (by decide) rfl rfl rfl rfl hl.1 rfl (Nat.le_of_ble_eq_true rfl) dX3_move_17 ⟨Nat.le_refl _, Nat.le_refl _⟩ (fun H locs hP => ?_)
    exact e_iret C hend hP (k_some2 h).1 (congrArg (xw ev ad) (k_some2 h).2) dX3_move_20
def f_X3_chosenSlot_now_b125  (y4 : Int64) (y5 : Int64) (σ6 : XX) : Option (Int32 × XX) :=
  if (lg_cmp y5 0) = 0 then some ((f_X3_firstSlot y4), σ6) else some ((f_X3_firstSlot y5), σ6)
def f_X3_chosenSlot_now (σ : XX) (a2 : Int32) : Option (Int32 × XX) :=
  lt (f_X0_openSlots (x_now σ)) (fun y1 => ob (f_X3_kindOf σ a2) (fun x2 => if x2 = 1 then ob (f_X0_shuttingEdges (x_now σ)) (fun y3 => f_X3_chosenSlot_now_b125 y1 y3 σ) else if x2 = 2 then ob (f_X3_amountOf σ a2) (fun x7 => lt (f_X0_digsBelow (x_now σ) x7 (g_all (x_now σ))) (fun y8 => f_X3_chosenSlot_now_b125 y1 y8 σ)) else if x2 = 3 then ob (f_X0_shuttingEdges (x_now σ)) (fun y9 => if (lg_cmp y9 0) = 0 then ob (f_X0_calmEdges (x_now σ)) (fun y10 => f_X3_chosenSlot_now_b125 y1 y10 σ) else f_X3_chosenSlot_now_b125 y1 y9 σ) else if x2 = 4 then ob (f_X3_amountOf σ a2) (fun x11 => ob (f_X0_touched (x_now σ) (g_rimEdges (x_now σ))) (fun x12 => lt (f_X0_digsBelow (x_now σ) x11 x12) (fun y13 => f_X3_chosenSlot_now_b125 y1 y13 σ))) else if x2 = 5 then ob2 (f_X0_drawnSlot (x_now σ) y1) (fun x15 σ14 => lt (x_now' σ σ14) (fun σ16 => some (x15, σ16))) else f_X3_chosenSlot_now_b125 y1 0 σ))
set_option maxHeartbeats 4000000 in
set_option maxRecDepth 100000 in
theorem c_X3_chosenSlot_now (l : Launch) (ev : EV) (ad : Nat → Nat) (σ : XX) (a2 : Int32)   (r : Int32) (σ' : XX) (h : f_X3_chosenSlot_now σ a2 = some (r, σ')) : Ct l yX3_chosenSlot prog_1_method_81_code 7 (Option.some Jvm.ClassFile.FieldType.int) (rmk 4 89) ev 26 ad (xw ev ad σ) (xw ev ad σ') [.ref (ad 0), .ref (ad 1), .int a2] (some (.int r)) := by
  refine Ct.of (by decide +kernel) (Nat.le_of_ble_eq_true rfl) ?_
  intro p e s m args below meth c Qc C hap hP hend ls hl
  have hAA : ∀ j, j < 26 → inA ad 26 (ad j) := fun j hj => ⟨j, hj, rfl⟩
  have hx := C.1
  have hb := C.2.1
  have hl : lv_has ls 7 [(0, .ref (ad 0)), (1, .ref (ad 1)), (2, .int a2)] := hl
  have h := (f_X3_chosenSlot_now.eq_1 _ _ ).symm.trans h
  have hB125 : ∀ (y4 : Int64) (y5 : Int64) (σ6 : XX) (H : Heap) (locs : List Loc) (ls : Array Slot), f_X3_chosenSlot_now_b125  y4 y5 σ6 = some (r, σ') → PS ev 26 ad (xw ev ad σ6) (inA ad 26) s H locs → lv_has ls 7 [(3, .long y4), (5, .long y5)] → WW ev p l e (rmk 4 89) s m args below meth c Qc ad 26 H locs 125 ls [] := by
    intro y4 y5 σ6 H locs ls h hP hl
    have h := (f_X3_chosenSlot_now_b125.eq_1 _ _ _ ).symm.trans h
    refine lv_lload hx hb dX3_chosenSlot_125 (lv_at hl 1 rfl) ?_
    refine lv_lconst (v := 0) hx hb dX3_chosenSlot_127 (by decide) ?_
    refine W.lcmp hx hb dX3_chosenSlot_128 ?_
    refine lv_if_ne (tgt := 136) hx hb dX3_chosenSlot_129 (by decide) (fun c129 => ?_) (fun c129 => ?_)
    · have h := k_nf c129 h
      refine lv_lload hx hb dX3_chosenSlot_136 (lv_at hl 1 rfl) ?_
      refine k_callSi C hP hap hAA (c_X3_firstSlot l ev ad y5   _ rfl) Emb.none (apart_0 _) gz_X3_firstSlot qML_RX3_318 qSM_yX3_firstSlot ⟨(Nat.le_of_ble_eq_true rfl), (Nat.le_of_ble_eq_true rfl)⟩ rfl hl.1 rfl (Nat.le_of_ble_eq_true rfl) dX3_chosenSlot_138 ⟨Nat.le_refl _, Nat.le_refl _⟩ (fun H locs hP => ?_)
      exact e_iret C hend hP (k_some2 h).1 (congrArg (xw ev ad) (k_some2 h).2) dX3_chosenSlot_141
    · have h := k_if c129 h
      refine lv_lload_n hx hb dX3_chosenSlot_132 rfl (lv_at hl 0 rfl) ?_
      refine lv_goto (tgt := 138) hx hb dX3_chosenSlot_133 (by decide) ?_
      refine k_callSi C hP hap hAA (c_X3_firstSlot l ev ad y4   _ rfl) Emb.none (apart_0 _) gz_X3_firstSlot qML_RX3_318 qSM_yX3_firstSlot ⟨(Nat.le_of_ble_eq_true rfl), (Nat.le_of_ble_eq_true rfl)⟩ rfl hl.1 rfl (Nat.le_of_ble_eq_true rfl) dX3_chosenSlot_138 ⟨Nat.le_refl _, Nat.le_refl _⟩ (fun H locs hP => ?_)
      exact e_iret C hend hP (k_some2 h).1 (congrArg (xw ev ad) (k_some2 h).2) dX3_chosenSlot_141
  refine lv_aload_n hx hb dX3_chosenSlot_0 rfl (lv_at hl 1 rfl) ?_
  refine k_callVl C hP hap hAA (c_X0_openSlots l ev (fun j => ad (j + 1)) (x_now σ)   _ rfl) (em_G1r) (apart_1 _) gz_X0_openSlots qML_RX3_127 qIM_yX0_openSlots qSE_yX0_openSlots ⟨(Nat.le_of_ble_eq_true rfl), (Nat.le_of_ble_eq_true rfl)⟩ (q0 := 1) rfl (by decide) rfl rfl rfl rfl hl.1 rfl (Nat.le_of_ble_eq_true rfl) dX3_chosenSlot_1 ⟨Nat.le_refl _, Nat.le_refl _⟩ (fun H locs hP => ?_)
  refine lv_topl (fun y1 ey1 => ?_)
  have h := k_lt ey1 h
  refine lv_lstore_n (lv' := [(3, .long y1), (0, .ref (ad 0)), (1, .ref (ad 1)), (2, .int a2)]) hx hb dX3_chosenSlot_4 rfl hl (by decide) rfl (fun ls hl => ?_)
  refine lv_lconst (v := 0) hx hb dX3_chosenSlot_5 (by decide) ?_
  refine lv_lstore (lv' := [(5, .long 0), (3, .long y1), (0, .ref (ad 0)), (1, .ref (ad 1)), (2, .int a2)]) hx hb dX3_chosenSlot_6 hl (by decide) rfl (fun ls hl => ?_)
  refine lv_aload_n hx hb dX3_chosenSlot_8 rfl (lv_at hl 2 rfl) ?_
  refine lv_iload_n hx hb dX3_chosenSlot_9 rfl (lv_at hl 4 rfl) ?_
  obtain ⟨x2, h1, h⟩ := k_ob h
  refine k_callVi C hP hap hAA (c_X3_kindOf l ev ad σ a2   _ h1) Emb.same hap gz_X3_kindOf qML_RX3_118 qIM_yX3_kindOf qSE_yX3_kindOf ⟨(Nat.le_of_ble_eq_true rfl), (Nat.le_of_ble_eq_true rfl)⟩ (q0 := 0) rfl (by decide) rfl rfl rfl rfl hl.1 rfl (Nat.le_of_ble_eq_true rfl) dX3_chosenSlot_10 ⟨Nat.le_refl _, Nat.le_refl _⟩ (fun H locs hP => ?_)
  by_cases cs1 : x2 = 1
  · have h := k_if cs1 h
    refine r_tabIn (tgt := 48) (off := 35) (i := 1) hx hb dX3_chosenSlot_13 cs1 (by decide) (by decide) (by decide) (by decide) ?_
    refine lv_aload_n hx hb dX3_chosenSlot_48 rfl (lv_at hl 3 rfl) ?_
    obtain ⟨y3, h1, h⟩ := k_ob h
    refine k_callVl C hP hap hAA (c_X0_shuttingEdges l ev (fun j => ad (j + 1)) (x_now σ)   _ h1) (em_G1r) (apart_1 _) gz_X0_shuttingEdges qML_RX3_380 qIM_yX0_shuttingEdges qSE_yX0_shuttingEdges ⟨(Nat.le_of_ble_eq_true rfl), (Nat.le_of_ble_eq_true rfl)⟩ (q0 := 1) rfl (by decide) rfl rfl rfl rfl hl.1 rfl (Nat.le_of_ble_eq_true rfl) dX3_chosenSlot_49 ⟨Nat.le_refl _, Nat.le_refl _⟩ (fun H locs hP => ?_)
    refine lv_lstore (lv' := [(5, .long y3), (3, .long y1), (0, .ref (ad 0)), (1, .ref (ad 1)), (2, .int a2)]) hx hb dX3_chosenSlot_52 hl (by decide) rfl (fun ls hl => ?_)
    refine lv_goto (tgt := 125) hx hb dX3_chosenSlot_54 (by decide) ?_
    exact hB125 _ _ _ _ _ _ h hP (lv_sub hl [1, 0] rfl)
  · have h := k_nf cs1 h
    by_cases cs2 : x2 = 2
    · have h := k_if cs2 h
      refine r_tabIn (tgt := 79) (off := 66) (i := 2) hx hb dX3_chosenSlot_13 cs2 (by decide) (by decide) (by decide) (by decide) ?_
      refine lv_aload_n hx hb dX3_chosenSlot_79 rfl (lv_at hl 3 rfl) ?_
      refine lv_aload_n hx hb dX3_chosenSlot_80 rfl (lv_at hl 2 rfl) ?_
      refine lv_iload_n hx hb dX3_chosenSlot_81 rfl (lv_at hl 4 rfl) ?_
      obtain ⟨x7, h1, h⟩ := k_ob h
      refine k_callVi C hP hap hAA (c_X3_amountOf l ev ad σ a2   _ h1) Emb.same hap gz_X3_amountOf qML_RX3_124 qIM_yX3_amountOf qSE_yX3_amountOf ⟨(Nat.le_of_ble_eq_true rfl), (Nat.le_of_ble_eq_true rfl)⟩ (q0 := 0) rfl (by decide) rfl rfl rfl rfl hl.1 rfl (Nat.le_of_ble_eq_true rfl) dX3_chosenSlot_82 ⟨Nat.le_refl _, Nat.le_refl _⟩ (fun H locs hP => ?_)
      refine lv_aload_n hx hb dX3_chosenSlot_85 rfl (lv_at hl 3 rfl) ?_
      refine r_get C hP (ci := 0) rfl uin_X0 5 (by decide) 1 (by decide) rfl qFL_RX3_293 rfl rfl dX3_chosenSlot_86 ?_
      refine k_callVl C hP hap hAA (c_X0_digsBelow l ev (fun j => ad (j + 1)) (x_now σ) x7 (g_all (x_now σ))   _ rfl) (em_G1r) (apart_1 _) gz_X0_digsBelow qML_RX3_383 qIM_yX0_digsBelow qSE_yX0_digsBelow ⟨(Nat.le_of_ble_eq_true rfl), (Nat.le_of_ble_eq_true rfl)⟩ (q0 := 1) rfl (by decide) rfl rfl rfl rfl hl.1 rfl (Nat.le_of_ble_eq_true rfl) dX3_chosenSlot_89 ⟨Nat.le_refl _, Nat.le_refl _⟩ (fun H locs hP => ?_)
      refine lv_topl (fun y8 ey8 => ?_)
      have h := k_lt ey8 h
      refine lv_lstore (lv' := [(5, .long y8), (3, .long y1), (0, .ref (ad 0)), (1, .ref (ad 1)), (2, .int a2)]) hx hb dX3_chosenSlot_92 hl (by decide) rfl (fun ls hl => ?_)
      refine lv_goto (tgt := 125) hx hb dX3_chosenSlot_94 (by decide) ?_
      exact hB125 _ _ _ _ _ _ h hP (lv_sub hl [1, 0] rfl)
    · have h := k_nf cs2 h
      by_cases cs3 : x2 = 3
      · have h := k_if cs3 h
        refine r_tabIn (tgt := 57) (off := 44) (i := 3) hx hb dX3_chosenSlot_13 cs3 (by decide) (by decide) (by decide) (by decide) ?_
        refine lv_aload_n hx hb dX3_chosenSlot_57 rfl (lv_at hl 3 rfl) ?_
        obtain ⟨y9, h1, h⟩ := k_ob h
        refine k_callVl C hP hap hAA (c_X0_shuttingEdges l ev (fun j => ad (j + 1)) (x_now σ)   _ h1) (em_G1r) (apart_1 _) gz_X0_shuttingEdges qML_RX3_380 qIM_yX0_shuttingEdges qSE_yX0_shuttingEdges ⟨(Nat.le_of_ble_eq_true rfl), (Nat.le_of_ble_eq_true rfl)⟩ (q0 := 1) rfl (by decide) rfl rfl rfl rfl hl.1 rfl (Nat.le_of_ble_eq_true rfl) dX3_chosenSlot_58 ⟨Nat.le_refl _, Nat.le_refl _⟩ (fun H locs hP => ?_)
        refine lv_lstore (lv' := [(5, .long y9), (3, .long y1), (0, .ref (ad 0)), (1, .ref (ad 1)), (2, .int a2)]) hx hb dX3_chosenSlot_61 hl (by decide) rfl (fun ls hl => ?_)
        refine lv_lload hx hb dX3_chosenSlot_63 (lv_at hl 0 rfl) ?_
        refine lv_lconst (v := 0) hx hb dX3_chosenSlot_65 (by decide) ?_
        refine W.lcmp hx hb dX3_chosenSlot_66 ?_
        refine lv_if_ne (tgt := 125) hx hb dX3_chosenSlot_67 (by decide) (fun c67 => ?_) (fun c67 => ?_)
        · have h := k_nf c67 h
          exact hB125 _ _ _ _ _ _ h hP (lv_sub hl [1, 0] rfl)
        · have h := k_if c67 h
          refine lv_aload_n hx hb dX3_chosenSlot_70 rfl (lv_at hl 3 rfl) ?_
          obtain ⟨y10, h1, h⟩ := k_ob h
          refine k_callVl C hP hap hAA (c_X0_calmEdges l ev (fun j => ad (j + 1)) (x_now σ)   _ h1) (em_G1r) (apart_1 _) gz_X0_calmEdges qML_RX3_290 qIM_yX0_calmEdges qSE_yX0_calmEdges ⟨(Nat.le_of_ble_eq_true rfl), (Nat.le_of_ble_eq_true rfl)⟩ (q0 := 1) rfl (by decide) rfl rfl rfl rfl hl.1 rfl (Nat.le_of_ble_eq_true rfl) dX3_chosenSlot_71 ⟨Nat.le_refl _, Nat.le_refl _⟩ (fun H locs hP => ?_)
          refine lv_lstore (lv' := [(5, .long y10), (3, .long y1), (0, .ref (ad 0)), (1, .ref (ad 1)), (2, .int a2)]) hx hb dX3_chosenSlot_74 hl (by decide) rfl (fun ls hl => ?_)
          refine lv_goto (tgt := 125) hx hb dX3_chosenSlot_76 (by decide) ?_
          exact hB125 _ _ _ _ _ _ h hP (lv_sub hl [1, 0] rfl)
      · have h := k_nf cs3 h
        by_cases cs4 : x2 = 4
        · have h := k_if cs4 h
          refine r_tabIn (tgt := 97) (off := 84) (i := 4) hx hb dX3_chosenSlot_13 cs4 (by decide) (by decide) (by decide) (by decide) ?_
          refine lv_aload_n hx hb dX3_chosenSlot_97 rfl (lv_at hl 3 rfl) ?_
          refine lv_aload_n hx hb dX3_chosenSlot_98 rfl (lv_at hl 2 rfl) ?_
          refine lv_iload_n hx hb dX3_chosenSlot_99 rfl (lv_at hl 4 rfl) ?_
          obtain ⟨x11, h1, h⟩ := k_ob h
          refine k_callVi C hP hap hAA (c_X3_amountOf l ev ad σ a2   _ h1) Emb.same hap gz_X3_amountOf qML_RX3_124 qIM_yX3_amountOf qSE_yX3_amountOf ⟨(Nat.le_of_ble_eq_true rfl), (Nat.le_of_ble_eq_true rfl)⟩ (q0 := 0) rfl (by decide) rfl rfl rfl rfl hl.1 rfl (Nat.le_of_ble_eq_true rfl) dX3_chosenSlot_100 ⟨Nat.le_refl _, Nat.le_refl _⟩ (fun H locs hP => ?_)
          refine lv_aload_n hx hb dX3_chosenSlot_103 rfl (lv_at hl 3 rfl) ?_
          refine lv_aload_n hx hb dX3_chosenSlot_104 rfl (lv_at hl 3 rfl) ?_
          refine r_get C hP (ci := 0) rfl uin_X0 8 (by decide) 1 (by decide) rfl qFL_RX3_221 rfl rfl dX3_chosenSlot_105 ?_
          obtain ⟨x12, h1, h⟩ := k_ob h
          refine k_callVi C hP hap hAA (c_X0_touched l ev (fun j => ad (j + 1)) (x_now σ) (g_rimEdges (x_now σ))   _ h1) (em_G1r) (apart_1 _) gz_X0_touched qML_RX3_224 qIM_yX0_touched qSE_yX0_touched ⟨(Nat.le_of_ble_eq_true rfl), (Nat.le_of_ble_eq_true rfl)⟩ (q0 := 1) rfl (by decide) rfl rfl rfl rfl hl.1 rfl (Nat.le_of_ble_eq_true rfl) dX3_chosenSlot_108 ⟨Nat.le_refl _, Nat.le_refl _⟩ (fun H locs hP => ?_)
          refine k_callVl C hP hap hAA (c_X0_digsBelow l ev (fun j => ad (j + 1)) (x_now σ) x11 x12   _ rfl) (em_G1r) (apart_1 _) gz_X0_digsBelow qML_RX3_383 qIM_yX0_digsBelow qSE_yX0_digsBelow ⟨(Nat.le_of_ble_eq_true rfl), (Nat.le_of_ble_eq_true rfl)⟩ (q0 := 1) rfl (by decide) rfl rfl rfl rfl hl.1 rfl (Nat.le_of_ble_eq_true rfl) dX3_chosenSlot_111 ⟨Nat.le_refl _, Nat.le_refl _⟩ (fun H locs hP => ?_)
          refine lv_topl (fun y13 ey13 => ?_)
          have h := k_lt ey13 h
          refine lv_lstore (lv' := [(5, .long y13), (3, .long y1), (0, .ref (ad 0)), (1, .ref (ad 1)), (2, .int a2)]) hx hb dX3_chosenSlot_114 hl (by decide) rfl (fun ls hl => ?_)
          refine lv_goto (tgt := 125) hx hb dX3_chosenSlot_116 (by decide) ?_
          exact hB125 _ _ _ _ _ _ h hP (lv_sub hl [1, 0] rfl)
        · have h := k_nf cs4 h
          by_cases cs5 : x2 = 5
          · have h := k_if cs5 h
            refine r_tabIn (tgt := 119) (off := 106) (i := 5) hx hb dX3_chosenSlot_13 cs5 (by decide) (by decide) (by decide) (by decide) ?_
            refine lv_aload_n hx hb dX3_chosenSlot_119 rfl (lv_at hl 3 rfl) ?_
            refine lv_lload_n hx hb dX3_chosenSlot_120 rfl (lv_at hl 1 rfl) ?_
            obtain ⟨x15, σ14, h1, h⟩ := k_ob2 h
            refine k_callVi C hP hap hAA (c_X0_drawnSlot l ev (fun j => ad (j + 1)) (x_now σ) y1   _ _ h1) (em_G1) (apart_1 _) gz_X0_drawnSlot qML_RX3_387 qIM_yX0_drawnSlot qSE_yX0_drawnSlot ⟨(Nat.le_of_ble_eq_true rfl), (Nat.le_of_ble_eq_true rfl)⟩ (q0 := 1) rfl (by decide) rfl rfl rfl rfl hl.1 rfl (Nat.le_of_ble_eq_true rfl) dX3_chosenSlot_121 ⟨Nat.le_refl _, Nat.le_refl _⟩ (fun H locs hP => ?_)
            obtain ⟨σ16, eσ16, h⟩ := k_ltx h
            rw [← eσ16] at hP
            exact e_iret C hend hP (k_some2 h).1 (congrArg (xw ev ad) (k_some2 h).2) dX3_chosenSlot_124
          · have h := k_nf cs5 h
            refine r_tabOut (tgt := 125) hx hb dX3_chosenSlot_13 (fun i h1 h2 => by
              have h3 : i = 1 ∨ i = 2 ∨ i = 3 ∨ i = 4 ∨ i = 5 := by omega
              rcases h3 with rfl | rfl | rfl | rfl | rfl
              · exact cs1
              · exact cs2
              · exact cs3
              · exact cs4
              · exact cs5
              ) (by decide) ?_
            exact hB125 _ _ _ _ _ _ h hP (lv_sub hl [1, 0] rfl)
def f_X3_goes_L28_b (a1 : Int32) (a2 : Int32)  (rec28 : Int32 → XX → Option (Int32 × XX)) (x5 : Int32) (σ6 : XX) : Option (Int32 × XX) :=
  if a2 ≤ x5 then some (a2, σ6) else ob2 (f_X3_chosenSlot_now σ6 a1) (fun x8 σ7 => if x8 = (-1) then some (x5, σ7) else ob (f_X0_make (x_now σ7) x8) (fun σ9 => lt (x_now' σ7 σ9) (fun σ10 => lt (x5 + 1) (fun x11 => rec28 x11 σ10))))
def f_X3_goes_L28 (a1 : Int32) (a2 : Int32)  (x5 : Int32) (σ6 : XX) : Option (Int32 × XX) :=
  lp (fun _ _ => none) (f_X3_goes_L28_b a1 a2 ) FU x5 σ6
def f_X3_goes (σ : XX) (a1 : Int32) (a2 : Int32) : Option (Int32 × XX) :=
  if (f_X3_isPlayer σ a1) = true then if a2 < 1 then ob2 (f_X3_refuse σ (-2)) (fun x4 σ3 => some (x4, σ3)) else if a2 ≤ 40 then f_X3_goes_L28 a1 a2 0 σ else ob2 (f_X3_refuse σ (-2)) (fun x13 σ12 => some (x13, σ12)) else ob2 (f_X3_refuse σ (-2)) (fun x2 σ1 => some (x2, σ1))
set_option maxHeartbeats 4000000 in
set_option maxRecDepth 100000 in
theorem c_X3_goes (l : Launch) (ev : EV) (ad : Nat → Nat) (σ : XX) (a1 : Int32) (a2 : Int32)   (r : Int32) (σ' : XX) (h : f_X3_goes σ a1 a2 = some (r, σ')) : Ct l yX3_goes prog_1_method_54_code 5 (Option.some Jvm.ClassFile.FieldType.int) (rmk 5 115) ev 26 ad (xw ev ad σ) (xw ev ad σ') [.ref (ad 0), .int a1, .int a2] (some (.int r)) := by
  refine Ct.of (by decide +kernel) (Nat.le_of_ble_eq_true rfl) ?_
  intro p e s m args below meth c Qc C hap hP hend ls hl
  have hAA : ∀ j, j < 26 → inA ad 26 (ad j) := fun j hj => ⟨j, hj, rfl⟩
  have hx := C.1
  have hb := C.2.1
  have hl : lv_has ls 5 [(0, .ref (ad 0)), (1, .int a1), (2, .int a2)] := hl
  have h := (f_X3_goes.eq_1 _ _ _ ).symm.trans h
  refine lv_aload_n hx hb dX3_goes_0 rfl (lv_at hl 0 rfl) ?_
  refine lv_iload_n hx hb dX3_goes_1 rfl (lv_at hl 1 rfl) ?_
  refine k_callVi C hP hap hAA (c_X3_isPlayer l ev ad σ a1   _ rfl) Emb.same hap gz_X3_isPlayer qML_RX3_108 qIM_yX3_isPlayer qSE_yX3_isPlayer ⟨(Nat.le_of_ble_eq_true rfl), (Nat.le_of_ble_eq_true rfl)⟩ (q0 := 0) rfl (by decide) rfl rfl rfl rfl hl.1 rfl (Nat.le_of_ble_eq_true rfl) dX3_goes_2 ⟨Nat.le_refl _, Nat.le_refl _⟩ (fun H locs hP => ?_)
  refine r_ifz_eq (tgt := 19) hx hb dX3_goes_5 (by decide) (fun c5 => ?_) (fun c5 => ?_)
  · have h := k_nf c5 h
    refine lv_aload_n hx hb dX3_goes_19 rfl (lv_at hl 0 rfl) ?_
    refine lv_bipush (v := (-2)) hx hb dX3_goes_20 (by decide) ?_
    obtain ⟨x2, σ1, h1, h⟩ := k_ob2 h
    refine k_callVi C hP hap hAA (c_X3_refuse l ev ad σ (-2)   _ _ h1) Emb.same hap gz_X3_refuse qML_RX3_60 qIM_yX3_refuse qSE_yX3_refuse ⟨(Nat.le_of_ble_eq_true rfl), (Nat.le_of_ble_eq_true rfl)⟩ (q0 := 0) rfl (by decide) rfl rfl rfl rfl hl.1 rfl (Nat.le_of_ble_eq_true rfl) dX3_goes_22 ⟨Nat.le_refl _, Nat.le_refl _⟩ (fun H locs hP => ?_)
    exact e_iret C hend hP (k_some2 h).1 (congrArg (xw ev ad) (k_some2 h).2) dX3_goes_25
  · have h := k_if c5 h
    refine lv_iload_n hx hb dX3_goes_8 rfl (lv_at hl 2 rfl) ?_
    refine lv_iconst (v := 1) hx hb dX3_goes_9 (by decide) ?_
    refine lv_icmp_lt (tgt := 19) hx hb dX3_goes_10 (by decide) (fun c10 => ?_) (fun c10 => ?_)
    · have h := k_if c10 h
      refine lv_aload_n hx hb dX3_goes_19 rfl (lv_at hl 0 rfl) ?_
      refine lv_bipush (v := (-2)) hx hb dX3_goes_20 (by decide) ?_
      obtain ⟨x4, σ3, h1, h⟩ := k_ob2 h
      refine k_callVi C hP hap hAA (c_X3_refuse l ev ad σ (-2)   _ _ h1) Emb.same hap gz_X3_refuse qML_RX3_60 qIM_yX3_refuse qSE_yX3_refuse ⟨(Nat.le_of_ble_eq_true rfl), (Nat.le_of_ble_eq_true rfl)⟩ (q0 := 0) rfl (by decide) rfl rfl rfl rfl hl.1 rfl (Nat.le_of_ble_eq_true rfl) dX3_goes_22 ⟨Nat.le_refl _, Nat.le_refl _⟩ (fun H locs hP => ?_)
      exact e_iret C hend hP (k_some2 h).1 (congrArg (xw ev ad) (k_some2 h).2) dX3_goes_25
    · have h := k_nf c10 h
      refine lv_iload_n hx hb dX3_goes_13 rfl (lv_at hl 2 rfl) ?_
      refine lv_bipush (v := 40) hx hb dX3_goes_14 (by decide) ?_
      refine lv_icmp_le (tgt := 26) hx hb dX3_goes_16 (by decide) (fun c16 => ?_) (fun c16 => ?_)
      · have h := k_if c16 h
        refine lv_iconst (v := 0) hx hb dX3_goes_26 (by decide) ?_
        refine lv_istore_n (lv' := [(3, .int 0), (0, .ref (ad 0)), (1, .int a1), (2, .int a2)]) hx hb dX3_goes_27 rfl hl (by decide) rfl (fun ls hl => ?_)
        have hL28 : ∀ (n : Nat) (x5 : Int32) (σ6 : XX) (H : Heap) (locs : List Loc) (ls : Array Slot), lp (fun _ _ => none) (f_X3_goes_L28_b a1 a2 ) n x5 σ6 = some (r, σ') → PS ev 26 ad (xw ev ad σ6) (inA ad 26) s H locs → lv_has ls 5 [(0, .ref (ad 0)), (1, .int a1), (2, .int a2), (3, .int x5)] → WW ev p l e (rmk 5 115) s m args below meth c Qc ad 26 H locs 28 ls [] := by
          intro n
          induction n with
          | zero =>
            intro x5 σ6 H locs ls h; exact k_none h
          | succ n ih =>
            intro x5 σ6 H locs ls h hP hl
            have h : f_X3_goes_L28_b a1 a2  (lp (fun _ _ => none) (f_X3_goes_L28_b a1 a2 ) n) x5 σ6 = some (r, σ') := h
            have h := (f_X3_goes_L28_b.eq_1 _ _ _ _ _ ).symm.trans h
            refine lv_iload_n hx hb dX3_goes_28 rfl (lv_at hl 3 rfl) ?_
            refine lv_iload_n hx hb dX3_goes_29 rfl (lv_at hl 2 rfl) ?_
            refine lv_icmp_ge (tgt := 67) hx hb dX3_goes_30 (by decide) (fun c30 => ?_) (fun c30 => ?_)
            · have h := k_if c30 h
              refine lv_iload_n hx hb dX3_goes_67 rfl (lv_at hl 2 rfl) ?_
              exact e_iret C hend hP (k_some2 h).1 (congrArg (xw ev ad) (k_some2 h).2) dX3_goes_68
            · have h := k_nf c30 h
              refine lv_aload_n hx hb dX3_goes_33 rfl (lv_at hl 0 rfl) ?_
              refine lv_aload_n hx hb dX3_goes_34 rfl (lv_at hl 0 rfl) ?_
              refine r_get C hP (ci := 3) rfl uin_X3 0 (by decide) 0 (by decide) rfl qFL_RX3_10 rfl rfl dX3_goes_35 ?_
              refine lv_iload_n hx hb dX3_goes_38 rfl (lv_at hl 1 rfl) ?_
              obtain ⟨x8, σ7, h1, h⟩ := k_ob2 h
              refine k_callVi C hP hap hAA (c_X3_chosenSlot_now l ev ad σ6 a1   _ _ h1) Emb.same hap gz_X3_chosenSlot qML_RX3_344 qIM_yX3_chosenSlot qSE_yX3_chosenSlot ⟨(Nat.le_of_ble_eq_true rfl), (Nat.le_of_ble_eq_true rfl)⟩ (q0 := 0) rfl (by decide) rfl rfl rfl rfl hl.1 rfl (Nat.le_of_ble_eq_true rfl) dX3_goes_39 ⟨Nat.le_refl _, Nat.le_refl _⟩ (fun H locs hP => ?_)
              refine lv_istore (lv' := [(4, .int x8), (0, .ref (ad 0)), (1, .int a1), (2, .int a2), (3, .int x5)]) hx hb dX3_goes_42 hl (by decide) rfl (fun ls hl => ?_)
              refine lv_iload hx hb dX3_goes_44 (lv_at hl 0 rfl) ?_
              refine lv_iconst (v := (-1)) hx hb dX3_goes_46 (by decide) ?_
              refine lv_icmp_ne (tgt := 52) hx hb dX3_goes_47 (by decide) (fun c47 => ?_) (fun c47 => ?_)
              · have h := k_nf c47 h
                refine lv_aload_n hx hb dX3_goes_52 rfl (lv_at hl 1 rfl) ?_
                refine r_get C hP (ci := 3) rfl uin_X3 0 (by decide) 0 (by decide) rfl qFL_RX3_10 rfl rfl dX3_goes_53 ?_
                refine lv_iload hx hb dX3_goes_56 (lv_at hl 0 rfl) ?_
                obtain ⟨σ9, h1, h⟩ := k_ob h
                refine k_callVv C hP hap hAA (c_X0_make l ev (fun j => ad (j + 1)) (x_now σ7) x8   _ h1) (em_G1) (apart_1 _) gz_X0_make qML_RX3_311 qIM_yX0_make qSE_yX0_make ⟨(Nat.le_of_ble_eq_true rfl), (Nat.le_of_ble_eq_true rfl)⟩ (q0 := 1) rfl (by decide) rfl rfl rfl rfl hl.1 rfl (Nat.le_of_ble_eq_true rfl) dX3_goes_58 ⟨Nat.le_refl _, Nat.le_refl _⟩ (fun H locs hP => ?_)
                obtain ⟨σ10, eσ10, h⟩ := k_ltx h
                rw [← eσ10] at hP
                obtain ⟨x11, ex11, h⟩ := k_ltx h
                refine lv_iinc (v := x11) (lv' := [(3, .int x11), (4, .int x8), (0, .ref (ad 0)), (1, .int a1), (2, .int a2)]) hx hb dX3_goes_61 hl (k := 4) rfl (by rw [ex11]; rfl) (by decide) rfl (fun ls hl => ?_)
                refine lv_goto (tgt := 28) hx hb dX3_goes_64 (by decide) ?_
                exact ih _ _ _ _ _ h hP (lv_sub hl [2, 3, 4, 0] rfl)
              · have h := k_if c47 h
                refine lv_iload_n hx hb dX3_goes_50 rfl (lv_at hl 4 rfl) ?_
                exact e_iret C hend hP (k_some2 h).1 (congrArg (xw ev ad) (k_some2 h).2) dX3_goes_51
        exact hL28 FU _ _ _ _ _ h hP (lv_sub hl [1, 2, 3, 0] rfl)
      · have h := k_nf c16 h
        refine lv_aload_n hx hb dX3_goes_19 rfl (lv_at hl 0 rfl) ?_
        refine lv_bipush (v := (-2)) hx hb dX3_goes_20 (by decide) ?_
        obtain ⟨x13, σ12, h1, h⟩ := k_ob2 h
        refine k_callVi C hP hap hAA (c_X3_refuse l ev ad σ (-2)   _ _ h1) Emb.same hap gz_X3_refuse qML_RX3_60 qIM_yX3_refuse qSE_yX3_refuse ⟨(Nat.le_of_ble_eq_true rfl), (Nat.le_of_ble_eq_true rfl)⟩ (q0 := 0) rfl (by decide) rfl rfl rfl rfl hl.1 rfl (Nat.le_of_ble_eq_true rfl) dX3_goes_22 ⟨Nat.le_refl _, Nat.le_refl _⟩ (fun H locs hP => ?_)
        exact e_iret C hend hP (k_some2 h).1 (congrArg (xw ev ad) (k_some2 h).2) dX3_goes_25
def f_X3_endByDraws_L2_b   (rec2 : Int32 → XX → Option XX) (x1 : Int32) (σ2 : XX) : Option XX :=
  if 56 ≤ x1 then some σ2 else ob2 (f_X0_drawnSlot (x_thought σ2) (f_X0_openSlots (x_thought σ2))) (fun x4 σ3 => lt (x_thought' σ2 σ3) (fun σ5 => if x4 = (-1) then some σ5 else ob (f_X0_make (x_thought σ5) x4) (fun σ6 => lt (x_thought' σ5 σ6) (fun σ7 => lt (x1 + 1) (fun x8 => rec2 x8 σ7)))))
def f_X3_endByDraws_L2   (x1 : Int32) (σ2 : XX) : Option XX :=
  lp (fun _ _ => none) (f_X3_endByDraws_L2_b  ) FU x1 σ2
def f_X3_endByDraws (σ : XX) : Option XX :=
  f_X3_endByDraws_L2 0 σ
set_option maxHeartbeats 4000000 in
set_option maxRecDepth 100000 in
theorem c_X3_endByDraws (l : Launch) (ev : EV) (ad : Nat → Nat) (σ : XX)    (σ' : XX) (h : f_X3_endByDraws σ = some σ') : Ct l yX3_endByDraws prog_1_method_85_code 3 (Option.none : Option Jvm.ClassFile.FieldType) (rmk 4 89) ev 26 ad (xw ev ad σ) (xw ev ad σ') [.ref (ad 0)] none := by
  refine Ct.of (by decide +kernel) (Nat.le_of_ble_eq_true rfl) ?_
  intro p e s m args below meth c Qc C hap hP hend ls hl
  have hAA : ∀ j, j < 26 → inA ad 26 (ad j) := fun j hj => ⟨j, hj, rfl⟩
  have hx := C.1
  have hb := C.2.1
  have hl : lv_has ls 3 [(0, .ref (ad 0))] := hl
  have h := (f_X3_endByDraws.eq_1 _ ).symm.trans h
  refine lv_iconst (v := 0) hx hb dX3_endByDraws_0 (by decide) ?_
  refine lv_istore_n (lv' := [(1, .int 0), (0, .ref (ad 0))]) hx hb dX3_endByDraws_1 rfl hl (by decide) rfl (fun ls hl => ?_)
  have hL2 : ∀ (n : Nat) (x1 : Int32) (σ2 : XX) (H : Heap) (locs : List Loc) (ls : Array Slot), lp (fun _ _ => none) (f_X3_endByDraws_L2_b  ) n x1 σ2 = some σ' → PS ev 26 ad (xw ev ad σ2) (inA ad 26) s H locs → lv_has ls 3 [(0, .ref (ad 0)), (1, .int x1)] → WW ev p l e (rmk 4 89) s m args below meth c Qc ad 26 H locs 2 ls [] := by
    intro n
    induction n with
    | zero =>
      intro x1 σ2 H locs ls h; exact k_none h
    | succ n ih =>
      intro x1 σ2 H locs ls h hP hl
      have h : f_X3_endByDraws_L2_b   (lp (fun _ _ => none) (f_X3_endByDraws_L2_b  ) n) x1 σ2 = some σ' := h
      have h := (f_X3_endByDraws_L2_b.eq_1 _ _ _ ).symm.trans h
      refine lv_iload_n hx hb dX3_endByDraws_2 rfl (lv_at hl 1 rfl) ?_
      refine lv_bipush (v := 56) hx hb dX3_endByDraws_3 (by decide) ?_
      refine lv_icmp_ge (tgt := 45) hx hb dX3_endByDraws_5 (by decide) (fun c5 => ?_) (fun c5 => ?_)
      · have h := k_if c5 h
        exact e_vret C hend hP (congrArg (xw ev ad) (k_some h)) dX3_endByDraws_45
      · have h := k_nf c5 h
        refine lv_aload_n hx hb dX3_endByDraws_8 rfl (lv_at hl 0 rfl) ?_
        refine r_get C hP (ci := 3) rfl uin_X3 1 (by decide) 0 (by decide) rfl qFL_RX3_16 rfl rfl dX3_endByDraws_9 ?_
        refine lv_aload_n hx hb dX3_endByDraws_12 rfl (lv_at hl 0 rfl) ?_
        refine r_get C hP (ci := 3) rfl uin_X3 1 (by decide) 0 (by decide) rfl qFL_RX3_16 rfl rfl dX3_endByDraws_13 ?_
        refine k_callVl C hP hap hAA (c_X0_openSlots l ev (fun j => ad (j + 2)) (x_thought σ2)   _ rfl) (em_G2r) (apart_1 _) gz_X0_openSlots qML_RX3_127 qIM_yX0_openSlots qSE_yX0_openSlots ⟨(Nat.le_of_ble_eq_true rfl), (Nat.le_of_ble_eq_true rfl)⟩ (q0 := 2) rfl (by decide) rfl rfl rfl rfl hl.1 rfl (Nat.le_of_ble_eq_true rfl) dX3_endByDraws_16 ⟨Nat.le_refl _, Nat.le_refl _⟩ (fun H locs hP => ?_)
        obtain ⟨x4, σ3, h1, h⟩ := k_ob2 h
        refine k_callVi C hP hap hAA (c_X0_drawnSlot l ev (fun j => ad (j + 2)) (x_thought σ2) (f_X0_openSlots (x_thought σ2))   _ _ h1) (em_G2) (apart_1 _) gz_X0_drawnSlot qML_RX3_387 qIM_yX0_drawnSlot qSE_yX0_drawnSlot ⟨(Nat.le_of_ble_eq_true rfl), (Nat.le_of_ble_eq_true rfl)⟩ (q0 := 2) rfl (by decide) rfl rfl rfl rfl hl.1 rfl (Nat.le_of_ble_eq_true rfl) dX3_endByDraws_19 ⟨Nat.le_refl _, Nat.le_refl _⟩ (fun H locs hP => ?_)
        obtain ⟨σ5, eσ5, h⟩ := k_ltx h
        rw [← eσ5] at hP
        refine lv_istore_n (lv' := [(2, .int x4), (0, .ref (ad 0)), (1, .int x1)]) hx hb dX3_endByDraws_22 rfl hl (by decide) rfl (fun ls hl => ?_)
        refine lv_iload_n hx hb dX3_endByDraws_23 rfl (lv_at hl 0 rfl) ?_
        refine lv_iconst (v := (-1)) hx hb dX3_endByDraws_24 (by decide) ?_
        refine lv_icmp_ne (tgt := 31) hx hb dX3_endByDraws_25 (by decide) (fun c25 => ?_) (fun c25 => ?_)
        · have h := k_nf c25 h
          refine lv_aload_n hx hb dX3_endByDraws_31 rfl (lv_at hl 1 rfl) ?_
          refine r_get C hP (ci := 3) rfl uin_X3 1 (by decide) 0 (by decide) rfl qFL_RX3_16 rfl rfl dX3_endByDraws_32 ?_
          refine lv_iload_n hx hb dX3_endByDraws_35 rfl (lv_at hl 0 rfl) ?_
          obtain ⟨σ6, h1, h⟩ := k_ob h
          refine k_callVv C hP hap hAA (c_X0_make l ev (fun j => ad (j + 2)) (x_thought σ5) x4   _ h1) (em_G2) (apart_1 _) gz_X0_make qML_RX3_311 qIM_yX0_make qSE_yX0_make ⟨(Nat.le_of_ble_eq_true rfl), (Nat.le_of_ble_eq_true rfl)⟩ (q0 := 2) rfl (by decide) rfl rfl rfl rfl hl.1 rfl (Nat.le_of_ble_eq_true rfl) dX3_endByDraws_36 ⟨Nat.le_refl _, Nat.le_refl _⟩ (fun H locs hP => ?_)
          obtain ⟨σ7, eσ7, h⟩ := k_ltx h
          rw [← eσ7] at hP
          obtain ⟨x8, ex8, h⟩ := k_ltx h
          refine lv_iinc (v := x8) (lv' := [(1, .int x8), (2, .int x4), (0, .ref (ad 0))]) hx hb dX3_endByDraws_39 hl (k := 2) rfl (by rw [ex8]; rfl) (by decide) rfl (fun ls hl => ?_)
          refine lv_goto (tgt := 2) hx hb dX3_endByDraws_42 (by decide) ?_
          exact ih _ _ _ _ _ h hP (lv_sub hl [2, 0] rfl)
        · have h := k_if c25 h
          refine lv_goto (tgt := 45) hx hb dX3_endByDraws_28 (by decide) ?_
          exact e_vret C hend hP (congrArg (xw ev ad) (k_some h)) dX3_endByDraws_45
  exact hL2 FU _ _ _ _ _ h hP (lv_sub hl [1, 0] rfl)
def f_X3_games_L33_b (a1 : Int32) (k77 : Int32 → XX → Option (Int32 × XX)) (rec33 : Int32 → Int32 → XX → Option (Int32 × XX)) (x5 : Int32) (x6 : Int32) (σ7 : XX) : Option (Int32 × XX) :=
  if a1 ≤ x6 then k77 x5 σ7 else ob (f_X0_clear (x_thought σ7)) (fun σ8 => lt (x_thought' σ7 σ8) (fun σ9 => ob (f_X3_endByDraws σ9) (fun σ10 => ob (f_X0_leadOf (x_thought σ10) 0) (fun x11 => if x11 ≤ 0 then lt (x5 + (f_X3_truth 0)) (fun x12 => lt (x6 + 1) (fun x13 => rec33 x12 x13 σ10)) else lt (x5 + (f_X3_truth 1)) (fun x14 => lt (x6 + 1) (fun x15 => rec33 x14 x15 σ10))))))
def f_X3_games_L33 (a1 : Int32) (k77 : Int32 → XX → Option (Int32 × XX)) (x5 : Int32) (x6 : Int32) (σ7 : XX) : Option (Int32 × XX) :=
  lp (fun _ _ _ => none) (f_X3_games_L33_b a1 k77) FU x5 x6 σ7
def f_X3_games (σ : XX) (a1 : Int32) : Option (Int32 × XX) :=
  if a1 < 1 then ob2 (f_X3_refuse σ (-2)) (fun x2 σ1 => some (x2, σ1)) else if a1 ≤ 20 then ob (f_X0_become (x_thought σ) (x_now σ)) (fun σ3 => lt (x_thought' σ σ3) (fun σ4 => f_X3_games_L33 a1 (fun x17 σ18 => lt (x_now' σ18 (g_seed' (x_now σ18) (g_seed (x_thought σ18)))) (fun σ19 => some (x17, σ19))) 0 0 σ4)) else ob2 (f_X3_refuse σ (-2)) (fun x21 σ20 => some (x21, σ20))
set_option maxHeartbeats 4000000 in
set_option maxRecDepth 100000 in
theorem c_X3_games (l : Launch) (ev : EV) (ad : Nat → Nat) (σ : XX) (a1 : Int32)   (r : Int32) (σ' : XX) (h : f_X3_games σ a1 = some (r, σ')) : Ct l yX3_games prog_1_method_55_code 4 (Option.some Jvm.ClassFile.FieldType.int) (rmk 6 145) ev 26 ad (xw ev ad σ) (xw ev ad σ') [.ref (ad 0), .int a1] (some (.int r)) := by
  refine Ct.of (by decide +kernel) (Nat.le_of_ble_eq_true rfl) ?_
  intro p e s m args below meth c Qc C hap hP hend ls hl
  have hAA : ∀ j, j < 26 → inA ad 26 (ad j) := fun j hj => ⟨j, hj, rfl⟩
  have hx := C.1
  have hb := C.2.1
  have hl : lv_has ls 4 [(0, .ref (ad 0)), (1, .int a1)] := hl
  have h := (f_X3_games.eq_1 _ _ ).symm.trans h
  refine lv_iload_n hx hb dX3_games_0 rfl (lv_at hl 1 rfl) ?_
  refine lv_iconst (v := 1) hx hb dX3_games_1 (by decide) ?_
  refine lv_icmp_lt (tgt := 11) hx hb dX3_games_2 (by decide) (fun c2 => ?_) (fun c2 => ?_)
  · have h := k_if c2 h
    refine lv_aload_n hx hb dX3_games_11 rfl (lv_at hl 0 rfl) ?_
    refine lv_bipush (v := (-2)) hx hb dX3_games_12 (by decide) ?_
    obtain ⟨x2, σ1, h1, h⟩ := k_ob2 h
    refine k_callVi C hP hap hAA (c_X3_refuse l ev ad σ (-2)   _ _ h1) Emb.same hap gz_X3_refuse qML_RX3_60 qIM_yX3_refuse qSE_yX3_refuse ⟨(Nat.le_of_ble_eq_true rfl), (Nat.le_of_ble_eq_true rfl)⟩ (q0 := 0) rfl (by decide) rfl rfl rfl rfl hl.1 rfl (Nat.le_of_ble_eq_true rfl) dX3_games_14 ⟨Nat.le_refl _, Nat.le_refl _⟩ (fun H locs hP => ?_)
    exact e_iret C hend hP (k_some2 h).1 (congrArg (xw ev ad) (k_some2 h).2) dX3_games_17
  · have h := k_nf c2 h
    refine lv_iload_n hx hb dX3_games_5 rfl (lv_at hl 1 rfl) ?_
    refine lv_bipush (v := 20) hx hb dX3_games_6 (by decide) ?_
    refine lv_icmp_le (tgt := 18) hx hb dX3_games_8 (by decide) (fun c8 => ?_) (fun c8 => ?_)
    · have h := k_if c8 h
      refine lv_aload_n hx hb dX3_games_18 rfl (lv_at hl 0 rfl) ?_
      refine r_get C hP (ci := 3) rfl uin_X3 1 (by decide) 0 (by decide) rfl qFL_RX3_16 rfl rfl dX3_games_19 ?_
      refine lv_aload_n hx hb dX3_games_22 rfl (lv_at hl 0 rfl) ?_
      refine r_get C hP (ci := 3) rfl uin_X3 0 (by decide) 0 (by decide) rfl qFL_RX3_10 rfl rfl dX3_games_23 ?_
      obtain ⟨σ3, h1, h⟩ := k_ob h
      refine k_callVv C hP hap hAA (c_X0_become l ev (fun j => if j = 0 then ad 2 else ad 1) (x_thought σ) (x_now σ)   _ h1) (em_GG21) (apart_GG hap (by decide) (by decide) (by decide)) gz_X0_become qML_RX3_165 qIM_yX0_become qSE_yX0_become ⟨(Nat.le_of_ble_eq_true rfl), (Nat.le_of_ble_eq_true rfl)⟩ (q0 := 2) rfl (by decide) rfl rfl rfl rfl hl.1 rfl (Nat.le_of_ble_eq_true rfl) dX3_games_26 ⟨Nat.le_refl _, Nat.le_refl _⟩ (fun H locs hP => ?_)
      obtain ⟨σ4, eσ4, h⟩ := k_ltx h
      rw [← eσ4] at hP
      refine lv_iconst (v := 0) hx hb dX3_games_29 (by decide) ?_
      refine lv_istore_n (lv' := [(2, .int 0), (0, .ref (ad 0)), (1, .int a1)]) hx hb dX3_games_30 rfl hl (by decide) rfl (fun ls hl => ?_)
      refine lv_iconst (v := 0) hx hb dX3_games_31 (by decide) ?_
      refine lv_istore_n (lv' := [(3, .int 0), (2, .int 0), (0, .ref (ad 0)), (1, .int a1)]) hx hb dX3_games_32 rfl hl (by decide) rfl (fun ls hl => ?_)
      have hL33 : ∀ (k77 : Int32 → XX → Option (Int32 × XX)) (hk77 : ∀ (z16 : Int32) (σk : XX) (H : Heap) (locs : List Loc) (ls : Array Slot), k77 z16 σk = some (r, σ') → PS ev 26 ad (xw ev ad σk) (inA ad 26) s H locs → lv_has ls 4 [(0, .ref (ad 0)), (2, .int z16)] → WW ev p l e (rmk 6 145) s m args below meth c Qc ad 26 H locs 77 ls []) (n : Nat) (x5 : Int32) (x6 : Int32) (σ7 : XX) (H : Heap) (locs : List Loc) (ls : Array Slot), lp (fun _ _ _ => none) (f_X3_games_L33_b a1 k77) n x5 x6 σ7 = some (r, σ') → PS ev 26 ad (xw ev ad σ7) (inA ad 26) s H locs → lv_has ls 4 [(0, .ref (ad 0)), (1, .int a1), (2, .int x5), (3, .int x6)] → WW ev p l e (rmk 6 145) s m args below meth c Qc ad 26 H locs 33 ls [] := by
        intro k77 hk77 n
        induction n with
        | zero =>
          intro x5 x6 σ7 H locs ls h; exact k_none h
        | succ n ih =>
          intro x5 x6 σ7 H locs ls h hP hl
          have h : f_X3_games_L33_b a1 k77 (lp (fun _ _ _ => none) (f_X3_games_L33_b a1 k77) n) x5 x6 σ7 = some (r, σ') := h
          have h := (f_X3_games_L33_b.eq_1 _ _ _ _ _ _ ).symm.trans h
          refine lv_iload_n hx hb dX3_games_33 rfl (lv_at hl 3 rfl) ?_
          refine lv_iload_n hx hb dX3_games_34 rfl (lv_at hl 1 rfl) ?_
          refine lv_icmp_ge (tgt := 77) hx hb dX3_games_35 (by decide) (fun c35 => ?_) (fun c35 => ?_)
          · have h := k_if c35 h
            exact hk77 _ _ _ _ _ h hP (lv_sub hl [0, 2] rfl)
          · have h := k_nf c35 h
            refine lv_aload_n hx hb dX3_games_38 rfl (lv_at hl 0 rfl) ?_
            refine r_get C hP (ci := 3) rfl uin_X3 1 (by decide) 0 (by decide) rfl qFL_RX3_16 rfl rfl dX3_games_39 ?_
            obtain ⟨σ8, h1, h⟩ := k_ob h
            refine k_callVv C hP hap hAA (c_X0_clear l ev (fun j => ad (j + 2)) (x_thought σ7)   _ h1) (em_G2) (apart_1 _) gz_X0_clear qML_RX3_348 qIM_yX0_clear qSE_yX0_clear ⟨(Nat.le_of_ble_eq_true rfl), (Nat.le_of_ble_eq_true rfl)⟩ (q0 := 2) rfl (by decide) rfl rfl rfl rfl hl.1 rfl (Nat.le_of_ble_eq_true rfl) dX3_games_42 ⟨Nat.le_refl _, Nat.le_refl _⟩ (fun H locs hP => ?_)
            obtain ⟨σ9, eσ9, h⟩ := k_ltx h
            rw [← eσ9] at hP
            refine lv_aload_n hx hb dX3_games_45 rfl (lv_at hl 0 rfl) ?_
            obtain ⟨σ10, h1, h⟩ := k_ob h
            refine k_callVv C hP hap hAA (c_X3_endByDraws l ev ad σ9   _ h1) Emb.same hap gz_X3_endByDraws qML_RX3_351 qIM_yX3_endByDraws qSE_yX3_endByDraws ⟨(Nat.le_of_ble_eq_true rfl), (Nat.le_of_ble_eq_true rfl)⟩ (q0 := 0) rfl (by decide) rfl rfl rfl rfl hl.1 rfl (Nat.le_of_ble_eq_true rfl) dX3_games_46 ⟨Nat.le_refl _, Nat.le_refl _⟩ (fun H locs hP => ?_)
            refine lv_iload_n hx hb dX3_games_49 rfl (lv_at hl 2 rfl) ?_
            refine lv_aload_n hx hb dX3_games_50 rfl (lv_at hl 0 rfl) ?_
            refine r_get C hP (ci := 3) rfl uin_X3 1 (by decide) 0 (by decide) rfl qFL_RX3_16 rfl rfl dX3_games_51 ?_
            refine lv_iconst (v := 0) hx hb dX3_games_54 (by decide) ?_
            obtain ⟨x11, h1, h⟩ := k_ob h
            refine k_callVi C hP hap hAA (c_X0_leadOf l ev (fun j => ad (j + 2)) (x_thought σ10) 0   _ h1) (em_G2r) (apart_1 _) gz_X0_leadOf qML_RX3_255 qIM_yX0_leadOf qSE_yX0_leadOf ⟨(Nat.le_of_ble_eq_true rfl), (Nat.le_of_ble_eq_true rfl)⟩ (q0 := 2) rfl (by decide) rfl rfl rfl rfl hl.1 rfl (Nat.le_of_ble_eq_true rfl) dX3_games_55 ⟨Nat.le_refl _, Nat.le_refl _⟩ (fun H locs hP => ?_)
            refine lv_if_le (tgt := 65) hx hb dX3_games_58 (by decide) (fun c58 => ?_) (fun c58 => ?_)
            · have h := k_if c58 h
              refine lv_iconst (v := 0) hx hb dX3_games_65 (by decide) ?_
              refine k_callSi C hP hap hAA (c_X3_truth l ev ad 0   _ rfl) Emb.none (apart_0 _) gz_X3_truth qML_RX3_192 qSM_yX3_truth ⟨(Nat.le_of_ble_eq_true rfl), (Nat.le_of_ble_eq_true rfl)⟩ rfl hl.1 rfl (Nat.le_of_ble_eq_true rfl) dX3_games_66 ⟨Nat.le_refl _, Nat.le_refl _⟩ (fun H locs hP => ?_)
              refine lv_iadd hx hb dX3_games_69 ?_
              refine lv_topi (fun x12 ex12 => ?_)
              have h := k_lt ex12 h
              refine lv_istore_n (lv' := [(2, .int x12), (0, .ref (ad 0)), (1, .int a1), (3, .int x6)]) hx hb dX3_games_70 rfl hl (by decide) rfl (fun ls hl => ?_)
              obtain ⟨x13, ex13, h⟩ := k_ltx h
              refine lv_iinc (v := x13) (lv' := [(3, .int x13), (2, .int x12), (0, .ref (ad 0)), (1, .int a1)]) hx hb dX3_games_71 hl (k := 3) rfl (by rw [ex13]; rfl) (by decide) rfl (fun ls hl => ?_)
              refine lv_goto (tgt := 33) hx hb dX3_games_74 (by decide) ?_
              exact ih _ _ _ _ _ _ h hP (lv_sub hl [2, 3, 1, 0] rfl)
            · have h := k_nf c58 h
              refine lv_iconst (v := 1) hx hb dX3_games_61 (by decide) ?_
              refine lv_goto (tgt := 66) hx hb dX3_games_62 (by decide) ?_
              refine k_callSi C hP hap hAA (c_X3_truth l ev ad 1   _ rfl) Emb.none (apart_0 _) gz_X3_truth qML_RX3_192 qSM_yX3_truth ⟨(Nat.le_of_ble_eq_true rfl), (Nat.le_of_ble_eq_true rfl)⟩ rfl hl.1 rfl (Nat.le_of_ble_eq_true rfl) dX3_games_66 ⟨Nat.le_refl _, Nat.le_refl _⟩ (fun H locs hP => ?_)
              refine lv_iadd hx hb dX3_games_69 ?_
              refine lv_topi (fun x14 ex14 => ?_)
              have h := k_lt ex14 h
              refine lv_istore_n (lv' := [(2, .int x14), (0, .ref (ad 0)), (1, .int a1), (3, .int x6)]) hx hb dX3_games_70 rfl hl (by decide) rfl (fun ls hl => ?_)
              obtain ⟨x15, ex15, h⟩ := k_ltx h
              refine lv_iinc (v := x15) (lv' := [(3, .int x15), (2, .int x14), (0, .ref (ad 0)), (1, .int a1)]) hx hb dX3_games_71 hl (k := 3) rfl (by rw [ex15]; rfl) (by decide) rfl (fun ls hl => ?_)
              refine lv_goto (tgt := 33) hx hb dX3_games_74 (by decide) ?_
              exact ih _ _ _ _ _ _ h hP (lv_sub hl [2, 3, 1, 0] rfl)
      refine hL33 _ (fun x17 σ18 H locs ls h hP hl => ?_) FU _ _ _ _ _ _ h hP (lv_sub hl [2, 3, 1, 0] rfl)
      refine lv_aload_n hx hb dX3_games_77 rfl (lv_at hl 0 rfl) ?_
      refine r_get C hP (ci := 3) rfl uin_X3 0 (by decide) 0 (by decide) rfl qFL_RX3_10 rfl rfl dX3_games_78 ?_
      refine lv_aload_n hx hb dX3_games_81 rfl (lv_at hl 0 rfl) ?_
      refine r_get C hP (ci := 3) rfl uin_X3 1 (by decide) 0 (by decide) rfl qFL_RX3_16 rfl rfl dX3_games_82 ?_
      refine r_get C hP (ci := 0) rfl uin_X0 15 (by decide) 2 (by decide) rfl qFL_RX3_354 rfl rfl dX3_games_85 ?_
      obtain ⟨σ19, eσ19, h⟩ := k_ltx h
      refine pt_X1_X0_seed C hP hap hAA eσ19 qFL_RX3_354 dX3_games_88 (fun H locs hP => ?_)
      refine lv_iload_n hx hb dX3_games_91 rfl (lv_at hl 1 rfl) ?_
      exact e_iret C hend hP (k_some2 h).1 (congrArg (xw ev ad) (k_some2 h).2) dX3_games_92
    · have h := k_nf c8 h
      refine lv_aload_n hx hb dX3_games_11 rfl (lv_at hl 0 rfl) ?_
      refine lv_bipush (v := (-2)) hx hb dX3_games_12 (by decide) ?_
      obtain ⟨x21, σ20, h1, h⟩ := k_ob2 h
      refine k_callVi C hP hap hAA (c_X3_refuse l ev ad σ (-2)   _ _ h1) Emb.same hap gz_X3_refuse qML_RX3_60 qIM_yX3_refuse qSE_yX3_refuse ⟨(Nat.le_of_ble_eq_true rfl), (Nat.le_of_ble_eq_true rfl)⟩ (q0 := 0) rfl (by decide) rfl rfl rfl rfl hl.1 rfl (Nat.le_of_ble_eq_true rfl) dX3_games_14 ⟨Nat.le_refl _, Nat.le_refl _⟩ (fun H locs hP => ?_)
      exact e_iret C hend hP (k_some2 h).1 (congrArg (xw ev ad) (k_some2 h).2) dX3_games_17
def f_X3_seed (σ : XX) (a1 : Int32) : Option (Int32 × XX) :=
  lt (g_seed (x_now σ)) (fun x1 => lt (x_now' σ (g_seed' (x_now σ) a1)) (fun σ2 => some (x1, σ2)))
set_option maxHeartbeats 4000000 in
set_option maxRecDepth 100000 in
theorem c_X3_seed (l : Launch) (ev : EV) (ad : Nat → Nat) (σ : XX) (a1 : Int32)   (r : Int32) (σ' : XX) (h : f_X3_seed σ a1 = some (r, σ')) : Ct l yX3_seed prog_1_method_56_code 3 (Option.some Jvm.ClassFile.FieldType.int) (rmk 0 0) ev 26 ad (xw ev ad σ) (xw ev ad σ') [.ref (ad 0), .int a1] (some (.int r)) := by
  refine Ct.of (by decide +kernel) (Nat.le_of_ble_eq_true rfl) ?_
  intro p e s m args below meth c Qc C hap hP hend ls hl
  have hAA : ∀ j, j < 26 → inA ad 26 (ad j) := fun j hj => ⟨j, hj, rfl⟩
  have hx := C.1
  have hb := C.2.1
  have hl : lv_has ls 3 [(0, .ref (ad 0)), (1, .int a1)] := hl
  have h := (f_X3_seed.eq_1 _ _ ).symm.trans h
  refine lv_aload_n hx hb dX3_seed_0 rfl (lv_at hl 0 rfl) ?_
  refine r_get C hP (ci := 3) rfl uin_X3 0 (by decide) 0 (by decide) rfl qFL_RX3_10 rfl rfl dX3_seed_1 ?_
  refine r_get C hP (ci := 0) rfl uin_X0 15 (by decide) 1 (by decide) rfl qFL_RX3_354 rfl rfl dX3_seed_4 ?_
  refine lv_topi (fun x1 ex1 => ?_)
  have h := k_lt ex1 h
  refine lv_istore_n (lv' := [(2, .int x1), (0, .ref (ad 0)), (1, .int a1)]) hx hb dX3_seed_7 rfl hl (by decide) rfl (fun ls hl => ?_)
  refine lv_aload_n hx hb dX3_seed_8 rfl (lv_at hl 1 rfl) ?_
  refine r_get C hP (ci := 3) rfl uin_X3 0 (by decide) 0 (by decide) rfl qFL_RX3_10 rfl rfl dX3_seed_9 ?_
  refine lv_iload_n hx hb dX3_seed_12 rfl (lv_at hl 2 rfl) ?_
  obtain ⟨σ2, eσ2, h⟩ := k_ltx h
  refine pt_X1_X0_seed C hP hap hAA eσ2 qFL_RX3_354 dX3_seed_13 (fun H locs hP => ?_)
  refine lv_iload_n hx hb dX3_seed_16 rfl (lv_at hl 0 rfl) ?_
  exact e_iret C hend hP (k_some2 h).1 (congrArg (xw ev ad) (k_some2 h).2) dX3_seed_17
