/-! functions read off, and their contracts: by program (wip/whole/gen2.py) -/
def f_X3_toldTrouble_s (σ : SS) (a2 : Int32) : Int32 :=
  if a2 < 0 then (-2) else if a2 ≤ 40 then lt (f_X3_rowTrouble_s σ) (fun x1 => if x1 = 0 then if a2 ≤ (s_length σ) then x1 else (-2) else x1) else (-2)
set_option maxHeartbeats 4000000 in
set_option maxRecDepth 100000 in
theorem c_X3_toldTrouble_s (l : Launch) (ev : EV) (ad : Nat → Nat) (σ : SS) (a2 : Int32)   (r : Int32)  (h : f_X3_toldTrouble_s σ a2 = r) : Ct l yX3_toldTrouble prog_1_method_72_code 3 (Option.some Jvm.ClassFile.FieldType.int) (rmk 2 40) ev 2 ad (sw ev ad σ) (sw ev ad σ) [.ref (ad 0), .int a2] (some (.int r)) := by
  refine Ct.of (by decide +kernel) (Nat.le_of_ble_eq_true rfl) ?_
  intro p e s m args below meth c Qc C hap hP hend ls hl
  have hAA : ∀ j, j < 2 → inA ad 2 (ad j) := fun j hj => ⟨j, hj, rfl⟩
  have hx := C.1
  have hb := C.2.1
  have hl : lv_has ls 3 [(0, .ref (ad 0)), (1, .int a2)] := hl
  have h := (f_X3_toldTrouble_s.eq_1 _ _ ).symm.trans h
  refine lv_aload_n hx hb dX3_toldTrouble_0 rfl (lv_at hl 0 rfl) ?_
  refine lv_ifnull hx hb dX3_toldTrouble_1 ?_
  refine lv_iload_n hx hb dX3_toldTrouble_4 rfl (lv_at hl 1 rfl) ?_
  refine lv_if_lt (tgt := 14) hx hb dX3_toldTrouble_5 (by decide) (fun c5 => ?_) (fun c5 => ?_)
  · have h := k_if c5 h
    refine lv_bipush (v := (-2)) hx hb dX3_toldTrouble_14 (by decide) ?_
    exact e_iret C hend hP h rfl dX3_toldTrouble_16
  · have h := k_nf c5 h
    refine lv_iload_n hx hb dX3_toldTrouble_8 rfl (lv_at hl 1 rfl) ?_
    refine lv_bipush (v := 40) hx hb dX3_toldTrouble_9 (by decide) ?_
    refine lv_icmp_le (tgt := 17) hx hb dX3_toldTrouble_11 (by decide) (fun c11 => ?_) (fun c11 => ?_)
    · have h := k_if c11 h
      refine lv_aload_n hx hb dX3_toldTrouble_17 rfl (lv_at hl 0 rfl) ?_
      refine k_callSi C hP hap hAA (c_X3_rowTrouble_s l ev ad σ   _ rfl) Emb.same hap gz_X3_rowTrouble qML_RX3_68 qSM_yX3_rowTrouble ⟨(Nat.le_of_ble_eq_true rfl), (Nat.le_of_ble_eq_true rfl)⟩ rfl hl.1 rfl (Nat.le_of_ble_eq_true rfl) dX3_toldTrouble_18 ⟨Nat.le_refl _, Nat.le_refl _⟩ (fun H locs hP => ?_)
      refine lv_topi (fun x1 ex1 => ?_)
      have h := k_lt ex1 h
      refine lv_istore_n (lv' := [(2, .int x1), (0, .ref (ad 0)), (1, .int a2)]) hx hb dX3_toldTrouble_21 rfl hl (by decide) rfl (fun ls hl => ?_)
      refine lv_iload_n hx hb dX3_toldTrouble_22 rfl (lv_at hl 0 rfl) ?_
      refine lv_if_ne (tgt := 39) hx hb dX3_toldTrouble_23 (by decide) (fun c23 => ?_) (fun c23 => ?_)
      · have h := k_nf c23 h
        refine lv_iload_n hx hb dX3_toldTrouble_39 rfl (lv_at hl 0 rfl) ?_
        exact e_iret C hend hP h rfl dX3_toldTrouble_40
      · have h := k_if c23 h
        refine lv_iload_n hx hb dX3_toldTrouble_26 rfl (lv_at hl 2 rfl) ?_
        refine lv_aload_n hx hb dX3_toldTrouble_27 rfl (lv_at hl 1 rfl) ?_
        refine r_get C hP (ci := 1) rfl uin_X1 1 (by decide) 0 (by decide) rfl qFL_RX3_373 rfl rfl dX3_toldTrouble_28 ?_
        refine lv_icmp_le (tgt := 39) hx hb dX3_toldTrouble_31 (by decide) (fun c31 => ?_) (fun c31 => ?_)
        · have h := k_if c31 h
          refine lv_iload_n hx hb dX3_toldTrouble_39 rfl (lv_at hl 0 rfl) ?_
          exact e_iret C hend hP h rfl dX3_toldTrouble_40
        · have h := k_nf c31 h
          refine lv_bipush (v := (-2)) hx hb dX3_toldTrouble_34 (by decide) ?_
          refine lv_goto (tgt := 40) hx hb dX3_toldTrouble_36 (by decide) ?_
          exact e_iret C hend hP h rfl dX3_toldTrouble_40
    · have h := k_nf c11 h
      refine lv_bipush (v := (-2)) hx hb dX3_toldTrouble_14 (by decide) ?_
      exact e_iret C hend hP h rfl dX3_toldTrouble_16
def f_X3_judge (σ : XX) (a1 : Int32) (a2 : Int32) : Option (Int32 × XX) :=
  ob (f_X3_shelfAt σ a1) (fun o1 => om o1 (lt (f_X3_toldTrouble_n a2) (fun x3 => if x3 = 0 then ob (f_X3_shelfAt σ a1) (fun o6 => om o6 (ob2 (f_X3_toldWrong_n σ a2) (fun x9 σ8 => some (x9, σ8))) (fun q7 => gd (decide (q7 < 8)) (ob2 (f_X3_toldWrong_s σ q7 a2) (fun x11 σ10 => some (x11, σ10))))) else ob2 (f_X3_refuse σ x3) (fun x5 σ4 => some (x5, σ4)))) (fun q2 => gd (decide (q2 < 8)) (lt (f_X3_toldTrouble_s (x_shelf σ q2) a2) (fun x12 => if x12 = 0 then ob (f_X3_shelfAt σ a1) (fun o15 => om o15 (ob2 (f_X3_toldWrong_n σ a2) (fun x18 σ17 => some (x18, σ17))) (fun q16 => gd (decide (q16 < 8)) (ob2 (f_X3_toldWrong_s σ q16 a2) (fun x20 σ19 => some (x20, σ19))))) else ob2 (f_X3_refuse σ x12) (fun x14 σ13 => some (x14, σ13))))))
set_option maxHeartbeats 4000000 in
set_option maxRecDepth 100000 in
theorem c_X3_judge (l : Launch) (ev : EV) (ad : Nat → Nat) (σ : XX) (a1 : Int32) (a2 : Int32)   (r : Int32) (σ' : XX) (h : f_X3_judge σ a1 a2 = some (r, σ')) : Ct l yX3_judge prog_1_method_50_code 4 (Option.some Jvm.ClassFile.FieldType.int) (rmk 5 107) ev 26 ad (xw ev ad σ) (xw ev ad σ') [.ref (ad 0), .int a1, .int a2] (some (.int r)) := by
  refine Ct.of (by decide +kernel) (Nat.le_of_ble_eq_true rfl) ?_
  intro p e s m args below meth c Qc C hap hP hend ls hl
  have hAA : ∀ j, j < 26 → inA ad 26 (ad j) := fun j hj => ⟨j, hj, rfl⟩
  have hx := C.1
  have hb := C.2.1
  have hl : lv_has ls 4 [(0, .ref (ad 0)), (1, .int a1), (2, .int a2)] := hl
  have h := (f_X3_judge.eq_1 _ _ _ ).symm.trans h
  refine lv_aload_n hx hb dX3_judge_0 rfl (lv_at hl 0 rfl) ?_
  refine lv_iload_n hx hb dX3_judge_1 rfl (lv_at hl 1 rfl) ?_
  obtain ⟨o1, h1, h⟩ := k_ob h
  refine k_callVo C hP hap hAA (c_X3_shelfAt l ev ad σ a1   _ h1) Emb.same hap gz_X3_shelfAt qML_RX3_56 qIM_yX3_shelfAt qSE_yX3_shelfAt ⟨(Nat.le_of_ble_eq_true rfl), (Nat.le_of_ble_eq_true rfl)⟩ (q0 := 0) rfl (by decide) rfl rfl rfl rfl hl.1 rfl (Nat.le_of_ble_eq_true rfl) dX3_judge_2 ⟨Nat.le_refl _, Nat.le_refl _⟩ (fun H locs hP => ?_)
  rcases o1 with _ | q2
  · have h := k_omN h
    refine lv_iload_n hx hb dX3_judge_5 rfl (lv_at hl 2 rfl) ?_
    refine k_callSi C hP hap hAA (c_X3_toldTrouble_n l ev ad a2   _ rfl) Emb.none (apart_0 _) gz_X3_toldTrouble qML_RX3_337 qSM_yX3_toldTrouble ⟨(Nat.le_of_ble_eq_true rfl), (Nat.le_of_ble_eq_true rfl)⟩ rfl hl.1 rfl (Nat.le_of_ble_eq_true rfl) dX3_judge_6 ⟨Nat.le_refl _, Nat.le_refl _⟩ (fun H locs hP => ?_)
    refine lv_topi (fun x3 ex3 => ?_)
    have h := k_lt ex3 h
    refine lv_istore_n (lv' := [(3, .int x3), (0, .ref (ad 0)), (1, .int a1), (2, .int a2)]) hx hb dX3_judge_9 rfl hl (by decide) rfl (fun ls hl => ?_)
    refine lv_iload_n hx hb dX3_judge_10 rfl (lv_at hl 0 rfl) ?_
    refine lv_if_ne (tgt := 27) hx hb dX3_judge_11 (by decide) (fun c11 => ?_) (fun c11 => ?_)
    · have h := k_nf c11 h
      refine lv_aload_n hx hb dX3_judge_27 rfl (lv_at hl 1 rfl) ?_
      refine lv_iload_n hx hb dX3_judge_28 rfl (lv_at hl 0 rfl) ?_
      obtain ⟨x5, σ4, h1, h⟩ := k_ob2 h
      refine k_callVi C hP hap hAA (c_X3_refuse l ev ad σ x3   _ _ h1) Emb.same hap gz_X3_refuse qML_RX3_60 qIM_yX3_refuse qSE_yX3_refuse ⟨(Nat.le_of_ble_eq_true rfl), (Nat.le_of_ble_eq_true rfl)⟩ (q0 := 0) rfl (by decide) rfl rfl rfl rfl hl.1 rfl (Nat.le_of_ble_eq_true rfl) dX3_judge_29 ⟨Nat.le_refl _, Nat.le_refl _⟩ (fun H locs hP => ?_)
      exact e_iret C hend hP (k_some2 h).1 (congrArg (xw ev ad) (k_some2 h).2) dX3_judge_32
    · have h := k_if c11 h
      refine lv_aload_n hx hb dX3_judge_14 rfl (lv_at hl 1 rfl) ?_
      refine lv_aload_n hx hb dX3_judge_15 rfl (lv_at hl 1 rfl) ?_
      refine lv_iload_n hx hb dX3_judge_16 rfl (lv_at hl 2 rfl) ?_
      obtain ⟨o6, h1, h⟩ := k_ob h
      refine k_callVo C hP hap hAA (c_X3_shelfAt l ev ad σ a1   _ h1) Emb.same hap gz_X3_shelfAt qML_RX3_56 qIM_yX3_shelfAt qSE_yX3_shelfAt ⟨(Nat.le_of_ble_eq_true rfl), (Nat.le_of_ble_eq_true rfl)⟩ (q0 := 0) rfl (by decide) rfl rfl rfl rfl hl.1 rfl (Nat.le_of_ble_eq_true rfl) dX3_judge_17 ⟨Nat.le_refl _, Nat.le_refl _⟩ (fun H locs hP => ?_)
      rcases o6 with _ | q7
      · have h := k_omN h
        refine lv_iload_n hx hb dX3_judge_20 rfl (lv_at hl 3 rfl) ?_
        obtain ⟨x9, σ8, h1, h⟩ := k_ob2 h
        refine k_callVi C hP hap hAA (c_X3_toldWrong_n l ev ad σ a2   _ _ h1) Emb.same hap gz_X3_toldWrong qML_RX3_341 qIM_yX3_toldWrong qSE_yX3_toldWrong ⟨(Nat.le_of_ble_eq_true rfl), (Nat.le_of_ble_eq_true rfl)⟩ (q0 := 0) rfl (by decide) rfl rfl rfl rfl hl.1 rfl (Nat.le_of_ble_eq_true rfl) dX3_judge_21 ⟨Nat.le_refl _, Nat.le_refl _⟩ (fun H locs hP => ?_)
        refine lv_goto (tgt := 32) hx hb dX3_judge_24 (by decide) ?_
        exact e_iret C hend hP (k_some2 h).1 (congrArg (xw ev ad) (k_some2 h).2) dX3_judge_32
      · obtain ⟨hg, h⟩ := k_gd (k_omS h)
        have hq7 : q7 < 8 := of_decide_eq_true hg
        refine lv_iload_n hx hb dX3_judge_20 rfl (lv_at hl 3 rfl) ?_
        obtain ⟨x11, σ10, h1, h⟩ := k_ob2 h
        refine k_callVi C hP hap hAA (c_X3_toldWrong_s l ev ad σ q7 a2 hq7  _ _ h1) Emb.same hap gz_X3_toldWrong qML_RX3_341 qIM_yX3_toldWrong qSE_yX3_toldWrong ⟨(Nat.le_of_ble_eq_true rfl), (Nat.le_of_ble_eq_true rfl)⟩ (q0 := 0) rfl (by decide) rfl rfl rfl rfl hl.1 rfl (Nat.le_of_ble_eq_true rfl) dX3_judge_21 ⟨Nat.le_refl _, Nat.le_refl _⟩ (fun H locs hP => ?_)
        refine lv_goto (tgt := 32) hx hb dX3_judge_24 (by decide) ?_
        exact e_iret C hend hP (k_some2 h).1 (congrArg (xw ev ad) (k_some2 h).2) dX3_judge_32
  · obtain ⟨hg, h⟩ := k_gd (k_omS h)
    have hq2 : q2 < 8 := of_decide_eq_true hg
    refine lv_iload_n hx hb dX3_judge_5 rfl (lv_at hl 2 rfl) ?_
    refine k_callSi C hP hap hAA (c_X3_toldTrouble_s l ev (fun j => ad (q2 + 10 + 8 * j)) (x_shelf σ q2) a2   _ rfl) (em_Sr hq2) (apart_S hap hq2) gz_X3_toldTrouble qML_RX3_337 qSM_yX3_toldTrouble ⟨(Nat.le_of_ble_eq_true rfl), (Nat.le_of_ble_eq_true rfl)⟩ rfl hl.1 rfl (Nat.le_of_ble_eq_true rfl) dX3_judge_6 ⟨Nat.le_refl _, Nat.le_refl _⟩ (fun H locs hP => ?_)
    refine lv_topi (fun x12 ex12 => ?_)
    have h := k_lt ex12 h
    refine lv_istore_n (lv' := [(3, .int x12), (0, .ref (ad 0)), (1, .int a1), (2, .int a2)]) hx hb dX3_judge_9 rfl hl (by decide) rfl (fun ls hl => ?_)
    refine lv_iload_n hx hb dX3_judge_10 rfl (lv_at hl 0 rfl) ?_
    refine lv_if_ne (tgt := 27) hx hb dX3_judge_11 (by decide) (fun c11 => ?_) (fun c11 => ?_)
    · have h := k_nf c11 h
      refine lv_aload_n hx hb dX3_judge_27 rfl (lv_at hl 1 rfl) ?_
      refine lv_iload_n hx hb dX3_judge_28 rfl (lv_at hl 0 rfl) ?_
      obtain ⟨x14, σ13, h1, h⟩ := k_ob2 h
      refine k_callVi C hP hap hAA (c_X3_refuse l ev ad σ x12   _ _ h1) Emb.same hap gz_X3_refuse qML_RX3_60 qIM_yX3_refuse qSE_yX3_refuse ⟨(Nat.le_of_ble_eq_true rfl), (Nat.le_of_ble_eq_true rfl)⟩ (q0 := 0) rfl (by decide) rfl rfl rfl rfl hl.1 rfl (Nat.le_of_ble_eq_true rfl) dX3_judge_29 ⟨Nat.le_refl _, Nat.le_refl _⟩ (fun H locs hP => ?_)
      exact e_iret C hend hP (k_some2 h).1 (congrArg (xw ev ad) (k_some2 h).2) dX3_judge_32
    · have h := k_if c11 h
      refine lv_aload_n hx hb dX3_judge_14 rfl (lv_at hl 1 rfl) ?_
      refine lv_aload_n hx hb dX3_judge_15 rfl (lv_at hl 1 rfl) ?_
      refine lv_iload_n hx hb dX3_judge_16 rfl (lv_at hl 2 rfl) ?_
      obtain ⟨o15, h1, h⟩ := k_ob h
      refine k_callVo C hP hap hAA (c_X3_shelfAt l ev ad σ a1   _ h1) Emb.same hap gz_X3_shelfAt qML_RX3_56 qIM_yX3_shelfAt qSE_yX3_shelfAt ⟨(Nat.le_of_ble_eq_true rfl), (Nat.le_of_ble_eq_true rfl)⟩ (q0 := 0) rfl (by decide) rfl rfl rfl rfl hl.1 rfl (Nat.le_of_ble_eq_true rfl) dX3_judge_17 ⟨Nat.le_refl _, Nat.le_refl _⟩ (fun H locs hP => ?_)
      rcases o15 with _ | q16
      · have h := k_omN h
        refine lv_iload_n hx hb dX3_judge_20 rfl (lv_at hl 3 rfl) ?_
        obtain ⟨x18, σ17, h1, h⟩ := k_ob2 h
        refine k_callVi C hP hap hAA (c_X3_toldWrong_n l ev ad σ a2   _ _ h1) Emb.same hap gz_X3_toldWrong qML_RX3_341 qIM_yX3_toldWrong qSE_yX3_toldWrong ⟨(Nat.le_of_ble_eq_true rfl), (Nat.le_of_ble_eq_true rfl)⟩ (q0 := 0) rfl (by decide) rfl rfl rfl rfl hl.1 rfl (Nat.le_of_ble_eq_true rfl) dX3_judge_21 ⟨Nat.le_refl _, Nat.le_refl _⟩ (fun H locs hP => ?_)
        refine lv_goto (tgt := 32) hx hb dX3_judge_24 (by decide) ?_
        exact e_iret C hend hP (k_some2 h).1 (congrArg (xw ev ad) (k_some2 h).2) dX3_judge_32
      · obtain ⟨hg, h⟩ := k_gd (k_omS h)
        have hq16 : q16 < 8 := of_decide_eq_true hg
        refine lv_iload_n hx hb dX3_judge_20 rfl (lv_at hl 3 rfl) ?_
        obtain ⟨x20, σ19, h1, h⟩ := k_ob2 h
        refine k_callVi C hP hap hAA (c_X3_toldWrong_s l ev ad σ q16 a2 hq16  _ _ h1) Emb.same hap gz_X3_toldWrong qML_RX3_341 qIM_yX3_toldWrong qSE_yX3_toldWrong ⟨(Nat.le_of_ble_eq_true rfl), (Nat.le_of_ble_eq_true rfl)⟩ (q0 := 0) rfl (by decide) rfl rfl rfl rfl hl.1 rfl (Nat.le_of_ble_eq_true rfl) dX3_judge_21 ⟨Nat.le_refl _, Nat.le_refl _⟩ (fun H locs hP => ?_)
        refine lv_goto (tgt := 32) hx hb dX3_judge_24 (by decide) ?_
        exact e_iret C hend hP (k_some2 h).1 (congrArg (xw ev ad) (k_some2 h).2) dX3_judge_32
def f_X3_behind (σ : XX) (a1 : Int32) (a2 : Int32) : Option (Int32 × XX) :=
  ob (f_X3_shelfAt σ a1) (fun o1 => om o1 (lt (f_X3_toldTrouble_n a2) (fun x3 => if x3 = 0 then ob (f_X3_shelfAt σ a1) (fun o4 => om o4 (ob2 (f_X3_toldWrong_n σ a2) (fun x7 σ6 => if x7 = (-1) then ob (f_X0_leadOf (x_thought σ6) 0) (fun x10 => some (x10, σ6)) else ob2 (f_X3_refuseLead σ6 (-5)) (fun x9 σ8 => some (x9, σ8)))) (fun q5 => gd (decide (q5 < 8)) (ob2 (f_X3_toldWrong_s σ q5 a2) (fun x12 σ11 => if x12 = (-1) then ob (f_X0_leadOf (x_thought σ11) 0) (fun x15 => some (x15, σ11)) else ob2 (f_X3_refuseLead σ11 (-5)) (fun x14 σ13 => some (x14, σ13)))))) else ob2 (f_X3_refuseLead σ x3) (fun x17 σ16 => some (x17, σ16)))) (fun q2 => gd (decide (q2 < 8)) (lt (f_X3_toldTrouble_s (x_shelf σ q2) a2) (fun x18 => if x18 = 0 then ob (f_X3_shelfAt σ a1) (fun o19 => om o19 (ob2 (f_X3_toldWrong_n σ a2) (fun x22 σ21 => if x22 = (-1) then ob (f_X0_leadOf (x_thought σ21) 0) (fun x25 => some (x25, σ21)) else ob2 (f_X3_refuseLead σ21 (-5)) (fun x24 σ23 => some (x24, σ23)))) (fun q20 => gd (decide (q20 < 8)) (ob2 (f_X3_toldWrong_s σ q20 a2) (fun x27 σ26 => if x27 = (-1) then ob (f_X0_leadOf (x_thought σ26) 0) (fun x30 => some (x30, σ26)) else ob2 (f_X3_refuseLead σ26 (-5)) (fun x29 σ28 => some (x29, σ28)))))) else ob2 (f_X3_refuseLead σ x18) (fun x32 σ31 => some (x32, σ31))))))
set_option maxHeartbeats 4000000 in
set_option maxRecDepth 100000 in
theorem c_X3_behind (l : Launch) (ev : EV) (ad : Nat → Nat) (σ : XX) (a1 : Int32) (a2 : Int32)   (r : Int32) (σ' : XX) (h : f_X3_behind σ a1 a2 = some (r, σ')) : Ct l yX3_behind prog_1_method_51_code 4 (Option.some Jvm.ClassFile.FieldType.int) (rmk 6 145) ev 26 ad (xw ev ad σ) (xw ev ad σ') [.ref (ad 0), .int a1, .int a2] (some (.int r)) := by
  refine Ct.of (by decide +kernel) (Nat.le_of_ble_eq_true rfl) ?_
  intro p e s m args below meth c Qc C hap hP hend ls hl
  have hAA : ∀ j, j < 26 → inA ad 26 (ad j) := fun j hj => ⟨j, hj, rfl⟩
  have hx := C.1
  have hb := C.2.1
  have hl : lv_has ls 4 [(0, .ref (ad 0)), (1, .int a1), (2, .int a2)] := hl
  have h := (f_X3_behind.eq_1 _ _ _ ).symm.trans h
  refine lv_aload_n hx hb dX3_behind_0 rfl (lv_at hl 0 rfl) ?_
  refine lv_iload_n hx hb dX3_behind_1 rfl (lv_at hl 1 rfl) ?_
  obtain ⟨o1, h1, h⟩ := k_ob h
  refine k_callVo C hP hap hAA (c_X3_shelfAt l ev ad σ a1   _ h1) Emb.same hap gz_X3_shelfAt qML_RX3_56 qIM_yX3_shelfAt qSE_yX3_shelfAt ⟨(Nat.le_of_ble_eq_true rfl), (Nat.le_of_ble_eq_true rfl)⟩ (q0 := 0) rfl (by decide) rfl rfl rfl rfl hl.1 rfl (Nat.le_of_ble_eq_true rfl) dX3_behind_2 ⟨Nat.le_refl _, Nat.le_refl _⟩ (fun H locs hP => ?_)
  rcases o1 with _ | q2
  · have h := k_omN h
    refine lv_iload_n hx hb dX3_behind_5 rfl (lv_at hl 2 rfl) ?_
    refine k_callSi C hP hap hAA (c_X3_toldTrouble_n l ev ad a2   _ rfl) Emb.none (apart_0 _) gz_X3_toldTrouble qML_RX3_337 qSM_yX3_toldTrouble ⟨(Nat.le_of_ble_eq_true rfl), (Nat.le_of_ble_eq_true rfl)⟩ rfl hl.1 rfl (Nat.le_of_ble_eq_true rfl) dX3_behind_6 ⟨Nat.le_refl _, Nat.le_refl _⟩ (fun H locs hP => ?_)
    refine lv_topi (fun x3 ex3 => ?_)
    have h := k_lt ex3 h
    refine lv_istore_n (lv' := [(3, .int x3), (0, .ref (ad 0)), (1, .int a1), (2, .int a2)]) hx hb dX3_behind_9 rfl hl (by decide) rfl (fun ls hl => ?_)
    refine lv_iload_n hx hb dX3_behind_10 rfl (lv_at hl 0 rfl) ?_
    refine lv_if_eq (tgt := 20) hx hb dX3_behind_11 (by decide) (fun c11 => ?_) (fun c11 => ?_)
    · have h := k_if c11 h
      refine lv_aload_n hx hb dX3_behind_20 rfl (lv_at hl 1 rfl) ?_
      refine lv_aload_n hx hb dX3_behind_21 rfl (lv_at hl 1 rfl) ?_
      refine lv_iload_n hx hb dX3_behind_22 rfl (lv_at hl 2 rfl) ?_
      obtain ⟨o4, h1, h⟩ := k_ob h
      refine k_callVo C hP hap hAA (c_X3_shelfAt l ev ad σ a1   _ h1) Emb.same hap gz_X3_shelfAt qML_RX3_56 qIM_yX3_shelfAt qSE_yX3_shelfAt ⟨(Nat.le_of_ble_eq_true rfl), (Nat.le_of_ble_eq_true rfl)⟩ (q0 := 0) rfl (by decide) rfl rfl rfl rfl hl.1 rfl (Nat.le_of_ble_eq_true rfl) dX3_behind_23 ⟨Nat.le_refl _, Nat.le_refl _⟩ (fun H locs hP => ?_)
      rcases o4 with _ | q5
      · have h := k_omN h
        refine lv_iload_n hx hb dX3_behind_26 rfl (lv_at hl 3 rfl) ?_
        obtain ⟨x7, σ6, h1, h⟩ := k_ob2 h
        refine k_callVi C hP hap hAA (c_X3_toldWrong_n l ev ad σ a2   _ _ h1) Emb.same hap gz_X3_toldWrong qML_RX3_341 qIM_yX3_toldWrong qSE_yX3_toldWrong ⟨(Nat.le_of_ble_eq_true rfl), (Nat.le_of_ble_eq_true rfl)⟩ (q0 := 0) rfl (by decide) rfl rfl rfl rfl hl.1 rfl (Nat.le_of_ble_eq_true rfl) dX3_behind_27 ⟨Nat.le_refl _, Nat.le_refl _⟩ (fun H locs hP => ?_)
        refine lv_iconst (v := (-1)) hx hb dX3_behind_30 (by decide) ?_
        refine lv_icmp_ne (tgt := 45) hx hb dX3_behind_31 (by decide) (fun c31 => ?_) (fun c31 => ?_)
        · have h := k_nf c31 h
          refine lv_aload_n hx hb dX3_behind_45 rfl (lv_at hl 1 rfl) ?_
          refine lv_bipush (v := (-5)) hx hb dX3_behind_46 (by decide) ?_
          obtain ⟨x9, σ8, h1, h⟩ := k_ob2 h
          refine k_callVi C hP hap hAA (c_X3_refuseLead l ev ad σ6 (-5)   _ _ h1) Emb.same hap gz_X3_refuseLead qML_RX3_258 qIM_yX3_refuseLead qSE_yX3_refuseLead ⟨(Nat.le_of_ble_eq_true rfl), (Nat.le_of_ble_eq_true rfl)⟩ (q0 := 0) rfl (by decide) rfl rfl rfl rfl hl.1 rfl (Nat.le_of_ble_eq_true rfl) dX3_behind_48 ⟨Nat.le_refl _, Nat.le_refl _⟩ (fun H locs hP => ?_)
          exact e_iret C hend hP (k_some2 h).1 (congrArg (xw ev ad) (k_some2 h).2) dX3_behind_51
        · have h := k_if c31 h
          refine lv_aload_n hx hb dX3_behind_34 rfl (lv_at hl 1 rfl) ?_
          refine r_get C hP (ci := 3) rfl uin_X3 1 (by decide) 0 (by decide) rfl qFL_RX3_16 rfl rfl dX3_behind_35 ?_
          refine lv_iconst (v := 0) hx hb dX3_behind_38 (by decide) ?_
          obtain ⟨x10, h1, h⟩ := k_ob h
          refine k_callVi C hP hap hAA (c_X0_leadOf l ev (fun j => ad (j + 2)) (x_thought σ6) 0   _ h1) (em_G2r) (apart_1 _) gz_X0_leadOf qML_RX3_255 qIM_yX0_leadOf qSE_yX0_leadOf ⟨(Nat.le_of_ble_eq_true rfl), (Nat.le_of_ble_eq_true rfl)⟩ (q0 := 2) rfl (by decide) rfl rfl rfl rfl hl.1 rfl (Nat.le_of_ble_eq_true rfl) dX3_behind_39 ⟨Nat.le_refl _, Nat.le_refl _⟩ (fun H locs hP => ?_)
          refine lv_goto (tgt := 51) hx hb dX3_behind_42 (by decide) ?_
          exact e_iret C hend hP (k_some2 h).1 (congrArg (xw ev ad) (k_some2 h).2) dX3_behind_51
      · obtain ⟨hg, h⟩ := k_gd (k_omS h)
        have hq5 : q5 < 8 := of_decide_eq_true hg
        refine lv_iload_n hx hb dX3_behind_26 rfl (lv_at hl 3 rfl) ?_
        obtain ⟨x12, σ11, h1, h⟩ := k_ob2 h
        refine k_callVi C hP hap hAA (c_X3_toldWrong_s l ev ad σ q5 a2 hq5  _ _ h1) Emb.same hap gz_X3_toldWrong qML_RX3_341 qIM_yX3_toldWrong qSE_yX3_toldWrong ⟨(Nat.le_of_ble_eq_true rfl), (Nat.le_of_ble_eq_true rfl)⟩ (q0 := 0) rfl (by decide) rfl rfl rfl rfl hl.1 rfl (Nat.le_of_ble_eq_true rfl) dX3_behind_27 ⟨Nat.le_refl _, Nat.le_refl _⟩ (fun H locs hP => ?_)
        refine lv_iconst (v := (-1)) hx hb dX3_behind_30 (by decide) ?_
        refine lv_icmp_ne (tgt := 45) hx hb dX3_behind_31 (by decide) (fun c31 => ?_) (fun c31 => ?_)
        · have h := k_nf c31 h
          refine lv_aload_n hx hb dX3_behind_45 rfl (lv_at hl 1 rfl) ?_
          refine lv_bipush (v := (-5)) hx hb dX3_behind_46 (by decide) ?_
          obtain ⟨x14, σ13, h1, h⟩ := k_ob2 h
          refine k_callVi C hP hap hAA (c_X3_refuseLead l ev ad σ11 (-5)   _ _ h1) Emb.same hap gz_X3_refuseLead qML_RX3_258 qIM_yX3_refuseLead qSE_yX3_refuseLead ⟨(Nat.le_of_ble_eq_true rfl), (Nat.le_of_ble_eq_true rfl)⟩ (q0 := 0) rfl (by decide) rfl rfl rfl rfl hl.1 rfl (Nat.le_of_ble_eq_true rfl) dX3_behind_48 ⟨Nat.le_refl _, Nat.le_refl _⟩ (fun H locs hP => ?_)
          exact e_iret C hend hP (k_some2 h).1 (congrArg (xw ev ad) (k_some2 h).2) dX3_behind_51
        · have h := k_if c31 h
          refine lv_aload_n hx hb dX3_behind_34 rfl (lv_at hl 1 rfl) ?_
          refine r_get C hP (ci := 3) rfl uin_X3 1 (by decide) 0 (by decide) rfl qFL_RX3_16 rfl rfl dX3_behind_35 ?_
          refine lv_iconst (v := 0) hx hb dX3_behind_38 (by decide) ?_
          obtain ⟨x15, h1, h⟩ := k_ob h
          refine k_callVi C hP hap hAA (c_X0_leadOf l ev (fun j => ad (j + 2)) (x_thought σ11) 0   _ h1) (em_G2r) (apart_1 _) gz_X0_leadOf qML_RX3_255 qIM_yX0_leadOf qSE_yX0_leadOf ⟨(Nat.le_of_ble_eq_true rfl), (Nat.le_of_ble_eq_true rfl)⟩ (q0 := 2) rfl (by decide) rfl rfl rfl rfl hl.1 rfl (Nat.le_of_ble_eq_true rfl) dX3_behind_39 ⟨Nat.le_refl _, Nat.le_refl _⟩ (fun H locs hP => ?_)
          refine lv_goto (tgt := 51) hx hb dX3_behind_42 (by decide) ?_
          exact e_iret C hend hP (k_some2 h).1 (congrArg (xw ev ad) (k_some2 h).2) dX3_behind_51
    · have h := k_nf c11 h
      refine lv_aload_n hx hb dX3_behind_14 rfl (lv_at hl 1 rfl) ?_
      refine lv_iload_n hx hb dX3_behind_15 rfl (lv_at hl 0 rfl) ?_
      obtain ⟨x17, σ16, h1, h⟩ := k_ob2 h
      refine k_callVi C hP hap hAA (c_X3_refuseLead l ev ad σ x3   _ _ h1) Emb.same hap gz_X3_refuseLead qML_RX3_258 qIM_yX3_refuseLead qSE_yX3_refuseLead ⟨(Nat.le_of_ble_eq_true rfl), (Nat.le_of_ble_eq_true rfl)⟩ (q0 := 0) rfl (by decide) rfl rfl rfl rfl hl.1 rfl (Nat.le_of_ble_eq_true rfl) dX3_behind_16 ⟨Nat.le_refl _, Nat.le_refl _⟩ (fun H locs hP => ?_)
      exact e_iret C hend hP (k_some2 h).1 (congrArg (xw ev ad) (k_some2 h).2) dX3_behind_19
  · obtain ⟨hg, h⟩ := k_gd (k_omS h)
    have hq2 : q2 < 8 := of_decide_eq_true hg
    refine lv_iload_n hx hb dX3_behind_5 rfl (lv_at hl 2 rfl) ?_
    refine k_callSi C hP hap hAA (c_X3_toldTrouble_s l ev (fun j => ad (q2 + 10 + 8 * j)) (x_shelf σ q2) a2   _ rfl) (em_Sr hq2) (apart_S hap hq2) gz_X3_toldTrouble qML_RX3_337 qSM_yX3_toldTrouble ⟨(Nat.le_of_ble_eq_true rfl), (Nat.le_of_ble_eq_true rfl)⟩ rfl hl.1 rfl (Nat.le_of_ble_eq_true rfl) dX3_behind_6 ⟨Nat.le_refl _, Nat.le_refl _⟩ (fun H locs hP => ?_)
    refine lv_topi (fun x18 ex18 => ?_)
    have h := k_lt ex18 h
    refine lv_istore_n (lv' := [(3, .int x18), (0, .ref (ad 0)), (1, .int a1), (2, .int a2)]) hx hb dX3_behind_9 rfl hl (by decide) rfl (fun ls hl => ?_)
    refine lv_iload_n hx hb dX3_behind_10 rfl (lv_at hl 0 rfl) ?_
    refine lv_if_eq (tgt := 20) hx hb dX3_behind_11 (by decide) (fun c11 => ?_) (fun c11 => ?_)
    · have h := k_if c11 h
      refine lv_aload_n hx hb dX3_behind_20 rfl (lv_at hl 1 rfl) ?_
      refine lv_aload_n hx hb dX3_behind_21 rfl (lv_at hl 1 rfl) ?_
      refine lv_iload_n hx hb dX3_behind_22 rfl (lv_at hl 2 rfl) ?_
      obtain ⟨o19, h1, h⟩ := k_ob h
      refine k_callVo C hP hap hAA (c_X3_shelfAt l ev ad σ a1   _ h1) Emb.same hap gz_X3_shelfAt qML_RX3_56 qIM_yX3_shelfAt qSE_yX3_shelfAt ⟨(Nat.le_of_ble_eq_true rfl), (Nat.le_of_ble_eq_true rfl)⟩ (q0 := 0) rfl (by decide) rfl rfl rfl rfl hl.1 rfl (Nat.le_of_ble_eq_true rfl) dX3_behind_23 ⟨Nat.le_refl _, Nat.le_refl _⟩ (fun H locs hP => ?_)
      rcases o19 with _ | q20
      · have h := k_omN h
        refine lv_iload_n hx hb dX3_behind_26 rfl (lv_at hl 3 rfl) ?_
        obtain ⟨x22, σ21, h1, h⟩ := k_ob2 h
        refine k_callVi C hP hap hAA (c_X3_toldWrong_n l ev ad σ a2   _ _ h1) Emb.same hap gz_X3_toldWrong qML_RX3_341 qIM_yX3_toldWrong qSE_yX3_toldWrong ⟨(Nat.le_of_ble_eq_true rfl), (Nat.le_of_ble_eq_true rfl)⟩ (q0 := 0) rfl (by decide) rfl rfl rfl rfl hl.1 rfl (Nat.le_of_ble_eq_true rfl) dX3_behind_27 ⟨Nat.le_refl _, Nat.le_refl _⟩ (fun H locs hP => ?_)
        refine lv_iconst (v := (-1)) hx hb dX3_behind_30 (by decide) ?_
        refine lv_icmp_ne (tgt := 45) hx hb dX3_behind_31 (by decide) (fun c31 => ?_) (fun c31 => ?_)
        · have h := k_nf c31 h
          refine lv_aload_n hx hb dX3_behind_45 rfl (lv_at hl 1 rfl) ?_
          refine lv_bipush (v := (-5)) hx hb dX3_behind_46 (by decide) ?_
          obtain ⟨x24, σ23, h1, h⟩ := k_ob2 h
          refine k_callVi C hP hap hAA (c_X3_refuseLead l ev ad σ21 (-5)   _ _ h1) Emb.same hap gz_X3_refuseLead qML_RX3_258 qIM_yX3_refuseLead qSE_yX3_refuseLead ⟨(Nat.le_of_ble_eq_true rfl), (Nat.le_of_ble_eq_true rfl)⟩ (q0 := 0) rfl (by decide) rfl rfl rfl rfl hl.1 rfl (Nat.le_of_ble_eq_true rfl) dX3_behind_48 ⟨Nat.le_refl _, Nat.le_refl _⟩ (fun H locs hP => ?_)
          exact e_iret C hend hP (k_some2 h).1 (congrArg (xw ev ad) (k_some2 h).2) dX3_behind_51
        · have h := k_if c31 h
          refine lv_aload_n hx hb dX3_behind_34 rfl (lv_at hl 1 rfl) ?_
          refine r_get C hP (ci := 3) rfl uin_X3 1 (by decide) 0 (by decide) rfl qFL_RX3_16 rfl rfl dX3_behind_35 ?_
          refine lv_iconst (v := 0) hx hb dX3_behind_38 (by decide) ?_
          obtain ⟨x25, h1, h⟩ := k_ob h
          refine k_callVi C hP hap hAA (c_X0_leadOf l ev (fun j => ad (j + 2)) (x_thought σ21) 0   _ h1) (em_G2r) (apart_1 _) gz_X0_leadOf qML_RX3_255 qIM_yX0_leadOf qSE_yX0_leadOf ⟨(Nat.le_of_ble_eq_true rfl), (Nat.le_of_ble_eq_true rfl)⟩ (q0 := 2) rfl (by decide) rfl rfl rfl rfl hl.1 rfl (Nat.le_of_ble_eq_true rfl) dX3_behind_39 ⟨Nat.le_refl _, Nat.le_refl _⟩ (fun H locs hP => ?_)
          refine lv_goto (tgt := 51) hx hb dX3_behind_42 (by decide) ?_
          exact e_iret C hend hP (k_some2 h).1 (congrArg (xw ev ad) (k_some2 h).2) dX3_behind_51
      · obtain ⟨hg, h⟩ := k_gd (k_omS h)
        have hq20 : q20 < 8 := of_decide_eq_true hg
        refine lv_iload_n hx hb dX3_behind_26 rfl (lv_at hl 3 rfl) ?_
        obtain ⟨x27, σ26, h1, h⟩ := k_ob2 h
        refine k_callVi C hP hap hAA (c_X3_toldWrong_s l ev ad σ q20 a2 hq20  _ _ h1) Emb.same hap gz_X3_toldWrong qML_RX3_341 qIM_yX3_toldWrong qSE_yX3_toldWrong ⟨(Nat.le_of_ble_eq_true rfl), (Nat.le_of_ble_eq_true rfl)⟩ (q0 := 0) rfl (by decide) rfl rfl rfl rfl hl.1 rfl (Nat.le_of_ble_eq_true rfl) dX3_behind_27 ⟨Nat.le_refl _, Nat.le_refl _⟩ (fun H locs hP => ?_)
        refine lv_iconst (v := (-1)) hx hb dX3_behind_30 (by decide) ?_
        refine lv_icmp_ne (tgt := 45) hx hb dX3_behind_31 (by decide) (fun c31 => ?_) (fun c31 => ?_)
        · have h := k_nf c31 h
          refine lv_aload_n hx hb dX3_behind_45 rfl (lv_at hl 1 rfl) ?_
          refine lv_bipush (v := (-5)) hx hb dX3_behind_46 (by decide) ?_
          obtain ⟨x29, σ28, h1, h⟩ := k_ob2 h
          refine k_callVi C hP hap hAA (c_X3_refuseLead l ev ad σ26 (-5)   _ _ h1) Emb.same hap gz_X3_refuseLead qML_RX3_258 qIM_yX3_refuseLead qSE_yX3_refuseLead ⟨(Nat.le_of_ble_eq_true rfl), (Nat.le_of_ble_eq_true rfl)⟩ (q0 := 0) rfl (by decide) rfl rfl rfl rfl hl.1 rfl (Nat.le_of_ble_eq_true rfl) dX3_behind_48 ⟨Nat.le_refl _, Nat.le_refl _⟩ (fun H locs hP => ?_)
          exact e_iret C hend hP (k_some2 h).1 (congrArg (xw ev ad) (k_some2 h).2) dX3_behind_51
        · have h := k_if c31 h
          refine lv_aload_n hx hb dX3_behind_34 rfl (lv_at hl 1 rfl) ?_
          refine r_get C hP (ci := 3) rfl uin_X3 1 (by decide) 0 (by decide) rfl qFL_RX3_16 rfl rfl dX3_behind_35 ?_
          refine lv_iconst (v := 0) hx hb dX3_behind_38 (by decide) ?_
          obtain ⟨x30, h1, h⟩ := k_ob h
          refine k_callVi C hP hap hAA (c_X0_leadOf l ev (fun j => ad (j + 2)) (x_thought σ26) 0   _ h1) (em_G2r) (apart_1 _) gz_X0_leadOf qML_RX3_255 qIM_yX0_leadOf qSE_yX0_leadOf ⟨(Nat.le_of_ble_eq_true rfl), (Nat.le_of_ble_eq_true rfl)⟩ (q0 := 2) rfl (by decide) rfl rfl rfl rfl hl.1 rfl (Nat.le_of_ble_eq_true rfl) dX3_behind_39 ⟨Nat.le_refl _, Nat.le_refl _⟩ (fun H locs hP => ?_)
          refine lv_goto (tgt := 51) hx hb dX3_behind_42 (by decide) ?_
          exact e_iret C hend hP (k_some2 h).1 (congrArg (xw ev ad) (k_some2 h).2) dX3_behind_51
    · have h := k_nf c11 h
      refine lv_aload_n hx hb dX3_behind_14 rfl (lv_at hl 1 rfl) ?_
      refine lv_iload_n hx hb dX3_behind_15 rfl (lv_at hl 0 rfl) ?_
      obtain ⟨x32, σ31, h1, h⟩ := k_ob2 h
      refine k_callVi C hP hap hAA (c_X3_refuseLead l ev ad σ x18   _ _ h1) Emb.same hap gz_X3_refuseLead qML_RX3_258 qIM_yX3_refuseLead qSE_yX3_refuseLead ⟨(Nat.le_of_ble_eq_true rfl), (Nat.le_of_ble_eq_true rfl)⟩ (q0 := 0) rfl (by decide) rfl rfl rfl rfl hl.1 rfl (Nat.le_of_ble_eq_true rfl) dX3_behind_16 ⟨Nat.le_refl _, Nat.le_refl _⟩ (fun H locs hP => ?_)
      exact e_iret C hend hP (k_some2 h).1 (congrArg (xw ev ad) (k_some2 h).2) dX3_behind_19
