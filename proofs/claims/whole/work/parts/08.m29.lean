/-! functions read off, and their contracts: by program (wip/whole/gen2.py) -/
def f_X3_done (σ : XX) (a1 : Int32) (a2 : Int32) : Option (Int32 × XX) :=
  ob (f_X3_shelfAt σ a1) (fun o1 => om o1 (lt (f_X3_toldTrouble_n a2) (fun x3 => if x3 = 0 then ob (f_X3_shelfAt σ a1) (fun o4 => om o4 (ob2 (f_X3_toldWrong_n σ a2) (fun x7 σ6 => if x7 = (-1) then ob (f_X0_become (x_now σ6) (x_thought σ6)) (fun σ8 => lt (x_now' σ6 σ8) (fun σ9 => some ((g_made (x_now σ9)), σ9))) else ob2 (f_X3_refuse σ6 (-5)) (fun x11 σ10 => some (x11, σ10)))) (fun q5 => gd (decide (q5 < 8)) (ob2 (f_X3_toldWrong_s σ q5 a2) (fun x13 σ12 => if x13 = (-1) then ob (f_X0_become (x_now σ12) (x_thought σ12)) (fun σ14 => lt (x_now' σ12 σ14) (fun σ15 => some ((g_made (x_now σ15)), σ15))) else ob2 (f_X3_refuse σ12 (-5)) (fun x17 σ16 => some (x17, σ16)))))) else ob2 (f_X3_refuse σ x3) (fun x19 σ18 => some (x19, σ18)))) (fun q2 => gd (decide (q2 < 8)) (lt (f_X3_toldTrouble_s (x_shelf σ q2) a2) (fun x20 => if x20 = 0 then ob (f_X3_shelfAt σ a1) (fun o21 => om o21 (ob2 (f_X3_toldWrong_n σ a2) (fun x24 σ23 => if x24 = (-1) then ob (f_X0_become (x_now σ23) (x_thought σ23)) (fun σ25 => lt (x_now' σ23 σ25) (fun σ26 => some ((g_made (x_now σ26)), σ26))) else ob2 (f_X3_refuse σ23 (-5)) (fun x28 σ27 => some (x28, σ27)))) (fun q22 => gd (decide (q22 < 8)) (ob2 (f_X3_toldWrong_s σ q22 a2) (fun x30 σ29 => if x30 = (-1) then ob (f_X0_become (x_now σ29) (x_thought σ29)) (fun σ31 => lt (x_now' σ29 σ31) (fun σ32 => some ((g_made (x_now σ32)), σ32))) else ob2 (f_X3_refuse σ29 (-5)) (fun x34 σ33 => some (x34, σ33)))))) else ob2 (f_X3_refuse σ x20) (fun x36 σ35 => some (x36, σ35))))))
set_option maxHeartbeats 4000000 in
set_option maxRecDepth 100000 in
theorem c_X3_done (l : Launch) (ev : EV) (ad : Nat → Nat) (σ : XX) (a1 : Int32) (a2 : Int32)   (r : Int32) (σ' : XX) (h : f_X3_done σ a1 a2 = some (r, σ')) : Ct l yX3_done prog_1_method_52_code 4 (Option.some Jvm.ClassFile.FieldType.int) (rmk 5 107) ev 26 ad (xw ev ad σ) (xw ev ad σ') [.ref (ad 0), .int a1, .int a2] (some (.int r)) := by
  refine Ct.of (by decide +kernel) (Nat.le_of_ble_eq_true rfl) ?_
  intro p e s m args below meth c Qc C hap hP hend ls hl
  have hAA : ∀ j, j < 26 → inA ad 26 (ad j) := fun j hj => ⟨j, hj, rfl⟩
  have hx := C.1
  have hb := C.2.1
  have hl : lv_has ls 4 [(0, .ref (ad 0)), (1, .int a1), (2, .int a2)] := hl
  have h := (f_X3_done.eq_1 _ _ _ ).symm.trans h
  refine lv_aload_n hx hb dX3_done_0 rfl (lv_at hl 0 rfl) ?_
  refine lv_iload_n hx hb dX3_done_1 rfl (lv_at hl 1 rfl) ?_
  obtain ⟨o1, h1, h⟩ := k_ob h
  refine k_callVo C hP hap hAA (c_X3_shelfAt l ev ad σ a1   _ h1) Emb.same hap gz_X3_shelfAt qML_RX3_56 qIM_yX3_shelfAt qSE_yX3_shelfAt ⟨(Nat.le_of_ble_eq_true rfl), (Nat.le_of_ble_eq_true rfl)⟩ (q0 := 0) rfl (by decide) rfl rfl rfl rfl hl.1 rfl (Nat.le_of_ble_eq_true rfl) dX3_done_2 ⟨Nat.le_refl _, Nat.le_refl _⟩ (fun H locs hP => ?_)
  rcases o1 with _ | q2
  · have h := k_omN h
    refine lv_iload_n hx hb dX3_done_5 rfl (lv_at hl 2 rfl) ?_
    refine k_callSi C hP hap hAA (c_X3_toldTrouble_n l ev ad a2   _ rfl) Emb.none (apart_0 _) gz_X3_toldTrouble qML_RX3_337 qSM_yX3_toldTrouble ⟨(Nat.le_of_ble_eq_true rfl), (Nat.le_of_ble_eq_true rfl)⟩ rfl hl.1 rfl (Nat.le_of_ble_eq_true rfl) dX3_done_6 ⟨Nat.le_refl _, Nat.le_refl _⟩ (fun H locs hP => ?_)
    refine lv_topi (fun x3 ex3 => ?_)
    have h := k_lt ex3 h
    refine lv_istore_n (lv' := [(3, .int x3), (0, .ref (ad 0)), (1, .int a1), (2, .int a2)]) hx hb dX3_done_9 rfl hl (by decide) rfl (fun ls hl => ?_)
    refine lv_iload_n hx hb dX3_done_10 rfl (lv_at hl 0 rfl) ?_
    refine lv_if_eq (tgt := 20) hx hb dX3_done_11 (by decide) (fun c11 => ?_) (fun c11 => ?_)
    · have h := k_if c11 h
      refine lv_aload_n hx hb dX3_done_20 rfl (lv_at hl 1 rfl) ?_
      refine lv_aload_n hx hb dX3_done_21 rfl (lv_at hl 1 rfl) ?_
      refine lv_iload_n hx hb dX3_done_22 rfl (lv_at hl 2 rfl) ?_
      obtain ⟨o4, h1, h⟩ := k_ob h
      refine k_callVo C hP hap hAA (c_X3_shelfAt l ev ad σ a1   _ h1) Emb.same hap gz_X3_shelfAt qML_RX3_56 qIM_yX3_shelfAt qSE_yX3_shelfAt ⟨(Nat.le_of_ble_eq_true rfl), (Nat.le_of_ble_eq_true rfl)⟩ (q0 := 0) rfl (by decide) rfl rfl rfl rfl hl.1 rfl (Nat.le_of_ble_eq_true rfl) dX3_done_23 ⟨Nat.le_refl _, Nat.le_refl _⟩ (fun H locs hP => ?_)
      rcases o4 with _ | q5
      · have h := k_omN h
        refine lv_iload_n hx hb dX3_done_26 rfl (lv_at hl 3 rfl) ?_
        obtain ⟨x7, σ6, h1, h⟩ := k_ob2 h
        refine k_callVi C hP hap hAA (c_X3_toldWrong_n l ev ad σ a2   _ _ h1) Emb.same hap gz_X3_toldWrong qML_RX3_341 qIM_yX3_toldWrong qSE_yX3_toldWrong ⟨(Nat.le_of_ble_eq_true rfl), (Nat.le_of_ble_eq_true rfl)⟩ (q0 := 0) rfl (by decide) rfl rfl rfl rfl hl.1 rfl (Nat.le_of_ble_eq_true rfl) dX3_done_27 ⟨Nat.le_refl _, Nat.le_refl _⟩ (fun H locs hP => ?_)
        refine lv_iconst (v := (-1)) hx hb dX3_done_30 (by decide) ?_
        refine lv_icmp_eq (tgt := 41) hx hb dX3_done_31 (by decide) (fun c31 => ?_) (fun c31 => ?_)
        · have h := k_if c31 h
          refine lv_aload_n hx hb dX3_done_41 rfl (lv_at hl 1 rfl) ?_
          refine r_get C hP (ci := 3) rfl uin_X3 0 (by decide) 0 (by decide) rfl qFL_RX3_10 rfl rfl dX3_done_42 ?_
          refine lv_aload_n hx hb dX3_done_45 rfl (lv_at hl 1 rfl) ?_
          refine r_get C hP (ci := 3) rfl uin_X3 1 (by decide) 0 (by decide) rfl qFL_RX3_16 rfl rfl dX3_done_46 ?_
          obtain ⟨σ8, h1, h⟩ := k_ob h
          refine k_callVv C hP hap hAA (c_X0_become l ev (fun j => if j = 0 then ad 1 else ad 2) (x_now σ6) (x_thought σ6)   _ h1) (em_GG12) (apart_GG hap (by decide) (by decide) (by decide)) gz_X0_become qML_RX3_165 qIM_yX0_become qSE_yX0_become ⟨(Nat.le_of_ble_eq_true rfl), (Nat.le_of_ble_eq_true rfl)⟩ (q0 := 1) rfl (by decide) rfl rfl rfl rfl hl.1 rfl (Nat.le_of_ble_eq_true rfl) dX3_done_49 ⟨Nat.le_refl _, Nat.le_refl _⟩ (fun H locs hP => ?_)
          obtain ⟨σ9, eσ9, h⟩ := k_ltx h
          rw [← eσ9] at hP
          refine lv_aload_n hx hb dX3_done_52 rfl (lv_at hl 1 rfl) ?_
          refine r_get C hP (ci := 3) rfl uin_X3 0 (by decide) 0 (by decide) rfl qFL_RX3_10 rfl rfl dX3_done_53 ?_
          refine r_get C hP (ci := 0) rfl uin_X0 14 (by decide) 1 (by decide) rfl qFL_RX3_325 rfl rfl dX3_done_56 ?_
          exact e_iret C hend hP (k_some2 h).1 (congrArg (xw ev ad) (k_some2 h).2) dX3_done_59
        · have h := k_nf c31 h
          refine lv_aload_n hx hb dX3_done_34 rfl (lv_at hl 1 rfl) ?_
          refine lv_bipush (v := (-5)) hx hb dX3_done_35 (by decide) ?_
          obtain ⟨x11, σ10, h1, h⟩ := k_ob2 h
          refine k_callVi C hP hap hAA (c_X3_refuse l ev ad σ6 (-5)   _ _ h1) Emb.same hap gz_X3_refuse qML_RX3_60 qIM_yX3_refuse qSE_yX3_refuse ⟨(Nat.le_of_ble_eq_true rfl), (Nat.le_of_ble_eq_true rfl)⟩ (q0 := 0) rfl (by decide) rfl rfl rfl rfl hl.1 rfl (Nat.le_of_ble_eq_true rfl) dX3_done_37 ⟨Nat.le_refl _, Nat.le_refl _⟩ (fun H locs hP => ?_)
          exact e_iret C hend hP (k_some2 h).1 (congrArg (xw ev ad) (k_some2 h).2) dX3_done_40
      · obtain ⟨hg, h⟩ := k_gd (k_omS h)
        have hq5 : q5 < 8 := of_decide_eq_true hg
        refine lv_iload_n hx hb dX3_done_26 rfl (lv_at hl 3 rfl) ?_
        obtain ⟨x13, σ12, h1, h⟩ := k_ob2 h
        refine k_callVi C hP hap hAA (c_X3_toldWrong_s l ev ad σ q5 a2 hq5  _ _ h1) Emb.same hap gz_X3_toldWrong qML_RX3_341 qIM_yX3_toldWrong qSE_yX3_toldWrong ⟨(Nat.le_of_ble_eq_true rfl), (Nat.le_of_ble_eq_true rfl)⟩ (q0 := 0) rfl (by decide) rfl rfl rfl rfl hl.1 rfl (Nat.le_of_ble_eq_true rfl) dX3_done_27 ⟨Nat.le_refl _, Nat.le_refl _⟩ (fun H locs hP => ?_)
        refine lv_iconst (v := (-1)) hx hb dX3_done_30 (by decide) ?_
        refine lv_icmp_eq (tgt := 41) hx hb dX3_done_31 (by decide) (fun c31 => ?_) (fun c31 => ?_)
        · have h := k_if c31 h
          refine lv_aload_n hx hb dX3_done_41 rfl (lv_at hl 1 rfl) ?_
          refine r_get C hP (ci := 3) rfl uin_X3 0 (by decide) 0 (by decide) rfl qFL_RX3_10 rfl rfl dX3_done_42 ?_
          refine lv_aload_n hx hb dX3_done_45 rfl (lv_at hl 1 rfl) ?_
          refine r_get C hP (ci := 3) rfl uin_X3 1 (by decide) 0 (by decide) rfl qFL_RX3_16 rfl rfl dX3_done_46 ?_
          obtain ⟨σ14, h1, h⟩ := k_ob h
          refine k_callVv C hP hap hAA (c_X0_become l ev (fun j => if j = 0 then ad 1 else ad 2) (x_now σ12) (x_thought σ12)   _ h1) (em_GG12) (apart_GG hap (by decide) (by decide) (by decide)) gz_X0_become qML_RX3_165 qIM_yX0_become qSE_yX0_become ⟨(Nat.le_of_ble_eq_true rfl), (Nat.le_of_ble_eq_true rfl)⟩ (q0 := 1) rfl (by decide) rfl rfl rfl rfl hl.1 rfl (Nat.le_of_ble_eq_true rfl) dX3_done_49 ⟨Nat.le_refl _, Nat.le_refl _⟩ (fun H locs hP => ?_)
          obtain ⟨σ15, eσ15, h⟩ := k_ltx h
          rw [← eσ15] at hP
          refine lv_aload_n hx hb dX3_done_52 rfl (lv_at hl 1 rfl) ?_
          refine r_get C hP (ci := 3) rfl uin_X3 0 (by decide) 0 (by decide) rfl qFL_RX3_10 rfl rfl dX3_done_53 ?_
          refine r_get C hP (ci := 0) rfl uin_X0 14 (by decide) 1 (by decide) rfl qFL_RX3_325 rfl rfl dX3_done_56 ?_
          exact e_iret C hend hP (k_some2 h).1 (congrArg (xw ev ad) (k_some2 h).2) dX3_done_59
        · have h := k_nf c31 h
          refine lv_aload_n hx hb dX3_done_34 rfl (lv_at hl 1 rfl) ?_
          refine lv_bipush (v := (-5)) hx hb dX3_done_35 (by decide) ?_
          obtain ⟨x17, σ16, h1, h⟩ := k_ob2 h
          refine k_callVi C hP hap hAA (c_X3_refuse l ev ad σ12 (-5)   _ _ h1) Emb.same hap gz_X3_refuse qML_RX3_60 qIM_yX3_refuse qSE_yX3_refuse ⟨(Nat.le_of_ble_eq_true rfl), (Nat.le_of_ble_eq_true rfl)⟩ (q0 := 0) rfl (by decide) rfl rfl rfl rfl hl.1 rfl (Nat.le_of_ble_eq_true rfl) dX3_done_37 ⟨Nat.le_refl _, Nat.le_refl _⟩ (fun H locs hP => ?_)
          exact e_iret C hend hP (k_some2 h).1 (congrArg (xw ev ad) (k_some2 h).2) dX3_done_40
    · have h := k_nf c11 h
      refine lv_aload_n hx hb dX3_done_14 rfl (lv_at hl 1 rfl) ?_
      refine lv_iload_n hx hb dX3_done_15 rfl (lv_at hl 0 rfl) ?_
      obtain ⟨x19, σ18, h1, h⟩ := k_ob2 h
      refine k_callVi C hP hap hAA (c_X3_refuse l ev ad σ x3   _ _ h1) Emb.same hap gz_X3_refuse qML_RX3_60 qIM_yX3_refuse qSE_yX3_refuse ⟨(Nat.le_of_ble_eq_true rfl), (Nat.le_of_ble_eq_true rfl)⟩ (q0 := 0) rfl (by decide) rfl rfl rfl rfl hl.1 rfl (Nat.le_of_ble_eq_true rfl) dX3_done_16 ⟨Nat.le_refl _, Nat.le_refl _⟩ (fun H locs hP => ?_)
      exact e_iret C hend hP (k_some2 h).1 (congrArg (xw ev ad) (k_some2 h).2) dX3_done_19
  · obtain ⟨hg, h⟩ := k_gd (k_omS h)
    have hq2 : q2 < 8 := of_decide_eq_true hg
    refine lv_iload_n hx hb dX3_done_5 rfl (lv_at hl 2 rfl) ?_
    refine k_callSi C hP hap hAA (c_X3_toldTrouble_s l ev (fun j => ad (q2 + 10 + 8 * j)) (x_shelf σ q2) a2   _ rfl) (em_Sr hq2) (apart_S hap hq2) gz_X3_toldTrouble qML_RX3_337 qSM_yX3_toldTrouble ⟨(Nat.le_of_ble_eq_true rfl), (Nat.le_of_ble_eq_true rfl)⟩ rfl hl.1 rfl (Nat.le_of_ble_eq_true rfl) dX3_done_6 ⟨Nat.le_refl _, Nat.le_refl _⟩ (fun H locs hP => ?_)
    refine lv_topi (fun x20 ex20 => ?_)
    have h := k_lt ex20 h
    refine lv_istore_n (lv' := [(3, .int x20), (0, .ref (ad 0)), (1, .int a1), (2, .int a2)]) hx hb dX3_done_9 rfl hl (by decide) rfl (fun ls hl => ?_)
    refine lv_iload_n hx hb dX3_done_10 rfl (lv_at hl 0 rfl) ?_
    refine lv_if_eq (tgt := 20) hx hb dX3_done_11 (by decide) (fun c11 => ?_) (fun c11 => ?_)
    · have h := k_if c11 h
      refine lv_aload_n hx hb dX3_done_20 rfl (lv_at hl 1 rfl) ?_
      refine lv_aload_n hx hb dX3_done_21 rfl (lv_at hl 1 rfl) ?_
      refine lv_iload_n hx hb dX3_done_22 rfl (lv_at hl 2 rfl) ?_
      obtain ⟨o21, h1, h⟩ := k_ob h
      refine k_callVo C hP hap hAA (c_X3_shelfAt l ev ad σ a1   _ h1) Emb.same hap gz_X3_shelfAt qML_RX3_56 qIM_yX3_shelfAt qSE_yX3_shelfAt ⟨(Nat.le_of_ble_eq_true rfl), (Nat.le_of_ble_eq_true rfl)⟩ (q0 := 0) rfl (by decide) rfl rfl rfl rfl hl.1 rfl (Nat.le_of_ble_eq_true rfl) dX3_done_23 ⟨Nat.le_refl _, Nat.le_refl _⟩ (fun H locs hP => ?_)
      rcases o21 with _ | q22
      · have h := k_omN h
        refine lv_iload_n hx hb dX3_done_26 rfl (lv_at hl 3 rfl) ?_
        obtain ⟨x24, σ23, h1, h⟩ := k_ob2 h
        refine k_callVi C hP hap hAA (c_X3_toldWrong_n l ev ad σ a2   _ _ h1) Emb.same hap gz_X3_toldWrong qML_RX3_341 qIM_yX3_toldWrong qSE_yX3_toldWrong ⟨(Nat.le_of_ble_eq_true rfl), (Nat.le_of_ble_eq_true rfl)⟩ (q0 := 0) rfl (by decide) rfl rfl rfl rfl hl.1 rfl (Nat.le_of_ble_eq_true rfl) dX3_done_27 ⟨Nat.le_refl _, Nat.le_refl _⟩ (fun H locs hP => ?_)
        refine lv_iconst (v := (-1)) hx hb dX3_done_30 (by decide) ?_
        refine lv_icmp_eq (tgt := 41) hx hb dX3_done_31 (by decide) (fun c31 => ?_) (fun c31 => ?_)
        · have h := k_if c31 h
          refine lv_aload_n hx hb dX3_done_41 rfl (lv_at hl 1 rfl) ?_
          refine r_get C hP (ci := 3) rfl uin_X3 0 (by decide) 0 (by decide) rfl qFL_RX3_10 rfl rfl dX3_done_42 ?_
          refine lv_aload_n hx hb dX3_done_45 rfl (lv_at hl 1 rfl) ?_
          refine r_get C hP (ci := 3) rfl uin_X3 1 (by decide) 0 (by decide) rfl qFL_RX3_16 rfl rfl dX3_done_46 ?_
          obtain ⟨σ25, h1, h⟩ := k_ob h
          refine k_callVv C hP hap hAA (c_X0_become l ev (fun j => if j = 0 then ad 1 else ad 2) (x_now σ23) (x_thought σ23)   _ h1) (em_GG12) (apart_GG hap (by decide) (by decide) (by decide)) gz_X0_become qML_RX3_165 qIM_yX0_become qSE_yX0_become ⟨(Nat.le_of_ble_eq_true rfl), (Nat.le_of_ble_eq_true rfl)⟩ (q0 := 1) rfl (by decide) rfl rfl rfl rfl hl.1 rfl (Nat.le_of_ble_eq_true rfl) dX3_done_49 ⟨Nat.le_refl _, Nat.le_refl _⟩ (fun H locs hP => ?_)
          obtain ⟨σ26, eσ26, h⟩ := k_ltx h
          rw [← eσ26] at hP
          refine lv_aload_n hx hb dX3_done_52 rfl (lv_at hl 1 rfl) ?_
          refine r_get C hP (ci := 3) rfl uin_X3 0 (by decide) 0 (by decide) rfl qFL_RX3_10 rfl rfl dX3_done_53 ?_
          refine r_get C hP (ci := 0) rfl uin_X0 14 (by decide) 1 (by decide) rfl qFL_RX3_325 rfl rfl dX3_done_56 ?_
          exact e_iret C hend hP (k_some2 h).1 (congrArg (xw ev ad) (k_some2 h).2) dX3_done_59
        · have h := k_nf c31 h
          refine lv_aload_n hx hb dX3_done_34 rfl (lv_at hl 1 rfl) ?_
          refine lv_bipush (v := (-5)) hx hb dX3_done_35 (by decide) ?_
          obtain ⟨x28, σ27, h1, h⟩ := k_ob2 h
          refine k_callVi C hP hap hAA (c_X3_refuse l ev ad σ23 (-5)   _ _ h1) Emb.same hap gz_X3_refuse qML_RX3_60 qIM_yX3_refuse qSE_yX3_refuse ⟨(Nat.le_of_ble_eq_true rfl), (Nat.le_of_ble_eq_true rfl)⟩ (q0 := 0) rfl (by decide) rfl rfl rfl rfl hl.1 rfl (Nat.le_of_ble_eq_true rfl) dX3_done_37 ⟨Nat.le_refl _, Nat.le_refl _⟩ (fun H locs hP => ?_)
          exact e_iret C hend hP (k_some2 h).1 (congrArg (xw ev ad) (k_some2 h).2) dX3_done_40
      · obtain ⟨hg, h⟩ := k_gd (k_omS h)
        have hq22 : q22 < 8 := of_decide_eq_true hg
        refine lv_iload_n hx hb dX3_done_26 rfl (lv_at hl 3 rfl) ?_
        obtain ⟨x30, σ29, h1, h⟩ := k_ob2 h
        refine k_callVi C hP hap hAA (c_X3_toldWrong_s l ev ad σ q22 a2 hq22  _ _ h1) Emb.same hap gz_X3_toldWrong qML_RX3_341 qIM_yX3_toldWrong qSE_yX3_toldWrong ⟨(Nat.le_of_ble_eq_true rfl), (Nat.le_of_ble_eq_true rfl)⟩ (q0 := 0) rfl (by decide) rfl rfl rfl rfl hl.1 rfl (Nat.le_of_ble_eq_true rfl) dX3_done_27 ⟨Nat.le_refl _, Nat.le_refl _⟩ (fun H locs hP => ?_)
        refine lv_iconst (v := (-1)) hx hb dX3_done_30 (by decide) ?_
        refine lv_icmp_eq (tgt := 41) hx hb dX3_done_31 (by decide) (fun c31 => ?_) (fun c31 => ?_)
        · have h := k_if c31 h
          refine lv_aload_n hx hb dX3_done_41 rfl (lv_at hl 1 rfl) ?_
          refine r_get C hP (ci := 3) rfl uin_X3 0 (by decide) 0 (by decide) rfl qFL_RX3_10 rfl rfl dX3_done_42 ?_
          refine lv_aload_n hx hb dX3_done_45 rfl (lv_at hl 1 rfl) ?_
          refine r_get C hP (ci := 3) rfl uin_X3 1 (by decide) 0 (by decide) rfl qFL_RX3_16 rfl rfl dX3_done_46 ?_
          obtain ⟨σ31, h1, h⟩ := k_ob h
          refine k_callVv C hP hap hAA (c_X0_become l ev (fun j => if j = 0 then ad 1 else ad 2) (x_now σ29) (x_thought σ29)   _ h1) (em_GG12) (apart_GG hap (by decide) (by decide) (by decide)) gz_X0_become qML_RX3_165 qIM_yX0_become qSE_yX0_become ⟨(Nat.le_of_ble_eq_true rfl), (Nat.le_of_ble_eq_true rfl)⟩ (q0 := 1) rfl (by decide) rfl rfl rfl rfl hl.1 rfl (Nat.le_of_ble_eq_true rfl) dX3_done_49 ⟨Nat.le_refl _, Nat.le_refl _⟩ (fun H locs hP => ?_)
          obtain ⟨σ32, eσ32, h⟩ := k_ltx h
          rw [← eσ32] at hP
          refine lv_aload_n hx hb dX3_done_52 rfl (lv_at hl 1 rfl) ?_
          refine r_get C hP (ci := 3) rfl uin_X3 0 (by decide) 0 (by decide) rfl qFL_RX3_10 rfl rfl dX3_done_53 ?_
          refine r_get C hP (ci := 0) rfl uin_X0 14 (by decide) 1 (by decide) rfl qFL_RX3_325 rfl rfl dX3_done_56 ?_
          exact e_iret C hend hP (k_some2 h).1 (congrArg (xw ev ad) (k_some2 h).2) dX3_done_59
        · have h := k_nf c31 h
          refine lv_aload_n hx hb dX3_done_34 rfl (lv_at hl 1 rfl) ?_
          refine lv_bipush (v := (-5)) hx hb dX3_done_35 (by decide) ?_
          obtain ⟨x34, σ33, h1, h⟩ := k_ob2 h
          refine k_callVi C hP hap hAA (c_X3_refuse l ev ad σ29 (-5)   _ _ h1) Emb.same hap gz_X3_refuse qML_RX3_60 qIM_yX3_refuse qSE_yX3_refuse ⟨(Nat.le_of_ble_eq_true rfl), (Nat.le_of_ble_eq_true rfl)⟩ (q0 := 0) rfl (by decide) rfl rfl rfl rfl hl.1 rfl (Nat.le_of_ble_eq_true rfl) dX3_done_37 ⟨Nat.le_refl _, Nat.le_refl _⟩ (fun H locs hP => ?_)
          exact e_iret C hend hP (k_some2 h).1 (congrArg (xw ev ad) (k_some2 h).2) dX3_done_40
    · have h := k_nf c11 h
      refine lv_aload_n hx hb dX3_done_14 rfl (lv_at hl 1 rfl) ?_
      refine lv_iload_n hx hb dX3_done_15 rfl (lv_at hl 0 rfl) ?_
      obtain ⟨x36, σ35, h1, h⟩ := k_ob2 h
      refine k_callVi C hP hap hAA (c_X3_refuse l ev ad σ x20   _ _ h1) Emb.same hap gz_X3_refuse qML_RX3_60 qIM_yX3_refuse qSE_yX3_refuse ⟨(Nat.le_of_ble_eq_true rfl), (Nat.le_of_ble_eq_true rfl)⟩ (q0 := 0) rfl (by decide) rfl rfl rfl rfl hl.1 rfl (Nat.le_of_ble_eq_true rfl) dX3_done_16 ⟨Nat.le_refl _, Nat.le_refl _⟩ (fun H locs hP => ?_)
      exact e_iret C hend hP (k_some2 h).1 (congrArg (xw ev ad) (k_some2 h).2) dX3_done_19
def f_X3_move (σ : XX) (a1 : Int32) : Option (Int32 × XX) :=
  lt (f_X0_slotOf (x_now σ) a1) (fun x1 => if x1 = (-1) then ob2 (f_X3_refuse σ (-2)) (fun x8 σ7 => some (x8, σ7)) else if (f_X0_isOpen (x_now σ) x1) = true then lt (f_X0_shutFields (x_now σ)) (fun x2 => ob (f_X0_make (x_now σ) x1) (fun σ3 => lt (x_now' σ σ3) (fun σ4 => some ((f_J6_bitCount_0f7a4 ((f_X0_shutFields (x_now σ4)) &&& (x2 ^^^ (-1)))), σ4)))) else ob2 (f_X3_refuse σ (-5)) (fun x6 σ5 => some (x6, σ5)))
set_option maxHeartbeats 4000000 in
set_option maxRecDepth 100000 in
theorem c_X3_move (l : Launch) (ev : EV) (ad : Nat → Nat) (σ : XX) (a1 : Int32)   (r : Int32) (σ' : XX) (h : f_X3_move σ a1 = some (r, σ')) : Ct l yX3_move prog_1_method_53_code 4 (Option.some Jvm.ClassFile.FieldType.int) (rmk 4 81) ev 26 ad (xw ev ad σ) (xw ev ad σ') [.ref (ad 0), .int a1] (some (.int r)) := by
  refine Ct.of (by decide +kernel) (Nat.le_of_ble_eq_true rfl) ?_
  intro p e s m args below meth c Qc C hap hP hend ls hl
  have hAA : ∀ j, j < 26 → inA ad 26 (ad j) := fun j hj => ⟨j, hj, rfl⟩
  have hx := C.1
  have hb := C.2.1
  have hl : lv_has ls 4 [(0, .ref (ad 0)), (1, .int a1)] := hl
  have h := (f_X3_move.eq_1 _ _ ).symm.trans h
  refine lv_aload_n hx hb dX3_move_0 rfl (lv_at hl 0 rfl) ?_
  refine r_get C hP (ci := 3) rfl uin_X3 0 (by decide) 0 (by decide) rfl qFL_RX3_10 rfl rfl dX3_move_1 ?_
  refine lv_iload_n hx hb dX3_move_4 rfl (lv_at hl 1 rfl) ?_
  refine k_callVi C hP hap hAA (c_X0_slotOf l ev (fun j => ad (j + 1)) (x_now σ) a1   _ rfl) (em_G1r) (apart_1 _) gz_X0_slotOf qML_RX3_239 qIM_yX0_slotOf qSE_yX0_slotOf ⟨(Nat.le_of_ble_eq_true rfl), (Nat.le_of_ble_eq_true rfl)⟩ (q0 := 1) rfl (by decide) rfl rfl rfl rfl hl.1 rfl (Nat.le_of_ble_eq_true rfl) dX3_move_5 ⟨Nat.le_refl _, Nat.le_refl _⟩ (fun H locs hP => ?_)
  refine lv_topi (fun x1 ex1 => ?_)
  have h := k_lt ex1 h
  refine lv_istore_n (lv' := [(2, .int x1), (0, .ref (ad 0)), (1, .int a1)]) hx hb dX3_move_8 rfl hl (by decide) rfl (fun ls hl => ?_)
  refine lv_iload_n hx hb dX3_move_9 rfl (lv_at hl 0 rfl) ?_
  refine lv_iconst (v := (-1)) hx hb dX3_move_10 (by decide) ?_
  refine lv_icmp_ne (tgt := 21) hx hb dX3_move_11 (by decide) (fun c11 => ?_) (fun c11 => ?_)
  · have h := k_nf c11 h
    refine lv_aload_n hx hb dX3_move_21 rfl (lv_at hl 1 rfl) ?_
    refine r_get C hP (ci := 3) rfl uin_X3 0 (by decide) 0 (by decide) rfl qFL_RX3_10 rfl rfl dX3_move_22 ?_
    refine lv_iload_n hx hb dX3_move_25 rfl (lv_at hl 0 rfl) ?_
    refine k_callVi C hP hap hAA (c_X0_isOpen l ev (fun j => ad (j + 1)) (x_now σ) x1   _ rfl) (em_G1r) (apart_1 _) gz_X0_isOpen qML_RX3_242 qIM_yX0_isOpen qSE_yX0_isOpen ⟨(Nat.le_of_ble_eq_true rfl), (Nat.le_of_ble_eq_true rfl)⟩ (q0 := 1) rfl (by decide) rfl rfl rfl rfl hl.1 rfl (Nat.le_of_ble_eq_true rfl) dX3_move_26 ⟨Nat.le_refl _, Nat.le_refl _⟩ (fun H locs hP => ?_)
    refine r_ifz_ne (tgt := 39) hx hb dX3_move_29 (by decide) (fun c29 => ?_) (fun c29 => ?_)
    · have h := k_if c29 h
      refine lv_aload_n hx hb dX3_move_39 rfl (lv_at hl 1 rfl) ?_
      refine r_get C hP (ci := 3) rfl uin_X3 0 (by decide) 0 (by decide) rfl qFL_RX3_10 rfl rfl dX3_move_40 ?_
      refine k_callVi C hP hap hAA (c_X0_shutFields l ev (fun j => ad (j + 1)) (x_now σ)   _ rfl) (em_G1r) (apart_1 _) gz_X0_shutFields qML_RX3_283 qIM_yX0_shutFields qSE_yX0_shutFields ⟨(Nat.le_of_ble_eq_true rfl), (Nat.le_of_ble_eq_true rfl)⟩ (q0 := 1) rfl (by decide) rfl rfl rfl rfl hl.1 rfl (Nat.le_of_ble_eq_true rfl) dX3_move_43 ⟨Nat.le_refl _, Nat.le_refl _⟩ (fun H locs hP => ?_)
      refine lv_topi (fun x2 ex2 => ?_)
      have h := k_lt ex2 h
      refine lv_istore_n (lv' := [(3, .int x2), (2, .int x1), (0, .ref (ad 0)), (1, .int a1)]) hx hb dX3_move_46 rfl hl (by decide) rfl (fun ls hl => ?_)
      refine lv_aload_n hx hb dX3_move_47 rfl (lv_at hl 2 rfl) ?_
      refine r_get C hP (ci := 3) rfl uin_X3 0 (by decide) 0 (by decide) rfl qFL_RX3_10 rfl rfl dX3_move_48 ?_
      refine lv_iload_n hx hb dX3_move_51 rfl (lv_at hl 1 rfl) ?_
      obtain ⟨σ3, h1, h⟩ := k_ob h
      refine k_callVv C hP hap hAA (c_X0_make l ev (fun j => ad (j + 1)) (x_now σ) x1   _ h1) (em_G1) (apart_1 _) gz_X0_make qML_RX3_311 qIM_yX0_make qSE_yX0_make ⟨(Nat.le_of_ble_eq_true rfl), (Nat.le_of_ble_eq_true rfl)⟩ (q0 := 1) rfl (by decide) rfl rfl rfl rfl hl.1 rfl (Nat.le_of_ble_eq_true rfl) dX3_move_52 ⟨Nat.le_refl _, Nat.le_refl _⟩ (fun H locs hP => ?_)
      obtain ⟨σ4, eσ4, h⟩ := k_ltx h
      rw [← eσ4] at hP
      refine lv_aload_n hx hb dX3_move_55 rfl (lv_at hl 2 rfl) ?_
      refine r_get C hP (ci := 3) rfl uin_X3 0 (by decide) 0 (by decide) rfl qFL_RX3_10 rfl rfl dX3_move_56 ?_
      refine k_callVi C hP hap hAA (c_X0_shutFields l ev (fun j => ad (j + 1)) (x_now σ4)   _ rfl) (em_G1r) (apart_1 _) gz_X0_shutFields qML_RX3_283 qIM_yX0_shutFields qSE_yX0_shutFields ⟨(Nat.le_of_ble_eq_true rfl), (Nat.le_of_ble_eq_true rfl)⟩ (q0 := 1) rfl (by decide) rfl rfl rfl rfl hl.1 rfl (Nat.le_of_ble_eq_true rfl) dX3_move_59 ⟨Nat.le_refl _, Nat.le_refl _⟩ (fun H locs hP => ?_)
      refine lv_iload_n hx hb dX3_move_62 rfl (lv_at hl 0 rfl) ?_
      refine lv_iconst (v := (-1)) hx hb dX3_move_63 (by decide) ?_
      refine lv_ixor hx hb dX3_move_64 ?_
      refine lv_iand hx hb dX3_move_65 ?_
      refine k_callSi C hP hap hAA (c_J6_bitCount_0f7a4 l ev ad ((f_X0_shutFields (x_now σ4)) &&& (x2 ^^^ (-1)))   _ rfl) Emb.none (apart_0 _) gz_J6_bitCount_0f7a4 qML_RX3_286 qSM_yJ6_bitCount_0f7a4 ⟨(Nat.le_of_ble_eq_true rfl), (Nat.le_of_ble_eq_true rfl)⟩ rfl hl.1 rfl (Nat.le_of_ble_eq_true rfl) dX3_move_66 ⟨Nat.le_refl _, Nat.le_refl _⟩ (fun H locs hP => ?_)
      exact e_iret C hend hP (k_some2 h).1 (congrArg (xw ev ad) (k_some2 h).2) dX3_move_69
    · have h := k_nf c29 h
      refine lv_aload_n hx hb dX3_move_32 rfl (lv_at hl 1 rfl) ?_
      refine lv_bipush (v := (-5)) hx hb dX3_move_33 (by decide) ?_
      obtain ⟨x6, σ5, h1, h⟩ := k_ob2 h
      refine k_callVi C hP hap hAA (c_X3_refuse l ev ad σ (-5)   _ _ h1) Emb.same hap gz_X3_refuse qML_RX3_60 qIM_yX3_refuse qSE_yX3_refuse ⟨(Nat.le_of_ble_eq_true rfl), (Nat.le_of_ble_eq_true rfl)⟩ (q0 := 0) rfl (by decide) rfl rfl rfl rfl hl.1 rfl (Nat.le_of_ble_eq_true rfl) dX3_move_35 ⟨Nat.le_refl _, Nat.le_refl _⟩ (fun H locs hP => ?_)
      exact e_iret C hend hP (k_some2 h).1 (congrArg (xw ev ad) (k_some2 h).2) dX3_move_38
  · have h := k_if c11 h
    refine lv_aload_n hx hb dX3_move_14 rfl (lv_at hl 1 rfl) ?_
    refine lv_bipush (v := (-2)) hx hb dX3_move_15 (by decide) ?_
    obtain ⟨x8, σ7, h1, h⟩ := k_ob2 h
    refine k_callVi C hP hap hAA (c_X3_refuse l ev ad σ (-2)   _ _ h1) Emb.same hap gz_X3_refuse qML_RX3_60 qIM_yX3_refuse qSE_yX3_refuse ⟨(Nat.le_of_ble_eq_true rfl), (Nat.le_of_ble_eq_true rfl)⟩ (q0 := 0) rfl (by decide) rfl rfl rfl rfl hl.1 rfl (Nat.le_of_ble_eq_true rfl) dX3_move_17 ⟨Nat.le_refl _, Nat.le_refl _⟩ (fun H locs hP => ?_)
    exact e_iret C hend hP (k_some2 h).1 (congrArg (xw ev ad) (k_some2 h).2) dX3_move_20
def f_X3_chosenSlot_now_b125  (y4 : Int64) (y5 : Int64) (σ6 : XX) : Option (Int32 × XX) :=
  if (lg_cmp y5 0) = 0 then some ((f_X3_firstSlot y4), σ6) else some ((f_X3_firstSlot y5), σ6)
def f_X3_chosenSlot_now (σ : XX) (a2 : Int32) : Option (Int32 × XX) :=
  lt (f_X0_openSlots (x_now σ)) (fun y1 => ob (f_X3_kindOf σ a2) (fun x2 => if x2 = 1 then ob (f_X0_shuttingEdges (x_now σ)) (fun y3 => f_X3_chosenSlot_now_b125 y1 y3 σ) else if x2 = 2 then ob (f_X3_amountOf σ a2) (fun x7 => lt (f_X0_digsBelow (x_now σ) x7 (g_all (x_now σ))) (fun y8 => f_X3_chosenSlot_now_b125 y1 y8 σ)) else if x2 = 3 then ob (f_X0_shuttingEdges (x_now σ)) (fun y9 => if (lg_cmp y9 0) = 0 then ob (f_X0_calmEdges (x_now σ)) (fun y10 => f_X3_chosenSlot_now_b125 y1 y10 σ) else f_X3_chosenSlot_now_b125 y1 y9 σ) else if x2 = 4 then ob (f_X3_amountOf σ a2) (fun x11 => ob (f_X0_touched (x_now σ) (g_rimEdges (x_now σ))) (fun x12 => lt (f_X0_digsBelow (x_now σ) x11 x12) (fun y13 => f_X3_chosenSlot_now_b125 y1 y13 σ))) else if x2 = 5 then ob2 (f_X0_drawnSlot (x_now σ) y1) (fun x15 σ14 => lt (x_now' σ σ14) (fun σ16 => some (x15, σ16))) else f_X3_chosenSlot_now_b125 y1 0 σ))
set_option maxHeartbeats 4000000 in
set_option maxRecDepth 100000 in
theorem c_X3_chosenSlot_now (l : Launch) (ev : EV) (ad : Nat → Nat) (σ : XX) (a2 : Int32)   (r : Int32) (σ' : XX) (h : f_X3_chosenSlot_now σ a2 = some (r, σ')) : Ct l yX3_chosenSlot prog_1_method_81_code 7 (Option.some Jvm.ClassFile.FieldType.int) (rmk 4 89) ev 26 ad (xw ev ad σ) (xw ev ad σ') [.ref (ad 0), .ref (ad 1), .int a2] (some (.int r)) := by
  refine Ct.of (by decide +kernel) (Nat.le_of_ble_eq_true rfl) ?_
  intro p e s m args below meth c Qc C hap hP hend ls hl
  have hAA : ∀ j, j < 26 → inA ad 26 (ad j) := fun j hj => ⟨j, hj, rfl⟩
  have hx := C.1
  have hb := C.2.1
  have hl : lv_has ls 7 [(0, .ref (ad 0)), (1, .ref (ad 1)), (2, .int a2)] := hl
  have h := (f_X3_chosenSlot_now.eq_1 _ _ ).symm.trans h
  have hB125 : ∀ (y4 : Int64) (y5 : Int64) (σ6 : XX) (H : Heap) (locs : List Loc) (ls : Array Slot), f_X3_chosenSlot_now_b125  y4 y5 σ6 = some (r, σ') → PS ev 26 ad (xw ev ad σ6) (inA ad 26) s H locs → lv_has ls 7 [(3, .long y4), (5, .long y5)] → WW ev p l e (rmk 4 89) s m args below meth c Qc ad 26 H locs 125 ls [] := by
    intro y4 y5 σ6 H locs ls h hP hl
    have h := (f_X3_chosenSlot_now_b125.eq_1 _ _ _ ).symm.trans h
    refine lv_lload hx hb dX3_chosenSlot_125 (lv_at hl 1 rfl) ?_
    refine lv_lconst (v := 0) hx hb dX3_chosenSlot_127 (by decide) ?_
    refine W.lcmp hx hb dX3_chosenSlot_128 ?_
    refine lv_if_ne (tgt := 136) hx hb dX3_chosenSlot_129 (by decide) (fun c129 => ?_) (fun c129 => ?_)
    · have h := k_nf c129 h
      refine lv_lload hx hb dX3_chosenSlot_136 (lv_at hl 1 rfl) ?_
      refine k_callSi C hP hap hAA (c_X3_firstSlot l ev ad y5   _ rfl) Emb.none (apart_0 _) gz_X3_firstSlot qML_RX3_318 qSM_yX3_firstSlot ⟨(Nat.le_of_ble_eq_true rfl), (Nat.le_of_ble_eq_true rfl)⟩ rfl hl.1 rfl (Nat.le_of_ble_eq_true rfl) dX3_chosenSlot_138 ⟨Nat.le_refl _, Nat.le_refl _⟩ (fun H locs hP => ?_)
      exact e_iret C hend hP (k_some2 h).1 (congrArg (xw ev ad) (k_some2 h).2) dX3_chosenSlot_141
    · have h := k_if c129 h
      refine lv_lload_n hx hb dX3_chosenSlot_132 rfl (lv_at hl 0 rfl) ?_
      refine lv_goto (tgt := 138) hx hb dX3_chosenSlot_133 (by decide) ?_
      refine k_callSi C hP hap hAA (c_X3_firstSlot l ev ad y4   _ rfl) Emb.none (apart_0 _) gz_X3_firstSlot qML_RX3_318 qSM_yX3_firstSlot ⟨(Nat.le_of_ble_eq_true rfl), (Nat.le_of_ble_eq_true rfl)⟩ rfl hl.1 rfl (Nat.le_of_ble_eq_true rfl) dX3_chosenSlot_138 ⟨Nat.le_refl _, Nat.le_refl _⟩ (fun H locs hP => ?_)
      exact e_iret C hend hP (k_some2 h).1 (congrArg (xw ev ad) (k_some2 h).2) dX3_chosenSlot_141
  refine lv_aload_n hx hb dX3_chosenSlot_0 rfl (lv_at hl 1 rfl) ?_
  refine k_callVl C hP hap hAA (c_X0_openSlots l ev (fun j => ad (j + 1)) (x_now σ)   _ rfl) (em_G1r) (apart_1 _) gz_X0_openSlots qML_RX3_127 qIM_yX0_openSlots qSE_yX0_openSlots ⟨(Nat.le_of_ble_eq_true rfl), (Nat.le_of_ble_eq_true rfl)⟩ (q0 := 1) rfl (by decide) rfl rfl rfl rfl hl.1 rfl (Nat.le_of_ble_eq_true rfl) dX3_chosenSlot_1 ⟨Nat.le_refl _, Nat.le_refl _⟩ (fun H locs hP => ?_)
  refine lv_topl (fun y1 ey1 => ?_)
  have h := k_lt ey1 h
  refine lv_lstore_n (lv' := [(3, .long y1), (0, .ref (ad 0)), (1, .ref (ad 1)), (2, .int a2)]) hx hb dX3_chosenSlot_4 rfl hl (by decide) rfl (fun ls hl => ?_)
  refine lv_lconst (v := 0) hx hb dX3_chosenSlot_5 (by decide) ?_
  refine lv_lstore (lv' := [(5, .long 0), (3, .long y1), (0, .ref (ad 0)), (1, .ref (ad 1)), (2, .int a2)]) hx hb dX3_chosenSlot_6 hl (by decide) rfl (fun ls hl => ?_)
  refine lv_aload_n hx hb dX3_chosenSlot_8 rfl (lv_at hl 2 rfl) ?_
  refine lv_iload_n hx hb dX3_chosenSlot_9 rfl (lv_at hl 4 rfl) ?_
  obtain ⟨x2, h1, h⟩ := k_ob h
  refine k_callVi C hP hap hAA (c_X3_kindOf l ev ad σ a2   _ h1) Emb.same hap gz_X3_kindOf qML_RX3_118 qIM_yX3_kindOf qSE_yX3_kindOf ⟨(Nat.le_of_ble_eq_true rfl), (Nat.le_of_ble_eq_true rfl)⟩ (q0 := 0) rfl (by decide) rfl rfl rfl rfl hl.1 rfl (Nat.le_of_ble_eq_true rfl) dX3_chosenSlot_10 ⟨Nat.le_refl _, Nat.le_refl _⟩ (fun H locs hP => ?_)
  by_cases cs1 : x2 = 1
  · have h := k_if cs1 h
    refine r_tabIn (tgt := 48) (off := 35) (i := 1) hx hb dX3_chosenSlot_13 cs1 (by decide) (by decide) (by decide) (by decide) ?_
    refine lv_aload_n hx hb dX3_chosenSlot_48 rfl (lv_at hl 3 rfl) ?_
    obtain ⟨y3, h1, h⟩ := k_ob h
    refine k_callVl C hP hap hAA (c_X0_shuttingEdges l ev (fun j => ad (j + 1)) (x_now σ)   _ h1) (em_G1r) (apart_1 _) gz_X0_shuttingEdges qML_RX3_380 qIM_yX0_shuttingEdges qSE_yX0_shuttingEdges ⟨(Nat.le_of_ble_eq_true rfl), (Nat.le_of_ble_eq_true rfl)⟩ (q0 := 1) rfl (by decide) rfl rfl rfl rfl hl.1 rfl (Nat.le_of_ble_eq_true rfl) dX3_chosenSlot_49 ⟨Nat.le_refl _, Nat.le_refl _⟩ (fun H locs hP => ?_)
    refine lv_lstore (lv' := [(5, .long y3), (3, .long y1), (0, .ref (ad 0)), (1, .ref (ad 1)), (2, .int a2)]) hx hb dX3_chosenSlot_52 hl (by decide) rfl (fun ls hl => ?_)
    refine lv_goto (tgt := 125) hx hb dX3_chosenSlot_54 (by decide) ?_
    exact hB125 _ _ _ _ _ _ h hP (lv_sub hl [1, 0] rfl)
  · have h := k_nf cs1 h
    by_cases cs2 : x2 = 2
    · have h := k_if cs2 h
      refine r_tabIn (tgt := 79) (off := 66) (i := 2) hx hb dX3_chosenSlot_13 cs2 (by decide) (by decide) (by decide) (by decide) ?_
      refine lv_aload_n hx hb dX3_chosenSlot_79 rfl (lv_at hl 3 rfl) ?_
      refine lv_aload_n hx hb dX3_chosenSlot_80 rfl (lv_at hl 2 rfl) ?_
      refine lv_iload_n hx hb dX3_chosenSlot_81 rfl (lv_at hl 4 rfl) ?_
      obtain ⟨x7, h1, h⟩ := k_ob h
      refine k_callVi C hP hap hAA (c_X3_amountOf l ev ad σ a2   _ h1) Emb.same hap gz_X3_amountOf qML_RX3_124 qIM_yX3_amountOf qSE_yX3_amountOf ⟨(Nat.le_of_ble_eq_true rfl), (Nat.le_of_ble_eq_true rfl)⟩ (q0 := 0) rfl (by decide) rfl rfl rfl rfl hl.1 rfl (Nat.le_of_ble_eq_true rfl) dX3_chosenSlot_82 ⟨Nat.le_refl _, Nat.le_refl _⟩ (fun H locs hP => ?_)
      refine lv_aload_n hx hb dX3_chosenSlot_85 rfl (lv_at hl 3 rfl) ?_
      refine r_get C hP (ci := 0) rfl uin_X0 5 (by decide) 1 (by decide) rfl qFL_RX3_293 rfl rfl dX3_chosenSlot_86 ?_
      refine k_callVl C hP hap hAA (c_X0_digsBelow l ev (fun j => ad (j + 1)) (x_now σ) x7 (g_all (x_now σ))   _ rfl) (em_G1r) (apart_1 _) gz_X0_digsBelow qML_RX3_383 qIM_yX0_digsBelow qSE_yX0_digsBelow ⟨(Nat.le_of_ble_eq_true rfl), (Nat.le_of_ble_eq_true rfl)⟩ (q0 := 1) rfl (by decide) rfl rfl rfl rfl hl.1 rfl (Nat.le_of_ble_eq_true rfl) dX3_chosenSlot_89 ⟨Nat.le_refl _, Nat.le_refl _⟩ (fun H locs hP => ?_)
      refine lv_topl (fun y8 ey8 => ?_)
      have h := k_lt ey8 h
      refine lv_lstore (lv' := [(5, .long y8), (3, .long y1), (0, .ref (ad 0)), (1, .ref (ad 1)), (2, .int a2)]) hx hb dX3_chosenSlot_92 hl (by decide) rfl (fun ls hl => ?_)
      refine lv_goto (tgt := 125) hx hb dX3_chosenSlot_94 (by decide) ?_
      exact hB125 _ _ _ _ _ _ h hP (lv_sub hl [1, 0] rfl)
    · have h := k_nf cs2 h
      by_cases cs3 : x2 = 3
      · have h := k_if cs3 h
        refine r_tabIn (tgt := 57) (off := 44) (i := 3) hx hb dX3_chosenSlot_13 cs3 (by decide) (by decide) (by decide) (by decide) ?_
        refine lv_aload_n hx hb dX3_chosenSlot_57 rfl (lv_at hl 3 rfl) ?_
        obtain ⟨y9, h1, h⟩ := k_ob h
        refine k_callVl C hP hap hAA (c_X0_shuttingEdges l ev (fun j => ad (j + 1)) (x_now σ)   _ h1) (em_G1r) (apart_1 _) gz_X0_shuttingEdges qML_RX3_380 qIM_yX0_shuttingEdges qSE_yX0_shuttingEdges ⟨(Nat.le_of_ble_eq_true rfl), (Nat.le_of_ble_eq_true rfl)⟩ (q0 := 1) rfl (by decide) rfl rfl rfl rfl hl.1 rfl (Nat.le_of_ble_eq_true rfl) dX3_chosenSlot_58 ⟨Nat.le_refl _, Nat.le_refl _⟩ (fun H locs hP => ?_)
        refine lv_lstore (lv' := [(5, .long y9), (3, .long y1), (0, .ref (ad 0)), (1, .ref (ad 1)), (2, .int a2)]) hx hb dX3_chosenSlot_61 hl (by decide) rfl (fun ls hl => ?_)
        refine lv_lload hx hb dX3_chosenSlot_63 (lv_at hl 0 rfl) ?_
        refine lv_lconst (v := 0) hx hb dX3_chosenSlot_65 (by decide) ?_
        refine W.lcmp hx hb dX3_chosenSlot_66 ?_
        refine lv_if_ne (tgt := 125) hx hb dX3_chosenSlot_67 (by decide) (fun c67 => ?_) (fun c67 => ?_)
        · have h := k_nf c67 h
          exact hB125 _ _ _ _ _ _ h hP (lv_sub hl [1, 0] rfl)
        · have h := k_if c67 h
          refine lv_aload_n hx hb dX3_chosenSlot_70 rfl (lv_at hl 3 rfl) ?_
          obtain ⟨y10, h1, h⟩ := k_ob h
          refine k_callVl C hP hap hAA (c_X0_calmEdges l ev (fun j => ad (j + 1)) (x_now σ)   _ h1) (em_G1r) (apart_1 _) gz_X0_calmEdges qML_RX3_290 qIM_yX0_calmEdges qSE_yX0_calmEdges ⟨(Nat.le_of_ble_eq_true rfl), (Nat.le_of_ble_eq_true rfl)⟩ (q0 := 1) rfl (by decide) rfl rfl rfl rfl hl.1 rfl (Nat.le_of_ble_eq_true rfl) dX3_chosenSlot_71 ⟨Nat.le_refl _, Nat.le_refl _⟩ (fun H locs hP => ?_)
          refine lv_lstore (lv' := [(5, .long y10), (3, .long y1), (0, .ref (ad 0)), (1, .ref (ad 1)), (2, .int a2)]) hx hb dX3_chosenSlot_74 hl (by decide) rfl (fun ls hl => ?_)
          refine lv_goto (tgt := 125) hx hb dX3_chosenSlot_76 (by decide) ?_
          exact hB125 _ _ _ _ _ _ h hP (lv_sub hl [1, 0] rfl)
      · have h := k_nf cs3 h
        by_cases cs4 : x2 = 4
        · have h := k_if cs4 h
          refine r_tabIn (tgt := 97) (off := 84) (i := 4) hx hb dX3_chosenSlot_13 cs4 (by decide) (by decide) (by decide) (by decide) ?_
          refine lv_aload_n hx hb dX3_chosenSlot_97 rfl (lv_at hl 3 rfl) ?_
          refine lv_aload_n hx hb dX3_chosenSlot_98 rfl (lv_at hl 2 rfl) ?_
          refine lv_iload_n hx hb dX3_chosenSlot_99 rfl (lv_at hl 4 rfl) ?_
          obtain ⟨x11, h1, h⟩ := k_ob h
          refine k_callVi C hP hap hAA (c_X3_amountOf l ev ad σ a2   _ h1) Emb.same hap gz_X3_amountOf qML_RX3_124 qIM_yX3_amountOf qSE_yX3_amountOf ⟨(Nat.le_of_ble_eq_true rfl), (Nat.le_of_ble_eq_true rfl)⟩ (q0 := 0) rfl (by decide) rfl rfl rfl rfl hl.1 rfl (Nat.le_of_ble_eq_true rfl) dX3_chosenSlot_100 ⟨Nat.le_refl _, Nat.le_refl _⟩ (fun H locs hP => ?_)
          refine lv_aload_n hx hb dX3_chosenSlot_103 rfl (lv_at hl 3 rfl) ?_
          refine lv_aload_n hx hb dX3_chosenSlot_104 rfl (lv_at hl 3 rfl) ?_
          refine r_get C hP (ci := 0) rfl uin_X0 8 (by decide) 1 (by decide) rfl qFL_RX3_221 rfl rfl dX3_chosenSlot_105 ?_
          obtain ⟨x12, h1, h⟩ := k_ob h
          refine k_callVi C hP hap hAA (c_X0_touched l ev (fun j => ad (j + 1)) (x_now σ) (g_rimEdges (x_now σ))   _ h1) (em_G1r) (apart_1 _) gz_X0_touched qML_RX3_224 qIM_yX0_touched qSE_yX0_touched ⟨(Nat.le_of_ble_eq_true rfl), (Nat.le_of_ble_eq_true rfl)⟩ (q0 := 1) rfl (by decide) rfl rfl rfl rfl hl.1 rfl (Nat.le_of_ble_eq_true rfl) dX3_chosenSlot_108 ⟨Nat.le_refl _, Nat.le_refl _⟩ (fun H locs hP => ?_)
          refine k_callVl C hP hap hAA (c_X0_digsBelow l ev (fun j => ad (j + 1)) (x_now σ) x11 x12   _ rfl) (em_G1r) (apart_1 _) gz_X0_digsBelow qML_RX3_383 qIM_yX0_digsBelow qSE_yX0_digsBelow ⟨(Nat.le_of_ble_eq_true rfl), (Nat.le_of_ble_eq_true rfl)⟩ (q0 := 1) rfl (by decide) rfl rfl rfl rfl hl.1 rfl (Nat.le_of_ble_eq_true rfl) dX3_chosenSlot_111 ⟨Nat.le_refl _, Nat.le_refl _⟩ (fun H locs hP => ?_)
          refine lv_topl (fun y13 ey13 => ?_)
          have h := k_lt ey13 h
          refine lv_lstore (lv' := [(5, .long y13), (3, .long y1), (0, .ref (ad 0)), (1, .ref (ad 1)), (2, .int a2)]) hx hb dX3_chosenSlot_114 hl (by decide) rfl (fun ls hl => ?_)
          refine lv_goto (tgt := 125) hx hb dX3_chosenSlot_116 (by decide) ?_
          exact hB125 _ _ _ _ _ _ h hP (lv_sub hl [1, 0] rfl)
        · have h := k_nf cs4 h
          by_cases cs5 : x2 = 5
          · have h := k_if cs5 h
            refine r_tabIn (tgt := 119) (off := 106) (i := 5) hx hb dX3_chosenSlot_13 cs5 (by decide) (by decide) (by decide) (by decide) ?_
            refine lv_aload_n hx hb dX3_chosenSlot_119 rfl (lv_at hl 3 rfl) ?_
            refine lv_lload_n hx hb dX3_chosenSlot_120 rfl (lv_at hl 1 rfl) ?_
            obtain ⟨x15, σ14, h1, h⟩ := k_ob2 h
            refine k_callVi C hP hap hAA (c_X0_drawnSlot l ev (fun j => ad (j + 1)) (x_now σ) y1   _ _ h1) (em_G1) (apart_1 _) gz_X0_drawnSlot qML_RX3_387 qIM_yX0_drawnSlot qSE_yX0_drawnSlot ⟨(Nat.le_of_ble_eq_true rfl), (Nat.le_of_ble_eq_true rfl)⟩ (q0 := 1) rfl (by decide) rfl rfl rfl rfl hl.1 rfl (Nat.le_of_ble_eq_true rfl) dX3_chosenSlot_121 ⟨Nat.le_refl _, Nat.le_refl _⟩ (fun H locs hP => ?_)
            obtain ⟨σ16, eσ16, h⟩ := k_ltx h
            rw [← eσ16] at hP
            exact e_iret C hend hP (k_some2 h).1 (congrArg (xw ev ad) (k_some2 h).2) dX3_chosenSlot_124
          · have h := k_nf cs5 h
            refine r_tabOut (tgt := 125) hx hb dX3_chosenSlot_13 (fun i h1 h2 => by
              have h3 : i = 1 ∨ i = 2 ∨ i = 3 ∨ i = 4 ∨ i = 5 := by omega
              rcases h3 with rfl | rfl | rfl | rfl | rfl
              · exact cs1
              · exact cs2
              · exact cs3
              · exact cs4
              · exact cs5
              ) (by decide) ?_
            exact hB125 _ _ _ _ _ _ h hP (lv_sub hl [1, 0] rfl)
