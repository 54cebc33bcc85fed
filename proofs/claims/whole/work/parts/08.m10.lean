/-! functions read off, and their contracts: by program (wip/whole/gen2.py) -/
def f_X3_image (σ : XX) : Option (Int32 × XX) :=
  ob (f_X0_become (x_kept σ) (x_now σ)) (fun σ1 => lt (x_kept' σ σ1) (fun σ2 => lt (x_keptCrew' σ2 (x_crew σ2)) (fun σ3 => some (1, σ3))))
set_option maxHeartbeats 4000000 in
set_option maxRecDepth 100000 in
theorem c_X3_image (l : Launch) (ev : EV) (ad : Nat → Nat) (σ : XX)   (r : Int32) (σ' : XX) (h : f_X3_image σ = some (r, σ')) : Ct l yX3_image prog_1_method_57_code 1 (Option.some Jvm.ClassFile.FieldType.int) (rmk 1 21) ev 26 ad (xw ev ad σ) (xw ev ad σ') [.ref (ad 0)] (some (.int r)) := by
  refine Ct.of (by decide +kernel) (Nat.le_of_ble_eq_true rfl) ?_
  intro p e s m args below meth c Qc C hap hP hend ls hl
  have hAA : ∀ j, j < 26 → inA ad 26 (ad j) := fun j hj => ⟨j, hj, rfl⟩
  have hx := C.1
  have hb := C.2.1
  have hl : lv_has ls 1 [(0, .ref (ad 0))] := hl
  have h := (f_X3_image.eq_1 _ ).symm.trans h
  refine lv_aload_n hx hb dX3_image_0 rfl (lv_at hl 0 rfl) ?_
  refine r_get C hP (ci := 3) rfl uin_X3 2 (by decide) 0 (by decide) rfl qFL_RX3_19 rfl rfl dX3_image_1 ?_
  refine lv_aload_n hx hb dX3_image_4 rfl (lv_at hl 0 rfl) ?_
  refine r_get C hP (ci := 3) rfl uin_X3 0 (by decide) 0 (by decide) rfl qFL_RX3_10 rfl rfl dX3_image_5 ?_
  obtain ⟨σ1, h1, h⟩ := k_ob h
  refine k_callVv C hP hap hAA (c_X0_become l ev (fun j => if j = 0 then ad 3 else ad 1) (x_kept σ) (x_now σ)   _ h1) (em_GG31) (apart_GG hap (by decide) (by decide) (by decide)) gz_X0_become qML_RX3_165 qIM_yX0_become qSE_yX0_become ⟨(Nat.le_of_ble_eq_true rfl), (Nat.le_of_ble_eq_true rfl)⟩ (q0 := 3) rfl (by decide) rfl rfl rfl rfl hl.1 rfl (Nat.le_of_ble_eq_true rfl) dX3_image_8 ⟨Nat.le_refl _, Nat.le_refl _⟩ (fun H locs hP => ?_)
  obtain ⟨σ2, eσ2, h⟩ := k_ltx h
  rw [← eσ2] at hP
  refine lv_aload_n hx hb dX3_image_11 rfl (lv_at hl 0 rfl) ?_
  refine lv_aload_n hx hb dX3_image_12 rfl (lv_at hl 0 rfl) ?_
  refine r_get C hP (ci := 3) rfl uin_X3 6 (by decide) 0 (by decide) rfl qFL_RX3_33 rfl rfl dX3_image_13 ?_
  obtain ⟨σ3, eσ3, h⟩ := k_ltx h
  refine pt_X_X3_keptCrew C hP hap hAA eσ3 qFL_RX3_22 dX3_image_16 (fun H locs hP => ?_)
  refine lv_iconst (v := 1) hx hb dX3_image_19 (by decide) ?_
  exact e_iret C hend hP (k_some2 h).1 (congrArg (xw ev ad) (k_some2 h).2) dX3_image_20
def f_X3_dropLostPlayer_n (σ : XX) : Option XX :=
  some σ
set_option maxHeartbeats 4000000 in
set_option maxRecDepth 100000 in
theorem c_X3_dropLostPlayer_n (l : Launch) (ev : EV) (ad : Nat → Nat) (σ : XX)    (σ' : XX) (h : f_X3_dropLostPlayer_n σ = some σ') : Ct l yX3_dropLostPlayer prog_1_method_74_code 2 (Option.none : Option Jvm.ClassFile.FieldType) (rmk 0 0) ev 26 ad (xw ev ad σ) (xw ev ad σ') [.ref (ad 0), .null] none := by
  refine Ct.of (by decide +kernel) (Nat.le_of_ble_eq_true rfl) ?_
  intro p e s m args below meth c Qc C hap hP hend ls hl
  have hAA : ∀ j, j < 26 → inA ad 26 (ad j) := fun j hj => ⟨j, hj, rfl⟩
  have hx := C.1
  have hb := C.2.1
  have hl : lv_has ls 2 [(0, .ref (ad 0)), (1, .null)] := hl
  have h := (f_X3_dropLostPlayer_n.eq_1 _ ).symm.trans h
  refine lv_aload_nN hx hb dX3_dropLostPlayer_0 rfl (lv_at hl 1 rfl) ?_
  refine lv_ifnullN (tgt := 29) hx hb dX3_dropLostPlayer_1 (by decide) ?_
  exact e_vret C hend hP (congrArg (xw ev ad) (k_some h)) dX3_dropLostPlayer_29
def f_X3_dropLostPlayer_s (σ : XX) (q : Nat) : Option XX :=
  if (f_X1_bearsPlayer (x_shelf σ q)) = true then if (f_X3_isPlayer σ ((s_content (x_shelf σ q)) - 10)) = true then some σ else ob (f_X1_empty (x_shelf σ q)) (fun σ1 => lt (x_shelf' σ q σ1) (fun σ2 => some σ2)) else some σ
set_option maxHeartbeats 4000000 in
set_option maxRecDepth 100000 in
theorem c_X3_dropLostPlayer_s (l : Launch) (ev : EV) (ad : Nat → Nat) (σ : XX) (q : Nat) (hq : q < 8)   (σ' : XX) (h : f_X3_dropLostPlayer_s σ q = some σ') : Ct l yX3_dropLostPlayer prog_1_method_74_code 2 (Option.none : Option Jvm.ClassFile.FieldType) (rmk 1 21) ev 26 ad (xw ev ad σ) (xw ev ad σ') [.ref (ad 0), .ref (ad (q + 10))] none := by
  refine Ct.of (by decide +kernel) (Nat.le_of_ble_eq_true rfl) ?_
  intro p e s m args below meth c Qc C hap hP hend ls hl
  have hAA : ∀ j, j < 26 → inA ad 26 (ad j) := fun j hj => ⟨j, hj, rfl⟩
  have hx := C.1
  have hb := C.2.1
  have hl : lv_has ls 2 [(0, .ref (ad 0)), (1, .ref (ad (q + 10)))] := hl
  have h := (f_X3_dropLostPlayer_s.eq_1 _ _ ).symm.trans h
  refine lv_aload_n hx hb dX3_dropLostPlayer_0 rfl (lv_at hl 1 rfl) ?_
  refine lv_ifnull hx hb dX3_dropLostPlayer_1 ?_
  refine lv_aload_n hx hb dX3_dropLostPlayer_4 rfl (lv_at hl 1 rfl) ?_
  refine k_callVi C hP hap hAA (c_X1_bearsPlayer l ev (fun j => ad (q + 10 + 8 * j)) (x_shelf σ q)   _ rfl) (em_Sr hq) (apart_S hap hq) gz_X1_bearsPlayer qML_RX3_80 qIM_yX1_bearsPlayer qSE_yX1_bearsPlayer ⟨(Nat.le_of_ble_eq_true rfl), (Nat.le_of_ble_eq_true rfl)⟩ (q0 := (q + 10)) rfl (by omega) (xw_shelf hq) rfl rfl rfl hl.1 rfl (Nat.le_of_ble_eq_true rfl) dX3_dropLostPlayer_5 ⟨Nat.le_refl _, Nat.le_refl _⟩ (fun H locs hP => ?_)
  refine r_ifz_eq (tgt := 29) hx hb dX3_dropLostPlayer_8 (by decide) (fun c8 => ?_) (fun c8 => ?_)
  · have h := k_nf c8 h
    exact e_vret C hend hP (congrArg (xw ev ad) (k_some h)) dX3_dropLostPlayer_29
  · have h := k_if c8 h
    refine lv_aload_n hx hb dX3_dropLostPlayer_11 rfl (lv_at hl 0 rfl) ?_
    refine lv_aload_n hx hb dX3_dropLostPlayer_12 rfl (lv_at hl 1 rfl) ?_
    refine r_get C hP (ci := 1) rfl uin_X1 0 (by decide) (q + 10) (by omega) (xw_shelf hq) qFL_RX3_87 rfl rfl dX3_dropLostPlayer_13 ?_
    refine lv_bipush (v := 10) hx hb dX3_dropLostPlayer_16 (by decide) ?_
    refine lv_isub hx hb dX3_dropLostPlayer_18 ?_
    refine k_callVi C hP hap hAA (c_X3_isPlayer l ev ad σ ((s_content (x_shelf σ q)) - 10)   _ rfl) Emb.same hap gz_X3_isPlayer qML_RX3_108 qIM_yX3_isPlayer qSE_yX3_isPlayer ⟨(Nat.le_of_ble_eq_true rfl), (Nat.le_of_ble_eq_true rfl)⟩ (q0 := 0) rfl (by decide) rfl rfl rfl rfl hl.1 rfl (Nat.le_of_ble_eq_true rfl) dX3_dropLostPlayer_19 ⟨Nat.le_refl _, Nat.le_refl _⟩ (fun H locs hP => ?_)
    refine r_ifz_ne (tgt := 29) hx hb dX3_dropLostPlayer_22 (by decide) (fun c22 => ?_) (fun c22 => ?_)
    · have h := k_if c22 h
      exact e_vret C hend hP (congrArg (xw ev ad) (k_some h)) dX3_dropLostPlayer_29
    · have h := k_nf c22 h
      refine lv_aload_n hx hb dX3_dropLostPlayer_25 rfl (lv_at hl 1 rfl) ?_
      obtain ⟨σ1, h1, h⟩ := k_ob h
      refine k_callVv C hP hap hAA (c_X1_empty l ev (fun j => ad (q + 10 + 8 * j)) (x_shelf σ q)   _ h1) (em_S hq) (apart_S hap hq) gz_X1_empty qML_RX3_111 qIM_yX1_empty qSE_yX1_empty ⟨(Nat.le_of_ble_eq_true rfl), (Nat.le_of_ble_eq_true rfl)⟩ (q0 := (q + 10)) rfl (by omega) (xw_shelf hq) rfl rfl rfl hl.1 rfl (Nat.le_of_ble_eq_true rfl) dX3_dropLostPlayer_26 ⟨Nat.le_refl _, Nat.le_refl _⟩ (fun H locs hP => ?_)
      obtain ⟨σ2, eσ2, h⟩ := k_ltx h
      rw [← eσ2] at hP
      exact e_vret C hend hP (congrArg (xw ev ad) (k_some h)) dX3_dropLostPlayer_29
def f_X3_back_L36_b   (rec36 : Int32 → XX → Option (Int32 × XX)) (x4 : Int32) (σ5 : XX) : Option (Int32 × XX) :=
  if 8 ≤ x4 then some (1, σ5) else ob (f_X3_shelfAt σ5 x4) (fun o6 => om o6 (ob (f_X3_dropLostPlayer_n σ5) (fun σ8 => lt (x4 + 1) (fun x9 => rec36 x9 σ8))) (fun q7 => gd (decide (q7 < 8)) (ob (f_X3_dropLostPlayer_s σ5 q7) (fun σ10 => lt (x4 + 1) (fun x11 => rec36 x11 σ10)))))
def f_X3_back_L36   (x4 : Int32) (σ5 : XX) : Option (Int32 × XX) :=
  lp (fun _ _ => none) (f_X3_back_L36_b  ) FU x4 σ5
def f_X3_back (σ : XX) : Option (Int32 × XX) :=
  if (x_keptCrew σ) = (-1) then ob2 (f_X3_refuse σ (-5)) (fun x13 σ12 => some (x13, σ12)) else ob (f_X0_become (x_now σ) (x_kept σ)) (fun σ1 => lt (x_now' σ σ1) (fun σ2 => lt (x_crew' σ2 (x_keptCrew σ2)) (fun σ3 => f_X3_back_L36 0 σ3)))
set_option maxHeartbeats 4000000 in
set_option maxRecDepth 100000 in
theorem c_X3_back (l : Launch) (ev : EV) (ad : Nat → Nat) (σ : XX)   (r : Int32) (σ' : XX) (h : f_X3_back σ = some (r, σ')) : Ct l yX3_back prog_1_method_58_code 2 (Option.some Jvm.ClassFile.FieldType.int) (rmk 2 42) ev 26 ad (xw ev ad σ) (xw ev ad σ') [.ref (ad 0)] (some (.int r)) := by
  refine Ct.of (by decide +kernel) (Nat.le_of_ble_eq_true rfl) ?_
  intro p e s m args below meth c Qc C hap hP hend ls hl
  have hAA : ∀ j, j < 26 → inA ad 26 (ad j) := fun j hj => ⟨j, hj, rfl⟩
  have hx := C.1
  have hb := C.2.1
  have hl : lv_has ls 2 [(0, .ref (ad 0))] := hl
  have h := (f_X3_back.eq_1 _ ).symm.trans h
  refine lv_aload_n hx hb dX3_back_0 rfl (lv_at hl 0 rfl) ?_
  refine r_get C hP (ci := 3) rfl uin_X3 3 (by decide) 0 (by decide) rfl qFL_RX3_22 rfl rfl dX3_back_1 ?_
  refine lv_iconst (v := (-1)) hx hb dX3_back_4 (by decide) ?_
  refine lv_icmp_ne (tgt := 15) hx hb dX3_back_5 (by decide) (fun c5 => ?_) (fun c5 => ?_)
  · have h := k_nf c5 h
    refine lv_aload_n hx hb dX3_back_15 rfl (lv_at hl 0 rfl) ?_
    refine r_get C hP (ci := 3) rfl uin_X3 0 (by decide) 0 (by decide) rfl qFL_RX3_10 rfl rfl dX3_back_16 ?_
    refine lv_aload_n hx hb dX3_back_19 rfl (lv_at hl 0 rfl) ?_
    refine r_get C hP (ci := 3) rfl uin_X3 2 (by decide) 0 (by decide) rfl qFL_RX3_19 rfl rfl dX3_back_20 ?_
    obtain ⟨σ1, h1, h⟩ := k_ob h
    refine k_callVv C hP hap hAA (c_X0_become l ev (fun j => if j = 0 then ad 1 else ad 3) (x_now σ) (x_kept σ)   _ h1) (em_GG13) (apart_GG hap (by decide) (by decide) (by decide)) gz_X0_become qML_RX3_165 qIM_yX0_become qSE_yX0_become ⟨(Nat.le_of_ble_eq_true rfl), (Nat.le_of_ble_eq_true rfl)⟩ (q0 := 1) rfl (by decide) rfl rfl rfl rfl hl.1 rfl (Nat.le_of_ble_eq_true rfl) dX3_back_23 ⟨Nat.le_refl _, Nat.le_refl _⟩ (fun H locs hP => ?_)
    obtain ⟨σ2, eσ2, h⟩ := k_ltx h
    rw [← eσ2] at hP
    refine lv_aload_n hx hb dX3_back_26 rfl (lv_at hl 0 rfl) ?_
    refine lv_aload_n hx hb dX3_back_27 rfl (lv_at hl 0 rfl) ?_
    refine r_get C hP (ci := 3) rfl uin_X3 3 (by decide) 0 (by decide) rfl qFL_RX3_22 rfl rfl dX3_back_28 ?_
    obtain ⟨σ3, eσ3, h⟩ := k_ltx h
    refine pt_X_X3_crew C hP hap hAA eσ3 qFL_RX3_33 dX3_back_31 (fun H locs hP => ?_)
    refine lv_iconst (v := 0) hx hb dX3_back_34 (by decide) ?_
    refine lv_istore_n (lv' := [(1, .int 0), (0, .ref (ad 0))]) hx hb dX3_back_35 rfl hl (by decide) rfl (fun ls hl => ?_)
    have hL36 : ∀ (n : Nat) (x4 : Int32) (σ5 : XX) (H : Heap) (locs : List Loc) (ls : Array Slot), lp (fun _ _ => none) (f_X3_back_L36_b  ) n x4 σ5 = some (r, σ') → PS ev 26 ad (xw ev ad σ5) (inA ad 26) s H locs → lv_has ls 2 [(0, .ref (ad 0)), (1, .int x4)] → WW ev p l e (rmk 2 42) s m args below meth c Qc ad 26 H locs 36 ls [] := by
      intro n
      induction n with
      | zero =>
        intro x4 σ5 H locs ls h; exact k_none h
      | succ n ih =>
        intro x4 σ5 H locs ls h hP hl
        have h : f_X3_back_L36_b   (lp (fun _ _ => none) (f_X3_back_L36_b  ) n) x4 σ5 = some (r, σ') := h
        have h := (f_X3_back_L36_b.eq_1 _ _ _ ).symm.trans h
        refine lv_iload_n hx hb dX3_back_36 rfl (lv_at hl 1 rfl) ?_
        refine lv_bipush (v := 8) hx hb dX3_back_37 (by decide) ?_
        refine lv_icmp_ge (tgt := 57) hx hb dX3_back_39 (by decide) (fun c39 => ?_) (fun c39 => ?_)
        · have h := k_if c39 h
          refine lv_iconst (v := 1) hx hb dX3_back_57 (by decide) ?_
          exact e_iret C hend hP (k_some2 h).1 (congrArg (xw ev ad) (k_some2 h).2) dX3_back_58
        · have h := k_nf c39 h
          refine lv_aload_n hx hb dX3_back_42 rfl (lv_at hl 0 rfl) ?_
          refine lv_aload_n hx hb dX3_back_43 rfl (lv_at hl 0 rfl) ?_
          refine lv_iload_n hx hb dX3_back_44 rfl (lv_at hl 1 rfl) ?_
          obtain ⟨o6, h1, h⟩ := k_ob h
          refine k_callVo C hP hap hAA (c_X3_shelfAt l ev ad σ5 x4   _ h1) Emb.same hap gz_X3_shelfAt qML_RX3_56 qIM_yX3_shelfAt qSE_yX3_shelfAt ⟨(Nat.le_of_ble_eq_true rfl), (Nat.le_of_ble_eq_true rfl)⟩ (q0 := 0) rfl (by decide) rfl rfl rfl rfl hl.1 rfl (Nat.le_of_ble_eq_true rfl) dX3_back_45 ⟨Nat.le_refl _, Nat.le_refl _⟩ (fun H locs hP => ?_)
          rcases o6 with _ | q7
          · have h := k_omN h
            obtain ⟨σ8, h1, h⟩ := k_ob h
            refine k_callVv C hP hap hAA (c_X3_dropLostPlayer_n l ev ad σ5   _ h1) Emb.same hap gz_X3_dropLostPlayer qML_RX3_357 qIM_yX3_dropLostPlayer qSE_yX3_dropLostPlayer ⟨(Nat.le_of_ble_eq_true rfl), (Nat.le_of_ble_eq_true rfl)⟩ (q0 := 0) rfl (by decide) rfl rfl rfl rfl hl.1 rfl (Nat.le_of_ble_eq_true rfl) dX3_back_48 ⟨Nat.le_refl _, Nat.le_refl _⟩ (fun H locs hP => ?_)
            obtain ⟨x9, ex9, h⟩ := k_ltx h
            refine lv_iinc (v := x9) (lv' := [(1, .int x9), (0, .ref (ad 0))]) hx hb dX3_back_51 hl (k := 1) rfl (by rw [ex9]; rfl) (by decide) rfl (fun ls hl => ?_)
            refine lv_goto (tgt := 36) hx hb dX3_back_54 (by decide) ?_
            exact ih _ _ _ _ _ h hP (lv_sub hl [1, 0] rfl)
          · obtain ⟨hg, h⟩ := k_gd (k_omS h)
            have hq7 : q7 < 8 := of_decide_eq_true hg
            obtain ⟨σ10, h1, h⟩ := k_ob h
            refine k_callVv C hP hap hAA (c_X3_dropLostPlayer_s l ev ad σ5 q7 hq7  _ h1) Emb.same hap gz_X3_dropLostPlayer qML_RX3_357 qIM_yX3_dropLostPlayer qSE_yX3_dropLostPlayer ⟨(Nat.le_of_ble_eq_true rfl), (Nat.le_of_ble_eq_true rfl)⟩ (q0 := 0) rfl (by decide) rfl rfl rfl rfl hl.1 rfl (Nat.le_of_ble_eq_true rfl) dX3_back_48 ⟨Nat.le_refl _, Nat.le_refl _⟩ (fun H locs hP => ?_)
            obtain ⟨x11, ex11, h⟩ := k_ltx h
            refine lv_iinc (v := x11) (lv' := [(1, .int x11), (0, .ref (ad 0))]) hx hb dX3_back_51 hl (k := 1) rfl (by rw [ex11]; rfl) (by decide) rfl (fun ls hl => ?_)
            refine lv_goto (tgt := 36) hx hb dX3_back_54 (by decide) ?_
            exact ih _ _ _ _ _ h hP (lv_sub hl [1, 0] rfl)
    exact hL36 FU _ _ _ _ _ h hP (lv_sub hl [1, 0] rfl)
  · have h := k_if c5 h
    refine lv_aload_n hx hb dX3_back_8 rfl (lv_at hl 0 rfl) ?_
    refine lv_bipush (v := (-5)) hx hb dX3_back_9 (by decide) ?_
    obtain ⟨x13, σ12, h1, h⟩ := k_ob2 h
    refine k_callVi C hP hap hAA (c_X3_refuse l ev ad σ (-5)   _ _ h1) Emb.same hap gz_X3_refuse qML_RX3_60 qIM_yX3_refuse qSE_yX3_refuse ⟨(Nat.le_of_ble_eq_true rfl), (Nat.le_of_ble_eq_true rfl)⟩ (q0 := 0) rfl (by decide) rfl rfl rfl rfl hl.1 rfl (Nat.le_of_ble_eq_true rfl) dX3_back_11 ⟨Nat.le_refl _, Nat.le_refl _⟩ (fun H locs hP => ?_)
    exact e_iret C hend hP (k_some2 h).1 (congrArg (xw ev ad) (k_some2 h).2) dX3_back_14
def f_X3_fullShelves_L4_b (σ : XX)  (rec4 : Int32 → Int32 → Option (Int32)) (x1 : Int32) (x2 : Int32) : Option (Int32) :=
  if 8 ≤ x2 then some x1 else ob (f_X3_holds σ x2) (fun x3 => if x3 = (-1) then lt (x1 + (f_X3_truth 0)) (fun x4 => lt (x2 + 1) (fun x5 => rec4 x4 x5)) else lt (x1 + (f_X3_truth 1)) (fun x6 => lt (x2 + 1) (fun x7 => rec4 x6 x7)))
def f_X3_fullShelves_L4 (σ : XX)  (x1 : Int32) (x2 : Int32) : Option (Int32) :=
  lp (fun _ _ => none) (f_X3_fullShelves_L4_b σ ) FU x1 x2
def f_X3_fullShelves (σ : XX) : Option (Int32) :=
  f_X3_fullShelves_L4 σ 0 0
set_option maxHeartbeats 4000000 in
set_option maxRecDepth 100000 in
theorem c_X3_fullShelves (l : Launch) (ev : EV) (ad : Nat → Nat) (σ : XX)   (r : Int32)  (h : f_X3_fullShelves σ = some r) : Ct l yX3_fullShelves prog_1_method_75_code 3 (Option.some Jvm.ClassFile.FieldType.int) (rmk 2 43) ev 26 ad (xw ev ad σ) (xw ev ad σ) [.ref (ad 0)] (some (.int r)) := by
  refine Ct.of (by decide +kernel) (Nat.le_of_ble_eq_true rfl) ?_
  intro p e s m args below meth c Qc C hap hP hend ls hl
  have hAA : ∀ j, j < 26 → inA ad 26 (ad j) := fun j hj => ⟨j, hj, rfl⟩
  have hx := C.1
  have hb := C.2.1
  have hl : lv_has ls 3 [(0, .ref (ad 0))] := hl
  have h := (f_X3_fullShelves.eq_1 _ ).symm.trans h
  refine lv_iconst (v := 0) hx hb dX3_fullShelves_0 (by decide) ?_
  refine lv_istore_n (lv' := [(1, .int 0), (0, .ref (ad 0))]) hx hb dX3_fullShelves_1 rfl hl (by decide) rfl (fun ls hl => ?_)
  refine lv_iconst (v := 0) hx hb dX3_fullShelves_2 (by decide) ?_
  refine lv_istore_n (lv' := [(2, .int 0), (1, .int 0), (0, .ref (ad 0))]) hx hb dX3_fullShelves_3 rfl hl (by decide) rfl (fun ls hl => ?_)
  have hL4 : ∀ (n : Nat) (x1 : Int32) (x2 : Int32) (H : Heap) (locs : List Loc) (ls : Array Slot), lp (fun _ _ => none) (f_X3_fullShelves_L4_b σ ) n x1 x2 = some r → PS ev 26 ad (xw ev ad σ) (inA ad 26) s H locs → lv_has ls 3 [(0, .ref (ad 0)), (1, .int x1), (2, .int x2)] → WW ev p l e (rmk 2 43) s m args below meth c Qc ad 26 H locs 4 ls [] := by
    intro n
    induction n with
    | zero =>
      intro x1 x2 H locs ls h; exact k_none h
    | succ n ih =>
      intro x1 x2 H locs ls h hP hl
      have h : f_X3_fullShelves_L4_b σ  (lp (fun _ _ => none) (f_X3_fullShelves_L4_b σ ) n) x1 x2 = some r := h
      have h := (f_X3_fullShelves_L4_b.eq_1 _ _ _ _ ).symm.trans h
      refine lv_iload_n hx hb dX3_fullShelves_4 rfl (lv_at hl 2 rfl) ?_
      refine lv_bipush (v := 8) hx hb dX3_fullShelves_5 (by decide) ?_
      refine lv_icmp_ge (tgt := 36) hx hb dX3_fullShelves_7 (by decide) (fun c7 => ?_) (fun c7 => ?_)
      · have h := k_if c7 h
        refine lv_iload_n hx hb dX3_fullShelves_36 rfl (lv_at hl 1 rfl) ?_
        exact e_iret C hend hP (k_some h) rfl dX3_fullShelves_37
      · have h := k_nf c7 h
        refine lv_iload_n hx hb dX3_fullShelves_10 rfl (lv_at hl 1 rfl) ?_
        refine lv_aload_n hx hb dX3_fullShelves_11 rfl (lv_at hl 0 rfl) ?_
        refine lv_iload_n hx hb dX3_fullShelves_12 rfl (lv_at hl 2 rfl) ?_
        obtain ⟨x3, h1, h⟩ := k_ob h
        refine k_callVi C hP hap hAA (c_X3_holds l ev ad σ x2   _ h1) Emb.same hap gz_X3_holds qML_RX3_374 qIM_yX3_holds qSE_yX3_holds ⟨(Nat.le_of_ble_eq_true rfl), (Nat.le_of_ble_eq_true rfl)⟩ (q0 := 0) rfl (by decide) rfl rfl rfl rfl hl.1 rfl (Nat.le_of_ble_eq_true rfl) dX3_fullShelves_13 ⟨Nat.le_refl _, Nat.le_refl _⟩ (fun H locs hP => ?_)
        refine lv_iconst (v := (-1)) hx hb dX3_fullShelves_16 (by decide) ?_
        refine lv_icmp_eq (tgt := 24) hx hb dX3_fullShelves_17 (by decide) (fun c17 => ?_) (fun c17 => ?_)
        · have h := k_if c17 h
          refine lv_iconst (v := 0) hx hb dX3_fullShelves_24 (by decide) ?_
          refine k_callSi C hP hap hAA (c_X3_truth l ev ad 0   _ rfl) Emb.none (apart_0 _) gz_X3_truth qML_RX3_192 qSM_yX3_truth ⟨(Nat.le_of_ble_eq_true rfl), (Nat.le_of_ble_eq_true rfl)⟩ rfl hl.1 rfl (Nat.le_of_ble_eq_true rfl) dX3_fullShelves_25 ⟨Nat.le_refl _, Nat.le_refl _⟩ (fun H locs hP => ?_)
          refine lv_iadd hx hb dX3_fullShelves_28 ?_
          refine lv_topi (fun x4 ex4 => ?_)
          have h := k_lt ex4 h
          refine lv_istore_n (lv' := [(1, .int x4), (0, .ref (ad 0)), (2, .int x2)]) hx hb dX3_fullShelves_29 rfl hl (by decide) rfl (fun ls hl => ?_)
          obtain ⟨x5, ex5, h⟩ := k_ltx h
          refine lv_iinc (v := x5) (lv' := [(2, .int x5), (1, .int x4), (0, .ref (ad 0))]) hx hb dX3_fullShelves_30 hl (k := 2) rfl (by rw [ex5]; rfl) (by decide) rfl (fun ls hl => ?_)
          refine lv_goto (tgt := 4) hx hb dX3_fullShelves_33 (by decide) ?_
          exact ih _ _ _ _ _ h hP (lv_sub hl [2, 1, 0] rfl)
        · have h := k_nf c17 h
          refine lv_iconst (v := 1) hx hb dX3_fullShelves_20 (by decide) ?_
          refine lv_goto (tgt := 25) hx hb dX3_fullShelves_21 (by decide) ?_
          refine k_callSi C hP hap hAA (c_X3_truth l ev ad 1   _ rfl) Emb.none (apart_0 _) gz_X3_truth qML_RX3_192 qSM_yX3_truth ⟨(Nat.le_of_ble_eq_true rfl), (Nat.le_of_ble_eq_true rfl)⟩ rfl hl.1 rfl (Nat.le_of_ble_eq_true rfl) dX3_fullShelves_25 ⟨Nat.le_refl _, Nat.le_refl _⟩ (fun H locs hP => ?_)
          refine lv_iadd hx hb dX3_fullShelves_28 ?_
          refine lv_topi (fun x6 ex6 => ?_)
          have h := k_lt ex6 h
          refine lv_istore_n (lv' := [(1, .int x6), (0, .ref (ad 0)), (2, .int x2)]) hx hb dX3_fullShelves_29 rfl hl (by decide) rfl (fun ls hl => ?_)
          obtain ⟨x7, ex7, h⟩ := k_ltx h
          refine lv_iinc (v := x7) (lv' := [(2, .int x7), (1, .int x6), (0, .ref (ad 0))]) hx hb dX3_fullShelves_30 hl (k := 2) rfl (by rw [ex7]; rfl) (by decide) rfl (fun ls hl => ?_)
          refine lv_goto (tgt := 4) hx hb dX3_fullShelves_33 (by decide) ?_
          exact ih _ _ _ _ _ h hP (lv_sub hl [2, 1, 0] rfl)
  exact hL4 FU _ _ _ _ _ h hP (lv_sub hl [2, 1, 0] rfl)
def f_X3_refusalCount (σ : XX) (a1 : Int32) : Option (Int32) :=
  if a1 < 12 then some (-1) else if (a1 - 12) < 5 then gd (inb (a1 - 12) 5) (some ((x_refusals σ) (Int32.toNatClampNeg (a1 - 12)))) else some (-1)
set_option maxHeartbeats 4000000 in
set_option maxRecDepth 100000 in
theorem c_X3_refusalCount (l : Launch) (ev : EV) (ad : Nat → Nat) (σ : XX) (a1 : Int32)   (r : Int32)  (h : f_X3_refusalCount σ a1 = some r) : Ct l yX3_refusalCount prog_1_method_62_code 2 (Option.some Jvm.ClassFile.FieldType.int) (rmk 0 0) ev 26 ad (xw ev ad σ) (xw ev ad σ) [.ref (ad 0), .int a1] (some (.int r)) := by
  refine Ct.of (by decide +kernel) (Nat.le_of_ble_eq_true rfl) ?_
  intro p e s m args below meth c Qc C hap hP hend ls hl
  have hAA : ∀ j, j < 26 → inA ad 26 (ad j) := fun j hj => ⟨j, hj, rfl⟩
  have hx := C.1
  have hb := C.2.1
  have hl : lv_has ls 2 [(0, .ref (ad 0)), (1, .int a1)] := hl
  have h := (f_X3_refusalCount.eq_1 _ _ ).symm.trans h
  refine lv_iload_n hx hb dX3_refusalCount_0 rfl (lv_at hl 1 rfl) ?_
  refine lv_bipush (v := 12) hx hb dX3_refusalCount_1 (by decide) ?_
  refine lv_icmp_lt (tgt := 18) hx hb dX3_refusalCount_3 (by decide) (fun c3 => ?_) (fun c3 => ?_)
  · have h := k_if c3 h
    refine lv_iconst (v := (-1)) hx hb dX3_refusalCount_18 (by decide) ?_
    exact e_iret C hend hP (k_some h) rfl dX3_refusalCount_19
  · have h := k_nf c3 h
    refine lv_iload_n hx hb dX3_refusalCount_6 rfl (lv_at hl 1 rfl) ?_
    refine lv_bipush (v := 12) hx hb dX3_refusalCount_7 (by decide) ?_
    refine lv_isub hx hb dX3_refusalCount_9 ?_
    refine lv_aload_n hx hb dX3_refusalCount_10 rfl (lv_at hl 0 rfl) ?_
    refine r_get C hP (ci := 3) rfl uin_X3 10 (by decide) 0 (by decide) rfl qFL_RX3_52 rfl rfl dX3_refusalCount_11 ?_
    refine r_alen C hP 6 (by decide) 0 rfl rfl (v := 5) rfl dX3_refusalCount_14 ?_
    refine lv_icmp_lt (tgt := 20) hx hb dX3_refusalCount_15 (by decide) (fun c15 => ?_) (fun c15 => ?_)
    · have h := k_if c15 h
      refine lv_aload_n hx hb dX3_refusalCount_20 rfl (lv_at hl 0 rfl) ?_
      refine r_get C hP (ci := 3) rfl uin_X3 10 (by decide) 0 (by decide) rfl qFL_RX3_52 rfl rfl dX3_refusalCount_21 ?_
      refine lv_iload_n hx hb dX3_refusalCount_24 rfl (lv_at hl 1 rfl) ?_
      refine lv_bipush (v := 12) hx hb dX3_refusalCount_25 (by decide) ?_
      refine lv_isub hx hb dX3_refusalCount_27 ?_
      obtain ⟨hg, h⟩ := k_gd h
      refine r_iald C hP 6 (by decide) rfl hg dX3_refusalCount_28 ?_
      exact e_iret C hend hP (k_some h) rfl dX3_refusalCount_29
    · have h := k_nf c15 h
      refine lv_iconst (v := (-1)) hx hb dX3_refusalCount_18 (by decide) ?_
      exact e_iret C hend hP (k_some h) rfl dX3_refusalCount_19
def f_X3_status (σ : XX) (a1 : Int32) : Option (Int32) :=
  if a1 = 0 then some (g_width (x_now σ)) else if a1 = 1 then some (g_height (x_now σ)) else if a1 = 2 then some (f_J13_bitCount_95d88 (g_hedges (x_now σ))) else if a1 = 3 then some (f_J6_bitCount_0f7a4 (g_dug (x_now σ))) else if a1 = 4 then some (f_J6_bitCount_0f7a4 (f_X0_shutFields (x_now σ))) else if a1 = 5 then some (g_turn (x_now σ)) else if a1 = 6 then some (g_made (x_now σ)) else if a1 = 7 then some (x_crew σ) else if a1 = 8 then some (t_length (x_tape σ)) else if a1 = 9 then some (g_seed (x_now σ)) else if a1 = 10 then ob (f_X3_fullShelves σ) (fun x1 => some x1) else if a1 = 11 then some (g_edges (x_now σ)) else ob (f_X3_refusalCount σ a1) (fun x2 => some x2)
set_option maxHeartbeats 4000000 in
set_option maxRecDepth 100000 in
theorem c_X3_status (l : Launch) (ev : EV) (ad : Nat → Nat) (σ : XX) (a1 : Int32)   (r : Int32)  (h : f_X3_status σ a1 = some r) : Ct l yX3_status prog_1_method_59_code 2 (Option.some Jvm.ClassFile.FieldType.int) (rmk 3 65) ev 26 ad (xw ev ad σ) (xw ev ad σ) [.ref (ad 0), .int a1] (some (.int r)) := by
  refine Ct.of (by decide +kernel) (Nat.le_of_ble_eq_true rfl) ?_
  intro p e s m args below meth c Qc C hap hP hend ls hl
  have hAA : ∀ j, j < 26 → inA ad 26 (ad j) := fun j hj => ⟨j, hj, rfl⟩
  have hx := C.1
  have hb := C.2.1
  have hl : lv_has ls 2 [(0, .ref (ad 0)), (1, .int a1)] := hl
  have h := (f_X3_status.eq_1 _ _ ).symm.trans h
  refine lv_iload_n hx hb dX3_status_0 rfl (lv_at hl 1 rfl) ?_
  by_cases cs0 : a1 = 0
  · have h := k_if cs0 h
    refine r_tabIn (tgt := 64) (off := 63) (i := 0) hx hb dX3_status_1 cs0 (by decide) (by decide) (by decide) (by decide) ?_
    refine lv_aload_n hx hb dX3_status_64 rfl (lv_at hl 0 rfl) ?_
    refine r_get C hP (ci := 3) rfl uin_X3 0 (by decide) 0 (by decide) rfl qFL_RX3_10 rfl rfl dX3_status_65 ?_
    refine r_get C hP (ci := 0) rfl uin_X0 0 (by decide) 1 (by decide) rfl qFL_RX3_361 rfl rfl dX3_status_68 ?_
    exact e_iret C hend hP (k_some h) rfl dX3_status_71
  · have h := k_nf cs0 h
    by_cases cs1 : a1 = 1
    · have h := k_if cs1 h
      refine r_tabIn (tgt := 72) (off := 71) (i := 1) hx hb dX3_status_1 cs1 (by decide) (by decide) (by decide) (by decide) ?_
      refine lv_aload_n hx hb dX3_status_72 rfl (lv_at hl 0 rfl) ?_
      refine r_get C hP (ci := 3) rfl uin_X3 0 (by decide) 0 (by decide) rfl qFL_RX3_10 rfl rfl dX3_status_73 ?_
      refine r_get C hP (ci := 0) rfl uin_X0 1 (by decide) 1 (by decide) rfl qFL_RX3_364 rfl rfl dX3_status_76 ?_
      exact e_iret C hend hP (k_some h) rfl dX3_status_79
    · have h := k_nf cs1 h
      by_cases cs2 : a1 = 2
      · have h := k_if cs2 h
        refine r_tabIn (tgt := 80) (off := 79) (i := 2) hx hb dX3_status_1 cs2 (by decide) (by decide) (by decide) (by decide) ?_
        refine lv_aload_n hx hb dX3_status_80 rfl (lv_at hl 0 rfl) ?_
        refine r_get C hP (ci := 3) rfl uin_X3 0 (by decide) 0 (by decide) rfl qFL_RX3_10 rfl rfl dX3_status_81 ?_
        refine r_get C hP (ci := 0) rfl uin_X0 9 (by decide) 1 (by decide) rfl qFL_RX3_185 rfl rfl dX3_status_84 ?_
        refine k_callSi C hP hap hAA (c_J13_bitCount_95d88 l ev ad (g_hedges (x_now σ))   _ rfl) Emb.none (apart_0 _) gz_J13_bitCount_95d88 qML_RX3_131 qSM_yJ13_bitCount_95d88 ⟨(Nat.le_of_ble_eq_true rfl), (Nat.le_of_ble_eq_true rfl)⟩ rfl hl.1 rfl (Nat.le_of_ble_eq_true rfl) dX3_status_87 ⟨Nat.le_refl _, Nat.le_refl _⟩ (fun H locs hP => ?_)
        exact e_iret C hend hP (k_some h) rfl dX3_status_90
      · have h := k_nf cs2 h
        by_cases cs3 : a1 = 3
        · have h := k_if cs3 h
          refine r_tabIn (tgt := 91) (off := 90) (i := 3) hx hb dX3_status_1 cs3 (by decide) (by decide) (by decide) (by decide) ?_
          refine lv_aload_n hx hb dX3_status_91 rfl (lv_at hl 0 rfl) ?_
          refine r_get C hP (ci := 3) rfl uin_X3 0 (by decide) 0 (by decide) rfl qFL_RX3_10 rfl rfl dX3_status_92 ?_
          refine r_get C hP (ci := 0) rfl uin_X0 10 (by decide) 1 (by decide) rfl qFL_RX3_189 rfl rfl dX3_status_95 ?_
          refine k_callSi C hP hap hAA (c_J6_bitCount_0f7a4 l ev ad (g_dug (x_now σ))   _ rfl) Emb.none (apart_0 _) gz_J6_bitCount_0f7a4 qML_RX3_286 qSM_yJ6_bitCount_0f7a4 ⟨(Nat.le_of_ble_eq_true rfl), (Nat.le_of_ble_eq_true rfl)⟩ rfl hl.1 rfl (Nat.le_of_ble_eq_true rfl) dX3_status_98 ⟨Nat.le_refl _, Nat.le_refl _⟩ (fun H locs hP => ?_)
          exact e_iret C hend hP (k_some h) rfl dX3_status_101
        · have h := k_nf cs3 h
          by_cases cs4 : a1 = 4
          · have h := k_if cs4 h
            refine r_tabIn (tgt := 102) (off := 101) (i := 4) hx hb dX3_status_1 cs4 (by decide) (by decide) (by decide) (by decide) ?_
            refine lv_aload_n hx hb dX3_status_102 rfl (lv_at hl 0 rfl) ?_
            refine r_get C hP (ci := 3) rfl uin_X3 0 (by decide) 0 (by decide) rfl qFL_RX3_10 rfl rfl dX3_status_103 ?_
            refine k_callVi C hP hap hAA (c_X0_shutFields l ev (fun j => ad (j + 1)) (x_now σ)   _ rfl) (em_G1r) (apart_1 _) gz_X0_shutFields qML_RX3_283 qIM_yX0_shutFields qSE_yX0_shutFields ⟨(Nat.le_of_ble_eq_true rfl), (Nat.le_of_ble_eq_true rfl)⟩ (q0 := 1) rfl (by decide) rfl rfl rfl rfl hl.1 rfl (Nat.le_of_ble_eq_true rfl) dX3_status_106 ⟨Nat.le_refl _, Nat.le_refl _⟩ (fun H locs hP => ?_)
            refine k_callSi C hP hap hAA (c_J6_bitCount_0f7a4 l ev ad (f_X0_shutFields (x_now σ))   _ rfl) Emb.none (apart_0 _) gz_J6_bitCount_0f7a4 qML_RX3_286 qSM_yJ6_bitCount_0f7a4 ⟨(Nat.le_of_ble_eq_true rfl), (Nat.le_of_ble_eq_true rfl)⟩ rfl hl.1 rfl (Nat.le_of_ble_eq_true rfl) dX3_status_109 ⟨Nat.le_refl _, Nat.le_refl _⟩ (fun H locs hP => ?_)
            exact e_iret C hend hP (k_some h) rfl dX3_status_112
          · have h := k_nf cs4 h
            by_cases cs5 : a1 = 5
            · have h := k_if cs5 h
              refine r_tabIn (tgt := 113) (off := 112) (i := 5) hx hb dX3_status_1 cs5 (by decide) (by decide) (by decide) (by decide) ?_
              refine lv_aload_n hx hb dX3_status_113 rfl (lv_at hl 0 rfl) ?_
              refine r_get C hP (ci := 3) rfl uin_X3 0 (by decide) 0 (by decide) rfl qFL_RX3_10 rfl rfl dX3_status_114 ?_
              refine r_get C hP (ci := 0) rfl uin_X0 13 (by decide) 1 (by decide) rfl qFL_RX3_156 rfl rfl dX3_status_117 ?_
              exact e_iret C hend hP (k_some h) rfl dX3_status_120
            · have h := k_nf cs5 h
              by_cases cs6 : a1 = 6
              · have h := k_if cs6 h
                refine r_tabIn (tgt := 121) (off := 120) (i := 6) hx hb dX3_status_1 cs6 (by decide) (by decide) (by decide) (by decide) ?_
                refine lv_aload_n hx hb dX3_status_121 rfl (lv_at hl 0 rfl) ?_
                refine r_get C hP (ci := 3) rfl uin_X3 0 (by decide) 0 (by decide) rfl qFL_RX3_10 rfl rfl dX3_status_122 ?_
                refine r_get C hP (ci := 0) rfl uin_X0 14 (by decide) 1 (by decide) rfl qFL_RX3_325 rfl rfl dX3_status_125 ?_
                exact e_iret C hend hP (k_some h) rfl dX3_status_128
              · have h := k_nf cs6 h
                by_cases cs7 : a1 = 7
                · have h := k_if cs7 h
                  refine r_tabIn (tgt := 129) (off := 128) (i := 7) hx hb dX3_status_1 cs7 (by decide) (by decide) (by decide) (by decide) ?_
                  refine lv_aload_n hx hb dX3_status_129 rfl (lv_at hl 0 rfl) ?_
                  refine r_get C hP (ci := 3) rfl uin_X3 6 (by decide) 0 (by decide) rfl qFL_RX3_33 rfl rfl dX3_status_130 ?_
                  exact e_iret C hend hP (k_some h) rfl dX3_status_133
                · have h := k_nf cs7 h
                  by_cases cs8 : a1 = 8
                  · have h := k_if cs8 h
                    refine r_tabIn (tgt := 134) (off := 133) (i := 8) hx hb dX3_status_1 cs8 (by decide) (by decide) (by decide) (by decide) ?_
                    refine lv_aload_n hx hb dX3_status_134 rfl (lv_at hl 0 rfl) ?_
                    refine r_get C hP (ci := 3) rfl uin_X3 9 (by decide) 0 (by decide) rfl qFL_RX3_48 rfl rfl dX3_status_135 ?_
                    refine r_get C hP (ci := 2) rfl uin_X2 1 (by decide) 8 (by decide) rfl qFL_RX3_159 rfl rfl dX3_status_138 ?_
                    exact e_iret C hend hP (k_some h) rfl dX3_status_141
                  · have h := k_nf cs8 h
                    by_cases cs9 : a1 = 9
                    · have h := k_if cs9 h
                      refine r_tabIn (tgt := 142) (off := 141) (i := 9) hx hb dX3_status_1 cs9 (by decide) (by decide) (by decide) (by decide) ?_
                      refine lv_aload_n hx hb dX3_status_142 rfl (lv_at hl 0 rfl) ?_
                      refine r_get C hP (ci := 3) rfl uin_X3 0 (by decide) 0 (by decide) rfl qFL_RX3_10 rfl rfl dX3_status_143 ?_
                      refine r_get C hP (ci := 0) rfl uin_X0 15 (by decide) 1 (by decide) rfl qFL_RX3_354 rfl rfl dX3_status_146 ?_
                      exact e_iret C hend hP (k_some h) rfl dX3_status_149
                    · have h := k_nf cs9 h
                      by_cases cs10 : a1 = 10
                      · have h := k_if cs10 h
                        refine r_tabIn (tgt := 150) (off := 149) (i := 10) hx hb dX3_status_1 cs10 (by decide) (by decide) (by decide) (by decide) ?_
                        refine lv_aload_n hx hb dX3_status_150 rfl (lv_at hl 0 rfl) ?_
                        obtain ⟨x1, h1, h⟩ := k_ob h
                        refine k_callVi C hP hap hAA (c_X3_fullShelves l ev ad σ   _ h1) Emb.same hap gz_X3_fullShelves qML_RX3_367 qIM_yX3_fullShelves qSE_yX3_fullShelves ⟨(Nat.le_of_ble_eq_true rfl), (Nat.le_of_ble_eq_true rfl)⟩ (q0 := 0) rfl (by decide) rfl rfl rfl rfl hl.1 rfl (Nat.le_of_ble_eq_true rfl) dX3_status_151 ⟨Nat.le_refl _, Nat.le_refl _⟩ (fun H locs hP => ?_)
                        exact e_iret C hend hP (k_some h) rfl dX3_status_154
                      · have h := k_nf cs10 h
                        by_cases cs11 : a1 = 11
                        · have h := k_if cs11 h
                          refine r_tabIn (tgt := 155) (off := 154) (i := 11) hx hb dX3_status_1 cs11 (by decide) (by decide) (by decide) (by decide) ?_
                          refine lv_aload_n hx hb dX3_status_155 rfl (lv_at hl 0 rfl) ?_
                          refine r_get C hP (ci := 3) rfl uin_X3 0 (by decide) 0 (by decide) rfl qFL_RX3_10 rfl rfl dX3_status_156 ?_
                          refine r_get C hP (ci := 0) rfl uin_X0 3 (by decide) 1 (by decide) rfl qFL_RX3_146 rfl rfl dX3_status_159 ?_
                          exact e_iret C hend hP (k_some h) rfl dX3_status_162
                        · have h := k_nf cs11 h
                          refine r_tabOut (tgt := 163) hx hb dX3_status_1 (fun i h1 h2 => by
                            have h3 : i = 0 ∨ i = 1 ∨ i = 2 ∨ i = 3 ∨ i = 4 ∨ i = 5 ∨ i = 6 ∨ i = 7 ∨ i = 8 ∨ i = 9 ∨ i = 10 ∨ i = 11 := by omega
                            rcases h3 with rfl | rfl | rfl | rfl | rfl | rfl | rfl | rfl | rfl | rfl | rfl | rfl
                            · exact cs0
                            · exact cs1
                            · exact cs2
                            · exact cs3
                            · exact cs4
                            · exact cs5
                            · exact cs6
                            · exact cs7
                            · exact cs8
                            · exact cs9
                            · exact cs10
                            · exact cs11
                            ) (by decide) ?_
                          refine lv_aload_n hx hb dX3_status_163 rfl (lv_at hl 0 rfl) ?_
                          refine lv_iload_n hx hb dX3_status_164 rfl (lv_at hl 1 rfl) ?_
                          obtain ⟨x2, h1, h⟩ := k_ob h
                          refine k_callVi C hP hap hAA (c_X3_refusalCount l ev ad σ a1   _ h1) Emb.same hap gz_X3_refusalCount qML_RX3_370 qIM_yX3_refusalCount qSE_yX3_refusalCount ⟨(Nat.le_of_ble_eq_true rfl), (Nat.le_of_ble_eq_true rfl)⟩ (q0 := 0) rfl (by decide) rfl rfl rfl rfl hl.1 rfl (Nat.le_of_ble_eq_true rfl) dX3_status_165 ⟨Nat.le_refl _, Nat.le_refl _⟩ (fun H locs hP => ?_)
                          exact e_iret C hend hP (k_some h) rfl dX3_status_168
def f_X4_no (σ : MM) (a1 : Int32) : Option (Int32 × MM) :=
  lt (-a1) (fun x1 => gd (inb x1 7) (gd (inb x1 7) (lt (m_refusals' σ (upd (m_refusals σ) (Int32.toNatClampNeg x1) (((m_refusals σ) (Int32.toNatClampNeg x1)) + 1))) (fun σ2 => some (a1, σ2)))))
set_option maxHeartbeats 4000000 in
set_option maxRecDepth 100000 in
theorem c_X4_no (l : Launch) (ev : EV) (ad : Nat → Nat) (σ : MM) (a1 : Int32)   (r : Int32) (σ' : MM) (h : f_X4_no σ a1 = some (r, σ')) : Ct l yX4_no prog_6_method_2_code 2 (Option.some Jvm.ClassFile.FieldType.int) (rmk 0 0) ev 13 ad (mw ev ad σ) (mw ev ad σ') [.ref (ad 0), .int a1] (some (.int r)) := by
  refine Ct.of (by decide +kernel) (Nat.le_of_ble_eq_true rfl) ?_
  intro p e s m args below meth c Qc C hap hP hend ls hl
  have hAA : ∀ j, j < 13 → inA ad 13 (ad j) := fun j hj => ⟨j, hj, rfl⟩
  have hx := C.1
  have hb := C.2.1
  have hl : lv_has ls 2 [(0, .ref (ad 0)), (1, .int a1)] := hl
  have h := (f_X4_no.eq_1 _ _ ).symm.trans h
  refine lv_aload_n hx hb dX4_no_0 rfl (lv_at hl 0 rfl) ?_
  refine r_get C hP (ci := 4) rfl uin_X4 20 (by decide) 0 (by decide) rfl qFL_RX4_39 rfl rfl dX4_no_1 ?_
  refine lv_iload_n hx hb dX4_no_4 rfl (lv_at hl 1 rfl) ?_
  refine lv_ineg hx hb dX4_no_5 ?_
  refine lv_topi (fun x1 ex1 => ?_)
  have h := k_lt ex1 h
  refine lv_dup2_11 hx hb dX4_no_6 rfl rfl ?_
  obtain ⟨hg, h⟩ := k_gd h
  refine r_iald C hP 10 (by decide) rfl hg dX4_no_7 ?_
  refine lv_iconst (v := 1) hx hb dX4_no_8 (by decide) ?_
  refine lv_iadd hx hb dX4_no_9 ?_
  obtain ⟨hg, h⟩ := k_gd h
  obtain ⟨σ2, eσ2, h⟩ := k_ltx h
  refine st_M_refusals C hP hap hAA eσ2 hg dX4_no_10 (fun H locs hP => ?_)
  refine lv_iload_n hx hb dX4_no_11 rfl (lv_at hl 1 rfl) ?_
  exact e_iret C hend hP (k_some2 h).1 (congrArg (mw ev ad) (k_some2 h).2) dX4_no_12
def f_X4_noLead (σ : MM) (a1 : Int32) : Option (Int32 × MM) :=
  ob2 (f_X4_no σ a1) (fun x2 σ1 => some ((x2 - 1000), σ1))
set_option maxHeartbeats 4000000 in
set_option maxRecDepth 100000 in
theorem c_X4_noLead (l : Launch) (ev : EV) (ad : Nat → Nat) (σ : MM) (a1 : Int32)   (r : Int32) (σ' : MM) (h : f_X4_noLead σ a1 = some (r, σ')) : Ct l yX4_noLead prog_6_method_3_code 2 (Option.some Jvm.ClassFile.FieldType.int) (rmk 1 21) ev 13 ad (mw ev ad σ) (mw ev ad σ') [.ref (ad 0), .int a1] (some (.int r)) := by
  refine Ct.of (by decide +kernel) (Nat.le_of_ble_eq_true rfl) ?_
  intro p e s m args below meth c Qc C hap hP hend ls hl
  have hAA : ∀ j, j < 13 → inA ad 13 (ad j) := fun j hj => ⟨j, hj, rfl⟩
  have hx := C.1
  have hb := C.2.1
  have hl : lv_has ls 2 [(0, .ref (ad 0)), (1, .int a1)] := hl
  have h := (f_X4_noLead.eq_1 _ _ ).symm.trans h
  refine lv_aload_n hx hb dX4_noLead_0 rfl (lv_at hl 0 rfl) ?_
  refine lv_iload_n hx hb dX4_noLead_1 rfl (lv_at hl 1 rfl) ?_
  obtain ⟨x2, σ1, h1, h⟩ := k_ob2 h
  refine k_callVi C hP hap hAA (c_X4_no l ev ad σ a1   _ _ h1) Emb.same hap gz_X4_no qML_RX4_56 qIM_yX4_no qSE_yX4_no ⟨(Nat.le_of_ble_eq_true rfl), (Nat.le_of_ble_eq_true rfl)⟩ (q0 := 0) rfl (by decide) rfl rfl rfl rfl hl.1 rfl (Nat.le_of_ble_eq_true rfl) dX4_noLead_2 ⟨Nat.le_refl _, Nat.le_refl _⟩ (fun H locs hP => ?_)
  refine lv_sipush (v := 1000) hx hb dX4_noLead_5 (by decide) ?_
  refine lv_isub hx hb dX4_noLead_8 ?_
  exact e_iret C hend hP (k_some2 h).1 (congrArg (mw ev ad) (k_some2 h).2) dX4_noLead_9
def f_X4_within (a1 : Int32) (a2 : Int32) (a3 : Int32) : Bool :=
  if a1 < a2 then false else if a3 < a1 then false else true
set_option maxHeartbeats 4000000 in
set_option maxRecDepth 100000 in
theorem c_X4_within (l : Launch) (ev : EV) (ad : Nat → Nat) (a1 : Int32) (a2 : Int32) (a3 : Int32)   (r : Bool)  (h : f_X4_within a1 a2 a3 = r) : Ct l yX4_within prog_6_method_4_code 3 (Option.some Jvm.ClassFile.FieldType.boolean) (rmk 0 0) ev 0 ad w00 w00 [.int a1, .int a2, .int a3] (some (.int (bi r))) := by
  refine Ct.of (by decide +kernel) (Nat.le_of_ble_eq_true rfl) ?_
  intro p e s m args below meth c Qc C hap hP hend ls hl
  have hAA : ∀ j, j < 0 → inA ad 0 (ad j) := fun j hj => ⟨j, hj, rfl⟩
  have hx := C.1
  have hb := C.2.1
  have hl : lv_has ls 3 [(0, .int a1), (1, .int a2), (2, .int a3)] := hl
  have h := (f_X4_within.eq_1 _ _ _ ).symm.trans h
  refine lv_iload_n hx hb dX4_within_0 rfl (lv_at hl 0 rfl) ?_
  refine lv_iload_n hx hb dX4_within_1 rfl (lv_at hl 1 rfl) ?_
  refine lv_icmp_lt (tgt := 14) hx hb dX4_within_2 (by decide) (fun c2 => ?_) (fun c2 => ?_)
  · have h := k_if c2 h
    refine lv_iconst (v := 0) hx hb dX4_within_14 (by decide) ?_
    exact e_zret C hend hP h rfl dX4_within_15 rfl
  · have h := k_nf c2 h
    refine lv_iload_n hx hb dX4_within_5 rfl (lv_at hl 0 rfl) ?_
    refine lv_iload_n hx hb dX4_within_6 rfl (lv_at hl 2 rfl) ?_
    refine lv_icmp_gt (tgt := 14) hx hb dX4_within_7 (by decide) (fun c7 => ?_) (fun c7 => ?_)
    · have h := k_if c7 h
      refine lv_iconst (v := 0) hx hb dX4_within_14 (by decide) ?_
      exact e_zret C hend hP h rfl dX4_within_15 rfl
    · have h := k_nf c7 h
      refine lv_iconst (v := 1) hx hb dX4_within_10 (by decide) ?_
      refine lv_goto (tgt := 15) hx hb dX4_within_11 (by decide) ?_
      exact e_zret C hend hP h rfl dX4_within_15 rfl
def f_X4_isPlayer (σ : MM) (a1 : Int32) : Bool :=
  (f_X4_within a1 0 ((m_players σ) - 1))
set_option maxHeartbeats 4000000 in
set_option maxRecDepth 100000 in
theorem c_X4_isPlayer (l : Launch) (ev : EV) (ad : Nat → Nat) (σ : MM) (a1 : Int32)   (r : Bool)  (h : f_X4_isPlayer σ a1 = r) : Ct l yX4_isPlayer prog_6_method_5_code 2 (Option.some Jvm.ClassFile.FieldType.boolean) (rmk 1 22) ev 13 ad (mw ev ad σ) (mw ev ad σ) [.ref (ad 0), .int a1] (some (.int (bi r))) := by
  refine Ct.of (by decide +kernel) (Nat.le_of_ble_eq_true rfl) ?_
  intro p e s m args below meth c Qc C hap hP hend ls hl
  have hAA : ∀ j, j < 13 → inA ad 13 (ad j) := fun j hj => ⟨j, hj, rfl⟩
  have hx := C.1
  have hb := C.2.1
  have hl : lv_has ls 2 [(0, .ref (ad 0)), (1, .int a1)] := hl
  have h := (f_X4_isPlayer.eq_1 _ _ ).symm.trans h
  refine lv_iload_n hx hb dX4_isPlayer_0 rfl (lv_at hl 1 rfl) ?_
  refine lv_iconst (v := 0) hx hb dX4_isPlayer_1 (by decide) ?_
  refine lv_aload_n hx hb dX4_isPlayer_2 rfl (lv_at hl 0 rfl) ?_
  refine r_get C hP (ci := 4) rfl uin_X4 7 (by decide) 0 (by decide) rfl qFL_RX4_60 rfl rfl dX4_isPlayer_3 ?_
  refine lv_iconst (v := 1) hx hb dX4_isPlayer_6 (by decide) ?_
  refine lv_isub hx hb dX4_isPlayer_7 ?_
  refine k_callSi C hP hap hAA (c_X4_within l ev ad a1 0 ((m_players σ) - 1)   _ rfl) Emb.none (apart_0 _) gz_X4_within qML_RX4_63 qSM_yX4_within ⟨(Nat.le_of_ble_eq_true rfl), (Nat.le_of_ble_eq_true rfl)⟩ rfl hl.1 rfl (Nat.le_of_ble_eq_true rfl) dX4_isPlayer_8 ⟨Nat.le_refl _, Nat.le_refl _⟩ (fun H locs hP => ?_)
  exact e_zret C hend hP h rfl dX4_isPlayer_11 rfl
def f_X4_isField (σ : MM) (a1 : Int32) : Bool :=
  (f_X4_within a1 0 (((m_w σ) * (m_h σ)) - 1))
set_option maxHeartbeats 4000000 in
set_option maxRecDepth 100000 in
theorem c_X4_isField (l : Launch) (ev : EV) (ad : Nat → Nat) (σ : MM) (a1 : Int32)   (r : Bool)  (h : f_X4_isField σ a1 = r) : Ct l yX4_isField prog_6_method_6_code 2 (Option.some Jvm.ClassFile.FieldType.boolean) (rmk 1 22) ev 13 ad (mw ev ad σ) (mw ev ad σ) [.ref (ad 0), .int a1] (some (.int (bi r))) := by
  refine Ct.of (by decide +kernel) (Nat.le_of_ble_eq_true rfl) ?_
  intro p e s m args below meth c Qc C hap hP hend ls hl
  have hAA : ∀ j, j < 13 → inA ad 13 (ad j) := fun j hj => ⟨j, hj, rfl⟩
  have hx := C.1
  have hb := C.2.1
  have hl : lv_has ls 2 [(0, .ref (ad 0)), (1, .int a1)] := hl
  have h := (f_X4_isField.eq_1 _ _ ).symm.trans h
  refine lv_iload_n hx hb dX4_isField_0 rfl (lv_at hl 1 rfl) ?_
  refine lv_iconst (v := 0) hx hb dX4_isField_1 (by decide) ?_
  refine lv_aload_n hx hb dX4_isField_2 rfl (lv_at hl 0 rfl) ?_
  refine r_get C hP (ci := 4) rfl uin_X4 0 (by decide) 0 (by decide) rfl qFL_RX4_67 rfl rfl dX4_isField_3 ?_
  refine lv_aload_n hx hb dX4_isField_6 rfl (lv_at hl 0 rfl) ?_
  refine r_get C hP (ci := 4) rfl uin_X4 1 (by decide) 0 (by decide) rfl qFL_RX4_70 rfl rfl dX4_isField_7 ?_
  refine lv_imul hx hb dX4_isField_10 ?_
  refine lv_iconst (v := 1) hx hb dX4_isField_11 (by decide) ?_
  refine lv_isub hx hb dX4_isField_12 ?_
  refine k_callSi C hP hap hAA (c_X4_within l ev ad a1 0 (((m_w σ) * (m_h σ)) - 1)   _ rfl) Emb.none (apart_0 _) gz_X4_within qML_RX4_63 qSM_yX4_within ⟨(Nat.le_of_ble_eq_true rfl), (Nat.le_of_ble_eq_true rfl)⟩ rfl hl.1 rfl (Nat.le_of_ble_eq_true rfl) dX4_isField_13 ⟨Nat.le_refl _, Nat.le_refl _⟩ (fun H locs hP => ?_)
  exact e_zret C hend hP h rfl dX4_isField_16 rfl
def f_X4_isShelf (a1 : Int32) : Bool :=
  (f_X4_within a1 0 7)
set_option maxHeartbeats 4000000 in
set_option maxRecDepth 100000 in
theorem c_X4_isShelf (l : Launch) (ev : EV) (ad : Nat → Nat) (a1 : Int32)   (r : Bool)  (h : f_X4_isShelf a1 = r) : Ct l yX4_isShelf prog_6_method_7_code 1 (Option.some Jvm.ClassFile.FieldType.boolean) (rmk 1 22) ev 0 ad w00 w00 [.int a1] (some (.int (bi r))) := by
  refine Ct.of (by decide +kernel) (Nat.le_of_ble_eq_true rfl) ?_
  intro p e s m args below meth c Qc C hap hP hend ls hl
  have hAA : ∀ j, j < 0 → inA ad 0 (ad j) := fun j hj => ⟨j, hj, rfl⟩
  have hx := C.1
  have hb := C.2.1
  have hl : lv_has ls 1 [(0, .int a1)] := hl
  have h := (f_X4_isShelf.eq_1 _ ).symm.trans h
  refine lv_iload_n hx hb dX4_isShelf_0 rfl (lv_at hl 0 rfl) ?_
  refine lv_iconst (v := 0) hx hb dX4_isShelf_1 (by decide) ?_
  refine lv_bipush (v := 7) hx hb dX4_isShelf_2 (by decide) ?_
  refine k_callSi C hP hap hAA (c_X4_within l ev ad a1 0 7   _ rfl) Emb.none (apart_0 _) gz_X4_within qML_RX4_63 qSM_yX4_within ⟨(Nat.le_of_ble_eq_true rfl), (Nat.le_of_ble_eq_true rfl)⟩ rfl hl.1 rfl (Nat.le_of_ble_eq_true rfl) dX4_isShelf_4 ⟨Nat.le_refl _, Nat.le_refl _⟩ (fun H locs hP => ?_)
  exact e_zret C hend hP h rfl dX4_isShelf_7 rfl
def f_X4_isRow (σ : MM) (a1 : Int32) : Option (Bool) :=
  gd (inb a1 8) (some (f_X4_within ((m_holding σ) (Int32.toNatClampNeg a1)) 0 4))
set_option maxHeartbeats 4000000 in
set_option maxRecDepth 100000 in
theorem c_X4_isRow (l : Launch) (ev : EV) (ad : Nat → Nat) (σ : MM) (a1 : Int32)   (r : Bool)  (h : f_X4_isRow σ a1 = some r) : Ct l yX4_isRow prog_6_method_8_code 2 (Option.some Jvm.ClassFile.FieldType.boolean) (rmk 1 22) ev 13 ad (mw ev ad σ) (mw ev ad σ) [.ref (ad 0), .int a1] (some (.int (bi r))) := by
  refine Ct.of (by decide +kernel) (Nat.le_of_ble_eq_true rfl) ?_
  intro p e s m args below meth c Qc C hap hP hend ls hl
  have hAA : ∀ j, j < 13 → inA ad 13 (ad j) := fun j hj => ⟨j, hj, rfl⟩
  have hx := C.1
  have hb := C.2.1
  have hl : lv_has ls 2 [(0, .ref (ad 0)), (1, .int a1)] := hl
  have h := (f_X4_isRow.eq_1 _ _ ).symm.trans h
  refine lv_aload_n hx hb dX4_isRow_0 rfl (lv_at hl 0 rfl) ?_
  refine r_get C hP (ci := 4) rfl uin_X4 17 (by decide) 0 (by decide) rfl qFL_RX4_29 rfl rfl dX4_isRow_1 ?_
  refine lv_iload_n hx hb dX4_isRow_4 rfl (lv_at hl 1 rfl) ?_
  obtain ⟨hg, h⟩ := k_gd h
  refine r_iald C hP 7 (by decide) rfl hg dX4_isRow_5 ?_
  refine lv_iconst (v := 0) hx hb dX4_isRow_6 (by decide) ?_
  refine lv_iconst (v := 4) hx hb dX4_isRow_7 (by decide) ?_
  refine k_callSi C hP hap hAA (c_X4_within l ev ad ((m_holding σ) (Int32.toNatClampNeg a1)) 0 4   _ rfl) Emb.none (apart_0 _) gz_X4_within qML_RX4_63 qSM_yX4_within ⟨(Nat.le_of_ble_eq_true rfl), (Nat.le_of_ble_eq_true rfl)⟩ rfl hl.1 rfl (Nat.le_of_ble_eq_true rfl) dX4_isRow_8 ⟨Nat.le_refl _, Nat.le_refl _⟩ (fun H locs hP => ?_)
  exact e_zret C hend hP (k_some h) rfl dX4_isRow_11 rfl
def f_X4_row_L50_b (a1 : Int32)  (rec50 : Int32 → MM → Option (Int32 × MM)) (x7 : Int32) (σ8 : MM) : Option (Int32 × MM) :=
  if 40 ≤ x7 then some (1, σ8) else gd (inb ((40 * a1) + x7) 320) (lt (m_rowOf' σ8 (vp_updL (m_rowOf σ8) (Int32.toNatClampNeg ((40 * a1) + x7)) 0)) (fun σ9 => lt (x7 + 1) (fun x10 => rec50 x10 σ9)))
def f_X4_row_L50 (a1 : Int32)  (x7 : Int32) (σ8 : MM) : Option (Int32 × MM) :=
  lp (fun _ _ => none) (f_X4_row_L50_b a1 ) FU x7 σ8
def f_X4_row (σ : MM) (a1 : Int32) (a2 : Int32) (a3 : Int32) : Option (Int32 × MM) :=
  if (f_X4_isShelf a1) = true then if (f_X4_within a2 0 4) = true then if (f_X4_within a3 0 40) = true then gd (inb a1 8) (lt (m_holding' σ (upd (m_holding σ) (Int32.toNatClampNeg a1) a2)) (fun σ5 => gd (inb a1 8) (lt (m_rowLength' σ5 (upd (m_rowLength σ5) (Int32.toNatClampNeg a1) a3)) (fun σ6 => f_X4_row_L50 a1 0 σ6)))) else ob2 (f_X4_no σ (-2)) (fun x12 σ11 => some (x12, σ11)) else ob2 (f_X4_no σ (-2)) (fun x4 σ3 => some (x4, σ3)) else ob2 (f_X4_no σ (-2)) (fun x2 σ1 => some (x2, σ1))
set_option maxHeartbeats 4000000 in
set_option maxRecDepth 100000 in
theorem c_X4_row (l : Launch) (ev : EV) (ad : Nat → Nat) (σ : MM) (a1 : Int32) (a2 : Int32) (a3 : Int32)   (r : Int32) (σ' : MM) (h : f_X4_row σ a1 a2 a3 = some (r, σ')) : Ct l yX4_row prog_6_method_9_code 5 (Option.some Jvm.ClassFile.FieldType.int) (rmk 2 42) ev 13 ad (mw ev ad σ) (mw ev ad σ') [.ref (ad 0), .int a1, .int a2, .int a3] (some (.int r)) := by
  refine Ct.of (by decide +kernel) (Nat.le_of_ble_eq_true rfl) ?_
  intro p e s m args below meth c Qc C hap hP hend ls hl
  have hAA : ∀ j, j < 13 → inA ad 13 (ad j) := fun j hj => ⟨j, hj, rfl⟩
  have hx := C.1
  have hb := C.2.1
  have hl : lv_has ls 5 [(0, .ref (ad 0)), (1, .int a1), (2, .int a2), (3, .int a3)] := hl
  have h := (f_X4_row.eq_1 _ _ _ _ ).symm.trans h
  refine lv_iload_n hx hb dX4_row_0 rfl (lv_at hl 1 rfl) ?_
  refine k_callSi C hP hap hAA (c_X4_isShelf l ev ad a1   _ rfl) Emb.none (apart_0 _) gz_X4_isShelf qML_RX4_73 qSM_yX4_isShelf ⟨(Nat.le_of_ble_eq_true rfl), (Nat.le_of_ble_eq_true rfl)⟩ rfl hl.1 rfl (Nat.le_of_ble_eq_true rfl) dX4_row_1 ⟨Nat.le_refl _, Nat.le_refl _⟩ (fun H locs hP => ?_)
  refine r_ifz_eq (tgt := 26) hx hb dX4_row_4 (by decide) (fun c4 => ?_) (fun c4 => ?_)
  · have h := k_nf c4 h
    refine lv_aload_n hx hb dX4_row_26 rfl (lv_at hl 0 rfl) ?_
    refine lv_bipush (v := (-2)) hx hb dX4_row_27 (by decide) ?_
    obtain ⟨x2, σ1, h1, h⟩ := k_ob2 h
    refine k_callVi C hP hap hAA (c_X4_no l ev ad σ (-2)   _ _ h1) Emb.same hap gz_X4_no qML_RX4_56 qIM_yX4_no qSE_yX4_no ⟨(Nat.le_of_ble_eq_true rfl), (Nat.le_of_ble_eq_true rfl)⟩ (q0 := 0) rfl (by decide) rfl rfl rfl rfl hl.1 rfl (Nat.le_of_ble_eq_true rfl) dX4_row_29 ⟨Nat.le_refl _, Nat.le_refl _⟩ (fun H locs hP => ?_)
    exact e_iret C hend hP (k_some2 h).1 (congrArg (mw ev ad) (k_some2 h).2) dX4_row_32
  · have h := k_if c4 h
    refine lv_iload_n hx hb dX4_row_7 rfl (lv_at hl 2 rfl) ?_
    refine lv_iconst (v := 0) hx hb dX4_row_8 (by decide) ?_
    refine lv_iconst (v := 4) hx hb dX4_row_9 (by decide) ?_
    refine k_callSi C hP hap hAA (c_X4_within l ev ad a2 0 4   _ rfl) Emb.none (apart_0 _) gz_X4_within qML_RX4_63 qSM_yX4_within ⟨(Nat.le_of_ble_eq_true rfl), (Nat.le_of_ble_eq_true rfl)⟩ rfl hl.1 rfl (Nat.le_of_ble_eq_true rfl) dX4_row_10 ⟨Nat.le_refl _, Nat.le_refl _⟩ (fun H locs hP => ?_)
    refine r_ifz_eq (tgt := 26) hx hb dX4_row_13 (by decide) (fun c13 => ?_) (fun c13 => ?_)
    · have h := k_nf c13 h
      refine lv_aload_n hx hb dX4_row_26 rfl (lv_at hl 0 rfl) ?_
      refine lv_bipush (v := (-2)) hx hb dX4_row_27 (by decide) ?_
      obtain ⟨x4, σ3, h1, h⟩ := k_ob2 h
      refine k_callVi C hP hap hAA (c_X4_no l ev ad σ (-2)   _ _ h1) Emb.same hap gz_X4_no qML_RX4_56 qIM_yX4_no qSE_yX4_no ⟨(Nat.le_of_ble_eq_true rfl), (Nat.le_of_ble_eq_true rfl)⟩ (q0 := 0) rfl (by decide) rfl rfl rfl rfl hl.1 rfl (Nat.le_of_ble_eq_true rfl) dX4_row_29 ⟨Nat.le_refl _, Nat.le_refl _⟩ (fun H locs hP => ?_)
      exact e_iret C hend hP (k_some2 h).1 (congrArg (mw ev ad) (k_some2 h).2) dX4_row_32
    · have h := k_if c13 h
      refine lv_iload_n hx hb dX4_row_16 rfl (lv_at hl 3 rfl) ?_
      refine lv_iconst (v := 0) hx hb dX4_row_17 (by decide) ?_
      refine lv_bipush (v := 40) hx hb dX4_row_18 (by decide) ?_
      refine k_callSi C hP hap hAA (c_X4_within l ev ad a3 0 40   _ rfl) Emb.none (apart_0 _) gz_X4_within qML_RX4_63 qSM_yX4_within ⟨(Nat.le_of_ble_eq_true rfl), (Nat.le_of_ble_eq_true rfl)⟩ rfl hl.1 rfl (Nat.le_of_ble_eq_true rfl) dX4_row_20 ⟨Nat.le_refl _, Nat.le_refl _⟩ (fun H locs hP => ?_)
      refine r_ifz_ne (tgt := 33) hx hb dX4_row_23 (by decide) (fun c23 => ?_) (fun c23 => ?_)
      · have h := k_if c23 h
        refine lv_aload_n hx hb dX4_row_33 rfl (lv_at hl 0 rfl) ?_
        refine r_get C hP (ci := 4) rfl uin_X4 17 (by decide) 0 (by decide) rfl qFL_RX4_29 rfl rfl dX4_row_34 ?_
        refine lv_iload_n hx hb dX4_row_37 rfl (lv_at hl 1 rfl) ?_
        refine lv_iload_n hx hb dX4_row_38 rfl (lv_at hl 2 rfl) ?_
        obtain ⟨hg, h⟩ := k_gd h
        obtain ⟨σ5, eσ5, h⟩ := k_ltx h
        refine st_M_holding C hP hap hAA eσ5 hg dX4_row_39 (fun H locs hP => ?_)
        refine lv_aload_n hx hb dX4_row_40 rfl (lv_at hl 0 rfl) ?_
        refine r_get C hP (ci := 4) rfl uin_X4 18 (by decide) 0 (by decide) rfl qFL_RX4_32 rfl rfl dX4_row_41 ?_
        refine lv_iload_n hx hb dX4_row_44 rfl (lv_at hl 1 rfl) ?_
        refine lv_iload_n hx hb dX4_row_45 rfl (lv_at hl 3 rfl) ?_
        obtain ⟨hg, h⟩ := k_gd h
        obtain ⟨σ6, eσ6, h⟩ := k_ltx h
        refine st_M_rowLength C hP hap hAA eσ6 hg dX4_row_46 (fun H locs hP => ?_)
        refine lv_iconst (v := 0) hx hb dX4_row_47 (by decide) ?_
        refine lv_istore (lv' := [(4, .int 0), (0, .ref (ad 0)), (1, .int a1), (2, .int a2), (3, .int a3)]) hx hb dX4_row_48 hl (by decide) rfl (fun ls hl => ?_)
        have hL50 : ∀ (n : Nat) (x7 : Int32) (σ8 : MM) (H : Heap) (locs : List Loc) (ls : Array Slot), lp (fun _ _ => none) (f_X4_row_L50_b a1 ) n x7 σ8 = some (r, σ') → PS ev 13 ad (mw ev ad σ8) (inA ad 13) s H locs → lv_has ls 5 [(0, .ref (ad 0)), (1, .int a1), (4, .int x7)] → WW ev p l e (rmk 2 42) s m args below meth c Qc ad 13 H locs 50 ls [] := by
          intro n
          induction n with
          | zero =>
            intro x7 σ8 H locs ls h; exact k_none h
          | succ n ih =>
            intro x7 σ8 H locs ls h hP hl
            have h : f_X4_row_L50_b a1  (lp (fun _ _ => none) (f_X4_row_L50_b a1 ) n) x7 σ8 = some (r, σ') := h
            have h := (f_X4_row_L50_b.eq_1 _ _ _ _ ).symm.trans h
            refine lv_iload hx hb dX4_row_50 (lv_at hl 2 rfl) ?_
            refine lv_bipush (v := 40) hx hb dX4_row_52 (by decide) ?_
            refine lv_icmp_ge (tgt := 76) hx hb dX4_row_54 (by decide) (fun c54 => ?_) (fun c54 => ?_)
            · have h := k_if c54 h
              refine lv_iconst (v := 1) hx hb dX4_row_76 (by decide) ?_
              exact e_iret C hend hP (k_some2 h).1 (congrArg (mw ev ad) (k_some2 h).2) dX4_row_77
            · have h := k_nf c54 h
              refine lv_aload_n hx hb dX4_row_57 rfl (lv_at hl 0 rfl) ?_
              refine r_get C hP (ci := 4) rfl uin_X4 19 (by decide) 0 (by decide) rfl qFL_RX4_35 rfl rfl dX4_row_58 ?_
              refine lv_bipush (v := 40) hx hb dX4_row_61 (by decide) ?_
              refine lv_iload_n hx hb dX4_row_63 rfl (lv_at hl 1 rfl) ?_
              refine lv_imul hx hb dX4_row_64 ?_
              refine lv_iload hx hb dX4_row_65 (lv_at hl 2 rfl) ?_
              refine lv_iadd hx hb dX4_row_67 ?_
              refine lv_lconst (v := 0) hx hb dX4_row_68 (by decide) ?_
              obtain ⟨hg, h⟩ := k_gd h
              obtain ⟨σ9, eσ9, h⟩ := k_ltx h
              refine st_M_rowOf C hP hap hAA eσ9 hg dX4_row_69 (fun H locs hP => ?_)
              obtain ⟨x10, ex10, h⟩ := k_ltx h
              refine lv_iinc (v := x10) (lv' := [(4, .int x10), (0, .ref (ad 0)), (1, .int a1)]) hx hb dX4_row_70 hl (k := 2) rfl (by rw [ex10]; rfl) (by decide) rfl (fun ls hl => ?_)
              refine lv_goto (tgt := 50) hx hb dX4_row_73 (by decide) ?_
              exact ih _ _ _ _ _ h hP (lv_sub hl [1, 2, 0] rfl)
        exact hL50 FU _ _ _ _ _ h hP (lv_sub hl [1, 2, 0] rfl)
      · have h := k_nf c23 h
        refine lv_aload_n hx hb dX4_row_26 rfl (lv_at hl 0 rfl) ?_
        refine lv_bipush (v := (-2)) hx hb dX4_row_27 (by decide) ?_
        obtain ⟨x12, σ11, h1, h⟩ := k_ob2 h
        refine k_callVi C hP hap hAA (c_X4_no l ev ad σ (-2)   _ _ h1) Emb.same hap gz_X4_no qML_RX4_56 qIM_yX4_no qSE_yX4_no ⟨(Nat.le_of_ble_eq_true rfl), (Nat.le_of_ble_eq_true rfl)⟩ (q0 := 0) rfl (by decide) rfl rfl rfl rfl hl.1 rfl (Nat.le_of_ble_eq_true rfl) dX4_row_29 ⟨Nat.le_refl _, Nat.le_refl _⟩ (fun H locs hP => ?_)
        exact e_iret C hend hP (k_some2 h).1 (congrArg (mw ev ad) (k_some2 h).2) dX4_row_32
def f_X4_noRow (σ : MM) (a1 : Int32) : Option (Int32) :=
  gd (inb a1 8) (if ((m_holding σ) (Int32.toNatClampNeg a1)) < 10 then gd (inb a1 8) (if 0 ≤ ((m_holding σ) (Int32.toNatClampNeg a1)) then some 0 else some (-4)) else some (-3))
set_option maxHeartbeats 4000000 in
set_option maxRecDepth 100000 in
theorem c_X4_noRow (l : Launch) (ev : EV) (ad : Nat → Nat) (σ : MM) (a1 : Int32)   (r : Int32)  (h : f_X4_noRow σ a1 = some r) : Ct l yX4_noRow prog_6_method_10_code 2 (Option.some Jvm.ClassFile.FieldType.int) (rmk 0 0) ev 13 ad (mw ev ad σ) (mw ev ad σ) [.ref (ad 0), .int a1] (some (.int r)) := by
  refine Ct.of (by decide +kernel) (Nat.le_of_ble_eq_true rfl) ?_
  intro p e s m args below meth c Qc C hap hP hend ls hl
  have hAA : ∀ j, j < 13 → inA ad 13 (ad j) := fun j hj => ⟨j, hj, rfl⟩
  have hx := C.1
  have hb := C.2.1
  have hl : lv_has ls 2 [(0, .ref (ad 0)), (1, .int a1)] := hl
  have h := (f_X4_noRow.eq_1 _ _ ).symm.trans h
  refine lv_aload_n hx hb dX4_noRow_0 rfl (lv_at hl 0 rfl) ?_
  refine r_get C hP (ci := 4) rfl uin_X4 17 (by decide) 0 (by decide) rfl qFL_RX4_29 rfl rfl dX4_noRow_1 ?_
  refine lv_iload_n hx hb dX4_noRow_4 rfl (lv_at hl 1 rfl) ?_
  obtain ⟨hg, h⟩ := k_gd h
  refine r_iald C hP 7 (by decide) rfl hg dX4_noRow_5 ?_
  refine lv_bipush (v := 10) hx hb dX4_noRow_6 (by decide) ?_
  refine lv_icmp_lt (tgt := 16) hx hb dX4_noRow_8 (by decide) (fun c8 => ?_) (fun c8 => ?_)
  · have h := k_if c8 h
    refine lv_aload_n hx hb dX4_noRow_16 rfl (lv_at hl 0 rfl) ?_
    refine r_get C hP (ci := 4) rfl uin_X4 17 (by decide) 0 (by decide) rfl qFL_RX4_29 rfl rfl dX4_noRow_17 ?_
    refine lv_iload_n hx hb dX4_noRow_20 rfl (lv_at hl 1 rfl) ?_
    obtain ⟨hg, h⟩ := k_gd h
    refine r_iald C hP 7 (by decide) rfl hg dX4_noRow_21 ?_
    refine lv_if_ge (tgt := 30) hx hb dX4_noRow_22 (by decide) (fun c22 => ?_) (fun c22 => ?_)
    · have h := k_if c22 h
      refine lv_iconst (v := 0) hx hb dX4_noRow_30 (by decide) ?_
      exact e_iret C hend hP (k_some h) rfl dX4_noRow_31
    · have h := k_nf c22 h
      refine lv_bipush (v := (-4)) hx hb dX4_noRow_25 (by decide) ?_
      refine lv_goto (tgt := 31) hx hb dX4_noRow_27 (by decide) ?_
      exact e_iret C hend hP (k_some h) rfl dX4_noRow_31
  · have h := k_nf c8 h
    refine lv_bipush (v := (-3)) hx hb dX4_noRow_11 (by decide) ?_
    refine lv_goto (tgt := 31) hx hb dX4_noRow_13 (by decide) ?_
    exact e_iret C hend hP (k_some h) rfl dX4_noRow_31
def f_X4_kept (a1 : Int32) (a2 : Int64) : Int64 :=
  if a1 = 0 then (Int32.toInt64 ((Int32.toInt8 (Int64.toInt32 a2)).toInt32)) else if a1 = 1 then (Int32.toInt64 ((Int32.toInt16 (Int64.toInt32 a2)).toInt32)) else if a1 = 2 then (Int32.toInt64 (Int64.toInt32 a2)) else if a1 = 3 then a2 else if (lg_cmp a2 0) = 0 then 0 else 1
set_option maxHeartbeats 4000000 in
set_option maxRecDepth 100000 in
theorem c_X4_kept (l : Launch) (ev : EV) (ad : Nat → Nat) (a1 : Int32) (a2 : Int64)   (r : Int64)  (h : f_X4_kept a1 a2 = r) : Ct l yX4_kept prog_6_method_11_code 3 (Option.some Jvm.ClassFile.FieldType.long) (rmk 0 0) ev 0 ad w00 w00 [.int a1, .long a2] (some (.long r)) := by
  refine Ct.of (by decide +kernel) (Nat.le_of_ble_eq_true rfl) ?_
  intro p e s m args below meth c Qc C hap hP hend ls hl
  have hAA : ∀ j, j < 0 → inA ad 0 (ad j) := fun j hj => ⟨j, hj, rfl⟩
  have hx := C.1
  have hb := C.2.1
  have hl : lv_has ls 3 [(0, .int a1), (1, .long a2)] := hl
  have h := (f_X4_kept.eq_1 _ _ ).symm.trans h
  refine lv_iload_n hx hb dX4_kept_0 rfl (lv_at hl 0 rfl) ?_
  by_cases cs0 : a1 = 0
  · have h := k_if cs0 h
    refine r_tabIn (tgt := 32) (off := 31) (i := 0) hx hb dX4_kept_1 cs0 (by decide) (by decide) (by decide) (by decide) ?_
    refine lv_lload_n hx hb dX4_kept_32 rfl (lv_at hl 1 rfl) ?_
    refine lv_l2i hx hb dX4_kept_33 rfl ?_
    refine lv_i2b hx hb dX4_kept_34 rfl ?_
    refine lv_i2l hx hb dX4_kept_35 rfl ?_
    exact e_lret C hend hP h rfl dX4_kept_36
  · have h := k_nf cs0 h
    by_cases cs1 : a1 = 1
    · have h := k_if cs1 h
      refine r_tabIn (tgt := 37) (off := 36) (i := 1) hx hb dX4_kept_1 cs1 (by decide) (by decide) (by decide) (by decide) ?_
      refine lv_lload_n hx hb dX4_kept_37 rfl (lv_at hl 1 rfl) ?_
      refine lv_l2i hx hb dX4_kept_38 rfl ?_
      refine lv_i2s hx hb dX4_kept_39 rfl ?_
      refine lv_i2l hx hb dX4_kept_40 rfl ?_
      exact e_lret C hend hP h rfl dX4_kept_41
    · have h := k_nf cs1 h
      by_cases cs2 : a1 = 2
      · have h := k_if cs2 h
        refine r_tabIn (tgt := 42) (off := 41) (i := 2) hx hb dX4_kept_1 cs2 (by decide) (by decide) (by decide) (by decide) ?_
        refine lv_lload_n hx hb dX4_kept_42 rfl (lv_at hl 1 rfl) ?_
        refine lv_l2i hx hb dX4_kept_43 rfl ?_
        refine lv_i2l hx hb dX4_kept_44 rfl ?_
        exact e_lret C hend hP h rfl dX4_kept_45
      · have h := k_nf cs2 h
        by_cases cs3 : a1 = 3
        · have h := k_if cs3 h
          refine r_tabIn (tgt := 46) (off := 45) (i := 3) hx hb dX4_kept_1 cs3 (by decide) (by decide) (by decide) (by decide) ?_
          refine lv_lload_n hx hb dX4_kept_46 rfl (lv_at hl 1 rfl) ?_
          exact e_lret C hend hP h rfl dX4_kept_47
        · have h := k_nf cs3 h
          refine r_tabOut (tgt := 48) hx hb dX4_kept_1 (fun i h1 h2 => by
            have h3 : i = 0 ∨ i = 1 ∨ i = 2 ∨ i = 3 := by omega
            rcases h3 with rfl | rfl | rfl | rfl
            · exact cs0
            · exact cs1
            · exact cs2
            · exact cs3
            ) (by decide) ?_
          refine lv_lload_n hx hb dX4_kept_48 rfl (lv_at hl 1 rfl) ?_
          refine lv_lconst (v := 0) hx hb dX4_kept_49 (by decide) ?_
          refine W.lcmp hx hb dX4_kept_50 ?_
          refine lv_if_eq (tgt := 58) hx hb dX4_kept_51 (by decide) (fun c51 => ?_) (fun c51 => ?_)
          · have h := k_if c51 h
            refine lv_lconst (v := 0) hx hb dX4_kept_58 (by decide) ?_
            exact e_lret C hend hP h rfl dX4_kept_59
          · have h := k_nf c51 h
            refine lv_lconst (v := 1) hx hb dX4_kept_54 (by decide) ?_
            refine lv_goto (tgt := 59) hx hb dX4_kept_55 (by decide) ?_
            exact e_lret C hend hP h rfl dX4_kept_59
def f_X4_set (σ : MM) (a1 : Int32) (a2 : Int32) (a3 : Int64) : Option (Int32 × MM) :=
  if (f_X4_isShelf a1) = true then ob (f_X4_isRow σ a1) (fun b1 => if b1 = true then gd (inb a1 8) (if (f_X4_within a2 0 (((m_rowLength σ) (Int32.toNatClampNeg a1)) - 1)) = true then gd (inb a1 8) (gd (inb ((40 * a1) + a2) 320) (lt (m_rowOf' σ (vp_updL (m_rowOf σ) (Int32.toNatClampNeg ((40 * a1) + a2)) (f_X4_kept ((m_holding σ) (Int32.toNatClampNeg a1)) a3))) (fun σ2 => some (1, σ2)))) else ob2 (f_X4_no σ (-2)) (fun x4 σ3 => some (x4, σ3))) else ob (f_X4_noRow σ a1) (fun x5 => ob2 (f_X4_no σ x5) (fun x7 σ6 => some (x7, σ6)))) else ob2 (f_X4_no σ (-2)) (fun x9 σ8 => some (x9, σ8))
set_option maxHeartbeats 4000000 in
set_option maxRecDepth 100000 in
theorem c_X4_set (l : Launch) (ev : EV) (ad : Nat → Nat) (σ : MM) (a1 : Int32) (a2 : Int32) (a3 : Int64)   (r : Int32) (σ' : MM) (h : f_X4_set σ a1 a2 a3 = some (r, σ')) : Ct l yX4_set prog_6_method_12_code 5 (Option.some Jvm.ClassFile.FieldType.int) (rmk 2 43) ev 13 ad (mw ev ad σ) (mw ev ad σ') [.ref (ad 0), .int a1, .int a2, .long a3] (some (.int r)) := by
  refine Ct.of (by decide +kernel) (Nat.le_of_ble_eq_true rfl) ?_
  intro p e s m args below meth c Qc C hap hP hend ls hl
  have hAA : ∀ j, j < 13 → inA ad 13 (ad j) := fun j hj => ⟨j, hj, rfl⟩
  have hx := C.1
  have hb := C.2.1
  have hl : lv_has ls 5 [(0, .ref (ad 0)), (1, .int a1), (2, .int a2), (3, .long a3)] := hl
  have h := (f_X4_set.eq_1 _ _ _ _ ).symm.trans h
  refine lv_iload_n hx hb dX4_set_0 rfl (lv_at hl 1 rfl) ?_
  refine k_callSi C hP hap hAA (c_X4_isShelf l ev ad a1   _ rfl) Emb.none (apart_0 _) gz_X4_isShelf qML_RX4_73 qSM_yX4_isShelf ⟨(Nat.le_of_ble_eq_true rfl), (Nat.le_of_ble_eq_true rfl)⟩ rfl hl.1 rfl (Nat.le_of_ble_eq_true rfl) dX4_set_1 ⟨Nat.le_refl _, Nat.le_refl _⟩ (fun H locs hP => ?_)
  refine r_ifz_ne (tgt := 14) hx hb dX4_set_4 (by decide) (fun c4 => ?_) (fun c4 => ?_)
  · have h := k_if c4 h
    refine lv_aload_n hx hb dX4_set_14 rfl (lv_at hl 0 rfl) ?_
    refine lv_iload_n hx hb dX4_set_15 rfl (lv_at hl 1 rfl) ?_
    obtain ⟨b1, h1, h⟩ := k_ob h
    refine k_callVi C hP hap hAA (c_X4_isRow l ev ad σ a1   _ h1) Emb.same hap gz_X4_isRow qML_RX4_77 qIM_yX4_isRow qSE_yX4_isRow ⟨(Nat.le_of_ble_eq_true rfl), (Nat.le_of_ble_eq_true rfl)⟩ (q0 := 0) rfl (by decide) rfl rfl rfl rfl hl.1 rfl (Nat.le_of_ble_eq_true rfl) dX4_set_16 ⟨Nat.le_refl _, Nat.le_refl _⟩ (fun H locs hP => ?_)
    refine r_ifz_ne (tgt := 32) hx hb dX4_set_19 (by decide) (fun c19 => ?_) (fun c19 => ?_)
    · have h := k_if c19 h
      refine lv_iload_n hx hb dX4_set_32 rfl (lv_at hl 2 rfl) ?_
      refine lv_iconst (v := 0) hx hb dX4_set_33 (by decide) ?_
      refine lv_aload_n hx hb dX4_set_34 rfl (lv_at hl 0 rfl) ?_
      refine r_get C hP (ci := 4) rfl uin_X4 18 (by decide) 0 (by decide) rfl qFL_RX4_32 rfl rfl dX4_set_35 ?_
      refine lv_iload_n hx hb dX4_set_38 rfl (lv_at hl 1 rfl) ?_
      obtain ⟨hg, h⟩ := k_gd h
      refine r_iald C hP 8 (by decide) rfl hg dX4_set_39 ?_
      refine lv_iconst (v := 1) hx hb dX4_set_40 (by decide) ?_
      refine lv_isub hx hb dX4_set_41 ?_
      refine k_callSi C hP hap hAA (c_X4_within l ev ad a2 0 (((m_rowLength σ) (Int32.toNatClampNeg a1)) - 1)   _ rfl) Emb.none (apart_0 _) gz_X4_within qML_RX4_63 qSM_yX4_within ⟨(Nat.le_of_ble_eq_true rfl), (Nat.le_of_ble_eq_true rfl)⟩ rfl hl.1 rfl (Nat.le_of_ble_eq_true rfl) dX4_set_42 ⟨Nat.le_refl _, Nat.le_refl _⟩ (fun H locs hP => ?_)
      refine r_ifz_ne (tgt := 55) hx hb dX4_set_45 (by decide) (fun c45 => ?_) (fun c45 => ?_)
      · have h := k_if c45 h
        refine lv_aload_n hx hb dX4_set_55 rfl (lv_at hl 0 rfl) ?_
        refine r_get C hP (ci := 4) rfl uin_X4 19 (by decide) 0 (by decide) rfl qFL_RX4_35 rfl rfl dX4_set_56 ?_
        refine lv_bipush (v := 40) hx hb dX4_set_59 (by decide) ?_
        refine lv_iload_n hx hb dX4_set_61 rfl (lv_at hl 1 rfl) ?_
        refine lv_imul hx hb dX4_set_62 ?_
        refine lv_iload_n hx hb dX4_set_63 rfl (lv_at hl 2 rfl) ?_
        refine lv_iadd hx hb dX4_set_64 ?_
        refine lv_aload_n hx hb dX4_set_65 rfl (lv_at hl 0 rfl) ?_
        refine r_get C hP (ci := 4) rfl uin_X4 17 (by decide) 0 (by decide) rfl qFL_RX4_29 rfl rfl dX4_set_66 ?_
        refine lv_iload_n hx hb dX4_set_69 rfl (lv_at hl 1 rfl) ?_
        obtain ⟨hg, h⟩ := k_gd h
        refine r_iald C hP 7 (by decide) rfl hg dX4_set_70 ?_
        refine lv_lload_n hx hb dX4_set_71 rfl (lv_at hl 3 rfl) ?_
        refine k_callSl C hP hap hAA (c_X4_kept l ev ad ((m_holding σ) (Int32.toNatClampNeg a1)) a3   _ rfl) Emb.none (apart_0 _) gz_X4_kept qML_RX4_83 qSM_yX4_kept ⟨(Nat.le_of_ble_eq_true rfl), (Nat.le_of_ble_eq_true rfl)⟩ rfl hl.1 rfl (Nat.le_of_ble_eq_true rfl) dX4_set_72 ⟨Nat.le_refl _, Nat.le_refl _⟩ (fun H locs hP => ?_)
        obtain ⟨hg, h⟩ := k_gd h
        obtain ⟨σ2, eσ2, h⟩ := k_ltx h
        refine st_M_rowOf C hP hap hAA eσ2 hg dX4_set_75 (fun H locs hP => ?_)
        refine lv_iconst (v := 1) hx hb dX4_set_76 (by decide) ?_
        exact e_iret C hend hP (k_some2 h).1 (congrArg (mw ev ad) (k_some2 h).2) dX4_set_77
      · have h := k_nf c45 h
        refine lv_aload_n hx hb dX4_set_48 rfl (lv_at hl 0 rfl) ?_
        refine lv_bipush (v := (-2)) hx hb dX4_set_49 (by decide) ?_
        obtain ⟨x4, σ3, h1, h⟩ := k_ob2 h
        refine k_callVi C hP hap hAA (c_X4_no l ev ad σ (-2)   _ _ h1) Emb.same hap gz_X4_no qML_RX4_56 qIM_yX4_no qSE_yX4_no ⟨(Nat.le_of_ble_eq_true rfl), (Nat.le_of_ble_eq_true rfl)⟩ (q0 := 0) rfl (by decide) rfl rfl rfl rfl hl.1 rfl (Nat.le_of_ble_eq_true rfl) dX4_set_51 ⟨Nat.le_refl _, Nat.le_refl _⟩ (fun H locs hP => ?_)
        exact e_iret C hend hP (k_some2 h).1 (congrArg (mw ev ad) (k_some2 h).2) dX4_set_54
    · have h := k_nf c19 h
      refine lv_aload_n hx hb dX4_set_22 rfl (lv_at hl 0 rfl) ?_
      refine lv_aload_n hx hb dX4_set_23 rfl (lv_at hl 0 rfl) ?_
      refine lv_iload_n hx hb dX4_set_24 rfl (lv_at hl 1 rfl) ?_
      obtain ⟨x5, h1, h⟩ := k_ob h
      refine k_callVi C hP hap hAA (c_X4_noRow l ev ad σ a1   _ h1) Emb.same hap gz_X4_noRow qML_RX4_80 qIM_yX4_noRow qSE_yX4_noRow ⟨(Nat.le_of_ble_eq_true rfl), (Nat.le_of_ble_eq_true rfl)⟩ (q0 := 0) rfl (by decide) rfl rfl rfl rfl hl.1 rfl (Nat.le_of_ble_eq_true rfl) dX4_set_25 ⟨Nat.le_refl _, Nat.le_refl _⟩ (fun H locs hP => ?_)
      obtain ⟨x7, σ6, h1, h⟩ := k_ob2 h
      refine k_callVi C hP hap hAA (c_X4_no l ev ad σ x5   _ _ h1) Emb.same hap gz_X4_no qML_RX4_56 qIM_yX4_no qSE_yX4_no ⟨(Nat.le_of_ble_eq_true rfl), (Nat.le_of_ble_eq_true rfl)⟩ (q0 := 0) rfl (by decide) rfl rfl rfl rfl hl.1 rfl (Nat.le_of_ble_eq_true rfl) dX4_set_28 ⟨Nat.le_refl _, Nat.le_refl _⟩ (fun H locs hP => ?_)
      exact e_iret C hend hP (k_some2 h).1 (congrArg (mw ev ad) (k_some2 h).2) dX4_set_31
  · have h := k_nf c4 h
    refine lv_aload_n hx hb dX4_set_7 rfl (lv_at hl 0 rfl) ?_
    refine lv_bipush (v := (-2)) hx hb dX4_set_8 (by decide) ?_
    obtain ⟨x9, σ8, h1, h⟩ := k_ob2 h
    refine k_callVi C hP hap hAA (c_X4_no l ev ad σ (-2)   _ _ h1) Emb.same hap gz_X4_no qML_RX4_56 qIM_yX4_no qSE_yX4_no ⟨(Nat.le_of_ble_eq_true rfl), (Nat.le_of_ble_eq_true rfl)⟩ (q0 := 0) rfl (by decide) rfl rfl rfl rfl hl.1 rfl (Nat.le_of_ble_eq_true rfl) dX4_set_10 ⟨Nat.le_refl _, Nat.le_refl _⟩ (fun H locs hP => ?_)
    exact e_iret C hend hP (k_some2 h).1 (congrArg (mw ev ad) (k_some2 h).2) dX4_set_13
def f_X4_copy_L225_b (a1 : Int32) (a2 : Int32) (a3 : Int32) (a4 : Int32) (a5 : Int32)  (rec225 : Int32 → MM → Option (Int32 × MM)) (x20 : Int32) (σ21 : MM) : Option (Int32 × MM) :=
  if a5 ≤ x20 then some (a5, σ21) else gd (inb (((40 * a1) + a3) + x20) 320) (gd (inb (((40 * a2) + a4) + x20) 320) (lt (m_rowOf' σ21 (vp_updL (m_rowOf σ21) (Int32.toNatClampNeg (((40 * a2) + a4) + x20)) ((m_rowOf σ21) (Int32.toNatClampNeg (((40 * a1) + a3) + x20))))) (fun σ22 => lt (x20 + 1) (fun x23 => rec225 x23 σ22))))
def f_X4_copy_L225 (a1 : Int32) (a2 : Int32) (a3 : Int32) (a4 : Int32) (a5 : Int32)  (x20 : Int32) (σ21 : MM) : Option (Int32 × MM) :=
  lp (fun _ _ => none) (f_X4_copy_L225_b a1 a2 a3 a4 a5 ) FU x20 σ21
def f_X4_copy_b222 (a1 : Int32) (a2 : Int32) (a3 : Int32) (a4 : Int32) (a5 : Int32) (σ19 : MM) : Option (Int32 × MM) :=
  f_X4_copy_L225 a1 a2 a3 a4 a5 0 σ19
def f_X4_copy_L179_b (a1 : Int32) (a2 : Int32) (a3 : Int32) (a4 : Int32) (a5 : Int32)  (rec179 : Int32 → MM → Option (Int32 × MM)) (x25 : Int32) (σ26 : MM) : Option (Int32 × MM) :=
  if x25 < 0 then some (a5, σ26) else gd (inb (((40 * a1) + a3) + x25) 320) (gd (inb (((40 * a2) + a4) + x25) 320) (lt (m_rowOf' σ26 (vp_updL (m_rowOf σ26) (Int32.toNatClampNeg (((40 * a2) + a4) + x25)) ((m_rowOf σ26) (Int32.toNatClampNeg (((40 * a1) + a3) + x25))))) (fun σ27 => lt (x25 + (-1)) (fun x28 => rec179 x28 σ27))))
def f_X4_copy_L179 (a1 : Int32) (a2 : Int32) (a3 : Int32) (a4 : Int32) (a5 : Int32)  (x25 : Int32) (σ26 : MM) : Option (Int32 × MM) :=
  lp (fun _ _ => none) (f_X4_copy_L179_b a1 a2 a3 a4 a5 ) FU x25 σ26
def f_X4_copy_b81 (a1 : Int32) (a2 : Int32) (a3 : Int32) (a4 : Int32) (a5 : Int32) (σ8 : MM) : Option (Int32 × MM) :=
  gd (inb a1 8) (if ((m_holding σ8) (Int32.toNatClampNeg a1)) < 0 then ob2 (f_X4_no σ8 (-4)) (fun x10 σ9 => some (x10, σ9)) else gd (inb a2 8) (if 0 ≤ ((m_holding σ8) (Int32.toNatClampNeg a2)) then if a5 < 0 then ob2 (f_X4_no σ8 (-2)) (fun x12 σ11 => some (x12, σ11)) else if a3 < 0 then ob2 (f_X4_no σ8 (-2)) (fun x14 σ13 => some (x14, σ13)) else if a4 < 0 then ob2 (f_X4_no σ8 (-2)) (fun x16 σ15 => some (x16, σ15)) else gd (inb a1 8) (if 0 < (lg_cmp ((Int32.toInt64 a3) + (Int32.toInt64 a5)) (Int32.toInt64 ((m_rowLength σ8) (Int32.toNatClampNeg a1)))) then ob2 (f_X4_no σ8 (-2)) (fun x18 σ17 => some (x18, σ17)) else gd (inb a2 8) (if (lg_cmp ((Int32.toInt64 a4) + (Int32.toInt64 a5)) (Int32.toInt64 ((m_rowLength σ8) (Int32.toNatClampNeg a2)))) ≤ 0 then if a1 = a2 then if a4 ≤ a3 then f_X4_copy_b222 a1 a2 a3 a4 a5 σ8 else lt (a5 - 1) (fun x24 => f_X4_copy_L179 a1 a2 a3 a4 a5 x24 σ8) else f_X4_copy_b222 a1 a2 a3 a4 a5 σ8 else ob2 (f_X4_no σ8 (-2)) (fun x30 σ29 => some (x30, σ29)))) else ob2 (f_X4_no σ8 (-4)) (fun x32 σ31 => some (x32, σ31))))
def f_X4_copy (σ : MM) (a1 : Int32) (a2 : Int32) (a3 : Int32) (a4 : Int32) (a5 : Int32) : Option (Int32 × MM) :=
  if (f_X4_isShelf a1) = true then if (f_X4_isShelf a2) = true then gd (inb a1 8) (if 10 ≤ ((m_holding σ) (Int32.toNatClampNeg a1)) then ob2 (f_X4_no σ (-3)) (fun x4 σ3 => some (x4, σ3)) else gd (inb a2 8) (if 10 ≤ ((m_holding σ) (Int32.toNatClampNeg a2)) then ob2 (f_X4_no σ (-3)) (fun x6 σ5 => some (x6, σ5)) else ob (f_X4_isRow σ a1) (fun b7 => if b7 = true then ob (f_X4_isRow σ a2) (fun b33 => if b33 = true then gd (inb a1 8) (gd (inb a2 8) (if ((m_holding σ) (Int32.toNatClampNeg a1)) = ((m_holding σ) (Int32.toNatClampNeg a2)) then f_X4_copy_b81 a1 a2 a3 a4 a5 σ else ob2 (f_X4_no σ (-3)) (fun x35 σ34 => some (x35, σ34)))) else f_X4_copy_b81 a1 a2 a3 a4 a5 σ) else f_X4_copy_b81 a1 a2 a3 a4 a5 σ))) else ob2 (f_X4_no σ (-2)) (fun x37 σ36 => some (x37, σ36)) else ob2 (f_X4_no σ (-2)) (fun x2 σ1 => some (x2, σ1))
set_option maxHeartbeats 4000000 in
set_option maxRecDepth 100000 in
theorem c_X4_copy (l : Launch) (ev : EV) (ad : Nat → Nat) (σ : MM) (a1 : Int32) (a2 : Int32) (a3 : Int32) (a4 : Int32) (a5 : Int32)   (r : Int32) (σ' : MM) (h : f_X4_copy σ a1 a2 a3 a4 a5 = some (r, σ')) : Ct l yX4_copy prog_6_method_13_code 7 (Option.some Jvm.ClassFile.FieldType.int) (rmk 2 43) ev 13 ad (mw ev ad σ) (mw ev ad σ') [.ref (ad 0), .int a1, .int a2, .int a3, .int a4, .int a5] (some (.int r)) := by
  refine Ct.of (by decide +kernel) (Nat.le_of_ble_eq_true rfl) ?_
  intro p e s m args below meth c Qc C hap hP hend ls hl
  have hAA : ∀ j, j < 13 → inA ad 13 (ad j) := fun j hj => ⟨j, hj, rfl⟩
  have hx := C.1
  have hb := C.2.1
  have hl : lv_has ls 7 [(0, .ref (ad 0)), (1, .int a1), (2, .int a2), (3, .int a3), (4, .int a4), (5, .int a5)] := hl
  have h := (f_X4_copy.eq_1 _ _ _ _ _ _ ).symm.trans h
  have hB222 : ∀ (σ19 : MM) (H : Heap) (locs : List Loc) (ls : Array Slot), f_X4_copy_b222 a1 a2 a3 a4 a5 σ19 = some (r, σ') → PS ev 13 ad (mw ev ad σ19) (inA ad 13) s H locs → lv_has ls 7 [(0, .ref (ad 0)), (1, .int a1), (2, .int a2), (3, .int a3), (4, .int a4), (5, .int a5)] → WW ev p l e (rmk 2 43) s m args below meth c Qc ad 13 H locs 222 ls [] := by
    intro σ19 H locs ls h hP hl
    have h := (f_X4_copy_b222.eq_1 _ _ _ _ _ _ ).symm.trans h
    refine lv_iconst (v := 0) hx hb dX4_copy_222 (by decide) ?_
    refine lv_istore (lv' := [(6, .int 0), (0, .ref (ad 0)), (1, .int a1), (2, .int a2), (3, .int a3), (4, .int a4), (5, .int a5)]) hx hb dX4_copy_223 hl (by decide) rfl (fun ls hl => ?_)
    have hL225 : ∀ (n : Nat) (x20 : Int32) (σ21 : MM) (H : Heap) (locs : List Loc) (ls : Array Slot), lp (fun _ _ => none) (f_X4_copy_L225_b a1 a2 a3 a4 a5 ) n x20 σ21 = some (r, σ') → PS ev 13 ad (mw ev ad σ21) (inA ad 13) s H locs → lv_has ls 7 [(0, .ref (ad 0)), (1, .int a1), (2, .int a2), (3, .int a3), (4, .int a4), (5, .int a5), (6, .int x20)] → WW ev p l e (rmk 2 43) s m args below meth c Qc ad 13 H locs 225 ls [] := by
      intro n
      induction n with
      | zero =>
        intro x20 σ21 H locs ls h; exact k_none h
      | succ n ih =>
        intro x20 σ21 H locs ls h hP hl
        have h : f_X4_copy_L225_b a1 a2 a3 a4 a5  (lp (fun _ _ => none) (f_X4_copy_L225_b a1 a2 a3 a4 a5 ) n) x20 σ21 = some (r, σ') := h
        have h := (f_X4_copy_L225_b.eq_1 _ _ _ _ _ _ _ _ ).symm.trans h
        refine lv_iload hx hb dX4_copy_225 (lv_at hl 6 rfl) ?_
        refine lv_iload hx hb dX4_copy_227 (lv_at hl 5 rfl) ?_
        refine lv_icmp_ge (tgt := 267) hx hb dX4_copy_229 (by decide) (fun c229 => ?_) (fun c229 => ?_)
        · have h := k_if c229 h
          refine lv_iload hx hb dX4_copy_267 (lv_at hl 5 rfl) ?_
          exact e_iret C hend hP (k_some2 h).1 (congrArg (mw ev ad) (k_some2 h).2) dX4_copy_269
        · have h := k_nf c229 h
          refine lv_aload_n hx hb dX4_copy_232 rfl (lv_at hl 0 rfl) ?_
          refine r_get C hP (ci := 4) rfl uin_X4 19 (by decide) 0 (by decide) rfl qFL_RX4_35 rfl rfl dX4_copy_233 ?_
          refine lv_bipush (v := 40) hx hb dX4_copy_236 (by decide) ?_
          refine lv_iload_n hx hb dX4_copy_238 rfl (lv_at hl 2 rfl) ?_
          refine lv_imul hx hb dX4_copy_239 ?_
          refine lv_iload hx hb dX4_copy_240 (lv_at hl 4 rfl) ?_
          refine lv_iadd hx hb dX4_copy_242 ?_
          refine lv_iload hx hb dX4_copy_243 (lv_at hl 6 rfl) ?_
          refine lv_iadd hx hb dX4_copy_245 ?_
          refine lv_aload_n hx hb dX4_copy_246 rfl (lv_at hl 0 rfl) ?_
          refine r_get C hP (ci := 4) rfl uin_X4 19 (by decide) 0 (by decide) rfl qFL_RX4_35 rfl rfl dX4_copy_247 ?_
          refine lv_bipush (v := 40) hx hb dX4_copy_250 (by decide) ?_
          refine lv_iload_n hx hb dX4_copy_252 rfl (lv_at hl 1 rfl) ?_
          refine lv_imul hx hb dX4_copy_253 ?_
          refine lv_iload_n hx hb dX4_copy_254 rfl (lv_at hl 3 rfl) ?_
          refine lv_iadd hx hb dX4_copy_255 ?_
          refine lv_iload hx hb dX4_copy_256 (lv_at hl 6 rfl) ?_
          refine lv_iadd hx hb dX4_copy_258 ?_
          obtain ⟨hg, h⟩ := k_gd h
          refine r_lald C hP 9 (by decide) rfl hg dX4_copy_259 ?_
          obtain ⟨hg, h⟩ := k_gd h
          obtain ⟨σ22, eσ22, h⟩ := k_ltx h
          refine st_M_rowOf C hP hap hAA eσ22 hg dX4_copy_260 (fun H locs hP => ?_)
          obtain ⟨x23, ex23, h⟩ := k_ltx h
          refine lv_iinc (v := x23) (lv' := [(6, .int x23), (0, .ref (ad 0)), (1, .int a1), (2, .int a2), (3, .int a3), (4, .int a4), (5, .int a5)]) hx hb dX4_copy_261 hl (k := 6) rfl (by rw [ex23]; rfl) (by decide) rfl (fun ls hl => ?_)
          refine lv_goto (tgt := 225) hx hb dX4_copy_264 (by decide) ?_
          exact ih _ _ _ _ _ h hP (lv_sub hl [1, 2, 3, 4, 5, 6, 0] rfl)
    exact hL225 FU _ _ _ _ _ h hP (lv_sub hl [1, 2, 3, 4, 5, 6, 0] rfl)
  have hB81 : ∀ (σ8 : MM) (H : Heap) (locs : List Loc) (ls : Array Slot), f_X4_copy_b81 a1 a2 a3 a4 a5 σ8 = some (r, σ') → PS ev 13 ad (mw ev ad σ8) (inA ad 13) s H locs → lv_has ls 7 [(0, .ref (ad 0)), (1, .int a1), (2, .int a2), (3, .int a3), (4, .int a4), (5, .int a5)] → WW ev p l e (rmk 2 43) s m args below meth c Qc ad 13 H locs 81 ls [] := by
    intro σ8 H locs ls h hP hl
    have h := (f_X4_copy_b81.eq_1 _ _ _ _ _ _ ).symm.trans h
    refine lv_aload_n hx hb dX4_copy_81 rfl (lv_at hl 0 rfl) ?_
    refine r_get C hP (ci := 4) rfl uin_X4 17 (by decide) 0 (by decide) rfl qFL_RX4_29 rfl rfl dX4_copy_82 ?_
    refine lv_iload_n hx hb dX4_copy_85 rfl (lv_at hl 1 rfl) ?_
    obtain ⟨hg, h⟩ := k_gd h
    refine r_iald C hP 7 (by decide) rfl hg dX4_copy_86 ?_
    refine lv_if_lt (tgt := 99) hx hb dX4_copy_87 (by decide) (fun c87 => ?_) (fun c87 => ?_)
    · have h := k_if c87 h
      refine lv_aload_n hx hb dX4_copy_99 rfl (lv_at hl 0 rfl) ?_
      refine lv_bipush (v := (-4)) hx hb dX4_copy_100 (by decide) ?_
      obtain ⟨x10, σ9, h1, h⟩ := k_ob2 h
      refine k_callVi C hP hap hAA (c_X4_no l ev ad σ8 (-4)   _ _ h1) Emb.same hap gz_X4_no qML_RX4_56 qIM_yX4_no qSE_yX4_no ⟨(Nat.le_of_ble_eq_true rfl), (Nat.le_of_ble_eq_true rfl)⟩ (q0 := 0) rfl (by decide) rfl rfl rfl rfl hl.1 rfl (Nat.le_of_ble_eq_true rfl) dX4_copy_102 ⟨Nat.le_refl _, Nat.le_refl _⟩ (fun H locs hP => ?_)
      exact e_iret C hend hP (k_some2 h).1 (congrArg (mw ev ad) (k_some2 h).2) dX4_copy_105
    · have h := k_nf c87 h
      refine lv_aload_n hx hb dX4_copy_90 rfl (lv_at hl 0 rfl) ?_
      refine r_get C hP (ci := 4) rfl uin_X4 17 (by decide) 0 (by decide) rfl qFL_RX4_29 rfl rfl dX4_copy_91 ?_
      refine lv_iload_n hx hb dX4_copy_94 rfl (lv_at hl 2 rfl) ?_
      obtain ⟨hg, h⟩ := k_gd h
      refine r_iald C hP 7 (by decide) rfl hg dX4_copy_95 ?_
      refine lv_if_ge (tgt := 106) hx hb dX4_copy_96 (by decide) (fun c96 => ?_) (fun c96 => ?_)
      · have h := k_if c96 h
        refine lv_iload hx hb dX4_copy_106 (lv_at hl 5 rfl) ?_
        refine lv_if_lt (tgt := 155) hx hb dX4_copy_108 (by decide) (fun c108 => ?_) (fun c108 => ?_)
        · have h := k_if c108 h
          refine lv_aload_n hx hb dX4_copy_155 rfl (lv_at hl 0 rfl) ?_
          refine lv_bipush (v := (-2)) hx hb dX4_copy_156 (by decide) ?_
          obtain ⟨x12, σ11, h1, h⟩ := k_ob2 h
          refine k_callVi C hP hap hAA (c_X4_no l ev ad σ8 (-2)   _ _ h1) Emb.same hap gz_X4_no qML_RX4_56 qIM_yX4_no qSE_yX4_no ⟨(Nat.le_of_ble_eq_true rfl), (Nat.le_of_ble_eq_true rfl)⟩ (q0 := 0) rfl (by decide) rfl rfl rfl rfl hl.1 rfl (Nat.le_of_ble_eq_true rfl) dX4_copy_158 ⟨Nat.le_refl _, Nat.le_refl _⟩ (fun H locs hP => ?_)
          exact e_iret C hend hP (k_some2 h).1 (congrArg (mw ev ad) (k_some2 h).2) dX4_copy_161
        · have h := k_nf c108 h
          refine lv_iload_n hx hb dX4_copy_111 rfl (lv_at hl 3 rfl) ?_
          refine lv_if_lt (tgt := 155) hx hb dX4_copy_112 (by decide) (fun c112 => ?_) (fun c112 => ?_)
          · have h := k_if c112 h
            refine lv_aload_n hx hb dX4_copy_155 rfl (lv_at hl 0 rfl) ?_
            refine lv_bipush (v := (-2)) hx hb dX4_copy_156 (by decide) ?_
            obtain ⟨x14, σ13, h1, h⟩ := k_ob2 h
            refine k_callVi C hP hap hAA (c_X4_no l ev ad σ8 (-2)   _ _ h1) Emb.same hap gz_X4_no qML_RX4_56 qIM_yX4_no qSE_yX4_no ⟨(Nat.le_of_ble_eq_true rfl), (Nat.le_of_ble_eq_true rfl)⟩ (q0 := 0) rfl (by decide) rfl rfl rfl rfl hl.1 rfl (Nat.le_of_ble_eq_true rfl) dX4_copy_158 ⟨Nat.le_refl _, Nat.le_refl _⟩ (fun H locs hP => ?_)
            exact e_iret C hend hP (k_some2 h).1 (congrArg (mw ev ad) (k_some2 h).2) dX4_copy_161
          · have h := k_nf c112 h
            refine lv_iload hx hb dX4_copy_115 (lv_at hl 4 rfl) ?_
            refine lv_if_lt (tgt := 155) hx hb dX4_copy_117 (by decide) (fun c117 => ?_) (fun c117 => ?_)
            · have h := k_if c117 h
              refine lv_aload_n hx hb dX4_copy_155 rfl (lv_at hl 0 rfl) ?_
              refine lv_bipush (v := (-2)) hx hb dX4_copy_156 (by decide) ?_
              obtain ⟨x16, σ15, h1, h⟩ := k_ob2 h
              refine k_callVi C hP hap hAA (c_X4_no l ev ad σ8 (-2)   _ _ h1) Emb.same hap gz_X4_no qML_RX4_56 qIM_yX4_no qSE_yX4_no ⟨(Nat.le_of_ble_eq_true rfl), (Nat.le_of_ble_eq_true rfl)⟩ (q0 := 0) rfl (by decide) rfl rfl rfl rfl hl.1 rfl (Nat.le_of_ble_eq_true rfl) dX4_copy_158 ⟨Nat.le_refl _, Nat.le_refl _⟩ (fun H locs hP => ?_)
              exact e_iret C hend hP (k_some2 h).1 (congrArg (mw ev ad) (k_some2 h).2) dX4_copy_161
            · have h := k_nf c117 h
              refine lv_iload_n hx hb dX4_copy_120 rfl (lv_at hl 3 rfl) ?_
              refine lv_i2l hx hb dX4_copy_121 rfl ?_
              refine lv_iload hx hb dX4_copy_122 (lv_at hl 5 rfl) ?_
              refine lv_i2l hx hb dX4_copy_124 rfl ?_
              refine lv_ladd hx hb dX4_copy_125 ?_
              refine lv_aload_n hx hb dX4_copy_126 rfl (lv_at hl 0 rfl) ?_
              refine r_get C hP (ci := 4) rfl uin_X4 18 (by decide) 0 (by decide) rfl qFL_RX4_32 rfl rfl dX4_copy_127 ?_
              refine lv_iload_n hx hb dX4_copy_130 rfl (lv_at hl 1 rfl) ?_
              obtain ⟨hg, h⟩ := k_gd h
              refine r_iald C hP 8 (by decide) rfl hg dX4_copy_131 ?_
              refine lv_i2l hx hb dX4_copy_132 rfl ?_
              refine W.lcmp hx hb dX4_copy_133 ?_
              refine lv_if_gt (tgt := 155) hx hb dX4_copy_134 (by decide) (fun c134 => ?_) (fun c134 => ?_)
              · have h := k_if c134 h
                refine lv_aload_n hx hb dX4_copy_155 rfl (lv_at hl 0 rfl) ?_
                refine lv_bipush (v := (-2)) hx hb dX4_copy_156 (by decide) ?_
                obtain ⟨x18, σ17, h1, h⟩ := k_ob2 h
                refine k_callVi C hP hap hAA (c_X4_no l ev ad σ8 (-2)   _ _ h1) Emb.same hap gz_X4_no qML_RX4_56 qIM_yX4_no qSE_yX4_no ⟨(Nat.le_of_ble_eq_true rfl), (Nat.le_of_ble_eq_true rfl)⟩ (q0 := 0) rfl (by decide) rfl rfl rfl rfl hl.1 rfl (Nat.le_of_ble_eq_true rfl) dX4_copy_158 ⟨Nat.le_refl _, Nat.le_refl _⟩ (fun H locs hP => ?_)
                exact e_iret C hend hP (k_some2 h).1 (congrArg (mw ev ad) (k_some2 h).2) dX4_copy_161
              · have h := k_nf c134 h
                refine lv_iload hx hb dX4_copy_137 (lv_at hl 4 rfl) ?_
                refine lv_i2l hx hb dX4_copy_139 rfl ?_
                refine lv_iload hx hb dX4_copy_140 (lv_at hl 5 rfl) ?_
                refine lv_i2l hx hb dX4_copy_142 rfl ?_
                refine lv_ladd hx hb dX4_copy_143 ?_
                refine lv_aload_n hx hb dX4_copy_144 rfl (lv_at hl 0 rfl) ?_
                refine r_get C hP (ci := 4) rfl uin_X4 18 (by decide) 0 (by decide) rfl qFL_RX4_32 rfl rfl dX4_copy_145 ?_
                refine lv_iload_n hx hb dX4_copy_148 rfl (lv_at hl 2 rfl) ?_
                obtain ⟨hg, h⟩ := k_gd h
                refine r_iald C hP 8 (by decide) rfl hg dX4_copy_149 ?_
                refine lv_i2l hx hb dX4_copy_150 rfl ?_
                refine W.lcmp hx hb dX4_copy_151 ?_
                refine lv_if_le (tgt := 162) hx hb dX4_copy_152 (by decide) (fun c152 => ?_) (fun c152 => ?_)
                · have h := k_if c152 h
                  refine lv_iload_n hx hb dX4_copy_162 rfl (lv_at hl 1 rfl) ?_
                  refine lv_iload_n hx hb dX4_copy_163 rfl (lv_at hl 2 rfl) ?_
                  refine lv_icmp_ne (tgt := 222) hx hb dX4_copy_164 (by decide) (fun c164 => ?_) (fun c164 => ?_)
                  · have h := k_nf c164 h
                    exact hB222 _ _ _ _ h hP (lv_sub hl [0, 1, 2, 3, 4, 5] rfl)
                  · have h := k_if c164 h
                    refine lv_iload_n hx hb dX4_copy_167 rfl (lv_at hl 3 rfl) ?_
                    refine lv_iload hx hb dX4_copy_168 (lv_at hl 4 rfl) ?_
                    refine lv_icmp_ge (tgt := 222) hx hb dX4_copy_170 (by decide) (fun c170 => ?_) (fun c170 => ?_)
                    · have h := k_if c170 h
                      exact hB222 _ _ _ _ h hP (lv_sub hl [0, 1, 2, 3, 4, 5] rfl)
                    · have h := k_nf c170 h
                      refine lv_iload hx hb dX4_copy_173 (lv_at hl 5 rfl) ?_
                      refine lv_iconst (v := 1) hx hb dX4_copy_175 (by decide) ?_
                      refine lv_isub hx hb dX4_copy_176 ?_
                      refine lv_topi (fun x24 ex24 => ?_)
                      have h := k_lt ex24 h
                      refine lv_istore (lv' := [(6, .int x24), (0, .ref (ad 0)), (1, .int a1), (2, .int a2), (3, .int a3), (4, .int a4), (5, .int a5)]) hx hb dX4_copy_177 hl (by decide) rfl (fun ls hl => ?_)
                      have hL179 : ∀ (n : Nat) (x25 : Int32) (σ26 : MM) (H : Heap) (locs : List Loc) (ls : Array Slot), lp (fun _ _ => none) (f_X4_copy_L179_b a1 a2 a3 a4 a5 ) n x25 σ26 = some (r, σ') → PS ev 13 ad (mw ev ad σ26) (inA ad 13) s H locs → lv_has ls 7 [(0, .ref (ad 0)), (1, .int a1), (2, .int a2), (3, .int a3), (4, .int a4), (5, .int a5), (6, .int x25)] → WW ev p l e (rmk 2 43) s m args below meth c Qc ad 13 H locs 179 ls [] := by
                        intro n
                        induction n with
                        | zero =>
                          intro x25 σ26 H locs ls h; exact k_none h
                        | succ n ih =>
                          intro x25 σ26 H locs ls h hP hl
                          have h : f_X4_copy_L179_b a1 a2 a3 a4 a5  (lp (fun _ _ => none) (f_X4_copy_L179_b a1 a2 a3 a4 a5 ) n) x25 σ26 = some (r, σ') := h
                          have h := (f_X4_copy_L179_b.eq_1 _ _ _ _ _ _ _ _ ).symm.trans h
                          refine lv_iload hx hb dX4_copy_179 (lv_at hl 6 rfl) ?_
                          refine lv_if_lt (tgt := 219) hx hb dX4_copy_181 (by decide) (fun c181 => ?_) (fun c181 => ?_)
                          · have h := k_if c181 h
                            refine lv_goto (tgt := 267) hx hb dX4_copy_219 (by decide) ?_
                            refine lv_iload hx hb dX4_copy_267 (lv_at hl 5 rfl) ?_
                            exact e_iret C hend hP (k_some2 h).1 (congrArg (mw ev ad) (k_some2 h).2) dX4_copy_269
                          · have h := k_nf c181 h
                            refine lv_aload_n hx hb dX4_copy_184 rfl (lv_at hl 0 rfl) ?_
                            refine r_get C hP (ci := 4) rfl uin_X4 19 (by decide) 0 (by decide) rfl qFL_RX4_35 rfl rfl dX4_copy_185 ?_
                            refine lv_bipush (v := 40) hx hb dX4_copy_188 (by decide) ?_
                            refine lv_iload_n hx hb dX4_copy_190 rfl (lv_at hl 2 rfl) ?_
                            refine lv_imul hx hb dX4_copy_191 ?_
                            refine lv_iload hx hb dX4_copy_192 (lv_at hl 4 rfl) ?_
                            refine lv_iadd hx hb dX4_copy_194 ?_
                            refine lv_iload hx hb dX4_copy_195 (lv_at hl 6 rfl) ?_
                            refine lv_iadd hx hb dX4_copy_197 ?_
                            refine lv_aload_n hx hb dX4_copy_198 rfl (lv_at hl 0 rfl) ?_
                            refine r_get C hP (ci := 4) rfl uin_X4 19 (by decide) 0 (by decide) rfl qFL_RX4_35 rfl rfl dX4_copy_199 ?_
                            refine lv_bipush (v := 40) hx hb dX4_copy_202 (by decide) ?_
                            refine lv_iload_n hx hb dX4_copy_204 rfl (lv_at hl 1 rfl) ?_
                            refine lv_imul hx hb dX4_copy_205 ?_
                            refine lv_iload_n hx hb dX4_copy_206 rfl (lv_at hl 3 rfl) ?_
                            refine lv_iadd hx hb dX4_copy_207 ?_
                            refine lv_iload hx hb dX4_copy_208 (lv_at hl 6 rfl) ?_
                            refine lv_iadd hx hb dX4_copy_210 ?_
                            obtain ⟨hg, h⟩ := k_gd h
                            refine r_lald C hP 9 (by decide) rfl hg dX4_copy_211 ?_
                            obtain ⟨hg, h⟩ := k_gd h
                            obtain ⟨σ27, eσ27, h⟩ := k_ltx h
                            refine st_M_rowOf C hP hap hAA eσ27 hg dX4_copy_212 (fun H locs hP => ?_)
                            obtain ⟨x28, ex28, h⟩ := k_ltx h
                            refine lv_iinc (v := x28) (lv' := [(6, .int x28), (0, .ref (ad 0)), (1, .int a1), (2, .int a2), (3, .int a3), (4, .int a4), (5, .int a5)]) hx hb dX4_copy_213 hl (k := 6) rfl (by rw [ex28]; rfl) (by decide) rfl (fun ls hl => ?_)
                            refine lv_goto (tgt := 179) hx hb dX4_copy_216 (by decide) ?_
                            exact ih _ _ _ _ _ h hP (lv_sub hl [1, 2, 3, 4, 5, 6, 0] rfl)
                      exact hL179 FU _ _ _ _ _ h hP (lv_sub hl [1, 2, 3, 4, 5, 6, 0] rfl)
                · have h := k_nf c152 h
                  refine lv_aload_n hx hb dX4_copy_155 rfl (lv_at hl 0 rfl) ?_
                  refine lv_bipush (v := (-2)) hx hb dX4_copy_156 (by decide) ?_
                  obtain ⟨x30, σ29, h1, h⟩ := k_ob2 h
                  refine k_callVi C hP hap hAA (c_X4_no l ev ad σ8 (-2)   _ _ h1) Emb.same hap gz_X4_no qML_RX4_56 qIM_yX4_no qSE_yX4_no ⟨(Nat.le_of_ble_eq_true rfl), (Nat.le_of_ble_eq_true rfl)⟩ (q0 := 0) rfl (by decide) rfl rfl rfl rfl hl.1 rfl (Nat.le_of_ble_eq_true rfl) dX4_copy_158 ⟨Nat.le_refl _, Nat.le_refl _⟩ (fun H locs hP => ?_)
                  exact e_iret C hend hP (k_some2 h).1 (congrArg (mw ev ad) (k_some2 h).2) dX4_copy_161
      · have h := k_nf c96 h
        refine lv_aload_n hx hb dX4_copy_99 rfl (lv_at hl 0 rfl) ?_
        refine lv_bipush (v := (-4)) hx hb dX4_copy_100 (by decide) ?_
        obtain ⟨x32, σ31, h1, h⟩ := k_ob2 h
        refine k_callVi C hP hap hAA (c_X4_no l ev ad σ8 (-4)   _ _ h1) Emb.same hap gz_X4_no qML_RX4_56 qIM_yX4_no qSE_yX4_no ⟨(Nat.le_of_ble_eq_true rfl), (Nat.le_of_ble_eq_true rfl)⟩ (q0 := 0) rfl (by decide) rfl rfl rfl rfl hl.1 rfl (Nat.le_of_ble_eq_true rfl) dX4_copy_102 ⟨Nat.le_refl _, Nat.le_refl _⟩ (fun H locs hP => ?_)
        exact e_iret C hend hP (k_some2 h).1 (congrArg (mw ev ad) (k_some2 h).2) dX4_copy_105
  refine lv_iload_n hx hb dX4_copy_0 rfl (lv_at hl 1 rfl) ?_
  refine k_callSi C hP hap hAA (c_X4_isShelf l ev ad a1   _ rfl) Emb.none (apart_0 _) gz_X4_isShelf qML_RX4_73 qSM_yX4_isShelf ⟨(Nat.le_of_ble_eq_true rfl), (Nat.le_of_ble_eq_true rfl)⟩ rfl hl.1 rfl (Nat.le_of_ble_eq_true rfl) dX4_copy_1 ⟨Nat.le_refl _, Nat.le_refl _⟩ (fun H locs hP => ?_)
  refine r_ifz_eq (tgt := 14) hx hb dX4_copy_4 (by decide) (fun c4 => ?_) (fun c4 => ?_)
  · have h := k_nf c4 h
    refine lv_aload_n hx hb dX4_copy_14 rfl (lv_at hl 0 rfl) ?_
    refine lv_bipush (v := (-2)) hx hb dX4_copy_15 (by decide) ?_
    obtain ⟨x2, σ1, h1, h⟩ := k_ob2 h
    refine k_callVi C hP hap hAA (c_X4_no l ev ad σ (-2)   _ _ h1) Emb.same hap gz_X4_no qML_RX4_56 qIM_yX4_no qSE_yX4_no ⟨(Nat.le_of_ble_eq_true rfl), (Nat.le_of_ble_eq_true rfl)⟩ (q0 := 0) rfl (by decide) rfl rfl rfl rfl hl.1 rfl (Nat.le_of_ble_eq_true rfl) dX4_copy_17 ⟨Nat.le_refl _, Nat.le_refl _⟩ (fun H locs hP => ?_)
    exact e_iret C hend hP (k_some2 h).1 (congrArg (mw ev ad) (k_some2 h).2) dX4_copy_20
  · have h := k_if c4 h
    refine lv_iload_n hx hb dX4_copy_7 rfl (lv_at hl 2 rfl) ?_
    refine k_callSi C hP hap hAA (c_X4_isShelf l ev ad a2   _ rfl) Emb.none (apart_0 _) gz_X4_isShelf qML_RX4_73 qSM_yX4_isShelf ⟨(Nat.le_of_ble_eq_true rfl), (Nat.le_of_ble_eq_true rfl)⟩ rfl hl.1 rfl (Nat.le_of_ble_eq_true rfl) dX4_copy_8 ⟨Nat.le_refl _, Nat.le_refl _⟩ (fun H locs hP => ?_)
    refine r_ifz_ne (tgt := 21) hx hb dX4_copy_11 (by decide) (fun c11 => ?_) (fun c11 => ?_)
    · have h := k_if c11 h
      refine lv_aload_n hx hb dX4_copy_21 rfl (lv_at hl 0 rfl) ?_
      refine r_get C hP (ci := 4) rfl uin_X4 17 (by decide) 0 (by decide) rfl qFL_RX4_29 rfl rfl dX4_copy_22 ?_
      refine lv_iload_n hx hb dX4_copy_25 rfl (lv_at hl 1 rfl) ?_
      obtain ⟨hg, h⟩ := k_gd h
      refine r_iald C hP 7 (by decide) rfl hg dX4_copy_26 ?_
      refine lv_bipush (v := 10) hx hb dX4_copy_27 (by decide) ?_
      refine lv_icmp_ge (tgt := 74) hx hb dX4_copy_29 (by decide) (fun c29 => ?_) (fun c29 => ?_)
      · have h := k_if c29 h
        refine lv_aload_n hx hb dX4_copy_74 rfl (lv_at hl 0 rfl) ?_
        refine lv_bipush (v := (-3)) hx hb dX4_copy_75 (by decide) ?_
        obtain ⟨x4, σ3, h1, h⟩ := k_ob2 h
        refine k_callVi C hP hap hAA (c_X4_no l ev ad σ (-3)   _ _ h1) Emb.same hap gz_X4_no qML_RX4_56 qIM_yX4_no qSE_yX4_no ⟨(Nat.le_of_ble_eq_true rfl), (Nat.le_of_ble_eq_true rfl)⟩ (q0 := 0) rfl (by decide) rfl rfl rfl rfl hl.1 rfl (Nat.le_of_ble_eq_true rfl) dX4_copy_77 ⟨Nat.le_refl _, Nat.le_refl _⟩ (fun H locs hP => ?_)
        exact e_iret C hend hP (k_some2 h).1 (congrArg (mw ev ad) (k_some2 h).2) dX4_copy_80
      · have h := k_nf c29 h
        refine lv_aload_n hx hb dX4_copy_32 rfl (lv_at hl 0 rfl) ?_
        refine r_get C hP (ci := 4) rfl uin_X4 17 (by decide) 0 (by decide) rfl qFL_RX4_29 rfl rfl dX4_copy_33 ?_
        refine lv_iload_n hx hb dX4_copy_36 rfl (lv_at hl 2 rfl) ?_
        obtain ⟨hg, h⟩ := k_gd h
        refine r_iald C hP 7 (by decide) rfl hg dX4_copy_37 ?_
        refine lv_bipush (v := 10) hx hb dX4_copy_38 (by decide) ?_
        refine lv_icmp_ge (tgt := 74) hx hb dX4_copy_40 (by decide) (fun c40 => ?_) (fun c40 => ?_)
        · have h := k_if c40 h
          refine lv_aload_n hx hb dX4_copy_74 rfl (lv_at hl 0 rfl) ?_
          refine lv_bipush (v := (-3)) hx hb dX4_copy_75 (by decide) ?_
          obtain ⟨x6, σ5, h1, h⟩ := k_ob2 h
          refine k_callVi C hP hap hAA (c_X4_no l ev ad σ (-3)   _ _ h1) Emb.same hap gz_X4_no qML_RX4_56 qIM_yX4_no qSE_yX4_no ⟨(Nat.le_of_ble_eq_true rfl), (Nat.le_of_ble_eq_true rfl)⟩ (q0 := 0) rfl (by decide) rfl rfl rfl rfl hl.1 rfl (Nat.le_of_ble_eq_true rfl) dX4_copy_77 ⟨Nat.le_refl _, Nat.le_refl _⟩ (fun H locs hP => ?_)
          exact e_iret C hend hP (k_some2 h).1 (congrArg (mw ev ad) (k_some2 h).2) dX4_copy_80
        · have h := k_nf c40 h
          refine lv_aload_n hx hb dX4_copy_43 rfl (lv_at hl 0 rfl) ?_
          refine lv_iload_n hx hb dX4_copy_44 rfl (lv_at hl 1 rfl) ?_
          obtain ⟨b7, h1, h⟩ := k_ob h
          refine k_callVi C hP hap hAA (c_X4_isRow l ev ad σ a1   _ h1) Emb.same hap gz_X4_isRow qML_RX4_77 qIM_yX4_isRow qSE_yX4_isRow ⟨(Nat.le_of_ble_eq_true rfl), (Nat.le_of_ble_eq_true rfl)⟩ (q0 := 0) rfl (by decide) rfl rfl rfl rfl hl.1 rfl (Nat.le_of_ble_eq_true rfl) dX4_copy_45 ⟨Nat.le_refl _, Nat.le_refl _⟩ (fun H locs hP => ?_)
          refine r_ifz_eq (tgt := 81) hx hb dX4_copy_48 (by decide) (fun c48 => ?_) (fun c48 => ?_)
          · have h := k_nf c48 h
            exact hB81 _ _ _ _ h hP (lv_sub hl [0, 1, 2, 3, 4, 5] rfl)
          · have h := k_if c48 h
            refine lv_aload_n hx hb dX4_copy_51 rfl (lv_at hl 0 rfl) ?_
            refine lv_iload_n hx hb dX4_copy_52 rfl (lv_at hl 2 rfl) ?_
            obtain ⟨b33, h1, h⟩ := k_ob h
            refine k_callVi C hP hap hAA (c_X4_isRow l ev ad σ a2   _ h1) Emb.same hap gz_X4_isRow qML_RX4_77 qIM_yX4_isRow qSE_yX4_isRow ⟨(Nat.le_of_ble_eq_true rfl), (Nat.le_of_ble_eq_true rfl)⟩ (q0 := 0) rfl (by decide) rfl rfl rfl rfl hl.1 rfl (Nat.le_of_ble_eq_true rfl) dX4_copy_53 ⟨Nat.le_refl _, Nat.le_refl _⟩ (fun H locs hP => ?_)
            refine r_ifz_eq (tgt := 81) hx hb dX4_copy_56 (by decide) (fun c56 => ?_) (fun c56 => ?_)
            · have h := k_nf c56 h
              exact hB81 _ _ _ _ h hP (lv_sub hl [0, 1, 2, 3, 4, 5] rfl)
            · have h := k_if c56 h
              refine lv_aload_n hx hb dX4_copy_59 rfl (lv_at hl 0 rfl) ?_
              refine r_get C hP (ci := 4) rfl uin_X4 17 (by decide) 0 (by decide) rfl qFL_RX4_29 rfl rfl dX4_copy_60 ?_
              refine lv_iload_n hx hb dX4_copy_63 rfl (lv_at hl 1 rfl) ?_
              obtain ⟨hg, h⟩ := k_gd h
              refine r_iald C hP 7 (by decide) rfl hg dX4_copy_64 ?_
              refine lv_aload_n hx hb dX4_copy_65 rfl (lv_at hl 0 rfl) ?_
              refine r_get C hP (ci := 4) rfl uin_X4 17 (by decide) 0 (by decide) rfl qFL_RX4_29 rfl rfl dX4_copy_66 ?_
              refine lv_iload_n hx hb dX4_copy_69 rfl (lv_at hl 2 rfl) ?_
              obtain ⟨hg, h⟩ := k_gd h
              refine r_iald C hP 7 (by decide) rfl hg dX4_copy_70 ?_
              refine lv_icmp_eq (tgt := 81) hx hb dX4_copy_71 (by decide) (fun c71 => ?_) (fun c71 => ?_)
              · have h := k_if c71 h
                exact hB81 _ _ _ _ h hP (lv_sub hl [0, 1, 2, 3, 4, 5] rfl)
              · have h := k_nf c71 h
                refine lv_aload_n hx hb dX4_copy_74 rfl (lv_at hl 0 rfl) ?_
                refine lv_bipush (v := (-3)) hx hb dX4_copy_75 (by decide) ?_
                obtain ⟨x35, σ34, h1, h⟩ := k_ob2 h
                refine k_callVi C hP hap hAA (c_X4_no l ev ad σ (-3)   _ _ h1) Emb.same hap gz_X4_no qML_RX4_56 qIM_yX4_no qSE_yX4_no ⟨(Nat.le_of_ble_eq_true rfl), (Nat.le_of_ble_eq_true rfl)⟩ (q0 := 0) rfl (by decide) rfl rfl rfl rfl hl.1 rfl (Nat.le_of_ble_eq_true rfl) dX4_copy_77 ⟨Nat.le_refl _, Nat.le_refl _⟩ (fun H locs hP => ?_)
                exact e_iret C hend hP (k_some2 h).1 (congrArg (mw ev ad) (k_some2 h).2) dX4_copy_80
    · have h := k_nf c11 h
      refine lv_aload_n hx hb dX4_copy_14 rfl (lv_at hl 0 rfl) ?_
      refine lv_bipush (v := (-2)) hx hb dX4_copy_15 (by decide) ?_
      obtain ⟨x37, σ36, h1, h⟩ := k_ob2 h
      refine k_callVi C hP hap hAA (c_X4_no l ev ad σ (-2)   _ _ h1) Emb.same hap gz_X4_no qML_RX4_56 qIM_yX4_no qSE_yX4_no ⟨(Nat.le_of_ble_eq_true rfl), (Nat.le_of_ble_eq_true rfl)⟩ (q0 := 0) rfl (by decide) rfl rfl rfl rfl hl.1 rfl (Nat.le_of_ble_eq_true rfl) dX4_copy_17 ⟨Nat.le_refl _, Nat.le_refl _⟩ (fun H locs hP => ?_)
      exact e_iret C hend hP (k_some2 h).1 (congrArg (mw ev ad) (k_some2 h).2) dX4_copy_20
