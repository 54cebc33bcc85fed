/-! functions read off, and their contracts: by program (wip/whole/gen2.py) -/
def f_X3_seed (σ : XX) (a1 : Int32) : Option (Int32 × XX) :=
  lt (g_seed (x_now σ)) (fun x1 => lt (x_now' σ (g_seed' (x_now σ) a1)) (fun σ2 => some (x1, σ2)))
set_option maxHeartbeats 4000000 in
set_option maxRecDepth 100000 in
theorem c_X3_seed (l : Launch) (ev : EV) (ad : Nat → Nat) (σ : XX) (a1 : Int32)   (r : Int32) (σ' : XX) (h : f_X3_seed σ a1 = some (r, σ')) : Ct l yX3_seed prog_1_method_56_code 3 (Option.some Jvm.ClassFile.FieldType.int) (rmk 0 0) ev 26 ad (xw ev ad σ) (xw ev ad σ') [.ref (ad 0), .int a1] (some (.int r)) := by
  refine Ct.of (by decide +kernel) (Nat.le_of_ble_eq_true rfl) ?_
  intro p e s m args below meth c Qc C hap hP hend ls hl
  have hAA : ∀ j, j < 26 → inA ad 26 (ad j) := fun j hj => ⟨j, hj, rfl⟩
  have hx := C.1
  have hb := C.2.1
  have hl : lv_has ls 3 [(0, .ref (ad 0)), (1, .int a1)] := hl
  have h := (f_X3_seed.eq_1 _ _ ).symm.trans h
  refine lv_aload_n hx hb dX3_seed_0 rfl (lv_at hl 0 rfl) ?_
  refine r_get C hP (ci := 3) rfl uin_X3 0 (by decide) 0 (by decide) rfl qFL_RX3_10 rfl rfl dX3_seed_1 ?_
  refine r_get C hP (ci := 0) rfl uin_X0 15 (by decide) 1 (by decide) rfl qFL_RX3_354 rfl rfl dX3_seed_4 ?_
  refine lv_topi (fun x1 ex1 => ?_)
  have h := k_lt ex1 h
  refine lv_istore_n (lv' := [(2, .int x1), (0, .ref (ad 0)), (1, .int a1)]) hx hb dX3_seed_7 rfl hl (by decide) rfl (fun ls hl => ?_)
  refine lv_aload_n hx hb dX3_seed_8 rfl (lv_at hl 1 rfl) ?_
  refine r_get C hP (ci := 3) rfl uin_X3 0 (by decide) 0 (by decide) rfl qFL_RX3_10 rfl rfl dX3_seed_9 ?_
  refine lv_iload_n hx hb dX3_seed_12 rfl (lv_at hl 2 rfl) ?_
  obtain ⟨σ2, eσ2, h⟩ := k_ltx h
  refine pt_X1_X0_seed C hP hap hAA eσ2 qFL_RX3_354 dX3_seed_13 (fun H locs hP => ?_)
  refine lv_iload_n hx hb dX3_seed_16 rfl (lv_at hl 0 rfl) ?_
  exact e_iret C hend hP (k_some2 h).1 (congrArg (xw ev ad) (k_some2 h).2) dX3_seed_17
def f_X3_image (σ : XX) : Option (Int32 × XX) :=
  ob (f_X0_become (x_kept σ) (x_now σ)) (fun σ1 => lt (x_kept' σ σ1) (fun σ2 => lt (x_keptCrew' σ2 (x_crew σ2)) (fun σ3 => some (1, σ3))))
set_option maxHeartbeats 4000000 in
set_option maxRecDepth 100000 in
theorem c_X3_image (l : Launch) (ev : EV) (ad : Nat → Nat) (σ : XX)   (r : Int32) (σ' : XX) (h : f_X3_image σ = some (r, σ')) : Ct l yX3_image prog_1_method_57_code 1 (Option.some Jvm.ClassFile.FieldType.int) (rmk 1 21) ev 26 ad (xw ev ad σ) (xw ev ad σ') [.ref (ad 0)] (some (.int r)) := by
  refine Ct.of (by decide +kernel) (Nat.le_of_ble_eq_true rfl) ?_
  intro p e s m args below meth c Qc C hap hP hend ls hl
  have hAA : ∀ j, j < 26 → inA ad 26 (ad j) := fun j hj => ⟨j, hj, rfl⟩
  have hx := C.1
  have hb := C.2.1
  have hl : lv_has ls 1 [(0, .ref (ad 0))] := hl
  have h := (f_X3_image.eq_1 _ ).symm.trans h
  refine lv_aload_n hx hb dX3_image_0 rfl (lv_at hl 0 rfl) ?_
  refine r_get C hP (ci := 3) rfl uin_X3 2 (by decide) 0 (by decide) rfl qFL_RX3_19 rfl rfl dX3_image_1 ?_
  refine lv_aload_n hx hb dX3_image_4 rfl (lv_at hl 0 rfl) ?_
  refine r_get C hP (ci := 3) rfl uin_X3 0 (by decide) 0 (by decide) rfl qFL_RX3_10 rfl rfl dX3_image_5 ?_
  obtain ⟨σ1, h1, h⟩ := k_ob h
  refine k_callVv C hP hap hAA (c_X0_become l ev (fun j => if j = 0 then ad 3 else ad 1) (x_kept σ) (x_now σ)   _ h1) (em_GG31) (apart_GG hap (by decide) (by decide) (by decide)) gz_X0_become qML_RX3_165 qIM_yX0_become qSE_yX0_become ⟨(Nat.le_of_ble_eq_true rfl), (Nat.le_of_ble_eq_true rfl)⟩ (q0 := 3) rfl (by decide) rfl rfl rfl rfl hl.1 rfl (Nat.le_of_ble_eq_true rfl) dX3_image_8 ⟨Nat.le_refl _, Nat.le_refl _⟩ (fun H locs hP => ?_)
  obtain ⟨σ2, eσ2, h⟩ := k_ltx h
  rw [← eσ2] at hP
  refine lv_aload_n hx hb dX3_image_11 rfl (lv_at hl 0 rfl) ?_
  refine lv_aload_n hx hb dX3_image_12 rfl (lv_at hl 0 rfl) ?_
  refine r_get C hP (ci := 3) rfl uin_X3 6 (by decide) 0 (by decide) rfl qFL_RX3_33 rfl rfl dX3_image_13 ?_
  obtain ⟨σ3, eσ3, h⟩ := k_ltx h
  refine pt_X_X3_keptCrew C hP hap hAA eσ3 qFL_RX3_22 dX3_image_16 (fun H locs hP => ?_)
  refine lv_iconst (v := 1) hx hb dX3_image_19 (by decide) ?_
  exact e_iret C hend hP (k_some2 h).1 (congrArg (xw ev ad) (k_some2 h).2) dX3_image_20
def f_X3_dropLostPlayer_n (σ : XX) : Option XX :=
  some σ
set_option maxHeartbeats 4000000 in
set_option maxRecDepth 100000 in
theorem c_X3_dropLostPlayer_n (l : Launch) (ev : EV) (ad : Nat → Nat) (σ : XX)    (σ' : XX) (h : f_X3_dropLostPlayer_n σ = some σ') : Ct l yX3_dropLostPlayer prog_1_method_74_code 2 (Option.none : Option Jvm.ClassFile.FieldType) (rmk 0 0) ev 26 ad (xw ev ad σ) (xw ev ad σ') [.ref (ad 0), .null] none := by
  refine Ct.of (by decide +kernel) (Nat.le_of_ble_eq_true rfl) ?_
  intro p e s m args below meth c Qc C hap hP hend ls hl
  have hAA : ∀ j, j < 26 → inA ad 26 (ad j) := fun j hj => ⟨j, hj, rfl⟩
  have hx := C.1
  have hb := C.2.1
  have hl : lv_has ls 2 [(0, .ref (ad 0)), (1, .null)] := hl
  have h := (f_X3_dropLostPlayer_n.eq_1 _ ).symm.trans h
  refine lv_aload_nN hx hb dX3_dropLostPlayer_0 rfl (lv_at hl 1 rfl) ?_
  refine lv_ifnullN (tgt := 29) hx hb dX3_dropLostPlayer_1 (by decide) ?_
  exact e_vret C hend hP (congrArg (xw ev ad) (k_some h)) dX3_dropLostPlayer_29
def f_X3_dropLostPlayer_s (σ : XX) (q : Nat) : Option XX :=
  if (f_X1_bearsPlayer (x_shelf σ q)) = true then if (f_X3_isPlayer σ ((s_content (x_shelf σ q)) - 10)) = true then some σ else ob (f_X1_empty (x_shelf σ q)) (fun σ1 => lt (x_shelf' σ q σ1) (fun σ2 => some σ2)) else some σ
set_option maxHeartbeats 4000000 in
set_option maxRecDepth 100000 in
theorem c_X3_dropLostPlayer_s (l : Launch) (ev : EV) (ad : Nat → Nat) (σ : XX) (q : Nat) (hq : q < 8)   (σ' : XX) (h : f_X3_dropLostPlayer_s σ q = some σ') : Ct l yX3_dropLostPlayer prog_1_method_74_code 2 (Option.none : Option Jvm.ClassFile.FieldType) (rmk 1 21) ev 26 ad (xw ev ad σ) (xw ev ad σ') [.ref (ad 0), .ref (ad (q + 10))] none := by
  refine Ct.of (by decide +kernel) (Nat.le_of_ble_eq_true rfl) ?_
  intro p e s m args below meth c Qc C hap hP hend ls hl
  have hAA : ∀ j, j < 26 → inA ad 26 (ad j) := fun j hj => ⟨j, hj, rfl⟩
  have hx := C.1
  have hb := C.2.1
  have hl : lv_has ls 2 [(0, .ref (ad 0)), (1, .ref (ad (q + 10)))] := hl
  have h := (f_X3_dropLostPlayer_s.eq_1 _ _ ).symm.trans h
  refine lv_aload_n hx hb dX3_dropLostPlayer_0 rfl (lv_at hl 1 rfl) ?_
  refine lv_ifnull hx hb dX3_dropLostPlayer_1 ?_
  refine lv_aload_n hx hb dX3_dropLostPlayer_4 rfl (lv_at hl 1 rfl) ?_
  refine k_callVi C hP hap hAA (c_X1_bearsPlayer l ev (fun j => ad (q + 10 + 8 * j)) (x_shelf σ q)   _ rfl) (em_Sr hq) (apart_S hap hq) gz_X1_bearsPlayer qML_RX3_80 qIM_yX1_bearsPlayer qSE_yX1_bearsPlayer ⟨(Nat.le_of_ble_eq_true rfl), (Nat.le_of_ble_eq_true rfl)⟩ (q0 := (q + 10)) rfl (by omega) (xw_shelf hq) rfl rfl rfl hl.1 rfl (Nat.le_of_ble_eq_true rfl) dX3_dropLostPlayer_5 ⟨Nat.le_refl _, Nat.le_refl _⟩ (fun H locs hP => ?_)
  refine r_ifz_eq (tgt := 29) hx hb dX3_dropLostPlayer_8 (by decide) (fun c8 => ?_) (fun c8 => ?_)
  · have h := k_nf c8 h
    exact e_vret C hend hP (congrArg (xw ev ad) (k_some h)) dX3_dropLostPlayer_29
  · have h := k_if c8 h
    refine lv_aload_n hx hb dX3_dropLostPlayer_11 rfl (lv_at hl 0 rfl) ?_
    refine lv_aload_n hx hb dX3_dropLostPlayer_12 rfl (lv_at hl 1 rfl) ?_
    refine r_get C hP (ci := 1) rfl uin_X1 0 (by decide) (q + 10) (by omega) (xw_shelf hq) qFL_RX3_87 rfl rfl dX3_dropLostPlayer_13 ?_
    refine lv_bipush (v := 10) hx hb dX3_dropLostPlayer_16 (by decide) ?_
    refine lv_isub hx hb dX3_dropLostPlayer_18 ?_
    refine k_callVi C hP hap hAA (c_X3_isPlayer l ev ad σ ((s_content (x_shelf σ q)) - 10)   _ rfl) Emb.same hap gz_X3_isPlayer qML_RX3_108 qIM_yX3_isPlayer qSE_yX3_isPlayer ⟨(Nat.le_of_ble_eq_true rfl), (Nat.le_of_ble_eq_true rfl)⟩ (q0 := 0) rfl (by decide) rfl rfl rfl rfl hl.1 rfl (Nat.le_of_ble_eq_true rfl) dX3_dropLostPlayer_19 ⟨Nat.le_refl _, Nat.le_refl _⟩ (fun H locs hP => ?_)
    refine r_ifz_ne (tgt := 29) hx hb dX3_dropLostPlayer_22 (by decide) (fun c22 => ?_) (fun c22 => ?_)
    · have h := k_if c22 h
      exact e_vret C hend hP (congrArg (xw ev ad) (k_some h)) dX3_dropLostPlayer_29
    · have h := k_nf c22 h
      refine lv_aload_n hx hb dX3_dropLostPlayer_25 rfl (lv_at hl 1 rfl) ?_
      obtain ⟨σ1, h1, h⟩ := k_ob h
      refine k_callVv C hP hap hAA (c_X1_empty l ev (fun j => ad (q + 10 + 8 * j)) (x_shelf σ q)   _ h1) (em_S hq) (apart_S hap hq) gz_X1_empty qML_RX3_111 qIM_yX1_empty qSE_yX1_empty ⟨(Nat.le_of_ble_eq_true rfl), (Nat.le_of_ble_eq_true rfl)⟩ (q0 := (q + 10)) rfl (by omega) (xw_shelf hq) rfl rfl rfl hl.1 rfl (Nat.le_of_ble_eq_true rfl) dX3_dropLostPlayer_26 ⟨Nat.le_refl _, Nat.le_refl _⟩ (fun H locs hP => ?_)
      obtain ⟨σ2, eσ2, h⟩ := k_ltx h
      rw [← eσ2] at hP
      exact e_vret C hend hP (congrArg (xw ev ad) (k_some h)) dX3_dropLostPlayer_29
def f_X3_back_L36_b   (rec36 : Int32 → XX → Option (Int32 × XX)) (x4 : Int32) (σ5 : XX) : Option (Int32 × XX) :=
  if 8 ≤ x4 then some (1, σ5) else ob (f_X3_shelfAt σ5 x4) (fun o6 => om o6 (ob (f_X3_dropLostPlayer_n σ5) (fun σ8 => lt (x4 + 1) (fun x9 => rec36 x9 σ8))) (fun q7 => gd (decide (q7 < 8)) (ob (f_X3_dropLostPlayer_s σ5 q7) (fun σ10 => lt (x4 + 1) (fun x11 => rec36 x11 σ10)))))
def f_X3_back_L36   (x4 : Int32) (σ5 : XX) : Option (Int32 × XX) :=
  lp (fun _ _ => none) (f_X3_back_L36_b  ) FU x4 σ5
def f_X3_back (σ : XX) : Option (Int32 × XX) :=
  if (x_keptCrew σ) = (-1) then ob2 (f_X3_refuse σ (-5)) (fun x13 σ12 => some (x13, σ12)) else ob (f_X0_become (x_now σ) (x_kept σ)) (fun σ1 => lt (x_now' σ σ1) (fun σ2 => lt (x_crew' σ2 (x_keptCrew σ2)) (fun σ3 => f_X3_back_L36 0 σ3)))
set_option maxHeartbeats 4000000 in
set_option maxRecDepth 100000 in
theorem c_X3_back (l : Launch) (ev : EV) (ad : Nat → Nat) (σ : XX)   (r : Int32) (σ' : XX) (h : f_X3_back σ = some (r, σ')) : Ct l yX3_back prog_1_method_58_code 2 (Option.some Jvm.ClassFile.FieldType.int) (rmk 2 42) ev 26 ad (xw ev ad σ) (xw ev ad σ') [.ref (ad 0)] (some (.int r)) := by
  refine Ct.of (by decide +kernel) (Nat.le_of_ble_eq_true rfl) ?_
  intro p e s m args below meth c Qc C hap hP hend ls hl
  have hAA : ∀ j, j < 26 → inA ad 26 (ad j) := fun j hj => ⟨j, hj, rfl⟩
  have hx := C.1
  have hb := C.2.1
  have hl : lv_has ls 2 [(0, .ref (ad 0))] := hl
  have h := (f_X3_back.eq_1 _ ).symm.trans h
  refine lv_aload_n hx hb dX3_back_0 rfl (lv_at hl 0 rfl) ?_
  refine r_get C hP (ci := 3) rfl uin_X3 3 (by decide) 0 (by decide) rfl qFL_RX3_22 rfl rfl dX3_back_1 ?_
  refine lv_iconst (v := (-1)) hx hb dX3_back_4 (by decide) ?_
  refine lv_icmp_ne (tgt := 15) hx hb dX3_back_5 (by decide) (fun c5 => ?_) (fun c5 => ?_)
  · have h := k_nf c5 h
    refine lv_aload_n hx hb dX3_back_15 rfl (lv_at hl 0 rfl) ?_
    refine r_get C hP (ci := 3) rfl uin_X3 0 (by decide) 0 (by decide) rfl qFL_RX3_10 rfl rfl dX3_back_16 ?_
    refine lv_aload_n hx hb dX3_back_19 rfl (lv_at hl 0 rfl) ?_
    refine r_get C hP (ci := 3) rfl uin_X3 2 (by decide) 0 (by decide) rfl qFL_RX3_19 rfl rfl dX3_back_20 ?_
    obtain ⟨σ1, h1, h⟩ := k_ob h
    refine k_callVv C hP hap hAA (c_X0_become l ev (fun j => if j = 0 then ad 1 else ad 3) (x_now σ) (x_kept σ)   _ h1) (em_GG13) (apart_GG hap (by decide) (by decide) (by decide)) gz_X0_become qML_RX3_165 qIM_yX0_become qSE_yX0_become ⟨(Nat.le_of_ble_eq_true rfl), (Nat.le_of_ble_eq_true rfl)⟩ (q0 := 1) rfl (by decide) rfl rfl rfl rfl hl.1 rfl (Nat.le_of_ble_eq_true rfl) dX3_back_23 ⟨Nat.le_refl _, Nat.le_refl _⟩ (fun H locs hP => ?_)
    obtain ⟨σ2, eσ2, h⟩ := k_ltx h
    rw [← eσ2] at hP
    refine lv_aload_n hx hb dX3_back_26 rfl (lv_at hl 0 rfl) ?_
    refine lv_aload_n hx hb dX3_back_27 rfl (lv_at hl 0 rfl) ?_
    refine r_get C hP (ci := 3) rfl uin_X3 3 (by decide) 0 (by decide) rfl qFL_RX3_22 rfl rfl dX3_back_28 ?_
    obtain ⟨σ3, eσ3, h⟩ := k_ltx h
    refine pt_X_X3_crew C hP hap hAA eσ3 qFL_RX3_33 dX3_back_31 (fun H locs hP => ?_)
    refine lv_iconst (v := 0) hx hb dX3_back_34 (by decide) ?_
    refine lv_istore_n (lv' := [(1, .int 0), (0, .ref (ad 0))]) hx hb dX3_back_35 rfl hl (by decide) rfl (fun ls hl => ?_)
    have hL36 : ∀ (n : Nat) (x4 : Int32) (σ5 : XX) (H : Heap) (locs : List Loc) (ls : Array Slot), lp (fun _ _ => none) (f_X3_back_L36_b  ) n x4 σ5 = some (r, σ') → PS ev 26 ad (xw ev ad σ5) (inA ad 26) s H locs → lv_has ls 2 [(0, .ref (ad 0)), (1, .int x4)] → WW ev p l e (rmk 2 42) s m args below meth c Qc ad 26 H locs 36 ls [] := by
      intro n
      induction n with
      | zero =>
        intro x4 σ5 H locs ls h; exact k_none h
      | succ n ih =>
        intro x4 σ5 H locs ls h hP hl
        have h : f_X3_back_L36_b   (lp (fun _ _ => none) (f_X3_back_L36_b  ) n) x4 σ5 = some (r, σ') := h
        have h := (f_X3_back_L36_b.eq_1 _ _ _ ).symm.trans h
        refine lv_iload_n hx hb dX3_back_36 rfl (lv_at hl 1 rfl) ?_
        refine lv_bipush (v := 8) hx hb dX3_back_37 (by decide) ?_
        refine lv_icmp_ge (tgt := 57) hx hb dX3_back_39 (by decide) (fun c39 => ?_) (fun c39 => ?_)
        · have h := k_if c39 h
          refine lv_iconst (v := 1) hx hb dX3_back_57 (by decide) ?_
          exact e_iret C hend hP (k_some2 h).1 (congrArg (xw ev ad) (k_some2 h).2) dX3_back_58
        · have h := k_nf c39 h
          refine lv_aload_n hx hb dX3_back_42 rfl (lv_at hl 0 rfl) ?_
          refine lv_aload_n hx hb dX3_back_43 rfl (lv_at hl 0 rfl) ?_
          refine lv_iload_n hx hb dX3_back_44 rfl (lv_at hl 1 rfl) ?_
          obtain ⟨o6, h1, h⟩ := k_ob h
          refine k_callVo C hP hap hAA (c_X3_shelfAt l ev ad σ5 x4   _ h1) Emb.same hap gz_X3_shelfAt qML_RX3_56 qIM_yX3_shelfAt qSE_yX3_shelfAt ⟨(Nat.le_of_ble_eq_true rfl), (Nat.le_of_ble_eq_true rfl)⟩ (q0 := 0) rfl (by decide) rfl rfl rfl rfl hl.1 rfl (Nat.le_of_ble_eq_true rfl) dX3_back_45 ⟨Nat.le_refl _, Nat.le_refl _⟩ (fun H locs hP => ?_)
          rcases o6 with _ | q7
          · have h := k_omN h
            obtain ⟨σ8, h1, h⟩ := k_ob h
            refine k_callVv C hP hap hAA (c_X3_dropLostPlayer_n l ev ad σ5   _ h1) Emb.same hap gz_X3_dropLostPlayer qML_RX3_357 qIM_yX3_dropLostPlayer qSE_yX3_dropLostPlayer ⟨(Nat.le_of_ble_eq_true rfl), (Nat.le_of_ble_eq_true rfl)⟩ (q0 := 0) rfl (by decide) rfl rfl rfl rfl hl.1 rfl (Nat.le_of_ble_eq_true rfl) dX3_back_48 ⟨Nat.le_refl _, Nat.le_refl _⟩ (fun H locs hP => ?_)
            obtain ⟨x9, ex9, h⟩ := k_ltx h
            refine lv_iinc (v := x9) (lv' := [(1, .int x9), (0, .ref (ad 0))]) hx hb dX3_back_51 hl (k := 1) rfl (by rw [ex9]; rfl) (by decide) rfl (fun ls hl => ?_)
            refine lv_goto (tgt := 36) hx hb dX3_back_54 (by decide) ?_
            exact ih _ _ _ _ _ h hP (lv_sub hl [1, 0] rfl)
          · obtain ⟨hg, h⟩ := k_gd (k_omS h)
            have hq7 : q7 < 8 := of_decide_eq_true hg
            obtain ⟨σ10, h1, h⟩ := k_ob h
            refine k_callVv C hP hap hAA (c_X3_dropLostPlayer_s l ev ad σ5 q7 hq7  _ h1) Emb.same hap gz_X3_dropLostPlayer qML_RX3_357 qIM_yX3_dropLostPlayer qSE_yX3_dropLostPlayer ⟨(Nat.le_of_ble_eq_true rfl), (Nat.le_of_ble_eq_true rfl)⟩ (q0 := 0) rfl (by decide) rfl rfl rfl rfl hl.1 rfl (Nat.le_of_ble_eq_true rfl) dX3_back_48 ⟨Nat.le_refl _, Nat.le_refl _⟩ (fun H locs hP => ?_)
            obtain ⟨x11, ex11, h⟩ := k_ltx h
            refine lv_iinc (v := x11) (lv' := [(1, .int x11), (0, .ref (ad 0))]) hx hb dX3_back_51 hl (k := 1) rfl (by rw [ex11]; rfl) (by decide) rfl (fun ls hl => ?_)
            refine lv_goto (tgt := 36) hx hb dX3_back_54 (by decide) ?_
            exact ih _ _ _ _ _ h hP (lv_sub hl [1, 0] rfl)
    exact hL36 FU _ _ _ _ _ h hP (lv_sub hl [1, 0] rfl)
  · have h := k_if c5 h
    refine lv_aload_n hx hb dX3_back_8 rfl (lv_at hl 0 rfl) ?_
    refine lv_bipush (v := (-5)) hx hb dX3_back_9 (by decide) ?_
    obtain ⟨x13, σ12, h1, h⟩ := k_ob2 h
    refine k_callVi C hP hap hAA (c_X3_refuse l ev ad σ (-5)   _ _ h1) Emb.same hap gz_X3_refuse qML_RX3_60 qIM_yX3_refuse qSE_yX3_refuse ⟨(Nat.le_of_ble_eq_true rfl), (Nat.le_of_ble_eq_true rfl)⟩ (q0 := 0) rfl (by decide) rfl rfl rfl rfl hl.1 rfl (Nat.le_of_ble_eq_true rfl) dX3_back_11 ⟨Nat.le_refl _, Nat.le_refl _⟩ (fun H locs hP => ?_)
    exact e_iret C hend hP (k_some2 h).1 (congrArg (xw ev ad) (k_some2 h).2) dX3_back_14
def f_X3_fullShelves_L4_b (σ : XX)  (rec4 : Int32 → Int32 → Option (Int32)) (x1 : Int32) (x2 : Int32) : Option (Int32) :=
  if 8 ≤ x2 then some x1 else ob (f_X3_holds σ x2) (fun x3 => if x3 = (-1) then lt (x1 + (f_X3_truth 0)) (fun x4 => lt (x2 + 1) (fun x5 => rec4 x4 x5)) else lt (x1 + (f_X3_truth 1)) (fun x6 => lt (x2 + 1) (fun x7 => rec4 x6 x7)))
def f_X3_fullShelves_L4 (σ : XX)  (x1 : Int32) (x2 : Int32) : Option (Int32) :=
  lp (fun _ _ => none) (f_X3_fullShelves_L4_b σ ) FU x1 x2
def f_X3_fullShelves (σ : XX) : Option (Int32) :=
  f_X3_fullShelves_L4 σ 0 0
set_option maxHeartbeats 4000000 in
set_option maxRecDepth 100000 in
theorem c_X3_fullShelves (l : Launch) (ev : EV) (ad : Nat → Nat) (σ : XX)   (r : Int32)  (h : f_X3_fullShelves σ = some r) : Ct l yX3_fullShelves prog_1_method_75_code 3 (Option.some Jvm.ClassFile.FieldType.int) (rmk 2 43) ev 26 ad (xw ev ad σ) (xw ev ad σ) [.ref (ad 0)] (some (.int r)) := by
  refine Ct.of (by decide +kernel) (Nat.le_of_ble_eq_true rfl) ?_
  intro p e s m args below meth c Qc C hap hP hend ls hl
  have hAA : ∀ j, j < 26 → inA ad 26 (ad j) := fun j hj => ⟨j, hj, rfl⟩
  have hx := C.1
  have hb := C.2.1
  have hl : lv_has ls 3 [(0, .ref (ad 0))] := hl
  have h := (f_X3_fullShelves.eq_1 _ ).symm.trans h
  refine lv_iconst (v := 0) hx hb dX3_fullShelves_0 (by decide) ?_
  refine lv_istore_n (lv' := [(1, .int 0), (0, .ref (ad 0))]) hx hb dX3_fullShelves_1 rfl hl (by decide) rfl (fun ls hl => ?_)
  refine lv_iconst (v := 0) hx hb dX3_fullShelves_2 (by decide) ?_
  refine lv_istore_n (lv' := [(2, .int 0), (1, .int 0), (0, .ref (ad 0))]) hx hb dX3_fullShelves_3 rfl hl (by decide) rfl (fun ls hl => ?_)
  have hL4 : ∀ (n : Nat) (x1 : Int32) (x2 : Int32) (H : Heap) (locs : List Loc) (ls : Array Slot), lp (fun _ _ => none) (f_X3_fullShelves_L4_b σ ) n x1 x2 = some r → PS ev 26 ad (xw ev ad σ) (inA ad 26) s H locs → lv_has ls 3 [(0, .ref (ad 0)), (1, .int x1), (2, .int x2)] → WW ev p l e (rmk 2 43) s m args below meth c Qc ad 26 H locs 4 ls [] := by
    intro n
    induction n with
    | zero =>
      intro x1 x2 H locs ls h; exact k_none h
    | succ n ih =>
      intro x1 x2 H locs ls h hP hl
      have h : f_X3_fullShelves_L4_b σ  (lp (fun _ _ => none) (f_X3_fullShelves_L4_b σ ) n) x1 x2 = some r := h
      have h := (f_X3_fullShelves_L4_b.eq_1 _ _ _ _ ).symm.trans h
      refine lv_iload_n hx hb dX3_fullShelves_4 rfl (lv_at hl 2 rfl) ?_
      refine lv_bipush (v := 8) hx hb dX3_fullShelves_5 (by decide) ?_
      refine lv_icmp_ge (tgt := 36) hx hb dX3_fullShelves_7 (by decide) (fun c7 => ?_) (fun c7 => ?_)
      · have h := k_if c7 h
        refine lv_iload_n hx hb dX3_fullShelves_36 rfl (lv_at hl 1 rfl) ?_
        exact e_iret C hend hP (k_some h) rfl dX3_fullShelves_37
      · have h := k_nf c7 h
        refine lv_iload_n hx hb dX3_fullShelves_10 rfl (lv_at hl 1 rfl) ?_
        refine lv_aload_n hx hb dX3_fullShelves_11 rfl (lv_at hl 0 rfl) ?_
        refine lv_iload_n hx hb dX3_fullShelves_12 rfl (lv_at hl 2 rfl) ?_
        obtain ⟨x3, h1, h⟩ := k_ob h
        refine k_callVi C hP hap hAA (c_X3_holds l ev ad σ x2   _ h1) Emb.same hap gz_X3_holds qML_RX3_374 qIM_yX3_holds qSE_yX3_holds ⟨(Nat.le_of_ble_eq_true rfl), (Nat.le_of_ble_eq_true rfl)⟩ (q0 := 0) rfl (by decide) rfl rfl rfl rfl hl.1 rfl (Nat.le_of_ble_eq_true rfl) dX3_fullShelves_13 ⟨Nat.le_refl _, Nat.le_refl _⟩ (fun H locs hP => ?_)
        refine lv_iconst (v := (-1)) hx hb dX3_fullShelves_16 (by decide) ?_
        refine lv_icmp_eq (tgt := 24) hx hb dX3_fullShelves_17 (by decide) (fun c17 => ?_) (fun c17 => ?_)
        · have h := k_if c17 h
          refine lv_iconst (v := 0) hx hb dX3_fullShelves_24 (by decide) ?_
          refine k_callSi C hP hap hAA (c_X3_truth l ev ad 0   _ rfl) Emb.none (apart_0 _) gz_X3_truth qML_RX3_192 qSM_yX3_truth ⟨(Nat.le_of_ble_eq_true rfl), (Nat.le_of_ble_eq_true rfl)⟩ rfl hl.1 rfl (Nat.le_of_ble_eq_true rfl) dX3_fullShelves_25 ⟨Nat.le_refl _, Nat.le_refl _⟩ (fun H locs hP => ?_)
          refine lv_iadd hx hb dX3_fullShelves_28 ?_
          refine lv_topi (fun x4 ex4 => ?_)
          have h := k_lt ex4 h
          refine lv_istore_n (lv' := [(1, .int x4), (0, .ref (ad 0)), (2, .int x2)]) hx hb dX3_fullShelves_29 rfl hl (by decide) rfl (fun ls hl => ?_)
          obtain ⟨x5, ex5, h⟩ := k_ltx h
          refine lv_iinc (v := x5) (lv' := [(2, .int x5), (1, .int x4), (0, .ref (ad 0))]) hx hb dX3_fullShelves_30 hl (k := 2) rfl (by rw [ex5]; rfl) (by decide) rfl (fun ls hl => ?_)
          refine lv_goto (tgt := 4) hx hb dX3_fullShelves_33 (by decide) ?_
          exact ih _ _ _ _ _ h hP (lv_sub hl [2, 1, 0] rfl)
        · have h := k_nf c17 h
          refine lv_iconst (v := 1) hx hb dX3_fullShelves_20 (by decide) ?_
          refine lv_goto (tgt := 25) hx hb dX3_fullShelves_21 (by decide) ?_
          refine k_callSi C hP hap hAA (c_X3_truth l ev ad 1   _ rfl) Emb.none (apart_0 _) gz_X3_truth qML_RX3_192 qSM_yX3_truth ⟨(Nat.le_of_ble_eq_true rfl), (Nat.le_of_ble_eq_true rfl)⟩ rfl hl.1 rfl (Nat.le_of_ble_eq_true rfl) dX3_fullShelves_25 ⟨Nat.le_refl _, Nat.le_refl _⟩ (fun H locs hP => ?_)
          refine lv_iadd hx hb dX3_fullShelves_28 ?_
          refine lv_topi (fun x6 ex6 => ?_)
          have h := k_lt ex6 h
          refine lv_istore_n (lv' := [(1, .int x6), (0, .ref (ad 0)), (2, .int x2)]) hx hb dX3_fullShelves_29 rfl hl (by decide) rfl (fun ls hl => ?_)
          obtain ⟨x7, ex7, h⟩ := k_ltx h
          refine lv_iinc (v := x7) (lv' := [(2, .int x7), (1, .int x6), (0, .ref (ad 0))]) hx hb dX3_fullShelves_30 hl (k := 2) rfl (by rw [ex7]; rfl) (by decide) rfl (fun ls hl => ?_)
          refine lv_goto (tgt := 4) hx hb dX3_fullShelves_33 (by decide) ?_
          exact ih _ _ _ _ _ h hP (lv_sub hl [2, 1, 0] rfl)
  exact hL4 FU _ _ _ _ _ h hP (lv_sub hl [2, 1, 0] rfl)
def f_X3_refusalCount (σ : XX) (a1 : Int32) : Option (Int32) :=
  if a1 < 12 then some (-1) else if (a1 - 12) < 5 then gd (inb (a1 - 12) 5) (some ((x_refusals σ) (Int32.toNatClampNeg (a1 - 12)))) else some (-1)
set_option maxHeartbeats 4000000 in
set_option maxRecDepth 100000 in
theorem c_X3_refusalCount (l : Launch) (ev : EV) (ad : Nat → Nat) (σ : XX) (a1 : Int32)   (r : Int32)  (h : f_X3_refusalCount σ a1 = some r) : Ct l yX3_refusalCount prog_1_method_62_code 2 (Option.some Jvm.ClassFile.FieldType.int) (rmk 0 0) ev 26 ad (xw ev ad σ) (xw ev ad σ) [.ref (ad 0), .int a1] (some (.int r)) := by
  refine Ct.of (by decide +kernel) (Nat.le_of_ble_eq_true rfl) ?_
  intro p e s m args below meth c Qc C hap hP hend ls hl
  have hAA : ∀ j, j < 26 → inA ad 26 (ad j) := fun j hj => ⟨j, hj, rfl⟩
  have hx := C.1
  have hb := C.2.1
  have hl : lv_has ls 2 [(0, .ref (ad 0)), (1, .int a1)] := hl
  have h := (f_X3_refusalCount.eq_1 _ _ ).symm.trans h
  refine lv_iload_n hx hb dX3_refusalCount_0 rfl (lv_at hl 1 rfl) ?_
  refine lv_bipush (v := 12) hx hb dX3_refusalCount_1 (by decide) ?_
  refine lv_icmp_lt (tgt := 18) hx hb dX3_refusalCount_3 (by decide) (fun c3 => ?_) (fun c3 => ?_)
  · have h := k_if c3 h
    refine lv_iconst (v := (-1)) hx hb dX3_refusalCount_18 (by decide) ?_
    exact e_iret C hend hP (k_some h) rfl dX3_refusalCount_19
  · have h := k_nf c3 h
    refine lv_iload_n hx hb dX3_refusalCount_6 rfl (lv_at hl 1 rfl) ?_
    refine lv_bipush (v := 12) hx hb dX3_refusalCount_7 (by decide) ?_
    refine lv_isub hx hb dX3_refusalCount_9 ?_
    refine lv_aload_n hx hb dX3_refusalCount_10 rfl (lv_at hl 0 rfl) ?_
    refine r_get C hP (ci := 3) rfl uin_X3 10 (by decide) 0 (by decide) rfl qFL_RX3_52 rfl rfl dX3_refusalCount_11 ?_
    refine r_alen C hP 6 (by decide) 0 rfl rfl (v := 5) rfl dX3_refusalCount_14 ?_
    refine lv_icmp_lt (tgt := 20) hx hb dX3_refusalCount_15 (by decide) (fun c15 => ?_) (fun c15 => ?_)
    · have h := k_if c15 h
      refine lv_aload_n hx hb dX3_refusalCount_20 rfl (lv_at hl 0 rfl) ?_
      refine r_get C hP (ci := 3) rfl uin_X3 10 (by decide) 0 (by decide) rfl qFL_RX3_52 rfl rfl dX3_refusalCount_21 ?_
      refine lv_iload_n hx hb dX3_refusalCount_24 rfl (lv_at hl 1 rfl) ?_
      refine lv_bipush (v := 12) hx hb dX3_refusalCount_25 (by decide) ?_
      refine lv_isub hx hb dX3_refusalCount_27 ?_
      obtain ⟨hg, h⟩ := k_gd h
      refine r_iald C hP 6 (by decide) rfl hg dX3_refusalCount_28 ?_
      exact e_iret C hend hP (k_some h) rfl dX3_refusalCount_29
    · have h := k_nf c15 h
      refine lv_iconst (v := (-1)) hx hb dX3_refusalCount_18 (by decide) ?_
      exact e_iret C hend hP (k_some h) rfl dX3_refusalCount_19
