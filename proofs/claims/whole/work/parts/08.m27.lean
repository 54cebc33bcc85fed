/-! functions read off, and their contracts: by program (wip/whole/gen2.py) -/
def f_X3_waysToTurn (σ : XX) : Int32 :=
  if (g_width (x_now σ)) = (g_height (x_now σ)) then 8 else 4
set_option maxHeartbeats 4000000 in
set_option maxRecDepth 100000 in
theorem c_X3_waysToTurn (l : Launch) (ev : EV) (ad : Nat → Nat) (σ : XX)   (r : Int32)  (h : f_X3_waysToTurn σ = r) : Ct l yX3_waysToTurn prog_1_method_88_code 1 (Option.some Jvm.ClassFile.FieldType.int) (rmk 0 0) ev 26 ad (xw ev ad σ) (xw ev ad σ) [.ref (ad 0)] (some (.int r)) := by
  refine Ct.of (by decide +kernel) (Nat.le_of_ble_eq_true rfl) ?_
  intro p e s m args below meth c Qc C hap hP hend ls hl
  have hAA : ∀ j, j < 26 → inA ad 26 (ad j) := fun j hj => ⟨j, hj, rfl⟩
  have hx := C.1
  have hb := C.2.1
  have hl : lv_has ls 1 [(0, .ref (ad 0))] := hl
  have h := (f_X3_waysToTurn.eq_1 _ ).symm.trans h
  refine lv_aload_n hx hb dX3_waysToTurn_0 rfl (lv_at hl 0 rfl) ?_
  refine r_get C hP (ci := 3) rfl uin_X3 0 (by decide) 0 (by decide) rfl qFL_RX3_10 rfl rfl dX3_waysToTurn_1 ?_
  refine r_get C hP (ci := 0) rfl uin_X0 0 (by decide) 1 (by decide) rfl qFL_RX3_361 rfl rfl dX3_waysToTurn_4 ?_
  refine lv_aload_n hx hb dX3_waysToTurn_7 rfl (lv_at hl 0 rfl) ?_
  refine r_get C hP (ci := 3) rfl uin_X3 0 (by decide) 0 (by decide) rfl qFL_RX3_10 rfl rfl dX3_waysToTurn_8 ?_
  refine r_get C hP (ci := 0) rfl uin_X0 1 (by decide) 1 (by decide) rfl qFL_RX3_364 rfl rfl dX3_waysToTurn_11 ?_
  refine lv_icmp_ne (tgt := 22) hx hb dX3_waysToTurn_14 (by decide) (fun c14 => ?_) (fun c14 => ?_)
  · have h := k_nf c14 h
    refine lv_iconst (v := 4) hx hb dX3_waysToTurn_22 (by decide) ?_
    exact e_iret C hend hP h rfl dX3_waysToTurn_23
  · have h := k_if c14 h
    refine lv_bipush (v := 8) hx hb dX3_waysToTurn_17 (by decide) ?_
    refine lv_goto (tgt := 23) hx hb dX3_waysToTurn_19 (by decide) ?_
    exact e_iret C hend hP h rfl dX3_waysToTurn_23
def f_X3_likenesses_L4_b (σ : XX)  (rec4 : Int32 → Int32 → Option (Int32)) (x1 : Int32) (x2 : Int32) : Option (Int32) :=
  if (f_X3_waysToTurn σ) ≤ x2 then some x1 else ob (f_X0_isAlike (x_now σ) x2) (fun b3 => lt (x1 + (f_X3_truth (bi b3))) (fun x4 => lt (x2 + 1) (fun x5 => rec4 x4 x5)))
def f_X3_likenesses_L4 (σ : XX)  (x1 : Int32) (x2 : Int32) : Option (Int32) :=
  lp (fun _ _ => none) (f_X3_likenesses_L4_b σ ) FU x1 x2
def f_X3_likenesses (σ : XX) : Option (Int32) :=
  f_X3_likenesses_L4 σ 0 0
set_option maxHeartbeats 4000000 in
set_option maxRecDepth 100000 in
theorem c_X3_likenesses (l : Launch) (ev : EV) (ad : Nat → Nat) (σ : XX)   (r : Int32)  (h : f_X3_likenesses σ = some r) : Ct l yX3_likenesses prog_1_method_48_code 3 (Option.some Jvm.ClassFile.FieldType.int) (rmk 4 102) ev 26 ad (xw ev ad σ) (xw ev ad σ) [.ref (ad 0)] (some (.int r)) := by
  refine Ct.of (by decide +kernel) (Nat.le_of_ble_eq_true rfl) ?_
  intro p e s m args below meth c Qc C hap hP hend ls hl
  have hAA : ∀ j, j < 26 → inA ad 26 (ad j) := fun j hj => ⟨j, hj, rfl⟩
  have hx := C.1
  have hb := C.2.1
  have hl : lv_has ls 3 [(0, .ref (ad 0))] := hl
  have h := (f_X3_likenesses.eq_1 _ ).symm.trans h
  refine lv_iconst (v := 0) hx hb dX3_likenesses_0 (by decide) ?_
  refine lv_istore_n (lv' := [(1, .int 0), (0, .ref (ad 0))]) hx hb dX3_likenesses_1 rfl hl (by decide) rfl (fun ls hl => ?_)
  refine lv_iconst (v := 0) hx hb dX3_likenesses_2 (by decide) ?_
  refine lv_istore_n (lv' := [(2, .int 0), (1, .int 0), (0, .ref (ad 0))]) hx hb dX3_likenesses_3 rfl hl (by decide) rfl (fun ls hl => ?_)
  have hL4 : ∀ (n : Nat) (x1 : Int32) (x2 : Int32) (H : Heap) (locs : List Loc) (ls : Array Slot), lp (fun _ _ => none) (f_X3_likenesses_L4_b σ ) n x1 x2 = some r → PS ev 26 ad (xw ev ad σ) (inA ad 26) s H locs → lv_has ls 3 [(0, .ref (ad 0)), (1, .int x1), (2, .int x2)] → WW ev p l e (rmk 4 102) s m args below meth c Qc ad 26 H locs 4 ls [] := by
    intro n
    induction n with
    | zero =>
      intro x1 x2 H locs ls h; exact k_none h
    | succ n ih =>
      intro x1 x2 H locs ls h hP hl
      have h : f_X3_likenesses_L4_b σ  (lp (fun _ _ => none) (f_X3_likenesses_L4_b σ ) n) x1 x2 = some r := h
      have h := (f_X3_likenesses_L4_b.eq_1 _ _ _ _ ).symm.trans h
      refine lv_iload_n hx hb dX3_likenesses_4 rfl (lv_at hl 2 rfl) ?_
      refine lv_aload_n hx hb dX3_likenesses_5 rfl (lv_at hl 0 rfl) ?_
      refine k_callVi C hP hap hAA (c_X3_waysToTurn l ev ad σ   _ rfl) Emb.same hap gz_X3_waysToTurn qML_RX3_331 qIM_yX3_waysToTurn qSE_yX3_waysToTurn ⟨(Nat.le_of_ble_eq_true rfl), (Nat.le_of_ble_eq_true rfl)⟩ (q0 := 0) rfl (by decide) rfl rfl rfl rfl hl.1 rfl (Nat.le_of_ble_eq_true rfl) dX3_likenesses_6 ⟨Nat.le_refl _, Nat.le_refl _⟩ (fun H locs hP => ?_)
      refine lv_icmp_ge (tgt := 32) hx hb dX3_likenesses_9 (by decide) (fun c9 => ?_) (fun c9 => ?_)
      · have h := k_if c9 h
        refine lv_iload_n hx hb dX3_likenesses_32 rfl (lv_at hl 1 rfl) ?_
        exact e_iret C hend hP (k_some h) rfl dX3_likenesses_33
      · have h := k_nf c9 h
        refine lv_iload_n hx hb dX3_likenesses_12 rfl (lv_at hl 1 rfl) ?_
        refine lv_aload_n hx hb dX3_likenesses_13 rfl (lv_at hl 0 rfl) ?_
        refine r_get C hP (ci := 3) rfl uin_X3 0 (by decide) 0 (by decide) rfl qFL_RX3_10 rfl rfl dX3_likenesses_14 ?_
        refine lv_iload_n hx hb dX3_likenesses_17 rfl (lv_at hl 2 rfl) ?_
        obtain ⟨b3, h1, h⟩ := k_ob h
        refine k_callVi C hP hap hAA (c_X0_isAlike l ev (fun j => ad (j + 1)) (x_now σ) x2   _ h1) (em_G1r) (apart_1 _) gz_X0_isAlike qML_RX3_334 qIM_yX0_isAlike qSE_yX0_isAlike ⟨(Nat.le_of_ble_eq_true rfl), (Nat.le_of_ble_eq_true rfl)⟩ (q0 := 1) rfl (by decide) rfl rfl rfl rfl hl.1 rfl (Nat.le_of_ble_eq_true rfl) dX3_likenesses_18 ⟨Nat.le_refl _, Nat.le_refl _⟩ (fun H locs hP => ?_)
        refine k_callSi C hP hap hAA (c_X3_truth l ev ad (bi b3)   _ rfl) Emb.none (apart_0 _) gz_X3_truth qML_RX3_192 qSM_yX3_truth ⟨(Nat.le_of_ble_eq_true rfl), (Nat.le_of_ble_eq_true rfl)⟩ rfl hl.1 rfl (Nat.le_of_ble_eq_true rfl) dX3_likenesses_21 ⟨Nat.le_refl _, Nat.le_refl _⟩ (fun H locs hP => ?_)
        refine lv_iadd hx hb dX3_likenesses_24 ?_
        refine lv_topi (fun x4 ex4 => ?_)
        have h := k_lt ex4 h
        refine lv_istore_n (lv' := [(1, .int x4), (0, .ref (ad 0)), (2, .int x2)]) hx hb dX3_likenesses_25 rfl hl (by decide) rfl (fun ls hl => ?_)
        obtain ⟨x5, ex5, h⟩ := k_ltx h
        refine lv_iinc (v := x5) (lv' := [(2, .int x5), (1, .int x4), (0, .ref (ad 0))]) hx hb dX3_likenesses_26 hl (k := 2) rfl (by rw [ex5]; rfl) (by decide) rfl (fun ls hl => ?_)
        refine lv_goto (tgt := 4) hx hb dX3_likenesses_29 (by decide) ?_
        exact ih _ _ _ _ _ h hP (lv_sub hl [2, 1, 0] rfl)
  exact hL4 FU _ _ _ _ _ h hP (lv_sub hl [2, 1, 0] rfl)
def f_X3_alike (σ : XX) (a1 : Int32) : Option (Int32 × XX) :=
  if a1 < 0 then ob2 (f_X3_refuse σ (-2)) (fun x2 σ1 => some (x2, σ1)) else if a1 < (f_X3_waysToTurn σ) then ob (f_X0_isAlike (x_now σ) a1) (fun b3 => some ((f_X3_truth (bi b3)), σ)) else ob2 (f_X3_refuse σ (-2)) (fun x5 σ4 => some (x5, σ4))
set_option maxHeartbeats 4000000 in
set_option maxRecDepth 100000 in
theorem c_X3_alike (l : Launch) (ev : EV) (ad : Nat → Nat) (σ : XX) (a1 : Int32)   (r : Int32) (σ' : XX) (h : f_X3_alike σ a1 = some (r, σ')) : Ct l yX3_alike prog_1_method_49_code 2 (Option.some Jvm.ClassFile.FieldType.int) (rmk 4 102) ev 26 ad (xw ev ad σ) (xw ev ad σ') [.ref (ad 0), .int a1] (some (.int r)) := by
  refine Ct.of (by decide +kernel) (Nat.le_of_ble_eq_true rfl) ?_
  intro p e s m args below meth c Qc C hap hP hend ls hl
  have hAA : ∀ j, j < 26 → inA ad 26 (ad j) := fun j hj => ⟨j, hj, rfl⟩
  have hx := C.1
  have hb := C.2.1
  have hl : lv_has ls 2 [(0, .ref (ad 0)), (1, .int a1)] := hl
  have h := (f_X3_alike.eq_1 _ _ ).symm.trans h
  refine lv_iload_n hx hb dX3_alike_0 rfl (lv_at hl 1 rfl) ?_
  refine lv_if_lt (tgt := 12) hx hb dX3_alike_1 (by decide) (fun c1 => ?_) (fun c1 => ?_)
  · have h := k_if c1 h
    refine lv_aload_n hx hb dX3_alike_12 rfl (lv_at hl 0 rfl) ?_
    refine lv_bipush (v := (-2)) hx hb dX3_alike_13 (by decide) ?_
    obtain ⟨x2, σ1, h1, h⟩ := k_ob2 h
    refine k_callVi C hP hap hAA (c_X3_refuse l ev ad σ (-2)   _ _ h1) Emb.same hap gz_X3_refuse qML_RX3_60 qIM_yX3_refuse qSE_yX3_refuse ⟨(Nat.le_of_ble_eq_true rfl), (Nat.le_of_ble_eq_true rfl)⟩ (q0 := 0) rfl (by decide) rfl rfl rfl rfl hl.1 rfl (Nat.le_of_ble_eq_true rfl) dX3_alike_15 ⟨Nat.le_refl _, Nat.le_refl _⟩ (fun H locs hP => ?_)
    exact e_iret C hend hP (k_some2 h).1 (congrArg (xw ev ad) (k_some2 h).2) dX3_alike_18
  · have h := k_nf c1 h
    refine lv_iload_n hx hb dX3_alike_4 rfl (lv_at hl 1 rfl) ?_
    refine lv_aload_n hx hb dX3_alike_5 rfl (lv_at hl 0 rfl) ?_
    refine k_callVi C hP hap hAA (c_X3_waysToTurn l ev ad σ   _ rfl) Emb.same hap gz_X3_waysToTurn qML_RX3_331 qIM_yX3_waysToTurn qSE_yX3_waysToTurn ⟨(Nat.le_of_ble_eq_true rfl), (Nat.le_of_ble_eq_true rfl)⟩ (q0 := 0) rfl (by decide) rfl rfl rfl rfl hl.1 rfl (Nat.le_of_ble_eq_true rfl) dX3_alike_6 ⟨Nat.le_refl _, Nat.le_refl _⟩ (fun H locs hP => ?_)
    refine lv_icmp_lt (tgt := 19) hx hb dX3_alike_9 (by decide) (fun c9 => ?_) (fun c9 => ?_)
    · have h := k_if c9 h
      refine lv_aload_n hx hb dX3_alike_19 rfl (lv_at hl 0 rfl) ?_
      refine r_get C hP (ci := 3) rfl uin_X3 0 (by decide) 0 (by decide) rfl qFL_RX3_10 rfl rfl dX3_alike_20 ?_
      refine lv_iload_n hx hb dX3_alike_23 rfl (lv_at hl 1 rfl) ?_
      obtain ⟨b3, h1, h⟩ := k_ob h
      refine k_callVi C hP hap hAA (c_X0_isAlike l ev (fun j => ad (j + 1)) (x_now σ) a1   _ h1) (em_G1r) (apart_1 _) gz_X0_isAlike qML_RX3_334 qIM_yX0_isAlike qSE_yX0_isAlike ⟨(Nat.le_of_ble_eq_true rfl), (Nat.le_of_ble_eq_true rfl)⟩ (q0 := 1) rfl (by decide) rfl rfl rfl rfl hl.1 rfl (Nat.le_of_ble_eq_true rfl) dX3_alike_24 ⟨Nat.le_refl _, Nat.le_refl _⟩ (fun H locs hP => ?_)
      refine k_callSi C hP hap hAA (c_X3_truth l ev ad (bi b3)   _ rfl) Emb.none (apart_0 _) gz_X3_truth qML_RX3_192 qSM_yX3_truth ⟨(Nat.le_of_ble_eq_true rfl), (Nat.le_of_ble_eq_true rfl)⟩ rfl hl.1 rfl (Nat.le_of_ble_eq_true rfl) dX3_alike_27 ⟨Nat.le_refl _, Nat.le_refl _⟩ (fun H locs hP => ?_)
      exact e_iret C hend hP (k_some2 h).1 (congrArg (xw ev ad) (k_some2 h).2) dX3_alike_30
    · have h := k_nf c9 h
      refine lv_aload_n hx hb dX3_alike_12 rfl (lv_at hl 0 rfl) ?_
      refine lv_bipush (v := (-2)) hx hb dX3_alike_13 (by decide) ?_
      obtain ⟨x5, σ4, h1, h⟩ := k_ob2 h
      refine k_callVi C hP hap hAA (c_X3_refuse l ev ad σ (-2)   _ _ h1) Emb.same hap gz_X3_refuse qML_RX3_60 qIM_yX3_refuse qSE_yX3_refuse ⟨(Nat.le_of_ble_eq_true rfl), (Nat.le_of_ble_eq_true rfl)⟩ (q0 := 0) rfl (by decide) rfl rfl rfl rfl hl.1 rfl (Nat.le_of_ble_eq_true rfl) dX3_alike_15 ⟨Nat.le_refl _, Nat.le_refl _⟩ (fun H locs hP => ?_)
      exact e_iret C hend hP (k_some2 h).1 (congrArg (xw ev ad) (k_some2 h).2) dX3_alike_18
def f_X3_toldTrouble_n (a2 : Int32) : Int32 :=
  (-2)
set_option maxHeartbeats 4000000 in
set_option maxRecDepth 100000 in
theorem c_X3_toldTrouble_n (l : Launch) (ev : EV) (ad : Nat → Nat) (a2 : Int32)   (r : Int32)  (h : f_X3_toldTrouble_n a2 = r) : Ct l yX3_toldTrouble prog_1_method_72_code 3 (Option.some Jvm.ClassFile.FieldType.int) (rmk 0 0) ev 0 ad w00 w00 [.null, .int a2] (some (.int r)) := by
  refine Ct.of (by decide +kernel) (Nat.le_of_ble_eq_true rfl) ?_
  intro p e s m args below meth c Qc C hap hP hend ls hl
  have hAA : ∀ j, j < 0 → inA ad 0 (ad j) := fun j hj => ⟨j, hj, rfl⟩
  have hx := C.1
  have hb := C.2.1
  have hl : lv_has ls 3 [(0, .null), (1, .int a2)] := hl
  have h := (f_X3_toldTrouble_n.eq_1 _ ).symm.trans h
  refine lv_aload_nN hx hb dX3_toldTrouble_0 rfl (lv_at hl 0 rfl) ?_
  refine lv_ifnullN (tgt := 14) hx hb dX3_toldTrouble_1 (by decide) ?_
  refine lv_bipush (v := (-2)) hx hb dX3_toldTrouble_14 (by decide) ?_
  exact e_iret C hend hP h rfl dX3_toldTrouble_16
def f_X3_toldWrong_n_b59 (rec13 : Int32 → XX → Option (Int32 × XX)) (x8 : Int32) (x9 : Int32) (σ10 : XX) : Option (Int32 × XX) :=
  if x9 = (-1) then some (x8, σ10) else if (f_X0_isOpen (x_thought σ10) x9) = true then ob (f_X0_make (x_thought σ10) x9) (fun σ11 => lt (x_thought' σ10 σ11) (fun σ12 => lt (x8 + 1) (fun x13 => rec13 x13 σ12))) else some (x8, σ10)
def f_X3_toldWrong_n_b33 (rec13 : Int32 → XX → Option (Int32 × XX)) (x5 : Int32) (y6 : Int64) (σ7 : XX) : Option (Int32 × XX) :=
  if (lg_cmp y6 (Int32.toInt64 (Int64.toInt32 y6))) = 0 then f_X3_toldWrong_n_b59 rec13 x5 ((f_X0_slotOf (x_thought σ7) (Int64.toInt32 y6))) σ7 else f_X3_toldWrong_n_b59 rec13 x5 (-1) σ7
def f_X3_toldWrong_n_L13_b (a2 : Int32)  (rec13 : Int32 → XX → Option (Int32 × XX)) (x3 : Int32) (σ4 : XX) : Option (Int32 × XX) :=
  if a2 ≤ x3 then some ((-1), σ4) else f_X3_toldWrong_n_b33 rec13 x3 (-1) σ4
def f_X3_toldWrong_n_L13 (a2 : Int32)  (x3 : Int32) (σ4 : XX) : Option (Int32 × XX) :=
  lp (fun _ _ => none) (f_X3_toldWrong_n_L13_b a2 ) FU x3 σ4
def f_X3_toldWrong_n (σ : XX) (a2 : Int32) : Option (Int32 × XX) :=
  ob (f_X0_become (x_thought σ) (x_now σ)) (fun σ1 => lt (x_thought' σ σ1) (fun σ2 => f_X3_toldWrong_n_L13 a2 0 σ2))
set_option maxHeartbeats 4000000 in
set_option maxRecDepth 100000 in
theorem c_X3_toldWrong_n (l : Launch) (ev : EV) (ad : Nat → Nat) (σ : XX) (a2 : Int32)   (r : Int32) (σ' : XX) (h : f_X3_toldWrong_n σ a2 = some (r, σ')) : Ct l yX3_toldWrong prog_1_method_73_code 7 (Option.some Jvm.ClassFile.FieldType.int) (rmk 4 81) ev 26 ad (xw ev ad σ) (xw ev ad σ') [.ref (ad 0), .null, .int a2] (some (.int r)) := by
  refine Ct.of (by decide +kernel) (Nat.le_of_ble_eq_true rfl) ?_
  intro p e s m args below meth c Qc C hap hP hend ls hl
  have hAA : ∀ j, j < 26 → inA ad 26 (ad j) := fun j hj => ⟨j, hj, rfl⟩
  have hx := C.1
  have hb := C.2.1
  have hl : lv_has ls 7 [(0, .ref (ad 0)), (1, .null), (2, .int a2)] := hl
  have h := (f_X3_toldWrong_n.eq_1 _ _ ).symm.trans h
  refine lv_aload_n hx hb dX3_toldWrong_0 rfl (lv_at hl 0 rfl) ?_
  refine r_get C hP (ci := 3) rfl uin_X3 1 (by decide) 0 (by decide) rfl qFL_RX3_16 rfl rfl dX3_toldWrong_1 ?_
  refine lv_aload_n hx hb dX3_toldWrong_4 rfl (lv_at hl 0 rfl) ?_
  refine r_get C hP (ci := 3) rfl uin_X3 0 (by decide) 0 (by decide) rfl qFL_RX3_10 rfl rfl dX3_toldWrong_5 ?_
  obtain ⟨σ1, h1, h⟩ := k_ob h
  refine k_callVv C hP hap hAA (c_X0_become l ev (fun j => if j = 0 then ad 2 else ad 1) (x_thought σ) (x_now σ)   _ h1) (em_GG21) (apart_GG hap (by decide) (by decide) (by decide)) gz_X0_become qML_RX3_165 qIM_yX0_become qSE_yX0_become ⟨(Nat.le_of_ble_eq_true rfl), (Nat.le_of_ble_eq_true rfl)⟩ (q0 := 2) rfl (by decide) rfl rfl rfl rfl hl.1 rfl (Nat.le_of_ble_eq_true rfl) dX3_toldWrong_8 ⟨Nat.le_refl _, Nat.le_refl _⟩ (fun H locs hP => ?_)
  obtain ⟨σ2, eσ2, h⟩ := k_ltx h
  rw [← eσ2] at hP
  refine lv_iconst (v := 0) hx hb dX3_toldWrong_11 (by decide) ?_
  refine lv_istore_n (lv' := [(3, .int 0), (0, .ref (ad 0)), (1, .null), (2, .int a2)]) hx hb dX3_toldWrong_12 rfl hl (by decide) rfl (fun ls hl => ?_)
  have hL13 : ∀ (n : Nat) (x3 : Int32) (σ4 : XX) (H : Heap) (locs : List Loc) (ls : Array Slot), lp (fun _ _ => none) (f_X3_toldWrong_n_L13_b a2 ) n x3 σ4 = some (r, σ') → PS ev 26 ad (xw ev ad σ4) (inA ad 26) s H locs → lv_has ls 7 [(0, .ref (ad 0)), (1, .null), (2, .int a2), (3, .int x3)] → WW ev p l e (rmk 4 81) s m args below meth c Qc ad 26 H locs 13 ls [] := by
    intro n
    induction n with
    | zero =>
      intro x3 σ4 H locs ls h; exact k_none h
    | succ n ih =>
      intro x3 σ4 H locs ls h hP hl
      have h : f_X3_toldWrong_n_L13_b a2  (lp (fun _ _ => none) (f_X3_toldWrong_n_L13_b a2 ) n) x3 σ4 = some (r, σ') := h
      have h := (f_X3_toldWrong_n_L13_b.eq_1 _ _ _ _ ).symm.trans h
      have hB59 : ∀ (x8 : Int32) (x9 : Int32) (σ10 : XX) (H : Heap) (locs : List Loc) (ls : Array Slot), f_X3_toldWrong_n_b59 (lp (fun _ _ => none) (f_X3_toldWrong_n_L13_b a2 ) n) x8 x9 σ10 = some (r, σ') → PS ev 26 ad (xw ev ad σ10) (inA ad 26) s H locs → lv_has ls 7 [(0, .ref (ad 0)), (1, .null), (2, .int a2), (3, .int x8)] → WW ev p l e (rmk 4 81) s m args below meth c Qc ad 26 H locs 59 ls [.int x9] := by
        intro x8 x9 σ10 H locs ls h hP hl
        have h := (f_X3_toldWrong_n_b59.eq_1 _ _ _ _ ).symm.trans h
        refine lv_istore (lv' := [(6, .int x9), (0, .ref (ad 0)), (1, .null), (2, .int a2), (3, .int x8)]) hx hb dX3_toldWrong_59 hl (by decide) rfl (fun ls hl => ?_)
        refine lv_iload hx hb dX3_toldWrong_61 (lv_at hl 0 rfl) ?_
        refine lv_iconst (v := (-1)) hx hb dX3_toldWrong_63 (by decide) ?_
        refine lv_icmp_eq (tgt := 79) hx hb dX3_toldWrong_64 (by decide) (fun c64 => ?_) (fun c64 => ?_)
        · have h := k_if c64 h
          refine lv_iload_n hx hb dX3_toldWrong_79 rfl (lv_at hl 4 rfl) ?_
          exact e_iret C hend hP (k_some2 h).1 (congrArg (xw ev ad) (k_some2 h).2) dX3_toldWrong_80
        · have h := k_nf c64 h
          refine lv_aload_n hx hb dX3_toldWrong_67 rfl (lv_at hl 1 rfl) ?_
          refine r_get C hP (ci := 3) rfl uin_X3 1 (by decide) 0 (by decide) rfl qFL_RX3_16 rfl rfl dX3_toldWrong_68 ?_
          refine lv_iload hx hb dX3_toldWrong_71 (lv_at hl 0 rfl) ?_
          refine k_callVi C hP hap hAA (c_X0_isOpen l ev (fun j => ad (j + 2)) (x_thought σ10) x9   _ rfl) (em_G2r) (apart_1 _) gz_X0_isOpen qML_RX3_242 qIM_yX0_isOpen qSE_yX0_isOpen ⟨(Nat.le_of_ble_eq_true rfl), (Nat.le_of_ble_eq_true rfl)⟩ (q0 := 2) rfl (by decide) rfl rfl rfl rfl hl.1 rfl (Nat.le_of_ble_eq_true rfl) dX3_toldWrong_73 ⟨Nat.le_refl _, Nat.le_refl _⟩ (fun H locs hP => ?_)
          refine r_ifz_ne (tgt := 81) hx hb dX3_toldWrong_76 (by decide) (fun c76 => ?_) (fun c76 => ?_)
          · have h := k_if c76 h
            refine lv_aload_n hx hb dX3_toldWrong_81 rfl (lv_at hl 1 rfl) ?_
            refine r_get C hP (ci := 3) rfl uin_X3 1 (by decide) 0 (by decide) rfl qFL_RX3_16 rfl rfl dX3_toldWrong_82 ?_
            refine lv_iload hx hb dX3_toldWrong_85 (lv_at hl 0 rfl) ?_
            obtain ⟨σ11, h1, h⟩ := k_ob h
            refine k_callVv C hP hap hAA (c_X0_make l ev (fun j => ad (j + 2)) (x_thought σ10) x9   _ h1) (em_G2) (apart_1 _) gz_X0_make qML_RX3_311 qIM_yX0_make qSE_yX0_make ⟨(Nat.le_of_ble_eq_true rfl), (Nat.le_of_ble_eq_true rfl)⟩ (q0 := 2) rfl (by decide) rfl rfl rfl rfl hl.1 rfl (Nat.le_of_ble_eq_true rfl) dX3_toldWrong_87 ⟨Nat.le_refl _, Nat.le_refl _⟩ (fun H locs hP => ?_)
            obtain ⟨σ12, eσ12, h⟩ := k_ltx h
            rw [← eσ12] at hP
            obtain ⟨x13, ex13, h⟩ := k_ltx h
            refine lv_iinc (v := x13) (lv' := [(3, .int x13), (6, .int x9), (0, .ref (ad 0)), (1, .null), (2, .int a2)]) hx hb dX3_toldWrong_90 hl (k := 4) rfl (by rw [ex13]; rfl) (by decide) rfl (fun ls hl => ?_)
            refine lv_goto (tgt := 13) hx hb dX3_toldWrong_93 (by decide) ?_
            exact ih _ _ _ _ _ h hP (lv_sub hl [2, 3, 4, 0] rfl)
          · have h := k_nf c76 h
            refine lv_iload_n hx hb dX3_toldWrong_79 rfl (lv_at hl 4 rfl) ?_
            exact e_iret C hend hP (k_some2 h).1 (congrArg (xw ev ad) (k_some2 h).2) dX3_toldWrong_80
      have hB33 : ∀ (x5 : Int32) (y6 : Int64) (σ7 : XX) (H : Heap) (locs : List Loc) (ls : Array Slot), f_X3_toldWrong_n_b33 (lp (fun _ _ => none) (f_X3_toldWrong_n_L13_b a2 ) n) x5 y6 σ7 = some (r, σ') → PS ev 26 ad (xw ev ad σ7) (inA ad 26) s H locs → lv_has ls 7 [(0, .ref (ad 0)), (1, .null), (2, .int a2), (3, .int x5)] → WW ev p l e (rmk 4 81) s m args below meth c Qc ad 26 H locs 33 ls [.long y6] := by
        intro x5 y6 σ7 H locs ls h hP hl
        have h := (f_X3_toldWrong_n_b33.eq_1 _ _ _ _ ).symm.trans h
        refine lv_lstore (lv' := [(4, .long y6), (0, .ref (ad 0)), (1, .null), (2, .int a2), (3, .int x5)]) hx hb dX3_toldWrong_33 hl (by decide) rfl (fun ls hl => ?_)
        refine lv_lload hx hb dX3_toldWrong_35 (lv_at hl 0 rfl) ?_
        refine lv_lload hx hb dX3_toldWrong_37 (lv_at hl 0 rfl) ?_
        refine lv_l2i hx hb dX3_toldWrong_39 rfl ?_
        refine lv_i2l hx hb dX3_toldWrong_40 rfl ?_
        refine W.lcmp hx hb dX3_toldWrong_41 ?_
        refine lv_if_ne (tgt := 58) hx hb dX3_toldWrong_42 (by decide) (fun c42 => ?_) (fun c42 => ?_)
        · have h := k_nf c42 h
          refine lv_iconst (v := (-1)) hx hb dX3_toldWrong_58 (by decide) ?_
          exact hB59 _ _ _ _ _ _ h hP (lv_sub hl [1, 2, 3, 4] rfl)
        · have h := k_if c42 h
          refine lv_aload_n hx hb dX3_toldWrong_45 rfl (lv_at hl 1 rfl) ?_
          refine r_get C hP (ci := 3) rfl uin_X3 1 (by decide) 0 (by decide) rfl qFL_RX3_16 rfl rfl dX3_toldWrong_46 ?_
          refine lv_lload hx hb dX3_toldWrong_49 (lv_at hl 0 rfl) ?_
          refine lv_l2i hx hb dX3_toldWrong_51 rfl ?_
          refine k_callVi C hP hap hAA (c_X0_slotOf l ev (fun j => ad (j + 2)) (x_thought σ7) (Int64.toInt32 y6)   _ rfl) (em_G2r) (apart_1 _) gz_X0_slotOf qML_RX3_239 qIM_yX0_slotOf qSE_yX0_slotOf ⟨(Nat.le_of_ble_eq_true rfl), (Nat.le_of_ble_eq_true rfl)⟩ (q0 := 2) rfl (by decide) rfl rfl rfl rfl hl.1 rfl (Nat.le_of_ble_eq_true rfl) dX3_toldWrong_52 ⟨Nat.le_refl _, Nat.le_refl _⟩ (fun H locs hP => ?_)
          refine lv_goto (tgt := 59) hx hb dX3_toldWrong_55 (by decide) ?_
          exact hB59 _ _ _ _ _ _ h hP (lv_sub hl [1, 2, 3, 4] rfl)
      refine lv_iload_n hx hb dX3_toldWrong_13 rfl (lv_at hl 3 rfl) ?_
      refine lv_iload_n hx hb dX3_toldWrong_14 rfl (lv_at hl 2 rfl) ?_
      refine lv_icmp_ge (tgt := 96) hx hb dX3_toldWrong_15 (by decide) (fun c15 => ?_) (fun c15 => ?_)
      · have h := k_if c15 h
        refine lv_iconst (v := (-1)) hx hb dX3_toldWrong_96 (by decide) ?_
        exact e_iret C hend hP (k_some2 h).1 (congrArg (xw ev ad) (k_some2 h).2) dX3_toldWrong_97
      · have h := k_nf c15 h
        refine lv_aload_nN hx hb dX3_toldWrong_18 rfl (lv_at hl 1 rfl) ?_
        refine lv_ifnonnullN hx hb dX3_toldWrong_19 ?_
        refine lv_ldc2 (v := (-1)) hx hb C.2.2.2.2.2.1 (C.2.2.2.2.1 _ qCL_RX3_303) dX3_toldWrong_22 ?_
        refine lv_goto (tgt := 33) hx hb dX3_toldWrong_25 (by decide) ?_
        exact hB33 _ _ _ _ _ _ h hP (lv_sub hl [0, 1, 2, 3] rfl)
  exact hL13 FU _ _ _ _ _ h hP (lv_sub hl [1, 2, 3, 0] rfl)
def f_X3_toldWrong_s_b59 (rec13 : Int32 → XX → Option (Int32 × XX)) (x9 : Int32) (x10 : Int32) (σ11 : XX) : Option (Int32 × XX) :=
  if x10 = (-1) then some (x9, σ11) else if (f_X0_isOpen (x_thought σ11) x10) = true then ob (f_X0_make (x_thought σ11) x10) (fun σ12 => lt (x_thought' σ11 σ12) (fun σ13 => lt (x9 + 1) (fun x14 => rec13 x14 σ13))) else some (x9, σ11)
def f_X3_toldWrong_s_b33 (rec13 : Int32 → XX → Option (Int32 × XX)) (x6 : Int32) (y7 : Int64) (σ8 : XX) : Option (Int32 × XX) :=
  if (lg_cmp y7 (Int32.toInt64 (Int64.toInt32 y7))) = 0 then f_X3_toldWrong_s_b59 rec13 x6 ((f_X0_slotOf (x_thought σ8) (Int64.toInt32 y7))) σ8 else f_X3_toldWrong_s_b59 rec13 x6 (-1) σ8
def f_X3_toldWrong_s_L13_b (q : Nat) (a2 : Int32)  (rec13 : Int32 → XX → Option (Int32 × XX)) (x3 : Int32) (σ4 : XX) : Option (Int32 × XX) :=
  if a2 ≤ x3 then some ((-1), σ4) else ob (f_X1_elementAt (x_shelf σ4 q) x3) (fun y5 => f_X3_toldWrong_s_b33 rec13 x3 y5 σ4)
def f_X3_toldWrong_s_L13 (q : Nat) (a2 : Int32)  (x3 : Int32) (σ4 : XX) : Option (Int32 × XX) :=
  lp (fun _ _ => none) (f_X3_toldWrong_s_L13_b q a2 ) FU x3 σ4
def f_X3_toldWrong_s (σ : XX) (q : Nat) (a2 : Int32) : Option (Int32 × XX) :=
  ob (f_X0_become (x_thought σ) (x_now σ)) (fun σ1 => lt (x_thought' σ σ1) (fun σ2 => f_X3_toldWrong_s_L13 q a2 0 σ2))
set_option maxHeartbeats 4000000 in
set_option maxRecDepth 100000 in
theorem c_X3_toldWrong_s (l : Launch) (ev : EV) (ad : Nat → Nat) (σ : XX) (q : Nat) (a2 : Int32) (hq : q < 8)  (r : Int32) (σ' : XX) (h : f_X3_toldWrong_s σ q a2 = some (r, σ')) : Ct l yX3_toldWrong prog_1_method_73_code 7 (Option.some Jvm.ClassFile.FieldType.int) (rmk 4 81) ev 26 ad (xw ev ad σ) (xw ev ad σ') [.ref (ad 0), .ref (ad (q + 10)), .int a2] (some (.int r)) := by
  refine Ct.of (by decide +kernel) (Nat.le_of_ble_eq_true rfl) ?_
  intro p e s m args below meth c Qc C hap hP hend ls hl
  have hAA : ∀ j, j < 26 → inA ad 26 (ad j) := fun j hj => ⟨j, hj, rfl⟩
  have hx := C.1
  have hb := C.2.1
  have hl : lv_has ls 7 [(0, .ref (ad 0)), (1, .ref (ad (q + 10))), (2, .int a2)] := hl
  have h := (f_X3_toldWrong_s.eq_1 _ _ _ ).symm.trans h
  refine lv_aload_n hx hb dX3_toldWrong_0 rfl (lv_at hl 0 rfl) ?_
  refine r_get C hP (ci := 3) rfl uin_X3 1 (by decide) 0 (by decide) rfl qFL_RX3_16 rfl rfl dX3_toldWrong_1 ?_
  refine lv_aload_n hx hb dX3_toldWrong_4 rfl (lv_at hl 0 rfl) ?_
  refine r_get C hP (ci := 3) rfl uin_X3 0 (by decide) 0 (by decide) rfl qFL_RX3_10 rfl rfl dX3_toldWrong_5 ?_
  obtain ⟨σ1, h1, h⟩ := k_ob h
  refine k_callVv C hP hap hAA (c_X0_become l ev (fun j => if j = 0 then ad 2 else ad 1) (x_thought σ) (x_now σ)   _ h1) (em_GG21) (apart_GG hap (by decide) (by decide) (by decide)) gz_X0_become qML_RX3_165 qIM_yX0_become qSE_yX0_become ⟨(Nat.le_of_ble_eq_true rfl), (Nat.le_of_ble_eq_true rfl)⟩ (q0 := 2) rfl (by decide) rfl rfl rfl rfl hl.1 rfl (Nat.le_of_ble_eq_true rfl) dX3_toldWrong_8 ⟨Nat.le_refl _, Nat.le_refl _⟩ (fun H locs hP => ?_)
  obtain ⟨σ2, eσ2, h⟩ := k_ltx h
  rw [← eσ2] at hP
  refine lv_iconst (v := 0) hx hb dX3_toldWrong_11 (by decide) ?_
  refine lv_istore_n (lv' := [(3, .int 0), (0, .ref (ad 0)), (1, .ref (ad (q + 10))), (2, .int a2)]) hx hb dX3_toldWrong_12 rfl hl (by decide) rfl (fun ls hl => ?_)
  have hL13 : ∀ (n : Nat) (x3 : Int32) (σ4 : XX) (H : Heap) (locs : List Loc) (ls : Array Slot), lp (fun _ _ => none) (f_X3_toldWrong_s_L13_b q a2 ) n x3 σ4 = some (r, σ') → PS ev 26 ad (xw ev ad σ4) (inA ad 26) s H locs → lv_has ls 7 [(0, .ref (ad 0)), (1, .ref (ad (q + 10))), (2, .int a2), (3, .int x3)] → WW ev p l e (rmk 4 81) s m args below meth c Qc ad 26 H locs 13 ls [] := by
    intro n
    induction n with
    | zero =>
      intro x3 σ4 H locs ls h; exact k_none h
    | succ n ih =>
      intro x3 σ4 H locs ls h hP hl
      have h : f_X3_toldWrong_s_L13_b q a2  (lp (fun _ _ => none) (f_X3_toldWrong_s_L13_b q a2 ) n) x3 σ4 = some (r, σ') := h
      have h := (f_X3_toldWrong_s_L13_b.eq_1 _ _ _ _ _ ).symm.trans h
      have hB59 : ∀ (x9 : Int32) (x10 : Int32) (σ11 : XX) (H : Heap) (locs : List Loc) (ls : Array Slot), f_X3_toldWrong_s_b59 (lp (fun _ _ => none) (f_X3_toldWrong_s_L13_b q a2 ) n) x9 x10 σ11 = some (r, σ') → PS ev 26 ad (xw ev ad σ11) (inA ad 26) s H locs → lv_has ls 7 [(0, .ref (ad 0)), (1, .ref (ad (q + 10))), (2, .int a2), (3, .int x9)] → WW ev p l e (rmk 4 81) s m args below meth c Qc ad 26 H locs 59 ls [.int x10] := by
        intro x9 x10 σ11 H locs ls h hP hl
        have h := (f_X3_toldWrong_s_b59.eq_1 _ _ _ _ ).symm.trans h
        refine lv_istore (lv' := [(6, .int x10), (0, .ref (ad 0)), (1, .ref (ad (q + 10))), (2, .int a2), (3, .int x9)]) hx hb dX3_toldWrong_59 hl (by decide) rfl (fun ls hl => ?_)
        refine lv_iload hx hb dX3_toldWrong_61 (lv_at hl 0 rfl) ?_
        refine lv_iconst (v := (-1)) hx hb dX3_toldWrong_63 (by decide) ?_
        refine lv_icmp_eq (tgt := 79) hx hb dX3_toldWrong_64 (by decide) (fun c64 => ?_) (fun c64 => ?_)
        · have h := k_if c64 h
          refine lv_iload_n hx hb dX3_toldWrong_79 rfl (lv_at hl 4 rfl) ?_
          exact e_iret C hend hP (k_some2 h).1 (congrArg (xw ev ad) (k_some2 h).2) dX3_toldWrong_80
        · have h := k_nf c64 h
          refine lv_aload_n hx hb dX3_toldWrong_67 rfl (lv_at hl 1 rfl) ?_
          refine r_get C hP (ci := 3) rfl uin_X3 1 (by decide) 0 (by decide) rfl qFL_RX3_16 rfl rfl dX3_toldWrong_68 ?_
          refine lv_iload hx hb dX3_toldWrong_71 (lv_at hl 0 rfl) ?_
          refine k_callVi C hP hap hAA (c_X0_isOpen l ev (fun j => ad (j + 2)) (x_thought σ11) x10   _ rfl) (em_G2r) (apart_1 _) gz_X0_isOpen qML_RX3_242 qIM_yX0_isOpen qSE_yX0_isOpen ⟨(Nat.le_of_ble_eq_true rfl), (Nat.le_of_ble_eq_true rfl)⟩ (q0 := 2) rfl (by decide) rfl rfl rfl rfl hl.1 rfl (Nat.le_of_ble_eq_true rfl) dX3_toldWrong_73 ⟨Nat.le_refl _, Nat.le_refl _⟩ (fun H locs hP => ?_)
          refine r_ifz_ne (tgt := 81) hx hb dX3_toldWrong_76 (by decide) (fun c76 => ?_) (fun c76 => ?_)
          · have h := k_if c76 h
            refine lv_aload_n hx hb dX3_toldWrong_81 rfl (lv_at hl 1 rfl) ?_
            refine r_get C hP (ci := 3) rfl uin_X3 1 (by decide) 0 (by decide) rfl qFL_RX3_16 rfl rfl dX3_toldWrong_82 ?_
            refine lv_iload hx hb dX3_toldWrong_85 (lv_at hl 0 rfl) ?_
            obtain ⟨σ12, h1, h⟩ := k_ob h
            refine k_callVv C hP hap hAA (c_X0_make l ev (fun j => ad (j + 2)) (x_thought σ11) x10   _ h1) (em_G2) (apart_1 _) gz_X0_make qML_RX3_311 qIM_yX0_make qSE_yX0_make ⟨(Nat.le_of_ble_eq_true rfl), (Nat.le_of_ble_eq_true rfl)⟩ (q0 := 2) rfl (by decide) rfl rfl rfl rfl hl.1 rfl (Nat.le_of_ble_eq_true rfl) dX3_toldWrong_87 ⟨Nat.le_refl _, Nat.le_refl _⟩ (fun H locs hP => ?_)
            obtain ⟨σ13, eσ13, h⟩ := k_ltx h
            rw [← eσ13] at hP
            obtain ⟨x14, ex14, h⟩ := k_ltx h
            refine lv_iinc (v := x14) (lv' := [(3, .int x14), (6, .int x10), (0, .ref (ad 0)), (1, .ref (ad (q + 10))), (2, .int a2)]) hx hb dX3_toldWrong_90 hl (k := 4) rfl (by rw [ex14]; rfl) (by decide) rfl (fun ls hl => ?_)
            refine lv_goto (tgt := 13) hx hb dX3_toldWrong_93 (by decide) ?_
            exact ih _ _ _ _ _ h hP (lv_sub hl [2, 3, 4, 0] rfl)
          · have h := k_nf c76 h
            refine lv_iload_n hx hb dX3_toldWrong_79 rfl (lv_at hl 4 rfl) ?_
            exact e_iret C hend hP (k_some2 h).1 (congrArg (xw ev ad) (k_some2 h).2) dX3_toldWrong_80
      have hB33 : ∀ (x6 : Int32) (y7 : Int64) (σ8 : XX) (H : Heap) (locs : List Loc) (ls : Array Slot), f_X3_toldWrong_s_b33 (lp (fun _ _ => none) (f_X3_toldWrong_s_L13_b q a2 ) n) x6 y7 σ8 = some (r, σ') → PS ev 26 ad (xw ev ad σ8) (inA ad 26) s H locs → lv_has ls 7 [(0, .ref (ad 0)), (1, .ref (ad (q + 10))), (2, .int a2), (3, .int x6)] → WW ev p l e (rmk 4 81) s m args below meth c Qc ad 26 H locs 33 ls [.long y7] := by
        intro x6 y7 σ8 H locs ls h hP hl
        have h := (f_X3_toldWrong_s_b33.eq_1 _ _ _ _ ).symm.trans h
        refine lv_lstore (lv' := [(4, .long y7), (0, .ref (ad 0)), (1, .ref (ad (q + 10))), (2, .int a2), (3, .int x6)]) hx hb dX3_toldWrong_33 hl (by decide) rfl (fun ls hl => ?_)
        refine lv_lload hx hb dX3_toldWrong_35 (lv_at hl 0 rfl) ?_
        refine lv_lload hx hb dX3_toldWrong_37 (lv_at hl 0 rfl) ?_
        refine lv_l2i hx hb dX3_toldWrong_39 rfl ?_
        refine lv_i2l hx hb dX3_toldWrong_40 rfl ?_
        refine W.lcmp hx hb dX3_toldWrong_41 ?_
        refine lv_if_ne (tgt := 58) hx hb dX3_toldWrong_42 (by decide) (fun c42 => ?_) (fun c42 => ?_)
        · have h := k_nf c42 h
          refine lv_iconst (v := (-1)) hx hb dX3_toldWrong_58 (by decide) ?_
          exact hB59 _ _ _ _ _ _ h hP (lv_sub hl [1, 2, 3, 4] rfl)
        · have h := k_if c42 h
          refine lv_aload_n hx hb dX3_toldWrong_45 rfl (lv_at hl 1 rfl) ?_
          refine r_get C hP (ci := 3) rfl uin_X3 1 (by decide) 0 (by decide) rfl qFL_RX3_16 rfl rfl dX3_toldWrong_46 ?_
          refine lv_lload hx hb dX3_toldWrong_49 (lv_at hl 0 rfl) ?_
          refine lv_l2i hx hb dX3_toldWrong_51 rfl ?_
          refine k_callVi C hP hap hAA (c_X0_slotOf l ev (fun j => ad (j + 2)) (x_thought σ8) (Int64.toInt32 y7)   _ rfl) (em_G2r) (apart_1 _) gz_X0_slotOf qML_RX3_239 qIM_yX0_slotOf qSE_yX0_slotOf ⟨(Nat.le_of_ble_eq_true rfl), (Nat.le_of_ble_eq_true rfl)⟩ (q0 := 2) rfl (by decide) rfl rfl rfl rfl hl.1 rfl (Nat.le_of_ble_eq_true rfl) dX3_toldWrong_52 ⟨Nat.le_refl _, Nat.le_refl _⟩ (fun H locs hP => ?_)
          refine lv_goto (tgt := 59) hx hb dX3_toldWrong_55 (by decide) ?_
          exact hB59 _ _ _ _ _ _ h hP (lv_sub hl [1, 2, 3, 4] rfl)
      refine lv_iload_n hx hb dX3_toldWrong_13 rfl (lv_at hl 3 rfl) ?_
      refine lv_iload_n hx hb dX3_toldWrong_14 rfl (lv_at hl 2 rfl) ?_
      refine lv_icmp_ge (tgt := 96) hx hb dX3_toldWrong_15 (by decide) (fun c15 => ?_) (fun c15 => ?_)
      · have h := k_if c15 h
        refine lv_iconst (v := (-1)) hx hb dX3_toldWrong_96 (by decide) ?_
        exact e_iret C hend hP (k_some2 h).1 (congrArg (xw ev ad) (k_some2 h).2) dX3_toldWrong_97
      · have h := k_nf c15 h
        refine lv_aload_n hx hb dX3_toldWrong_18 rfl (lv_at hl 1 rfl) ?_
        refine lv_ifnonnull (tgt := 28) hx hb dX3_toldWrong_19 (by decide) ?_
        refine lv_aload_n hx hb dX3_toldWrong_28 rfl (lv_at hl 1 rfl) ?_
        refine lv_iload_n hx hb dX3_toldWrong_29 rfl (lv_at hl 3 rfl) ?_
        obtain ⟨y5, h1, h⟩ := k_ob h
        refine k_callVl C hP hap hAA (c_X1_elementAt l ev (fun j => ad (q + 10 + 8 * j)) (x_shelf σ4 q) x3   _ h1) (em_Sr hq) (apart_S hap hq) gz_X1_elementAt qML_RX3_104 qIM_yX1_elementAt qSE_yX1_elementAt ⟨(Nat.le_of_ble_eq_true rfl), (Nat.le_of_ble_eq_true rfl)⟩ (q0 := (q + 10)) rfl (by omega) (xw_shelf hq) rfl rfl rfl hl.1 rfl (Nat.le_of_ble_eq_true rfl) dX3_toldWrong_30 ⟨Nat.le_refl _, Nat.le_refl _⟩ (fun H locs hP => ?_)
        exact hB33 _ _ _ _ _ _ h hP (lv_sub hl [0, 1, 2, 3] rfl)
  exact hL13 FU _ _ _ _ _ h hP (lv_sub hl [1, 2, 3, 0] rfl)
