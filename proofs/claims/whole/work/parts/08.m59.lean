/-! functions read off, and their contracts: by program (wip/whole/gen2.py) -/
def f_X4_wins (σ : MM) (a1 : Int32) : Option (Int32 × MM) :=
  if (f_X4_isPlayer σ a1) = true then ob2 (f_X4_winsOf σ a1) (fun x4 σ3 => some (x4, σ3)) else ob2 (f_X4_noLead σ (-2)) (fun x2 σ1 => some (x2, σ1))
set_option maxHeartbeats 4000000 in
set_option maxRecDepth 100000 in
theorem c_X4_wins (l : Launch) (ev : EV) (ad : Nat → Nat) (σ : MM) (a1 : Int32)   (r : Int32) (σ' : MM) (h : f_X4_wins σ a1 = some (r, σ')) : Ct l yX4_wins prog_6_method_103_code 2 (Option.some Jvm.ClassFile.FieldType.int) (rmk 11 253) ev 13 ad (mw ev ad σ) (mw ev ad σ') [.ref (ad 0), .int a1] (some (.int r)) := by
  refine Ct.of (by decide +kernel) (Nat.le_of_ble_eq_true rfl) ?_
  intro p e s m args below meth c Qc C hap hP hend ls hl
  have hAA : ∀ j, j < 13 → inA ad 13 (ad j) := fun j hj => ⟨j, hj, rfl⟩
  have hx := C.1
  have hb := C.2.1
  have hl : lv_has ls 2 [(0, .ref (ad 0)), (1, .int a1)] := hl
  have h := (f_X4_wins.eq_1 _ _ ).symm.trans h
  refine lv_aload_n hx hb dX4_wins_0 rfl (lv_at hl 0 rfl) ?_
  refine lv_iload_n hx hb dX4_wins_1 rfl (lv_at hl 1 rfl) ?_
  refine k_callVi C hP hap hAA (c_X4_isPlayer l ev ad σ a1   _ rfl) Emb.same hap gz_X4_isPlayer qML_RX4_87 qIM_yX4_isPlayer qSE_yX4_isPlayer ⟨(Nat.le_of_ble_eq_true rfl), (Nat.le_of_ble_eq_true rfl)⟩ (q0 := 0) rfl (by decide) rfl rfl rfl rfl hl.1 rfl (Nat.le_of_ble_eq_true rfl) dX4_wins_2 ⟨Nat.le_refl _, Nat.le_refl _⟩ (fun H locs hP => ?_)
  refine r_ifz_eq (tgt := 16) hx hb dX4_wins_5 (by decide) (fun c5 => ?_) (fun c5 => ?_)
  · have h := k_nf c5 h
    refine lv_aload_n hx hb dX4_wins_16 rfl (lv_at hl 0 rfl) ?_
    refine lv_bipush (v := (-2)) hx hb dX4_wins_17 (by decide) ?_
    obtain ⟨x2, σ1, h1, h⟩ := k_ob2 h
    refine k_callVi C hP hap hAA (c_X4_noLead l ev ad σ (-2)   _ _ h1) Emb.same hap gz_X4_noLead qML_RX4_229 qIM_yX4_noLead qSE_yX4_noLead ⟨(Nat.le_of_ble_eq_true rfl), (Nat.le_of_ble_eq_true rfl)⟩ (q0 := 0) rfl (by decide) rfl rfl rfl rfl hl.1 rfl (Nat.le_of_ble_eq_true rfl) dX4_wins_19 ⟨Nat.le_refl _, Nat.le_refl _⟩ (fun H locs hP => ?_)
    exact e_iret C hend hP (k_some2 h).1 (congrArg (mw ev ad) (k_some2 h).2) dX4_wins_22
  · have h := k_if c5 h
    refine lv_aload_n hx hb dX4_wins_8 rfl (lv_at hl 0 rfl) ?_
    refine lv_iload_n hx hb dX4_wins_9 rfl (lv_at hl 1 rfl) ?_
    obtain ⟨x4, σ3, h1, h⟩ := k_ob2 h
    refine k_callVi C hP hap hAA (c_X4_winsOf l ev ad σ a1   _ _ h1) Emb.same hap gz_X4_winsOf qML_RX4_294 qIM_yX4_winsOf qSE_yX4_winsOf ⟨(Nat.le_of_ble_eq_true rfl), (Nat.le_of_ble_eq_true rfl)⟩ (q0 := 0) rfl (by decide) rfl rfl rfl rfl hl.1 rfl (Nat.le_of_ble_eq_true rfl) dX4_wins_10 ⟨Nat.le_refl _, Nat.le_refl _⟩ (fun H locs hP => ?_)
    refine lv_goto (tgt := 22) hx hb dX4_wins_13 (by decide) ?_
    exact e_iret C hend hP (k_some2 h).1 (congrArg (mw ev ad) (k_some2 h).2) dX4_wins_22
def f_X4_champion_L18_b   (rec18 : Int32 → Int32 → MM → Option (Int32 × MM)) (x1 : Int32) (x2 : Int32) (σ3 : MM) : Option (Int32 × MM) :=
  if (m_players σ3) ≤ x2 then some (x1, σ3) else ob2 (f_X4_winsOf σ3 x2) (fun x5 σ4 => ob2 (f_X4_winsOf σ4 x1) (fun x7 σ6 => if x5 ≤ x7 then lt (x2 + 1) (fun x8 => rec18 x1 x8 σ6) else lt (x2 + 1) (fun x9 => rec18 x2 x9 σ6)))
def f_X4_champion_L18   (x1 : Int32) (x2 : Int32) (σ3 : MM) : Option (Int32 × MM) :=
  lp (fun _ _ _ => none) (f_X4_champion_L18_b  ) FU x1 x2 σ3
def f_X4_champion (σ : MM) : Option (Int32 × MM) :=
  if (m_players σ) = 0 then ob2 (f_X4_no σ (-5)) (fun x11 σ10 => some (x11, σ10)) else f_X4_champion_L18 0 1 σ
set_option maxHeartbeats 4000000 in
set_option maxRecDepth 100000 in
theorem c_X4_champion (l : Launch) (ev : EV) (ad : Nat → Nat) (σ : MM)   (r : Int32) (σ' : MM) (h : f_X4_champion σ = some (r, σ')) : Ct l yX4_champion prog_6_method_104_code 3 (Option.some Jvm.ClassFile.FieldType.int) (rmk 11 253) ev 13 ad (mw ev ad σ) (mw ev ad σ') [.ref (ad 0)] (some (.int r)) := by
  refine Ct.of (by decide +kernel) (Nat.le_of_ble_eq_true rfl) ?_
  intro p e s m args below meth c Qc C hap hP hend ls hl
  have hAA : ∀ j, j < 13 → inA ad 13 (ad j) := fun j hj => ⟨j, hj, rfl⟩
  have hx := C.1
  have hb := C.2.1
  have hl : lv_has ls 3 [(0, .ref (ad 0))] := hl
  have h := (f_X4_champion.eq_1 _ ).symm.trans h
  refine lv_aload_n hx hb dX4_champion_0 rfl (lv_at hl 0 rfl) ?_
  refine r_get C hP (ci := 4) rfl uin_X4 7 (by decide) 0 (by decide) rfl qFL_RX4_60 rfl rfl dX4_champion_1 ?_
  refine lv_if_ne (tgt := 14) hx hb dX4_champion_4 (by decide) (fun c4 => ?_) (fun c4 => ?_)
  · have h := k_nf c4 h
    refine lv_iconst (v := 0) hx hb dX4_champion_14 (by decide) ?_
    refine lv_istore_n (lv' := [(1, .int 0), (0, .ref (ad 0))]) hx hb dX4_champion_15 rfl hl (by decide) rfl (fun ls hl => ?_)
    refine lv_iconst (v := 1) hx hb dX4_champion_16 (by decide) ?_
    refine lv_istore_n (lv' := [(2, .int 1), (1, .int 0), (0, .ref (ad 0))]) hx hb dX4_champion_17 rfl hl (by decide) rfl (fun ls hl => ?_)
    have hL18 : ∀ (n : Nat) (x1 : Int32) (x2 : Int32) (σ3 : MM) (H : Heap) (locs : List Loc) (ls : Array Slot), lp (fun _ _ _ => none) (f_X4_champion_L18_b  ) n x1 x2 σ3 = some (r, σ') → PS ev 13 ad (mw ev ad σ3) (inA ad 13) s H locs → lv_has ls 3 [(0, .ref (ad 0)), (1, .int x1), (2, .int x2)] → WW ev p l e (rmk 11 253) s m args below meth c Qc ad 13 H locs 18 ls [] := by
      intro n
      induction n with
      | zero =>
        intro x1 x2 σ3 H locs ls h; exact k_none h
      | succ n ih =>
        intro x1 x2 σ3 H locs ls h hP hl
        have h : f_X4_champion_L18_b   (lp (fun _ _ _ => none) (f_X4_champion_L18_b  ) n) x1 x2 σ3 = some (r, σ') := h
        have h := (f_X4_champion_L18_b.eq_1 _ _ _ _ ).symm.trans h
        refine lv_iload_n hx hb dX4_champion_18 rfl (lv_at hl 2 rfl) ?_
        refine lv_aload_n hx hb dX4_champion_19 rfl (lv_at hl 0 rfl) ?_
        refine r_get C hP (ci := 4) rfl uin_X4 7 (by decide) 0 (by decide) rfl qFL_RX4_60 rfl rfl dX4_champion_20 ?_
        refine lv_icmp_ge (tgt := 47) hx hb dX4_champion_23 (by decide) (fun c23 => ?_) (fun c23 => ?_)
        · have h := k_if c23 h
          refine lv_iload_n hx hb dX4_champion_47 rfl (lv_at hl 1 rfl) ?_
          exact e_iret C hend hP (k_some2 h).1 (congrArg (mw ev ad) (k_some2 h).2) dX4_champion_48
        · have h := k_nf c23 h
          refine lv_aload_n hx hb dX4_champion_26 rfl (lv_at hl 0 rfl) ?_
          refine lv_iload_n hx hb dX4_champion_27 rfl (lv_at hl 2 rfl) ?_
          obtain ⟨x5, σ4, h1, h⟩ := k_ob2 h
          refine k_callVi C hP hap hAA (c_X4_winsOf l ev ad σ3 x2   _ _ h1) Emb.same hap gz_X4_winsOf qML_RX4_294 qIM_yX4_winsOf qSE_yX4_winsOf ⟨(Nat.le_of_ble_eq_true rfl), (Nat.le_of_ble_eq_true rfl)⟩ (q0 := 0) rfl (by decide) rfl rfl rfl rfl hl.1 rfl (Nat.le_of_ble_eq_true rfl) dX4_champion_28 ⟨Nat.le_refl _, Nat.le_refl _⟩ (fun H locs hP => ?_)
          refine lv_aload_n hx hb dX4_champion_31 rfl (lv_at hl 0 rfl) ?_
          refine lv_iload_n hx hb dX4_champion_32 rfl (lv_at hl 1 rfl) ?_
          obtain ⟨x7, σ6, h1, h⟩ := k_ob2 h
          refine k_callVi C hP hap hAA (c_X4_winsOf l ev ad σ4 x1   _ _ h1) Emb.same hap gz_X4_winsOf qML_RX4_294 qIM_yX4_winsOf qSE_yX4_winsOf ⟨(Nat.le_of_ble_eq_true rfl), (Nat.le_of_ble_eq_true rfl)⟩ (q0 := 0) rfl (by decide) rfl rfl rfl rfl hl.1 rfl (Nat.le_of_ble_eq_true rfl) dX4_champion_33 ⟨Nat.le_refl _, Nat.le_refl _⟩ (fun H locs hP => ?_)
          refine lv_icmp_le (tgt := 41) hx hb dX4_champion_36 (by decide) (fun c36 => ?_) (fun c36 => ?_)
          · have h := k_if c36 h
            obtain ⟨x8, ex8, h⟩ := k_ltx h
            refine lv_iinc (v := x8) (lv' := [(2, .int x8), (0, .ref (ad 0)), (1, .int x1)]) hx hb dX4_champion_41 hl (k := 2) rfl (by rw [ex8]; rfl) (by decide) rfl (fun ls hl => ?_)
            refine lv_goto (tgt := 18) hx hb dX4_champion_44 (by decide) ?_
            exact ih _ _ _ _ _ _ h hP (lv_sub hl [1, 2, 0] rfl)
          · have h := k_nf c36 h
            refine lv_iload_n hx hb dX4_champion_39 rfl (lv_at hl 2 rfl) ?_
            refine lv_istore_n (lv' := [(1, .int x2), (0, .ref (ad 0)), (2, .int x2)]) hx hb dX4_champion_40 rfl hl (by decide) rfl (fun ls hl => ?_)
            obtain ⟨x9, ex9, h⟩ := k_ltx h
            refine lv_iinc (v := x9) (lv' := [(2, .int x9), (1, .int x2), (0, .ref (ad 0))]) hx hb dX4_champion_41 hl (k := 2) rfl (by rw [ex9]; rfl) (by decide) rfl (fun ls hl => ?_)
            refine lv_goto (tgt := 18) hx hb dX4_champion_44 (by decide) ?_
            exact ih _ _ _ _ _ _ h hP (lv_sub hl [2, 1, 0] rfl)
    exact hL18 FU _ _ _ _ _ _ h hP (lv_sub hl [2, 1, 0] rfl)
  · have h := k_if c4 h
    refine lv_aload_n hx hb dX4_champion_7 rfl (lv_at hl 0 rfl) ?_
    refine lv_bipush (v := (-5)) hx hb dX4_champion_8 (by decide) ?_
    obtain ⟨x11, σ10, h1, h⟩ := k_ob2 h
    refine k_callVi C hP hap hAA (c_X4_no l ev ad σ (-5)   _ _ h1) Emb.same hap gz_X4_no qML_RX4_56 qIM_yX4_no qSE_yX4_no ⟨(Nat.le_of_ble_eq_true rfl), (Nat.le_of_ble_eq_true rfl)⟩ (q0 := 0) rfl (by decide) rfl rfl rfl rfl hl.1 rfl (Nat.le_of_ble_eq_true rfl) dX4_champion_10 ⟨Nat.le_refl _, Nat.le_refl _⟩ (fun H locs hP => ?_)
    exact e_iret C hend hP (k_some2 h).1 (congrArg (mw ev ad) (k_some2 h).2) dX4_champion_13
def f_X4_likenesses_b22 (σ : MM) (rec4 : Int32 → Int32 → Option (Int32)) (x3 : Int32) (x4 : Int32) (x5 : Int32) (x6 : Int32) : Option (Int32) :=
  if x5 ≤ x6 then some x3 else ob (f_X4_isAlike σ x4) (fun b7 => if b7 = true then lt (x3 + 1) (fun x9 => lt (x4 + 1) (fun x10 => rec4 x9 x10)) else lt (x4 + 1) (fun x8 => rec4 x3 x8))
def f_X4_likenesses_L4_b (σ : MM)  (rec4 : Int32 → Int32 → Option (Int32)) (x1 : Int32) (x2 : Int32) : Option (Int32) :=
  if (m_w σ) = (m_h σ) then f_X4_likenesses_b22 σ rec4 x1 x2 8 x2 else f_X4_likenesses_b22 σ rec4 x1 x2 4 x2
def f_X4_likenesses_L4 (σ : MM)  (x1 : Int32) (x2 : Int32) : Option (Int32) :=
  lp (fun _ _ => none) (f_X4_likenesses_L4_b σ ) FU x1 x2
def f_X4_likenesses (σ : MM) : Option (Int32) :=
  f_X4_likenesses_L4 σ 0 0
set_option maxHeartbeats 4000000 in
set_option maxRecDepth 100000 in
theorem c_X4_likenesses (l : Launch) (ev : EV) (ad : Nat → Nat) (σ : MM)   (r : Int32)  (h : f_X4_likenesses σ = some r) : Ct l yX4_likenesses prog_6_method_105_code 3 (Option.some Jvm.ClassFile.FieldType.int) (rmk 3 68) ev 13 ad (mw ev ad σ) (mw ev ad σ) [.ref (ad 0)] (some (.int r)) := by
  refine Ct.of (by decide +kernel) (Nat.le_of_ble_eq_true rfl) ?_
  intro p e s m args below meth c Qc C hap hP hend ls hl
  have hAA : ∀ j, j < 13 → inA ad 13 (ad j) := fun j hj => ⟨j, hj, rfl⟩
  have hx := C.1
  have hb := C.2.1
  have hl : lv_has ls 3 [(0, .ref (ad 0))] := hl
  have h := (f_X4_likenesses.eq_1 _ ).symm.trans h
  refine lv_iconst (v := 0) hx hb dX4_likenesses_0 (by decide) ?_
  refine lv_istore_n (lv' := [(1, .int 0), (0, .ref (ad 0))]) hx hb dX4_likenesses_1 rfl hl (by decide) rfl (fun ls hl => ?_)
  refine lv_iconst (v := 0) hx hb dX4_likenesses_2 (by decide) ?_
  refine lv_istore_n (lv' := [(2, .int 0), (1, .int 0), (0, .ref (ad 0))]) hx hb dX4_likenesses_3 rfl hl (by decide) rfl (fun ls hl => ?_)
  have hL4 : ∀ (n : Nat) (x1 : Int32) (x2 : Int32) (H : Heap) (locs : List Loc) (ls : Array Slot), lp (fun _ _ => none) (f_X4_likenesses_L4_b σ ) n x1 x2 = some r → PS ev 13 ad (mw ev ad σ) (inA ad 13) s H locs → lv_has ls 3 [(0, .ref (ad 0)), (1, .int x1), (2, .int x2)] → WW ev p l e (rmk 3 68) s m args below meth c Qc ad 13 H locs 4 ls [] := by
    intro n
    induction n with
    | zero =>
      intro x1 x2 H locs ls h; exact k_none h
    | succ n ih =>
      intro x1 x2 H locs ls h hP hl
      have h : f_X4_likenesses_L4_b σ  (lp (fun _ _ => none) (f_X4_likenesses_L4_b σ ) n) x1 x2 = some r := h
      have h := (f_X4_likenesses_L4_b.eq_1 _ _ _ _ ).symm.trans h
      have hB22 : ∀ (x3 : Int32) (x4 : Int32) (x5 : Int32) (x6 : Int32) (H : Heap) (locs : List Loc) (ls : Array Slot), f_X4_likenesses_b22 σ (lp (fun _ _ => none) (f_X4_likenesses_L4_b σ ) n) x3 x4 x5 x6 = some r → PS ev 13 ad (mw ev ad σ) (inA ad 13) s H locs → lv_has ls 3 [(0, .ref (ad 0)), (1, .int x3), (2, .int x4)] → WW ev p l e (rmk 3 68) s m args below meth c Qc ad 13 H locs 22 ls [.int x5, .int x6] := by
        intro x3 x4 x5 x6 H locs ls h hP hl
        have h := (f_X4_likenesses_b22.eq_1 _ _ _ _ _ _ ).symm.trans h
        refine lv_icmp_ge (tgt := 42) hx hb dX4_likenesses_22 (by decide) (fun c22 => ?_) (fun c22 => ?_)
        · have h := k_if c22 h
          refine lv_iload_n hx hb dX4_likenesses_42 rfl (lv_at hl 1 rfl) ?_
          exact e_iret C hend hP (k_some h) rfl dX4_likenesses_43
        · have h := k_nf c22 h
          refine lv_aload_n hx hb dX4_likenesses_25 rfl (lv_at hl 0 rfl) ?_
          refine lv_iload_n hx hb dX4_likenesses_26 rfl (lv_at hl 2 rfl) ?_
          obtain ⟨b7, h1, h⟩ := k_ob h
          refine k_callVi C hP hap hAA (c_X4_isAlike l ev ad σ x4   _ h1) Emb.same hap gz_X4_isAlike qML_RX4_277 qIM_yX4_isAlike qSE_yX4_isAlike ⟨(Nat.le_of_ble_eq_true rfl), (Nat.le_of_ble_eq_true rfl)⟩ (q0 := 0) rfl (by decide) rfl rfl rfl rfl hl.1 rfl (Nat.le_of_ble_eq_true rfl) dX4_likenesses_27 ⟨Nat.le_refl _, Nat.le_refl _⟩ (fun H locs hP => ?_)
          refine r_ifz_eq (tgt := 36) hx hb dX4_likenesses_30 (by decide) (fun c30 => ?_) (fun c30 => ?_)
          · have h := k_nf c30 h
            obtain ⟨x8, ex8, h⟩ := k_ltx h
            refine lv_iinc (v := x8) (lv' := [(2, .int x8), (0, .ref (ad 0)), (1, .int x3)]) hx hb dX4_likenesses_36 hl (k := 2) rfl (by rw [ex8]; rfl) (by decide) rfl (fun ls hl => ?_)
            refine lv_goto (tgt := 4) hx hb dX4_likenesses_39 (by decide) ?_
            exact ih _ _ _ _ _ h hP (lv_sub hl [1, 2, 0] rfl)
          · have h := k_if c30 h
            obtain ⟨x9, ex9, h⟩ := k_ltx h
            refine lv_iinc (v := x9) (lv' := [(1, .int x9), (0, .ref (ad 0)), (2, .int x4)]) hx hb dX4_likenesses_33 hl (k := 1) rfl (by rw [ex9]; rfl) (by decide) rfl (fun ls hl => ?_)
            obtain ⟨x10, ex10, h⟩ := k_ltx h
            refine lv_iinc (v := x10) (lv' := [(2, .int x10), (1, .int x9), (0, .ref (ad 0))]) hx hb dX4_likenesses_36 hl (k := 2) rfl (by rw [ex10]; rfl) (by decide) rfl (fun ls hl => ?_)
            refine lv_goto (tgt := 4) hx hb dX4_likenesses_39 (by decide) ?_
            exact ih _ _ _ _ _ h hP (lv_sub hl [2, 1, 0] rfl)
      refine lv_iload_n hx hb dX4_likenesses_4 rfl (lv_at hl 2 rfl) ?_
      refine lv_aload_n hx hb dX4_likenesses_5 rfl (lv_at hl 0 rfl) ?_
      refine r_get C hP (ci := 4) rfl uin_X4 0 (by decide) 0 (by decide) rfl qFL_RX4_67 rfl rfl dX4_likenesses_6 ?_
      refine lv_aload_n hx hb dX4_likenesses_9 rfl (lv_at hl 0 rfl) ?_
      refine r_get C hP (ci := 4) rfl uin_X4 1 (by decide) 0 (by decide) rfl qFL_RX4_70 rfl rfl dX4_likenesses_10 ?_
      refine lv_icmp_ne (tgt := 21) hx hb dX4_likenesses_13 (by decide) (fun c13 => ?_) (fun c13 => ?_)
      · have h := k_nf c13 h
        refine lv_iconst (v := 4) hx hb dX4_likenesses_21 (by decide) ?_
        exact hB22 _ _ _ _ _ _ _ h hP (lv_sub hl [0, 1, 2] rfl)
      · have h := k_if c13 h
        refine lv_bipush (v := 8) hx hb dX4_likenesses_16 (by decide) ?_
        refine lv_goto (tgt := 22) hx hb dX4_likenesses_18 (by decide) ?_
        exact hB22 _ _ _ _ _ _ _ h hP (lv_sub hl [0, 1, 2] rfl)
  exact hL4 FU _ _ _ _ _ h hP (lv_sub hl [2, 1, 0] rfl)
def f_X4_toldAt (σ : MM) (a1 : Int32) (a2 : Int32) : Option (Int32) :=
  gd (inb ((40 * a1) + a2) 320) (lt ((m_rowOf σ) (Int32.toNatClampNeg ((40 * a1) + a2))) (fun y1 => if (lg_cmp y1 (Int32.toInt64 (Int64.toInt32 y1))) = 0 then some (Int64.toInt32 y1) else some (-1)))
set_option maxHeartbeats 4000000 in
set_option maxRecDepth 100000 in
theorem c_X4_toldAt (l : Launch) (ev : EV) (ad : Nat → Nat) (σ : MM) (a1 : Int32) (a2 : Int32)   (r : Int32)  (h : f_X4_toldAt σ a1 a2 = some r) : Ct l yX4_toldAt prog_6_method_106_code 5 (Option.some Jvm.ClassFile.FieldType.int) (rmk 0 0) ev 13 ad (mw ev ad σ) (mw ev ad σ) [.ref (ad 0), .int a1, .int a2] (some (.int r)) := by
  refine Ct.of (by decide +kernel) (Nat.le_of_ble_eq_true rfl) ?_
  intro p e s m args below meth c Qc C hap hP hend ls hl
  have hAA : ∀ j, j < 13 → inA ad 13 (ad j) := fun j hj => ⟨j, hj, rfl⟩
  have hx := C.1
  have hb := C.2.1
  have hl : lv_has ls 5 [(0, .ref (ad 0)), (1, .int a1), (2, .int a2)] := hl
  have h := (f_X4_toldAt.eq_1 _ _ _ ).symm.trans h
  refine lv_aload_n hx hb dX4_toldAt_0 rfl (lv_at hl 0 rfl) ?_
  refine r_get C hP (ci := 4) rfl uin_X4 19 (by decide) 0 (by decide) rfl qFL_RX4_35 rfl rfl dX4_toldAt_1 ?_
  refine lv_bipush (v := 40) hx hb dX4_toldAt_4 (by decide) ?_
  refine lv_iload_n hx hb dX4_toldAt_6 rfl (lv_at hl 1 rfl) ?_
  refine lv_imul hx hb dX4_toldAt_7 ?_
  refine lv_iload_n hx hb dX4_toldAt_8 rfl (lv_at hl 2 rfl) ?_
  refine lv_iadd hx hb dX4_toldAt_9 ?_
  obtain ⟨hg, h⟩ := k_gd h
  refine r_lald C hP 9 (by decide) rfl hg dX4_toldAt_10 ?_
  refine lv_topl (fun y1 ey1 => ?_)
  have h := k_lt ey1 h
  refine lv_lstore_n (lv' := [(3, .long y1), (0, .ref (ad 0)), (1, .int a1), (2, .int a2)]) hx hb dX4_toldAt_11 rfl hl (by decide) rfl (fun ls hl => ?_)
  refine lv_lload_n hx hb dX4_toldAt_12 rfl (lv_at hl 0 rfl) ?_
  refine lv_lload_n hx hb dX4_toldAt_13 rfl (lv_at hl 0 rfl) ?_
  refine lv_l2i hx hb dX4_toldAt_14 rfl ?_
  refine lv_i2l hx hb dX4_toldAt_15 rfl ?_
  refine W.lcmp hx hb dX4_toldAt_16 ?_
  refine lv_if_ne (tgt := 25) hx hb dX4_toldAt_17 (by decide) (fun c17 => ?_) (fun c17 => ?_)
  · have h := k_nf c17 h
    refine lv_iconst (v := (-1)) hx hb dX4_toldAt_25 (by decide) ?_
    exact e_iret C hend hP (k_some h) rfl dX4_toldAt_26
  · have h := k_if c17 h
    refine lv_lload_n hx hb dX4_toldAt_20 rfl (lv_at hl 0 rfl) ?_
    refine lv_l2i hx hb dX4_toldAt_21 rfl ?_
    refine lv_goto (tgt := 26) hx hb dX4_toldAt_22 (by decide) ?_
    exact e_iret C hend hP (k_some h) rfl dX4_toldAt_26
def f_X4_noGame (σ : MM) (a1 : Int32) (a2 : Int32) : Option (Int32) :=
  if (f_X4_isShelf a1) = true then if (f_X4_within a2 0 40) = true then ob (f_X4_isRow σ a1) (fun b1 => if b1 = true then gd (inb a1 8) (if a2 ≤ ((m_rowLength σ) (Int32.toNatClampNeg a1)) then some 0 else some (-2)) else ob (f_X4_noRow σ a1) (fun x2 => some x2)) else some (-2) else some (-2)
set_option maxHeartbeats 4000000 in
set_option maxRecDepth 100000 in
theorem c_X4_noGame (l : Launch) (ev : EV) (ad : Nat → Nat) (σ : MM) (a1 : Int32) (a2 : Int32)   (r : Int32)  (h : f_X4_noGame σ a1 a2 = some r) : Ct l yX4_noGame prog_6_method_107_code 3 (Option.some Jvm.ClassFile.FieldType.int) (rmk 2 43) ev 13 ad (mw ev ad σ) (mw ev ad σ) [.ref (ad 0), .int a1, .int a2] (some (.int r)) := by
  refine Ct.of (by decide +kernel) (Nat.le_of_ble_eq_true rfl) ?_
  intro p e s m args below meth c Qc C hap hP hend ls hl
  have hAA : ∀ j, j < 13 → inA ad 13 (ad j) := fun j hj => ⟨j, hj, rfl⟩
  have hx := C.1
  have hb := C.2.1
  have hl : lv_has ls 3 [(0, .ref (ad 0)), (1, .int a1), (2, .int a2)] := hl
  have h := (f_X4_noGame.eq_1 _ _ _ ).symm.trans h
  refine lv_iload_n hx hb dX4_noGame_0 rfl (lv_at hl 1 rfl) ?_
  refine k_callSi C hP hap hAA (c_X4_isShelf l ev ad a1   _ rfl) Emb.none (apart_0 _) gz_X4_isShelf qML_RX4_73 qSM_yX4_isShelf ⟨(Nat.le_of_ble_eq_true rfl), (Nat.le_of_ble_eq_true rfl)⟩ rfl hl.1 rfl (Nat.le_of_ble_eq_true rfl) dX4_noGame_1 ⟨Nat.le_refl _, Nat.le_refl _⟩ (fun H locs hP => ?_)
  refine r_ifz_eq (tgt := 17) hx hb dX4_noGame_4 (by decide) (fun c4 => ?_) (fun c4 => ?_)
  · have h := k_nf c4 h
    refine lv_bipush (v := (-2)) hx hb dX4_noGame_17 (by decide) ?_
    exact e_iret C hend hP (k_some h) rfl dX4_noGame_19
  · have h := k_if c4 h
    refine lv_iload_n hx hb dX4_noGame_7 rfl (lv_at hl 2 rfl) ?_
    refine lv_iconst (v := 0) hx hb dX4_noGame_8 (by decide) ?_
    refine lv_bipush (v := 40) hx hb dX4_noGame_9 (by decide) ?_
    refine k_callSi C hP hap hAA (c_X4_within l ev ad a2 0 40   _ rfl) Emb.none (apart_0 _) gz_X4_within qML_RX4_63 qSM_yX4_within ⟨(Nat.le_of_ble_eq_true rfl), (Nat.le_of_ble_eq_true rfl)⟩ rfl hl.1 rfl (Nat.le_of_ble_eq_true rfl) dX4_noGame_11 ⟨Nat.le_refl _, Nat.le_refl _⟩ (fun H locs hP => ?_)
    refine r_ifz_ne (tgt := 20) hx hb dX4_noGame_14 (by decide) (fun c14 => ?_) (fun c14 => ?_)
    · have h := k_if c14 h
      refine lv_aload_n hx hb dX4_noGame_20 rfl (lv_at hl 0 rfl) ?_
      refine lv_iload_n hx hb dX4_noGame_21 rfl (lv_at hl 1 rfl) ?_
      obtain ⟨b1, h1, h⟩ := k_ob h
      refine k_callVi C hP hap hAA (c_X4_isRow l ev ad σ a1   _ h1) Emb.same hap gz_X4_isRow qML_RX4_77 qIM_yX4_isRow qSE_yX4_isRow ⟨(Nat.le_of_ble_eq_true rfl), (Nat.le_of_ble_eq_true rfl)⟩ (q0 := 0) rfl (by decide) rfl rfl rfl rfl hl.1 rfl (Nat.le_of_ble_eq_true rfl) dX4_noGame_22 ⟨Nat.le_refl _, Nat.le_refl _⟩ (fun H locs hP => ?_)
      refine r_ifz_ne (tgt := 36) hx hb dX4_noGame_25 (by decide) (fun c25 => ?_) (fun c25 => ?_)
      · have h := k_if c25 h
        refine lv_iload_n hx hb dX4_noGame_36 rfl (lv_at hl 2 rfl) ?_
        refine lv_aload_n hx hb dX4_noGame_37 rfl (lv_at hl 0 rfl) ?_
        refine r_get C hP (ci := 4) rfl uin_X4 18 (by decide) 0 (by decide) rfl qFL_RX4_32 rfl rfl dX4_noGame_38 ?_
        refine lv_iload_n hx hb dX4_noGame_41 rfl (lv_at hl 1 rfl) ?_
        obtain ⟨hg, h⟩ := k_gd h
        refine r_iald C hP 8 (by decide) rfl hg dX4_noGame_42 ?_
        refine lv_icmp_le (tgt := 51) hx hb dX4_noGame_43 (by decide) (fun c43 => ?_) (fun c43 => ?_)
        · have h := k_if c43 h
          refine lv_iconst (v := 0) hx hb dX4_noGame_51 (by decide) ?_
          exact e_iret C hend hP (k_some h) rfl dX4_noGame_52
        · have h := k_nf c43 h
          refine lv_bipush (v := (-2)) hx hb dX4_noGame_46 (by decide) ?_
          refine lv_goto (tgt := 52) hx hb dX4_noGame_48 (by decide) ?_
          exact e_iret C hend hP (k_some h) rfl dX4_noGame_52
      · have h := k_nf c25 h
        refine lv_aload_n hx hb dX4_noGame_28 rfl (lv_at hl 0 rfl) ?_
        refine lv_iload_n hx hb dX4_noGame_29 rfl (lv_at hl 1 rfl) ?_
        obtain ⟨x2, h1, h⟩ := k_ob h
        refine k_callVi C hP hap hAA (c_X4_noRow l ev ad σ a1   _ h1) Emb.same hap gz_X4_noRow qML_RX4_80 qIM_yX4_noRow qSE_yX4_noRow ⟨(Nat.le_of_ble_eq_true rfl), (Nat.le_of_ble_eq_true rfl)⟩ (q0 := 0) rfl (by decide) rfl rfl rfl rfl hl.1 rfl (Nat.le_of_ble_eq_true rfl) dX4_noGame_30 ⟨Nat.le_refl _, Nat.le_refl _⟩ (fun H locs hP => ?_)
        refine lv_goto (tgt := 52) hx hb dX4_noGame_33 (by decide) ?_
        exact e_iret C hend hP (k_some h) rfl dX4_noGame_52
    · have h := k_nf c14 h
      refine lv_bipush (v := (-2)) hx hb dX4_noGame_17 (by decide) ?_
      exact e_iret C hend hP (k_some h) rfl dX4_noGame_19
