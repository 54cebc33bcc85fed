/-! functions read off, and their contracts: by program (wip/whole/gen2.py) -/
def f_X4_alike (σ : MM) (a1 : Int32) : Option (Int32 × MM) :=
  if (f_X4_within a1 0 7) = true then if a1 ≤ 3 then ob (f_X4_isAlike σ a1) (fun b3 => if b3 = true then some (1, σ) else some (0, σ)) else if (m_w σ) = (m_h σ) then ob (f_X4_isAlike σ a1) (fun b4 => if b4 = true then some (1, σ) else some (0, σ)) else ob2 (f_X4_no σ (-2)) (fun x6 σ5 => some (x6, σ5)) else ob2 (f_X4_no σ (-2)) (fun x2 σ1 => some (x2, σ1))
set_option maxHeartbeats 4000000 in
set_option maxRecDepth 100000 in
theorem c_X4_alike (l : Launch) (ev : EV) (ad : Nat → Nat) (σ : MM) (a1 : Int32)   (r : Int32) (σ' : MM) (h : f_X4_alike σ a1 = some (r, σ')) : Ct l yX4_alike prog_6_method_84_code 2 (Option.some Jvm.ClassFile.FieldType.int) (rmk 3 68) ev 13 ad (mw ev ad σ) (mw ev ad σ') [.ref (ad 0), .int a1] (some (.int r)) := by
  refine Ct.of (by decide +kernel) (Nat.le_of_ble_eq_true rfl) ?_
  intro p e s m args below meth c Qc C hap hP hend ls hl
  have hAA : ∀ j, j < 13 → inA ad 13 (ad j) := fun j hj => ⟨j, hj, rfl⟩
  have hx := C.1
  have hb := C.2.1
  have hl : lv_has ls 2 [(0, .ref (ad 0)), (1, .int a1)] := hl
  have h := (f_X4_alike.eq_1 _ _ ).symm.trans h
  refine lv_iload_n hx hb dX4_alike_0 rfl (lv_at hl 1 rfl) ?_
  refine lv_iconst (v := 0) hx hb dX4_alike_1 (by decide) ?_
  refine lv_bipush (v := 7) hx hb dX4_alike_2 (by decide) ?_
  refine k_callSi C hP hap hAA (c_X4_within l ev ad a1 0 7   _ rfl) Emb.none (apart_0 _) gz_X4_within qML_RX4_63 qSM_yX4_within ⟨(Nat.le_of_ble_eq_true rfl), (Nat.le_of_ble_eq_true rfl)⟩ rfl hl.1 rfl (Nat.le_of_ble_eq_true rfl) dX4_alike_4 ⟨Nat.le_refl _, Nat.le_refl _⟩ (fun H locs hP => ?_)
  refine r_ifz_eq (tgt := 26) hx hb dX4_alike_7 (by decide) (fun c7 => ?_) (fun c7 => ?_)
  · have h := k_nf c7 h
    refine lv_aload_n hx hb dX4_alike_26 rfl (lv_at hl 0 rfl) ?_
    refine lv_bipush (v := (-2)) hx hb dX4_alike_27 (by decide) ?_
    obtain ⟨x2, σ1, h1, h⟩ := k_ob2 h
    refine k_callVi C hP hap hAA (c_X4_no l ev ad σ (-2)   _ _ h1) Emb.same hap gz_X4_no qML_RX4_56 qIM_yX4_no qSE_yX4_no ⟨(Nat.le_of_ble_eq_true rfl), (Nat.le_of_ble_eq_true rfl)⟩ (q0 := 0) rfl (by decide) rfl rfl rfl rfl hl.1 rfl (Nat.le_of_ble_eq_true rfl) dX4_alike_29 ⟨Nat.le_refl _, Nat.le_refl _⟩ (fun H locs hP => ?_)
    exact e_iret C hend hP (k_some2 h).1 (congrArg (mw ev ad) (k_some2 h).2) dX4_alike_32
  · have h := k_if c7 h
    refine lv_iload_n hx hb dX4_alike_10 rfl (lv_at hl 1 rfl) ?_
    refine lv_iconst (v := 3) hx hb dX4_alike_11 (by decide) ?_
    refine lv_icmp_le (tgt := 33) hx hb dX4_alike_12 (by decide) (fun c12 => ?_) (fun c12 => ?_)
    · have h := k_if c12 h
      refine lv_aload_n hx hb dX4_alike_33 rfl (lv_at hl 0 rfl) ?_
      refine lv_iload_n hx hb dX4_alike_34 rfl (lv_at hl 1 rfl) ?_
      obtain ⟨b3, h1, h⟩ := k_ob h
      refine k_callVi C hP hap hAA (c_X4_isAlike l ev ad σ a1   _ h1) Emb.same hap gz_X4_isAlike qML_RX4_277 qIM_yX4_isAlike qSE_yX4_isAlike ⟨(Nat.le_of_ble_eq_true rfl), (Nat.le_of_ble_eq_true rfl)⟩ (q0 := 0) rfl (by decide) rfl rfl rfl rfl hl.1 rfl (Nat.le_of_ble_eq_true rfl) dX4_alike_35 ⟨Nat.le_refl _, Nat.le_refl _⟩ (fun H locs hP => ?_)
      refine r_ifz_eq (tgt := 45) hx hb dX4_alike_38 (by decide) (fun c38 => ?_) (fun c38 => ?_)
      · have h := k_nf c38 h
        refine lv_iconst (v := 0) hx hb dX4_alike_45 (by decide) ?_
        exact e_iret C hend hP (k_some2 h).1 (congrArg (mw ev ad) (k_some2 h).2) dX4_alike_46
      · have h := k_if c38 h
        refine lv_iconst (v := 1) hx hb dX4_alike_41 (by decide) ?_
        refine lv_goto (tgt := 46) hx hb dX4_alike_42 (by decide) ?_
        exact e_iret C hend hP (k_some2 h).1 (congrArg (mw ev ad) (k_some2 h).2) dX4_alike_46
    · have h := k_nf c12 h
      refine lv_aload_n hx hb dX4_alike_15 rfl (lv_at hl 0 rfl) ?_
      refine r_get C hP (ci := 4) rfl uin_X4 0 (by decide) 0 (by decide) rfl qFL_RX4_67 rfl rfl dX4_alike_16 ?_
      refine lv_aload_n hx hb dX4_alike_19 rfl (lv_at hl 0 rfl) ?_
      refine r_get C hP (ci := 4) rfl uin_X4 1 (by decide) 0 (by decide) rfl qFL_RX4_70 rfl rfl dX4_alike_20 ?_
      refine lv_icmp_eq (tgt := 33) hx hb dX4_alike_23 (by decide) (fun c23 => ?_) (fun c23 => ?_)
      · have h := k_if c23 h
        refine lv_aload_n hx hb dX4_alike_33 rfl (lv_at hl 0 rfl) ?_
        refine lv_iload_n hx hb dX4_alike_34 rfl (lv_at hl 1 rfl) ?_
        obtain ⟨b4, h1, h⟩ := k_ob h
        refine k_callVi C hP hap hAA (c_X4_isAlike l ev ad σ a1   _ h1) Emb.same hap gz_X4_isAlike qML_RX4_277 qIM_yX4_isAlike qSE_yX4_isAlike ⟨(Nat.le_of_ble_eq_true rfl), (Nat.le_of_ble_eq_true rfl)⟩ (q0 := 0) rfl (by decide) rfl rfl rfl rfl hl.1 rfl (Nat.le_of_ble_eq_true rfl) dX4_alike_35 ⟨Nat.le_refl _, Nat.le_refl _⟩ (fun H locs hP => ?_)
        refine r_ifz_eq (tgt := 45) hx hb dX4_alike_38 (by decide) (fun c38 => ?_) (fun c38 => ?_)
        · have h := k_nf c38 h
          refine lv_iconst (v := 0) hx hb dX4_alike_45 (by decide) ?_
          exact e_iret C hend hP (k_some2 h).1 (congrArg (mw ev ad) (k_some2 h).2) dX4_alike_46
        · have h := k_if c38 h
          refine lv_iconst (v := 1) hx hb dX4_alike_41 (by decide) ?_
          refine lv_goto (tgt := 46) hx hb dX4_alike_42 (by decide) ?_
          exact e_iret C hend hP (k_some2 h).1 (congrArg (mw ev ad) (k_some2 h).2) dX4_alike_46
      · have h := k_nf c23 h
        refine lv_aload_n hx hb dX4_alike_26 rfl (lv_at hl 0 rfl) ?_
        refine lv_bipush (v := (-2)) hx hb dX4_alike_27 (by decide) ?_
        obtain ⟨x6, σ5, h1, h⟩ := k_ob2 h
        refine k_callVi C hP hap hAA (c_X4_no l ev ad σ (-2)   _ _ h1) Emb.same hap gz_X4_no qML_RX4_56 qIM_yX4_no qSE_yX4_no ⟨(Nat.le_of_ble_eq_true rfl), (Nat.le_of_ble_eq_true rfl)⟩ (q0 := 0) rfl (by decide) rfl rfl rfl rfl hl.1 rfl (Nat.le_of_ble_eq_true rfl) dX4_alike_29 ⟨Nat.le_refl _, Nat.le_refl _⟩ (fun H locs hP => ?_)
        exact e_iret C hend hP (k_some2 h).1 (congrArg (mw ev ad) (k_some2 h).2) dX4_alike_32
def f_X4_leader (σ : MM) : Option (Int32) :=
  ob (f_X4_leadOf σ 0) (fun x1 => if x1 ≤ 0 then if 0 ≤ x1 then some (-1) else some 1 else some 0)
set_option maxHeartbeats 4000000 in
set_option maxRecDepth 100000 in
theorem c_X4_leader (l : Launch) (ev : EV) (ad : Nat → Nat) (σ : MM)   (r : Int32)  (h : f_X4_leader σ = some r) : Ct l yX4_leader prog_6_method_85_code 2 (Option.some Jvm.ClassFile.FieldType.int) (rmk 9 206) ev 13 ad (mw ev ad σ) (mw ev ad σ) [.ref (ad 0)] (some (.int r)) := by
  refine Ct.of (by decide +kernel) (Nat.le_of_ble_eq_true rfl) ?_
  intro p e s m args below meth c Qc C hap hP hend ls hl
  have hAA : ∀ j, j < 13 → inA ad 13 (ad j) := fun j hj => ⟨j, hj, rfl⟩
  have hx := C.1
  have hb := C.2.1
  have hl : lv_has ls 2 [(0, .ref (ad 0))] := hl
  have h := (f_X4_leader.eq_1 _ ).symm.trans h
  refine lv_aload_n hx hb dX4_leader_0 rfl (lv_at hl 0 rfl) ?_
  refine lv_iconst (v := 0) hx hb dX4_leader_1 (by decide) ?_
  obtain ⟨x1, h1, h⟩ := k_ob h
  refine k_callVi C hP hap hAA (c_X4_leadOf l ev ad σ 0   _ h1) Emb.same hap gz_X4_leadOf qML_RX4_226 qIM_yX4_leadOf qSE_yX4_leadOf ⟨(Nat.le_of_ble_eq_true rfl), (Nat.le_of_ble_eq_true rfl)⟩ (q0 := 0) rfl (by decide) rfl rfl rfl rfl hl.1 rfl (Nat.le_of_ble_eq_true rfl) dX4_leader_2 ⟨Nat.le_refl _, Nat.le_refl _⟩ (fun H locs hP => ?_)
  refine lv_istore_n (lv' := [(1, .int x1), (0, .ref (ad 0))]) hx hb dX4_leader_5 rfl hl (by decide) rfl (fun ls hl => ?_)
  refine lv_iload_n hx hb dX4_leader_6 rfl (lv_at hl 0 rfl) ?_
  refine lv_if_le (tgt := 14) hx hb dX4_leader_7 (by decide) (fun c7 => ?_) (fun c7 => ?_)
  · have h := k_if c7 h
    refine lv_iload_n hx hb dX4_leader_14 rfl (lv_at hl 0 rfl) ?_
    refine lv_if_ge (tgt := 22) hx hb dX4_leader_15 (by decide) (fun c15 => ?_) (fun c15 => ?_)
    · have h := k_if c15 h
      refine lv_iconst (v := (-1)) hx hb dX4_leader_22 (by decide) ?_
      exact e_iret C hend hP (k_some h) rfl dX4_leader_23
    · have h := k_nf c15 h
      refine lv_iconst (v := 1) hx hb dX4_leader_18 (by decide) ?_
      refine lv_goto (tgt := 23) hx hb dX4_leader_19 (by decide) ?_
      exact e_iret C hend hP (k_some h) rfl dX4_leader_23
  · have h := k_nf c7 h
    refine lv_iconst (v := 0) hx hb dX4_leader_10 (by decide) ?_
    refine lv_goto (tgt := 23) hx hb dX4_leader_11 (by decide) ?_
    exact e_iret C hend hP (k_some h) rfl dX4_leader_23
def f_X4_longest_L4_b   (rec4 : Int32 → Int32 → MM → Option (Int32 × MM)) (x1 : Int32) (x2 : Int32) (σ3 : MM) : Option (Int32 × MM) :=
  if ((m_w σ3) * (m_h σ3)) ≤ x2 then some (x1, σ3) else ob2 (f_X4_chainOf σ3 x2) (fun x5 σ4 => ob2 (f_X4_chainOf σ4 x1) (fun x7 σ6 => if x5 ≤ x7 then lt (x2 + 1) (fun x8 => rec4 x1 x8 σ6) else lt (x2 + 1) (fun x9 => rec4 x2 x9 σ6)))
def f_X4_longest_L4   (x1 : Int32) (x2 : Int32) (σ3 : MM) : Option (Int32 × MM) :=
  lp (fun _ _ _ => none) (f_X4_longest_L4_b  ) FU x1 x2 σ3
def f_X4_longest (σ : MM) : Option (Int32 × MM) :=
  f_X4_longest_L4 0 1 σ
set_option maxHeartbeats 4000000 in
set_option maxRecDepth 100000 in
theorem c_X4_longest (l : Launch) (ev : EV) (ad : Nat → Nat) (σ : MM)   (r : Int32) (σ' : MM) (h : f_X4_longest σ = some (r, σ')) : Ct l yX4_longest prog_6_method_86_code 3 (Option.some Jvm.ClassFile.FieldType.int) (rmk 5 114) ev 13 ad (mw ev ad σ) (mw ev ad σ') [.ref (ad 0)] (some (.int r)) := by
  refine Ct.of (by decide +kernel) (Nat.le_of_ble_eq_true rfl) ?_
  intro p e s m args below meth c Qc C hap hP hend ls hl
  have hAA : ∀ j, j < 13 → inA ad 13 (ad j) := fun j hj => ⟨j, hj, rfl⟩
  have hx := C.1
  have hb := C.2.1
  have hl : lv_has ls 3 [(0, .ref (ad 0))] := hl
  have h := (f_X4_longest.eq_1 _ ).symm.trans h
  refine lv_iconst (v := 0) hx hb dX4_longest_0 (by decide) ?_
  refine lv_istore_n (lv' := [(1, .int 0), (0, .ref (ad 0))]) hx hb dX4_longest_1 rfl hl (by decide) rfl (fun ls hl => ?_)
  refine lv_iconst (v := 1) hx hb dX4_longest_2 (by decide) ?_
  refine lv_istore_n (lv' := [(2, .int 1), (1, .int 0), (0, .ref (ad 0))]) hx hb dX4_longest_3 rfl hl (by decide) rfl (fun ls hl => ?_)
  have hL4 : ∀ (n : Nat) (x1 : Int32) (x2 : Int32) (σ3 : MM) (H : Heap) (locs : List Loc) (ls : Array Slot), lp (fun _ _ _ => none) (f_X4_longest_L4_b  ) n x1 x2 σ3 = some (r, σ') → PS ev 13 ad (mw ev ad σ3) (inA ad 13) s H locs → lv_has ls 3 [(0, .ref (ad 0)), (1, .int x1), (2, .int x2)] → WW ev p l e (rmk 5 114) s m args below meth c Qc ad 13 H locs 4 ls [] := by
    intro n
    induction n with
    | zero =>
      intro x1 x2 σ3 H locs ls h; exact k_none h
    | succ n ih =>
      intro x1 x2 σ3 H locs ls h hP hl
      have h : f_X4_longest_L4_b   (lp (fun _ _ _ => none) (f_X4_longest_L4_b  ) n) x1 x2 σ3 = some (r, σ') := h
      have h := (f_X4_longest_L4_b.eq_1 _ _ _ _ ).symm.trans h
      refine lv_iload_n hx hb dX4_longest_4 rfl (lv_at hl 2 rfl) ?_
      refine lv_aload_n hx hb dX4_longest_5 rfl (lv_at hl 0 rfl) ?_
      refine r_get C hP (ci := 4) rfl uin_X4 0 (by decide) 0 (by decide) rfl qFL_RX4_67 rfl rfl dX4_longest_6 ?_
      refine lv_aload_n hx hb dX4_longest_9 rfl (lv_at hl 0 rfl) ?_
      refine r_get C hP (ci := 4) rfl uin_X4 1 (by decide) 0 (by decide) rfl qFL_RX4_70 rfl rfl dX4_longest_10 ?_
      refine lv_imul hx hb dX4_longest_13 ?_
      refine lv_icmp_ge (tgt := 38) hx hb dX4_longest_14 (by decide) (fun c14 => ?_) (fun c14 => ?_)
      · have h := k_if c14 h
        refine lv_iload_n hx hb dX4_longest_38 rfl (lv_at hl 1 rfl) ?_
        exact e_iret C hend hP (k_some2 h).1 (congrArg (mw ev ad) (k_some2 h).2) dX4_longest_39
      · have h := k_nf c14 h
        refine lv_aload_n hx hb dX4_longest_17 rfl (lv_at hl 0 rfl) ?_
        refine lv_iload_n hx hb dX4_longest_18 rfl (lv_at hl 2 rfl) ?_
        obtain ⟨x5, σ4, h1, h⟩ := k_ob2 h
        refine k_callVi C hP hap hAA (c_X4_chainOf l ev ad σ3 x2   _ _ h1) Emb.same hap gz_X4_chainOf qML_RX4_232 qIM_yX4_chainOf qSE_yX4_chainOf ⟨(Nat.le_of_ble_eq_true rfl), (Nat.le_of_ble_eq_true rfl)⟩ (q0 := 0) rfl (by decide) rfl rfl rfl rfl hl.1 rfl (Nat.le_of_ble_eq_true rfl) dX4_longest_19 ⟨Nat.le_refl _, Nat.le_refl _⟩ (fun H locs hP => ?_)
        refine lv_aload_n hx hb dX4_longest_22 rfl (lv_at hl 0 rfl) ?_
        refine lv_iload_n hx hb dX4_longest_23 rfl (lv_at hl 1 rfl) ?_
        obtain ⟨x7, σ6, h1, h⟩ := k_ob2 h
        refine k_callVi C hP hap hAA (c_X4_chainOf l ev ad σ4 x1   _ _ h1) Emb.same hap gz_X4_chainOf qML_RX4_232 qIM_yX4_chainOf qSE_yX4_chainOf ⟨(Nat.le_of_ble_eq_true rfl), (Nat.le_of_ble_eq_true rfl)⟩ (q0 := 0) rfl (by decide) rfl rfl rfl rfl hl.1 rfl (Nat.le_of_ble_eq_true rfl) dX4_longest_24 ⟨Nat.le_refl _, Nat.le_refl _⟩ (fun H locs hP => ?_)
        refine lv_icmp_le (tgt := 32) hx hb dX4_longest_27 (by decide) (fun c27 => ?_) (fun c27 => ?_)
        · have h := k_if c27 h
          obtain ⟨x8, ex8, h⟩ := k_ltx h
          refine lv_iinc (v := x8) (lv' := [(2, .int x8), (0, .ref (ad 0)), (1, .int x1)]) hx hb dX4_longest_32 hl (k := 2) rfl (by rw [ex8]; rfl) (by decide) rfl (fun ls hl => ?_)
          refine lv_goto (tgt := 4) hx hb dX4_longest_35 (by decide) ?_
          exact ih _ _ _ _ _ _ h hP (lv_sub hl [1, 2, 0] rfl)
        · have h := k_nf c27 h
          refine lv_iload_n hx hb dX4_longest_30 rfl (lv_at hl 2 rfl) ?_
          refine lv_istore_n (lv' := [(1, .int x2), (0, .ref (ad 0)), (2, .int x2)]) hx hb dX4_longest_31 rfl hl (by decide) rfl (fun ls hl => ?_)
          obtain ⟨x9, ex9, h⟩ := k_ltx h
          refine lv_iinc (v := x9) (lv' := [(2, .int x9), (1, .int x2), (0, .ref (ad 0))]) hx hb dX4_longest_32 hl (k := 2) rfl (by rw [ex9]; rfl) (by decide) rfl (fun ls hl => ?_)
          refine lv_goto (tgt := 4) hx hb dX4_longest_35 (by decide) ?_
          exact ih _ _ _ _ _ _ h hP (lv_sub hl [2, 1, 0] rfl)
  exact hL4 FU _ _ _ _ _ _ h hP (lv_sub hl [2, 1, 0] rfl)
def f_X4_withHedges_L5_b (σ : MM) (a1 : Int32) (a2 : Int32)  (rec5 : Int32 → Int32 → Option (Int32)) (x1 : Int32) (x2 : Int32) : Option (Int32) :=
  if 2 ≤ x2 then some x1 else ob (f_X4_field σ a1 x2) (fun x3 => if x3 = (-1) then lt (x2 + 1) (fun x4 => rec5 x1 x4) else ob (f_X4_field σ a1 x2) (fun x5 => ob (f_X4_hedges σ x5) (fun x6 => if x6 = a2 then lt (x1 + 1) (fun x8 => lt (x2 + 1) (fun x9 => rec5 x8 x9)) else lt (x2 + 1) (fun x7 => rec5 x1 x7))))
def f_X4_withHedges_L5 (σ : MM) (a1 : Int32) (a2 : Int32)  (x1 : Int32) (x2 : Int32) : Option (Int32) :=
  lp (fun _ _ => none) (f_X4_withHedges_L5_b σ a1 a2 ) FU x1 x2
def f_X4_withHedges (σ : MM) (a1 : Int32) (a2 : Int32) : Option (Int32) :=
  f_X4_withHedges_L5 σ a1 a2 0 0
set_option maxHeartbeats 4000000 in
set_option maxRecDepth 100000 in
theorem c_X4_withHedges (l : Launch) (ev : EV) (ad : Nat → Nat) (σ : MM) (a1 : Int32) (a2 : Int32)   (r : Int32)  (h : f_X4_withHedges σ a1 a2 = some r) : Ct l yX4_withHedges prog_6_method_88_code 5 (Option.some Jvm.ClassFile.FieldType.int) (rmk 3 67) ev 13 ad (mw ev ad σ) (mw ev ad σ) [.ref (ad 0), .int a1, .int a2] (some (.int r)) := by
  refine Ct.of (by decide +kernel) (Nat.le_of_ble_eq_true rfl) ?_
  intro p e s m args below meth c Qc C hap hP hend ls hl
  have hAA : ∀ j, j < 13 → inA ad 13 (ad j) := fun j hj => ⟨j, hj, rfl⟩
  have hx := C.1
  have hb := C.2.1
  have hl : lv_has ls 5 [(0, .ref (ad 0)), (1, .int a1), (2, .int a2)] := hl
  have h := (f_X4_withHedges.eq_1 _ _ _ ).symm.trans h
  refine lv_iconst (v := 0) hx hb dX4_withHedges_0 (by decide) ?_
  refine lv_istore_n (lv' := [(3, .int 0), (0, .ref (ad 0)), (1, .int a1), (2, .int a2)]) hx hb dX4_withHedges_1 rfl hl (by decide) rfl (fun ls hl => ?_)
  refine lv_iconst (v := 0) hx hb dX4_withHedges_2 (by decide) ?_
  refine lv_istore (lv' := [(4, .int 0), (3, .int 0), (0, .ref (ad 0)), (1, .int a1), (2, .int a2)]) hx hb dX4_withHedges_3 hl (by decide) rfl (fun ls hl => ?_)
  have hL5 : ∀ (n : Nat) (x1 : Int32) (x2 : Int32) (H : Heap) (locs : List Loc) (ls : Array Slot), lp (fun _ _ => none) (f_X4_withHedges_L5_b σ a1 a2 ) n x1 x2 = some r → PS ev 13 ad (mw ev ad σ) (inA ad 13) s H locs → lv_has ls 5 [(0, .ref (ad 0)), (1, .int a1), (2, .int a2), (3, .int x1), (4, .int x2)] → WW ev p l e (rmk 3 67) s m args below meth c Qc ad 13 H locs 5 ls [] := by
    intro n
    induction n with
    | zero =>
      intro x1 x2 H locs ls h; exact k_none h
    | succ n ih =>
      intro x1 x2 H locs ls h hP hl
      have h : f_X4_withHedges_L5_b σ a1 a2  (lp (fun _ _ => none) (f_X4_withHedges_L5_b σ a1 a2 ) n) x1 x2 = some r := h
      have h := (f_X4_withHedges_L5_b.eq_1 _ _ _ _ _ _ ).symm.trans h
      refine lv_iload hx hb dX4_withHedges_5 (lv_at hl 4 rfl) ?_
      refine lv_iconst (v := 2) hx hb dX4_withHedges_7 (by decide) ?_
      refine lv_icmp_ge (tgt := 46) hx hb dX4_withHedges_8 (by decide) (fun c8 => ?_) (fun c8 => ?_)
      · have h := k_if c8 h
        refine lv_iload_n hx hb dX4_withHedges_46 rfl (lv_at hl 3 rfl) ?_
        exact e_iret C hend hP (k_some h) rfl dX4_withHedges_47
      · have h := k_nf c8 h
        refine lv_aload_n hx hb dX4_withHedges_11 rfl (lv_at hl 0 rfl) ?_
        refine lv_iload_n hx hb dX4_withHedges_12 rfl (lv_at hl 1 rfl) ?_
        refine lv_iload hx hb dX4_withHedges_13 (lv_at hl 4 rfl) ?_
        obtain ⟨x3, h1, h⟩ := k_ob h
        refine k_callVi C hP hap hAA (c_X4_field l ev ad σ a1 x2   _ h1) Emb.same hap gz_X4_field qML_RX4_119 qIM_yX4_field qSE_yX4_field ⟨(Nat.le_of_ble_eq_true rfl), (Nat.le_of_ble_eq_true rfl)⟩ (q0 := 0) rfl (by decide) rfl rfl rfl rfl hl.1 rfl (Nat.le_of_ble_eq_true rfl) dX4_withHedges_15 ⟨Nat.le_refl _, Nat.le_refl _⟩ (fun H locs hP => ?_)
        refine lv_iconst (v := (-1)) hx hb dX4_withHedges_18 (by decide) ?_
        refine lv_icmp_eq (tgt := 40) hx hb dX4_withHedges_19 (by decide) (fun c19 => ?_) (fun c19 => ?_)
        · have h := k_if c19 h
          obtain ⟨x4, ex4, h⟩ := k_ltx h
          refine lv_iinc (v := x4) (lv' := [(4, .int x4), (0, .ref (ad 0)), (1, .int a1), (2, .int a2), (3, .int x1)]) hx hb dX4_withHedges_40 hl (k := 4) rfl (by rw [ex4]; rfl) (by decide) rfl (fun ls hl => ?_)
          refine lv_goto (tgt := 5) hx hb dX4_withHedges_43 (by decide) ?_
          exact ih _ _ _ _ _ h hP (lv_sub hl [1, 2, 3, 4, 0] rfl)
        · have h := k_nf c19 h
          refine lv_aload_n hx hb dX4_withHedges_22 rfl (lv_at hl 0 rfl) ?_
          refine lv_aload_n hx hb dX4_withHedges_23 rfl (lv_at hl 0 rfl) ?_
          refine lv_iload_n hx hb dX4_withHedges_24 rfl (lv_at hl 1 rfl) ?_
          refine lv_iload hx hb dX4_withHedges_25 (lv_at hl 4 rfl) ?_
          obtain ⟨x5, h1, h⟩ := k_ob h
          refine k_callVi C hP hap hAA (c_X4_field l ev ad σ a1 x2   _ h1) Emb.same hap gz_X4_field qML_RX4_119 qIM_yX4_field qSE_yX4_field ⟨(Nat.le_of_ble_eq_true rfl), (Nat.le_of_ble_eq_true rfl)⟩ (q0 := 0) rfl (by decide) rfl rfl rfl rfl hl.1 rfl (Nat.le_of_ble_eq_true rfl) dX4_withHedges_27 ⟨Nat.le_refl _, Nat.le_refl _⟩ (fun H locs hP => ?_)
          obtain ⟨x6, h1, h⟩ := k_ob h
          refine k_callVi C hP hap hAA (c_X4_hedges l ev ad σ x5   _ h1) Emb.same hap gz_X4_hedges qML_RX4_196 qIM_yX4_hedges qSE_yX4_hedges ⟨(Nat.le_of_ble_eq_true rfl), (Nat.le_of_ble_eq_true rfl)⟩ (q0 := 0) rfl (by decide) rfl rfl rfl rfl hl.1 rfl (Nat.le_of_ble_eq_true rfl) dX4_withHedges_30 ⟨Nat.le_refl _, Nat.le_refl _⟩ (fun H locs hP => ?_)
          refine lv_iload_n hx hb dX4_withHedges_33 rfl (lv_at hl 2 rfl) ?_
          refine lv_icmp_ne (tgt := 40) hx hb dX4_withHedges_34 (by decide) (fun c34 => ?_) (fun c34 => ?_)
          · have h := k_nf c34 h
            obtain ⟨x7, ex7, h⟩ := k_ltx h
            refine lv_iinc (v := x7) (lv' := [(4, .int x7), (0, .ref (ad 0)), (1, .int a1), (2, .int a2), (3, .int x1)]) hx hb dX4_withHedges_40 hl (k := 4) rfl (by rw [ex7]; rfl) (by decide) rfl (fun ls hl => ?_)
            refine lv_goto (tgt := 5) hx hb dX4_withHedges_43 (by decide) ?_
            exact ih _ _ _ _ _ h hP (lv_sub hl [1, 2, 3, 4, 0] rfl)
          · have h := k_if c34 h
            obtain ⟨x8, ex8, h⟩ := k_ltx h
            refine lv_iinc (v := x8) (lv' := [(3, .int x8), (0, .ref (ad 0)), (1, .int a1), (2, .int a2), (4, .int x2)]) hx hb dX4_withHedges_37 hl (k := 3) rfl (by rw [ex8]; rfl) (by decide) rfl (fun ls hl => ?_)
            obtain ⟨x9, ex9, h⟩ := k_ltx h
            refine lv_iinc (v := x9) (lv' := [(4, .int x9), (3, .int x8), (0, .ref (ad 0)), (1, .int a1), (2, .int a2)]) hx hb dX4_withHedges_40 hl (k := 4) rfl (by rw [ex9]; rfl) (by decide) rfl (fun ls hl => ?_)
            refine lv_goto (tgt := 5) hx hb dX4_withHedges_43 (by decide) ?_
            exact ih _ _ _ _ _ h hP (lv_sub hl [2, 3, 4, 1, 0] rfl)
  exact hL5 FU _ _ _ _ _ h hP (lv_sub hl [2, 3, 4, 1, 0] rfl)
def f_X4_shuts_ (σ : MM) (a1 : Int32) : Option (Int32 × MM) :=
  if (f_X4_within a1 0 ((f_X4_edges σ) - 1)) = true then gd (inb a1 40) (if ((m_hedge σ) (Int32.toNatClampNeg a1)) = 0 then ob (f_X4_withHedges σ a1 3) (fun x1 => some (x1, σ)) else ob2 (f_X4_no σ (-5)) (fun x3 σ2 => some (x3, σ2))) else ob2 (f_X4_no σ (-2)) (fun x5 σ4 => some (x5, σ4))
set_option maxHeartbeats 4000000 in
set_option maxRecDepth 100000 in
theorem c_X4_shuts_ (l : Launch) (ev : EV) (ad : Nat → Nat) (σ : MM) (a1 : Int32)   (r : Int32) (σ' : MM) (h : f_X4_shuts_ σ a1 = some (r, σ')) : Ct l yX4_shuts_ prog_6_method_87_code 2 (Option.some Jvm.ClassFile.FieldType.int) (rmk 4 91) ev 13 ad (mw ev ad σ) (mw ev ad σ') [.ref (ad 0), .int a1] (some (.int r)) := by
  refine Ct.of (by decide +kernel) (Nat.le_of_ble_eq_true rfl) ?_
  intro p e s m args below meth c Qc C hap hP hend ls hl
  have hAA : ∀ j, j < 13 → inA ad 13 (ad j) := fun j hj => ⟨j, hj, rfl⟩
  have hx := C.1
  have hb := C.2.1
  have hl : lv_has ls 2 [(0, .ref (ad 0)), (1, .int a1)] := hl
  have h := (f_X4_shuts_.eq_1 _ _ ).symm.trans h
  refine lv_iload_n hx hb dX4_shuts__0 rfl (lv_at hl 1 rfl) ?_
  refine lv_iconst (v := 0) hx hb dX4_shuts__1 (by decide) ?_
  refine lv_aload_n hx hb dX4_shuts__2 rfl (lv_at hl 0 rfl) ?_
  refine k_callVi C hP hap hAA (c_X4_edges l ev ad σ   _ rfl) Emb.same hap gz_X4_edges qML_RX4_107 qIM_yX4_edges qSE_yX4_edges ⟨(Nat.le_of_ble_eq_true rfl), (Nat.le_of_ble_eq_true rfl)⟩ (q0 := 0) rfl (by decide) rfl rfl rfl rfl hl.1 rfl (Nat.le_of_ble_eq_true rfl) dX4_shuts__3 ⟨Nat.le_refl _, Nat.le_refl _⟩ (fun H locs hP => ?_)
  refine lv_iconst (v := 1) hx hb dX4_shuts__6 (by decide) ?_
  refine lv_isub hx hb dX4_shuts__7 ?_
  refine k_callSi C hP hap hAA (c_X4_within l ev ad a1 0 ((f_X4_edges σ) - 1)   _ rfl) Emb.none (apart_0 _) gz_X4_within qML_RX4_63 qSM_yX4_within ⟨(Nat.le_of_ble_eq_true rfl), (Nat.le_of_ble_eq_true rfl)⟩ rfl hl.1 rfl (Nat.le_of_ble_eq_true rfl) dX4_shuts__8 ⟨Nat.le_refl _, Nat.le_refl _⟩ (fun H locs hP => ?_)
  refine r_ifz_ne (tgt := 21) hx hb dX4_shuts__11 (by decide) (fun c11 => ?_) (fun c11 => ?_)
  · have h := k_if c11 h
    refine lv_aload_n hx hb dX4_shuts__21 rfl (lv_at hl 0 rfl) ?_
    refine r_get C hP (ci := 4) rfl uin_X4 2 (by decide) 0 (by decide) rfl qFL_RX4_7 rfl rfl dX4_shuts__22 ?_
    refine lv_iload_n hx hb dX4_shuts__25 rfl (lv_at hl 1 rfl) ?_
    obtain ⟨hg, h⟩ := k_gd h
    refine r_zald C hP 1 (by decide) rfl hg dX4_shuts__26 ?_
    refine lv_if_eq (tgt := 37) hx hb dX4_shuts__27 (by decide) (fun c27 => ?_) (fun c27 => ?_)
    · have h := k_if c27 h
      refine lv_aload_n hx hb dX4_shuts__37 rfl (lv_at hl 0 rfl) ?_
      refine lv_iload_n hx hb dX4_shuts__38 rfl (lv_at hl 1 rfl) ?_
      refine lv_iconst (v := 3) hx hb dX4_shuts__39 (by decide) ?_
      obtain ⟨x1, h1, h⟩ := k_ob h
      refine k_callVi C hP hap hAA (c_X4_withHedges l ev ad σ a1 3   _ h1) Emb.same hap gz_X4_withHedges qML_RX4_280 qIM_yX4_withHedges qSE_yX4_withHedges ⟨(Nat.le_of_ble_eq_true rfl), (Nat.le_of_ble_eq_true rfl)⟩ (q0 := 0) rfl (by decide) rfl rfl rfl rfl hl.1 rfl (Nat.le_of_ble_eq_true rfl) dX4_shuts__40 ⟨Nat.le_refl _, Nat.le_refl _⟩ (fun H locs hP => ?_)
      exact e_iret C hend hP (k_some2 h).1 (congrArg (mw ev ad) (k_some2 h).2) dX4_shuts__43
    · have h := k_nf c27 h
      refine lv_aload_n hx hb dX4_shuts__30 rfl (lv_at hl 0 rfl) ?_
      refine lv_bipush (v := (-5)) hx hb dX4_shuts__31 (by decide) ?_
      obtain ⟨x3, σ2, h1, h⟩ := k_ob2 h
      refine k_callVi C hP hap hAA (c_X4_no l ev ad σ (-5)   _ _ h1) Emb.same hap gz_X4_no qML_RX4_56 qIM_yX4_no qSE_yX4_no ⟨(Nat.le_of_ble_eq_true rfl), (Nat.le_of_ble_eq_true rfl)⟩ (q0 := 0) rfl (by decide) rfl rfl rfl rfl hl.1 rfl (Nat.le_of_ble_eq_true rfl) dX4_shuts__33 ⟨Nat.le_refl _, Nat.le_refl _⟩ (fun H locs hP => ?_)
      exact e_iret C hend hP (k_some2 h).1 (congrArg (mw ev ad) (k_some2 h).2) dX4_shuts__36
  · have h := k_nf c11 h
    refine lv_aload_n hx hb dX4_shuts__14 rfl (lv_at hl 0 rfl) ?_
    refine lv_bipush (v := (-2)) hx hb dX4_shuts__15 (by decide) ?_
    obtain ⟨x5, σ4, h1, h⟩ := k_ob2 h
    refine k_callVi C hP hap hAA (c_X4_no l ev ad σ (-2)   _ _ h1) Emb.same hap gz_X4_no qML_RX4_56 qIM_yX4_no qSE_yX4_no ⟨(Nat.le_of_ble_eq_true rfl), (Nat.le_of_ble_eq_true rfl)⟩ (q0 := 0) rfl (by decide) rfl rfl rfl rfl hl.1 rfl (Nat.le_of_ble_eq_true rfl) dX4_shuts__17 ⟨Nat.le_refl _, Nat.le_refl _⟩ (fun H locs hP => ?_)
    exact e_iret C hend hP (k_some2 h).1 (congrArg (mw ev ad) (k_some2 h).2) dX4_shuts__20
