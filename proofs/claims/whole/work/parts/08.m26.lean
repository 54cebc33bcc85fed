/-! functions read off, and their contracts: by program (wip/whole/gen2.py) -/
def f_X3_played (σ : XX) (a1 : Int32) (a2 : Int32) (a3 : Int32) : Option (Int32 × XX) :=
  if (f_X3_isPlayer σ a1) = true then if (f_X3_isPlayer σ a2) = true then if a3 < 0 then ob2 (f_X3_refuseLead σ (-2)) (fun x6 σ5 => some (x6, σ5)) else if a3 ≤ 2 then ob2 (f_X3_playOut σ a1 a2) (fun x8 σ7 => if a3 = 0 then some (((g_made (x_thought σ7)) - (g_made (x_now σ7))), σ7) else if a3 = 1 then ob (f_X0_leadOf (x_thought σ7) 0) (fun x9 => some (x9, σ7)) else some ((f_X3_moveOf x8), σ7)) else ob2 (f_X3_refuseLead σ (-2)) (fun x11 σ10 => some (x11, σ10)) else ob2 (f_X3_refuseLead σ (-2)) (fun x4 σ3 => some (x4, σ3)) else ob2 (f_X3_refuseLead σ (-2)) (fun x2 σ1 => some (x2, σ1))
set_option maxHeartbeats 4000000 in
set_option maxRecDepth 100000 in
theorem c_X3_played (l : Launch) (ev : EV) (ad : Nat → Nat) (σ : XX) (a1 : Int32) (a2 : Int32) (a3 : Int32)   (r : Int32) (σ' : XX) (h : f_X3_played σ a1 a2 a3 = some (r, σ')) : Ct l yX3_played prog_1_method_45_code 5 (Option.some Jvm.ClassFile.FieldType.int) (rmk 6 145) ev 26 ad (xw ev ad σ) (xw ev ad σ') [.ref (ad 0), .int a1, .int a2, .int a3] (some (.int r)) := by
  refine Ct.of (by decide +kernel) (Nat.le_of_ble_eq_true rfl) ?_
  intro p e s m args below meth c Qc C hap hP hend ls hl
  have hAA : ∀ j, j < 26 → inA ad 26 (ad j) := fun j hj => ⟨j, hj, rfl⟩
  have hx := C.1
  have hb := C.2.1
  have hl : lv_has ls 5 [(0, .ref (ad 0)), (1, .int a1), (2, .int a2), (3, .int a3)] := hl
  have h := (f_X3_played.eq_1 _ _ _ _ ).symm.trans h
  refine lv_aload_n hx hb dX3_played_0 rfl (lv_at hl 0 rfl) ?_
  refine lv_iload_n hx hb dX3_played_1 rfl (lv_at hl 1 rfl) ?_
  refine k_callVi C hP hap hAA (c_X3_isPlayer l ev ad σ a1   _ rfl) Emb.same hap gz_X3_isPlayer qML_RX3_108 qIM_yX3_isPlayer qSE_yX3_isPlayer ⟨(Nat.le_of_ble_eq_true rfl), (Nat.le_of_ble_eq_true rfl)⟩ (q0 := 0) rfl (by decide) rfl rfl rfl rfl hl.1 rfl (Nat.le_of_ble_eq_true rfl) dX3_played_2 ⟨Nat.le_refl _, Nat.le_refl _⟩ (fun H locs hP => ?_)
  refine r_ifz_eq (tgt := 25) hx hb dX3_played_5 (by decide) (fun c5 => ?_) (fun c5 => ?_)
  · have h := k_nf c5 h
    refine lv_aload_n hx hb dX3_played_25 rfl (lv_at hl 0 rfl) ?_
    refine lv_bipush (v := (-2)) hx hb dX3_played_26 (by decide) ?_
    obtain ⟨x2, σ1, h1, h⟩ := k_ob2 h
    refine k_callVi C hP hap hAA (c_X3_refuseLead l ev ad σ (-2)   _ _ h1) Emb.same hap gz_X3_refuseLead qML_RX3_258 qIM_yX3_refuseLead qSE_yX3_refuseLead ⟨(Nat.le_of_ble_eq_true rfl), (Nat.le_of_ble_eq_true rfl)⟩ (q0 := 0) rfl (by decide) rfl rfl rfl rfl hl.1 rfl (Nat.le_of_ble_eq_true rfl) dX3_played_28 ⟨Nat.le_refl _, Nat.le_refl _⟩ (fun H locs hP => ?_)
    exact e_iret C hend hP (k_some2 h).1 (congrArg (xw ev ad) (k_some2 h).2) dX3_played_31
  · have h := k_if c5 h
    refine lv_aload_n hx hb dX3_played_8 rfl (lv_at hl 0 rfl) ?_
    refine lv_iload_n hx hb dX3_played_9 rfl (lv_at hl 2 rfl) ?_
    refine k_callVi C hP hap hAA (c_X3_isPlayer l ev ad σ a2   _ rfl) Emb.same hap gz_X3_isPlayer qML_RX3_108 qIM_yX3_isPlayer qSE_yX3_isPlayer ⟨(Nat.le_of_ble_eq_true rfl), (Nat.le_of_ble_eq_true rfl)⟩ (q0 := 0) rfl (by decide) rfl rfl rfl rfl hl.1 rfl (Nat.le_of_ble_eq_true rfl) dX3_played_10 ⟨Nat.le_refl _, Nat.le_refl _⟩ (fun H locs hP => ?_)
    refine r_ifz_eq (tgt := 25) hx hb dX3_played_13 (by decide) (fun c13 => ?_) (fun c13 => ?_)
    · have h := k_nf c13 h
      refine lv_aload_n hx hb dX3_played_25 rfl (lv_at hl 0 rfl) ?_
      refine lv_bipush (v := (-2)) hx hb dX3_played_26 (by decide) ?_
      obtain ⟨x4, σ3, h1, h⟩ := k_ob2 h
      refine k_callVi C hP hap hAA (c_X3_refuseLead l ev ad σ (-2)   _ _ h1) Emb.same hap gz_X3_refuseLead qML_RX3_258 qIM_yX3_refuseLead qSE_yX3_refuseLead ⟨(Nat.le_of_ble_eq_true rfl), (Nat.le_of_ble_eq_true rfl)⟩ (q0 := 0) rfl (by decide) rfl rfl rfl rfl hl.1 rfl (Nat.le_of_ble_eq_true rfl) dX3_played_28 ⟨Nat.le_refl _, Nat.le_refl _⟩ (fun H locs hP => ?_)
      exact e_iret C hend hP (k_some2 h).1 (congrArg (xw ev ad) (k_some2 h).2) dX3_played_31
    · have h := k_if c13 h
      refine lv_iload_n hx hb dX3_played_16 rfl (lv_at hl 3 rfl) ?_
      refine lv_if_lt (tgt := 25) hx hb dX3_played_17 (by decide) (fun c17 => ?_) (fun c17 => ?_)
      · have h := k_if c17 h
        refine lv_aload_n hx hb dX3_played_25 rfl (lv_at hl 0 rfl) ?_
        refine lv_bipush (v := (-2)) hx hb dX3_played_26 (by decide) ?_
        obtain ⟨x6, σ5, h1, h⟩ := k_ob2 h
        refine k_callVi C hP hap hAA (c_X3_refuseLead l ev ad σ (-2)   _ _ h1) Emb.same hap gz_X3_refuseLead qML_RX3_258 qIM_yX3_refuseLead qSE_yX3_refuseLead ⟨(Nat.le_of_ble_eq_true rfl), (Nat.le_of_ble_eq_true rfl)⟩ (q0 := 0) rfl (by decide) rfl rfl rfl rfl hl.1 rfl (Nat.le_of_ble_eq_true rfl) dX3_played_28 ⟨Nat.le_refl _, Nat.le_refl _⟩ (fun H locs hP => ?_)
        exact e_iret C hend hP (k_some2 h).1 (congrArg (xw ev ad) (k_some2 h).2) dX3_played_31
      · have h := k_nf c17 h
        refine lv_iload_n hx hb dX3_played_20 rfl (lv_at hl 3 rfl) ?_
        refine lv_iconst (v := 2) hx hb dX3_played_21 (by decide) ?_
        refine lv_icmp_le (tgt := 32) hx hb dX3_played_22 (by decide) (fun c22 => ?_) (fun c22 => ?_)
        · have h := k_if c22 h
          refine lv_aload_n hx hb dX3_played_32 rfl (lv_at hl 0 rfl) ?_
          refine lv_iload_n hx hb dX3_played_33 rfl (lv_at hl 1 rfl) ?_
          refine lv_iload_n hx hb dX3_played_34 rfl (lv_at hl 2 rfl) ?_
          obtain ⟨x8, σ7, h1, h⟩ := k_ob2 h
          refine k_callVi C hP hap hAA (c_X3_playOut l ev ad σ a1 a2   _ _ h1) Emb.same hap gz_X3_playOut qML_RX3_321 qIM_yX3_playOut qSE_yX3_playOut ⟨(Nat.le_of_ble_eq_true rfl), (Nat.le_of_ble_eq_true rfl)⟩ (q0 := 0) rfl (by decide) rfl rfl rfl rfl hl.1 rfl (Nat.le_of_ble_eq_true rfl) dX3_played_35 ⟨Nat.le_refl _, Nat.le_refl _⟩ (fun H locs hP => ?_)
          refine lv_istore (lv' := [(4, .int x8), (0, .ref (ad 0)), (1, .int a1), (2, .int a2), (3, .int a3)]) hx hb dX3_played_38 hl (by decide) rfl (fun ls hl => ?_)
          refine lv_iload_n hx hb dX3_played_40 rfl (lv_at hl 4 rfl) ?_
          refine lv_if_ne (tgt := 60) hx hb dX3_played_41 (by decide) (fun c41 => ?_) (fun c41 => ?_)
          · have h := k_nf c41 h
            refine lv_iload_n hx hb dX3_played_60 rfl (lv_at hl 4 rfl) ?_
            refine lv_iconst (v := 1) hx hb dX3_played_61 (by decide) ?_
            refine lv_icmp_ne (tgt := 76) hx hb dX3_played_62 (by decide) (fun c62 => ?_) (fun c62 => ?_)
            · have h := k_nf c62 h
              refine lv_iload hx hb dX3_played_76 (lv_at hl 0 rfl) ?_
              refine k_callSi C hP hap hAA (c_X3_moveOf l ev ad x8   _ rfl) Emb.none (apart_0 _) gz_X3_moveOf qML_RX3_249 qSM_yX3_moveOf ⟨(Nat.le_of_ble_eq_true rfl), (Nat.le_of_ble_eq_true rfl)⟩ rfl hl.1 rfl (Nat.le_of_ble_eq_true rfl) dX3_played_78 ⟨Nat.le_refl _, Nat.le_refl _⟩ (fun H locs hP => ?_)
              exact e_iret C hend hP (k_some2 h).1 (congrArg (xw ev ad) (k_some2 h).2) dX3_played_81
            · have h := k_if c62 h
              refine lv_aload_n hx hb dX3_played_65 rfl (lv_at hl 1 rfl) ?_
              refine r_get C hP (ci := 3) rfl uin_X3 1 (by decide) 0 (by decide) rfl qFL_RX3_16 rfl rfl dX3_played_66 ?_
              refine lv_iconst (v := 0) hx hb dX3_played_69 (by decide) ?_
              obtain ⟨x9, h1, h⟩ := k_ob h
              refine k_callVi C hP hap hAA (c_X0_leadOf l ev (fun j => ad (j + 2)) (x_thought σ7) 0   _ h1) (em_G2r) (apart_1 _) gz_X0_leadOf qML_RX3_255 qIM_yX0_leadOf qSE_yX0_leadOf ⟨(Nat.le_of_ble_eq_true rfl), (Nat.le_of_ble_eq_true rfl)⟩ (q0 := 2) rfl (by decide) rfl rfl rfl rfl hl.1 rfl (Nat.le_of_ble_eq_true rfl) dX3_played_70 ⟨Nat.le_refl _, Nat.le_refl _⟩ (fun H locs hP => ?_)
              refine lv_goto (tgt := 81) hx hb dX3_played_73 (by decide) ?_
              exact e_iret C hend hP (k_some2 h).1 (congrArg (xw ev ad) (k_some2 h).2) dX3_played_81
          · have h := k_if c41 h
            refine lv_aload_n hx hb dX3_played_44 rfl (lv_at hl 1 rfl) ?_
            refine r_get C hP (ci := 3) rfl uin_X3 1 (by decide) 0 (by decide) rfl qFL_RX3_16 rfl rfl dX3_played_45 ?_
            refine r_get C hP (ci := 0) rfl uin_X0 14 (by decide) 2 (by decide) rfl qFL_RX3_325 rfl rfl dX3_played_48 ?_
            refine lv_aload_n hx hb dX3_played_51 rfl (lv_at hl 1 rfl) ?_
            refine r_get C hP (ci := 3) rfl uin_X3 0 (by decide) 0 (by decide) rfl qFL_RX3_10 rfl rfl dX3_played_52 ?_
            refine r_get C hP (ci := 0) rfl uin_X0 14 (by decide) 1 (by decide) rfl qFL_RX3_325 rfl rfl dX3_played_55 ?_
            refine lv_isub hx hb dX3_played_58 ?_
            exact e_iret C hend hP (k_some2 h).1 (congrArg (xw ev ad) (k_some2 h).2) dX3_played_59
        · have h := k_nf c22 h
          refine lv_aload_n hx hb dX3_played_25 rfl (lv_at hl 0 rfl) ?_
          refine lv_bipush (v := (-2)) hx hb dX3_played_26 (by decide) ?_
          obtain ⟨x11, σ10, h1, h⟩ := k_ob2 h
          refine k_callVi C hP hap hAA (c_X3_refuseLead l ev ad σ (-2)   _ _ h1) Emb.same hap gz_X3_refuseLead qML_RX3_258 qIM_yX3_refuseLead qSE_yX3_refuseLead ⟨(Nat.le_of_ble_eq_true rfl), (Nat.le_of_ble_eq_true rfl)⟩ (q0 := 0) rfl (by decide) rfl rfl rfl rfl hl.1 rfl (Nat.le_of_ble_eq_true rfl) dX3_played_28 ⟨Nat.le_refl _, Nat.le_refl _⟩ (fun H locs hP => ?_)
          exact e_iret C hend hP (k_some2 h).1 (congrArg (xw ev ad) (k_some2 h).2) dX3_played_31
def f_X3_winnings_L4_b (a1 : Int32)  (rec4 : Int32 → Int32 → XX → Option (Int32 × XX)) (x1 : Int32) (x2 : Int32) (σ3 : XX) : Option (Int32 × XX) :=
  if (x_crew σ3) ≤ x2 then some (x1, σ3) else if x2 = a1 then lt (x2 + 1) (fun x4 => rec4 x1 x4 σ3) else ob2 (f_X3_playOut σ3 a1 x2) (fun x6 σ5 => ob (f_X0_leadOf (x_thought σ5) (g_turn (x_now σ5))) (fun x7 => lt (x1 + x7) (fun x8 => ob2 (f_X3_playOut σ5 x2 a1) (fun x10 σ9 => ob (f_X0_leadOf (x_thought σ9) (1 - (g_turn (x_now σ9)))) (fun x11 => lt (x8 + x11) (fun x12 => lt (x2 + 1) (fun x13 => rec4 x12 x13 σ9)))))))
def f_X3_winnings_L4 (a1 : Int32)  (x1 : Int32) (x2 : Int32) (σ3 : XX) : Option (Int32 × XX) :=
  lp (fun _ _ _ => none) (f_X3_winnings_L4_b a1 ) FU x1 x2 σ3
def f_X3_winnings (σ : XX) (a1 : Int32) : Option (Int32 × XX) :=
  f_X3_winnings_L4 a1 0 0 σ
set_option maxHeartbeats 4000000 in
set_option maxRecDepth 100000 in
theorem c_X3_winnings (l : Launch) (ev : EV) (ad : Nat → Nat) (σ : XX) (a1 : Int32)   (r : Int32) (σ' : XX) (h : f_X3_winnings σ a1 = some (r, σ')) : Ct l yX3_winnings prog_1_method_84_code 4 (Option.some Jvm.ClassFile.FieldType.int) (rmk 6 145) ev 26 ad (xw ev ad σ) (xw ev ad σ') [.ref (ad 0), .int a1] (some (.int r)) := by
  refine Ct.of (by decide +kernel) (Nat.le_of_ble_eq_true rfl) ?_
  intro p e s m args below meth c Qc C hap hP hend ls hl
  have hAA : ∀ j, j < 26 → inA ad 26 (ad j) := fun j hj => ⟨j, hj, rfl⟩
  have hx := C.1
  have hb := C.2.1
  have hl : lv_has ls 4 [(0, .ref (ad 0)), (1, .int a1)] := hl
  have h := (f_X3_winnings.eq_1 _ _ ).symm.trans h
  refine lv_iconst (v := 0) hx hb dX3_winnings_0 (by decide) ?_
  refine lv_istore_n (lv' := [(2, .int 0), (0, .ref (ad 0)), (1, .int a1)]) hx hb dX3_winnings_1 rfl hl (by decide) rfl (fun ls hl => ?_)
  refine lv_iconst (v := 0) hx hb dX3_winnings_2 (by decide) ?_
  refine lv_istore_n (lv' := [(3, .int 0), (2, .int 0), (0, .ref (ad 0)), (1, .int a1)]) hx hb dX3_winnings_3 rfl hl (by decide) rfl (fun ls hl => ?_)
  have hL4 : ∀ (n : Nat) (x1 : Int32) (x2 : Int32) (σ3 : XX) (H : Heap) (locs : List Loc) (ls : Array Slot), lp (fun _ _ _ => none) (f_X3_winnings_L4_b a1 ) n x1 x2 σ3 = some (r, σ') → PS ev 26 ad (xw ev ad σ3) (inA ad 26) s H locs → lv_has ls 4 [(0, .ref (ad 0)), (1, .int a1), (2, .int x1), (3, .int x2)] → WW ev p l e (rmk 6 145) s m args below meth c Qc ad 26 H locs 4 ls [] := by
    intro n
    induction n with
    | zero =>
      intro x1 x2 σ3 H locs ls h; exact k_none h
    | succ n ih =>
      intro x1 x2 σ3 H locs ls h hP hl
      have h : f_X3_winnings_L4_b a1  (lp (fun _ _ _ => none) (f_X3_winnings_L4_b a1 ) n) x1 x2 σ3 = some (r, σ') := h
      have h := (f_X3_winnings_L4_b.eq_1 _ _ _ _ _ ).symm.trans h
      refine lv_iload_n hx hb dX3_winnings_4 rfl (lv_at hl 3 rfl) ?_
      refine lv_aload_n hx hb dX3_winnings_5 rfl (lv_at hl 0 rfl) ?_
      refine r_get C hP (ci := 3) rfl uin_X3 6 (by decide) 0 (by decide) rfl qFL_RX3_33 rfl rfl dX3_winnings_6 ?_
      refine lv_icmp_ge (tgt := 73) hx hb dX3_winnings_9 (by decide) (fun c9 => ?_) (fun c9 => ?_)
      · have h := k_if c9 h
        refine lv_iload_n hx hb dX3_winnings_73 rfl (lv_at hl 2 rfl) ?_
        exact e_iret C hend hP (k_some2 h).1 (congrArg (xw ev ad) (k_some2 h).2) dX3_winnings_74
      · have h := k_nf c9 h
        refine lv_iload_n hx hb dX3_winnings_12 rfl (lv_at hl 3 rfl) ?_
        refine lv_iload_n hx hb dX3_winnings_13 rfl (lv_at hl 1 rfl) ?_
        refine lv_icmp_eq (tgt := 67) hx hb dX3_winnings_14 (by decide) (fun c14 => ?_) (fun c14 => ?_)
        · have h := k_if c14 h
          obtain ⟨x4, ex4, h⟩ := k_ltx h
          refine lv_iinc (v := x4) (lv' := [(3, .int x4), (0, .ref (ad 0)), (1, .int a1), (2, .int x1)]) hx hb dX3_winnings_67 hl (k := 3) rfl (by rw [ex4]; rfl) (by decide) rfl (fun ls hl => ?_)
          refine lv_goto (tgt := 4) hx hb dX3_winnings_70 (by decide) ?_
          exact ih _ _ _ _ _ _ h hP (lv_sub hl [1, 2, 3, 0] rfl)
        · have h := k_nf c14 h
          refine lv_aload_n hx hb dX3_winnings_17 rfl (lv_at hl 0 rfl) ?_
          refine lv_iload_n hx hb dX3_winnings_18 rfl (lv_at hl 1 rfl) ?_
          refine lv_iload_n hx hb dX3_winnings_19 rfl (lv_at hl 3 rfl) ?_
          obtain ⟨x6, σ5, h1, h⟩ := k_ob2 h
          refine k_callVi C hP hap hAA (c_X3_playOut l ev ad σ3 a1 x2   _ _ h1) Emb.same hap gz_X3_playOut qML_RX3_321 qIM_yX3_playOut qSE_yX3_playOut ⟨(Nat.le_of_ble_eq_true rfl), (Nat.le_of_ble_eq_true rfl)⟩ (q0 := 0) rfl (by decide) rfl rfl rfl rfl hl.1 rfl (Nat.le_of_ble_eq_true rfl) dX3_winnings_20 ⟨Nat.le_refl _, Nat.le_refl _⟩ (fun H locs hP => ?_)
          refine lv_pop hx hb dX3_winnings_23 rfl ?_
          refine lv_iload_n hx hb dX3_winnings_24 rfl (lv_at hl 2 rfl) ?_
          refine lv_aload_n hx hb dX3_winnings_25 rfl (lv_at hl 0 rfl) ?_
          refine r_get C hP (ci := 3) rfl uin_X3 1 (by decide) 0 (by decide) rfl qFL_RX3_16 rfl rfl dX3_winnings_26 ?_
          refine lv_aload_n hx hb dX3_winnings_29 rfl (lv_at hl 0 rfl) ?_
          refine r_get C hP (ci := 3) rfl uin_X3 0 (by decide) 0 (by decide) rfl qFL_RX3_10 rfl rfl dX3_winnings_30 ?_
          refine r_get C hP (ci := 0) rfl uin_X0 13 (by decide) 1 (by decide) rfl qFL_RX3_156 rfl rfl dX3_winnings_33 ?_
          obtain ⟨x7, h1, h⟩ := k_ob h
          refine k_callVi C hP hap hAA (c_X0_leadOf l ev (fun j => ad (j + 2)) (x_thought σ5) (g_turn (x_now σ5))   _ h1) (em_G2r) (apart_1 _) gz_X0_leadOf qML_RX3_255 qIM_yX0_leadOf qSE_yX0_leadOf ⟨(Nat.le_of_ble_eq_true rfl), (Nat.le_of_ble_eq_true rfl)⟩ (q0 := 2) rfl (by decide) rfl rfl rfl rfl hl.1 rfl (Nat.le_of_ble_eq_true rfl) dX3_winnings_36 ⟨Nat.le_refl _, Nat.le_refl _⟩ (fun H locs hP => ?_)
          refine lv_iadd hx hb dX3_winnings_39 ?_
          refine lv_topi (fun x8 ex8 => ?_)
          have h := k_lt ex8 h
          refine lv_istore_n (lv' := [(2, .int x8), (0, .ref (ad 0)), (1, .int a1), (3, .int x2)]) hx hb dX3_winnings_40 rfl hl (by decide) rfl (fun ls hl => ?_)
          refine lv_aload_n hx hb dX3_winnings_41 rfl (lv_at hl 1 rfl) ?_
          refine lv_iload_n hx hb dX3_winnings_42 rfl (lv_at hl 3 rfl) ?_
          refine lv_iload_n hx hb dX3_winnings_43 rfl (lv_at hl 2 rfl) ?_
          obtain ⟨x10, σ9, h1, h⟩ := k_ob2 h
          refine k_callVi C hP hap hAA (c_X3_playOut l ev ad σ5 x2 a1   _ _ h1) Emb.same hap gz_X3_playOut qML_RX3_321 qIM_yX3_playOut qSE_yX3_playOut ⟨(Nat.le_of_ble_eq_true rfl), (Nat.le_of_ble_eq_true rfl)⟩ (q0 := 0) rfl (by decide) rfl rfl rfl rfl hl.1 rfl (Nat.le_of_ble_eq_true rfl) dX3_winnings_44 ⟨Nat.le_refl _, Nat.le_refl _⟩ (fun H locs hP => ?_)
          refine lv_pop hx hb dX3_winnings_47 rfl ?_
          refine lv_iload_n hx hb dX3_winnings_48 rfl (lv_at hl 0 rfl) ?_
          refine lv_aload_n hx hb dX3_winnings_49 rfl (lv_at hl 1 rfl) ?_
          refine r_get C hP (ci := 3) rfl uin_X3 1 (by decide) 0 (by decide) rfl qFL_RX3_16 rfl rfl dX3_winnings_50 ?_
          refine lv_iconst (v := 1) hx hb dX3_winnings_53 (by decide) ?_
          refine lv_aload_n hx hb dX3_winnings_54 rfl (lv_at hl 1 rfl) ?_
          refine r_get C hP (ci := 3) rfl uin_X3 0 (by decide) 0 (by decide) rfl qFL_RX3_10 rfl rfl dX3_winnings_55 ?_
          refine r_get C hP (ci := 0) rfl uin_X0 13 (by decide) 1 (by decide) rfl qFL_RX3_156 rfl rfl dX3_winnings_58 ?_
          refine lv_isub hx hb dX3_winnings_61 ?_
          obtain ⟨x11, h1, h⟩ := k_ob h
          refine k_callVi C hP hap hAA (c_X0_leadOf l ev (fun j => ad (j + 2)) (x_thought σ9) (1 - (g_turn (x_now σ9)))   _ h1) (em_G2r) (apart_1 _) gz_X0_leadOf qML_RX3_255 qIM_yX0_leadOf qSE_yX0_leadOf ⟨(Nat.le_of_ble_eq_true rfl), (Nat.le_of_ble_eq_true rfl)⟩ (q0 := 2) rfl (by decide) rfl rfl rfl rfl hl.1 rfl (Nat.le_of_ble_eq_true rfl) dX3_winnings_62 ⟨Nat.le_refl _, Nat.le_refl _⟩ (fun H locs hP => ?_)
          refine lv_iadd hx hb dX3_winnings_65 ?_
          refine lv_topi (fun x12 ex12 => ?_)
          have h := k_lt ex12 h
          refine lv_istore_n (lv' := [(2, .int x12), (0, .ref (ad 0)), (1, .int a1), (3, .int x2)]) hx hb dX3_winnings_66 rfl hl (by decide) rfl (fun ls hl => ?_)
          obtain ⟨x13, ex13, h⟩ := k_ltx h
          refine lv_iinc (v := x13) (lv' := [(3, .int x13), (2, .int x12), (0, .ref (ad 0)), (1, .int a1)]) hx hb dX3_winnings_67 hl (k := 3) rfl (by rw [ex13]; rfl) (by decide) rfl (fun ls hl => ?_)
          refine lv_goto (tgt := 4) hx hb dX3_winnings_70 (by decide) ?_
          exact ih _ _ _ _ _ _ h hP (lv_sub hl [2, 3, 1, 0] rfl)
  exact hL4 FU _ _ _ _ _ _ h hP (lv_sub hl [2, 3, 1, 0] rfl)
def f_X3_wins (σ : XX) (a1 : Int32) : Option (Int32 × XX) :=
  if (f_X3_isPlayer σ a1) = true then ob2 (f_X3_winnings σ a1) (fun x4 σ3 => some (x4, σ3)) else ob2 (f_X3_refuseLead σ (-2)) (fun x2 σ1 => some (x2, σ1))
set_option maxHeartbeats 4000000 in
set_option maxRecDepth 100000 in
theorem c_X3_wins (l : Launch) (ev : EV) (ad : Nat → Nat) (σ : XX) (a1 : Int32)   (r : Int32) (σ' : XX) (h : f_X3_wins σ a1 = some (r, σ')) : Ct l yX3_wins prog_1_method_46_code 2 (Option.some Jvm.ClassFile.FieldType.int) (rmk 7 168) ev 26 ad (xw ev ad σ) (xw ev ad σ') [.ref (ad 0), .int a1] (some (.int r)) := by
  refine Ct.of (by decide +kernel) (Nat.le_of_ble_eq_true rfl) ?_
  intro p e s m args below meth c Qc C hap hP hend ls hl
  have hAA : ∀ j, j < 26 → inA ad 26 (ad j) := fun j hj => ⟨j, hj, rfl⟩
  have hx := C.1
  have hb := C.2.1
  have hl : lv_has ls 2 [(0, .ref (ad 0)), (1, .int a1)] := hl
  have h := (f_X3_wins.eq_1 _ _ ).symm.trans h
  refine lv_aload_n hx hb dX3_wins_0 rfl (lv_at hl 0 rfl) ?_
  refine lv_iload_n hx hb dX3_wins_1 rfl (lv_at hl 1 rfl) ?_
  refine k_callVi C hP hap hAA (c_X3_isPlayer l ev ad σ a1   _ rfl) Emb.same hap gz_X3_isPlayer qML_RX3_108 qIM_yX3_isPlayer qSE_yX3_isPlayer ⟨(Nat.le_of_ble_eq_true rfl), (Nat.le_of_ble_eq_true rfl)⟩ (q0 := 0) rfl (by decide) rfl rfl rfl rfl hl.1 rfl (Nat.le_of_ble_eq_true rfl) dX3_wins_2 ⟨Nat.le_refl _, Nat.le_refl _⟩ (fun H locs hP => ?_)
  refine r_ifz_eq (tgt := 16) hx hb dX3_wins_5 (by decide) (fun c5 => ?_) (fun c5 => ?_)
  · have h := k_nf c5 h
    refine lv_aload_n hx hb dX3_wins_16 rfl (lv_at hl 0 rfl) ?_
    refine lv_bipush (v := (-2)) hx hb dX3_wins_17 (by decide) ?_
    obtain ⟨x2, σ1, h1, h⟩ := k_ob2 h
    refine k_callVi C hP hap hAA (c_X3_refuseLead l ev ad σ (-2)   _ _ h1) Emb.same hap gz_X3_refuseLead qML_RX3_258 qIM_yX3_refuseLead qSE_yX3_refuseLead ⟨(Nat.le_of_ble_eq_true rfl), (Nat.le_of_ble_eq_true rfl)⟩ (q0 := 0) rfl (by decide) rfl rfl rfl rfl hl.1 rfl (Nat.le_of_ble_eq_true rfl) dX3_wins_19 ⟨Nat.le_refl _, Nat.le_refl _⟩ (fun H locs hP => ?_)
    exact e_iret C hend hP (k_some2 h).1 (congrArg (xw ev ad) (k_some2 h).2) dX3_wins_22
  · have h := k_if c5 h
    refine lv_aload_n hx hb dX3_wins_8 rfl (lv_at hl 0 rfl) ?_
    refine lv_iload_n hx hb dX3_wins_9 rfl (lv_at hl 1 rfl) ?_
    obtain ⟨x4, σ3, h1, h⟩ := k_ob2 h
    refine k_callVi C hP hap hAA (c_X3_winnings l ev ad σ a1   _ _ h1) Emb.same hap gz_X3_winnings qML_RX3_328 qIM_yX3_winnings qSE_yX3_winnings ⟨(Nat.le_of_ble_eq_true rfl), (Nat.le_of_ble_eq_true rfl)⟩ (q0 := 0) rfl (by decide) rfl rfl rfl rfl hl.1 rfl (Nat.le_of_ble_eq_true rfl) dX3_wins_10 ⟨Nat.le_refl _, Nat.le_refl _⟩ (fun H locs hP => ?_)
    refine lv_goto (tgt := 22) hx hb dX3_wins_13 (by decide) ?_
    exact e_iret C hend hP (k_some2 h).1 (congrArg (xw ev ad) (k_some2 h).2) dX3_wins_22
def f_X3_champion_L24_b   (rec24 : Int32 → Int32 → Int32 → XX → Option (Int32 × XX)) (x3 : Int32) (x4 : Int32) (x5 : Int32) (σ6 : XX) : Option (Int32 × XX) :=
  if (x_crew σ6) ≤ x5 then some (x3, σ6) else ob2 (f_X3_winnings σ6 x5) (fun x8 σ7 => if x8 ≤ x4 then lt (x5 + 1) (fun x9 => rec24 x3 x4 x9 σ7) else lt (x5 + 1) (fun x10 => rec24 x5 x8 x10 σ7))
def f_X3_champion_L24   (x3 : Int32) (x4 : Int32) (x5 : Int32) (σ6 : XX) : Option (Int32 × XX) :=
  lp (fun _ _ _ _ => none) (f_X3_champion_L24_b  ) FU x3 x4 x5 σ6
def f_X3_champion (σ : XX) : Option (Int32 × XX) :=
  if 0 < (x_crew σ) then ob2 (f_X3_winnings σ 0) (fun x2 σ1 => f_X3_champion_L24 0 x2 1 σ1) else ob2 (f_X3_refuse σ (-5)) (fun x12 σ11 => some (x12, σ11))
set_option maxHeartbeats 4000000 in
set_option maxRecDepth 100000 in
theorem c_X3_champion (l : Launch) (ev : EV) (ad : Nat → Nat) (σ : XX)   (r : Int32) (σ' : XX) (h : f_X3_champion σ = some (r, σ')) : Ct l yX3_champion prog_1_method_47_code 5 (Option.some Jvm.ClassFile.FieldType.int) (rmk 7 168) ev 26 ad (xw ev ad σ) (xw ev ad σ') [.ref (ad 0)] (some (.int r)) := by
  refine Ct.of (by decide +kernel) (Nat.le_of_ble_eq_true rfl) ?_
  intro p e s m args below meth c Qc C hap hP hend ls hl
  have hAA : ∀ j, j < 26 → inA ad 26 (ad j) := fun j hj => ⟨j, hj, rfl⟩
  have hx := C.1
  have hb := C.2.1
  have hl : lv_has ls 5 [(0, .ref (ad 0))] := hl
  have h := (f_X3_champion.eq_1 _ ).symm.trans h
  refine lv_aload_n hx hb dX3_champion_0 rfl (lv_at hl 0 rfl) ?_
  refine r_get C hP (ci := 3) rfl uin_X3 6 (by decide) 0 (by decide) rfl qFL_RX3_33 rfl rfl dX3_champion_1 ?_
  refine lv_if_gt (tgt := 14) hx hb dX3_champion_4 (by decide) (fun c4 => ?_) (fun c4 => ?_)
  · have h := k_if c4 h
    refine lv_iconst (v := 0) hx hb dX3_champion_14 (by decide) ?_
    refine lv_istore_n (lv' := [(1, .int 0), (0, .ref (ad 0))]) hx hb dX3_champion_15 rfl hl (by decide) rfl (fun ls hl => ?_)
    refine lv_aload_n hx hb dX3_champion_16 rfl (lv_at hl 1 rfl) ?_
    refine lv_iconst (v := 0) hx hb dX3_champion_17 (by decide) ?_
    obtain ⟨x2, σ1, h1, h⟩ := k_ob2 h
    refine k_callVi C hP hap hAA (c_X3_winnings l ev ad σ 0   _ _ h1) Emb.same hap gz_X3_winnings qML_RX3_328 qIM_yX3_winnings qSE_yX3_winnings ⟨(Nat.le_of_ble_eq_true rfl), (Nat.le_of_ble_eq_true rfl)⟩ (q0 := 0) rfl (by decide) rfl rfl rfl rfl hl.1 rfl (Nat.le_of_ble_eq_true rfl) dX3_champion_18 ⟨Nat.le_refl _, Nat.le_refl _⟩ (fun H locs hP => ?_)
    refine lv_istore_n (lv' := [(2, .int x2), (1, .int 0), (0, .ref (ad 0))]) hx hb dX3_champion_21 rfl hl (by decide) rfl (fun ls hl => ?_)
    refine lv_iconst (v := 1) hx hb dX3_champion_22 (by decide) ?_
    refine lv_istore_n (lv' := [(3, .int 1), (2, .int x2), (1, .int 0), (0, .ref (ad 0))]) hx hb dX3_champion_23 rfl hl (by decide) rfl (fun ls hl => ?_)
    have hL24 : ∀ (n : Nat) (x3 : Int32) (x4 : Int32) (x5 : Int32) (σ6 : XX) (H : Heap) (locs : List Loc) (ls : Array Slot), lp (fun _ _ _ _ => none) (f_X3_champion_L24_b  ) n x3 x4 x5 σ6 = some (r, σ') → PS ev 26 ad (xw ev ad σ6) (inA ad 26) s H locs → lv_has ls 5 [(0, .ref (ad 0)), (1, .int x3), (2, .int x4), (3, .int x5)] → WW ev p l e (rmk 7 168) s m args below meth c Qc ad 26 H locs 24 ls [] := by
      intro n
      induction n with
      | zero =>
        intro x3 x4 x5 σ6 H locs ls h; exact k_none h
      | succ n ih =>
        intro x3 x4 x5 σ6 H locs ls h hP hl
        have h : f_X3_champion_L24_b   (lp (fun _ _ _ _ => none) (f_X3_champion_L24_b  ) n) x3 x4 x5 σ6 = some (r, σ') := h
        have h := (f_X3_champion_L24_b.eq_1 _ _ _ _ _ ).symm.trans h
        refine lv_iload_n hx hb dX3_champion_24 rfl (lv_at hl 3 rfl) ?_
        refine lv_aload_n hx hb dX3_champion_25 rfl (lv_at hl 0 rfl) ?_
        refine r_get C hP (ci := 3) rfl uin_X3 6 (by decide) 0 (by decide) rfl qFL_RX3_33 rfl rfl dX3_champion_26 ?_
        refine lv_icmp_ge (tgt := 56) hx hb dX3_champion_29 (by decide) (fun c29 => ?_) (fun c29 => ?_)
        · have h := k_if c29 h
          refine lv_iload_n hx hb dX3_champion_56 rfl (lv_at hl 1 rfl) ?_
          exact e_iret C hend hP (k_some2 h).1 (congrArg (xw ev ad) (k_some2 h).2) dX3_champion_57
        · have h := k_nf c29 h
          refine lv_aload_n hx hb dX3_champion_32 rfl (lv_at hl 0 rfl) ?_
          refine lv_iload_n hx hb dX3_champion_33 rfl (lv_at hl 3 rfl) ?_
          obtain ⟨x8, σ7, h1, h⟩ := k_ob2 h
          refine k_callVi C hP hap hAA (c_X3_winnings l ev ad σ6 x5   _ _ h1) Emb.same hap gz_X3_winnings qML_RX3_328 qIM_yX3_winnings qSE_yX3_winnings ⟨(Nat.le_of_ble_eq_true rfl), (Nat.le_of_ble_eq_true rfl)⟩ (q0 := 0) rfl (by decide) rfl rfl rfl rfl hl.1 rfl (Nat.le_of_ble_eq_true rfl) dX3_champion_34 ⟨Nat.le_refl _, Nat.le_refl _⟩ (fun H locs hP => ?_)
          refine lv_istore (lv' := [(4, .int x8), (0, .ref (ad 0)), (1, .int x3), (2, .int x4), (3, .int x5)]) hx hb dX3_champion_37 hl (by decide) rfl (fun ls hl => ?_)
          refine lv_iload hx hb dX3_champion_39 (lv_at hl 0 rfl) ?_
          refine lv_iload_n hx hb dX3_champion_41 rfl (lv_at hl 3 rfl) ?_
          refine lv_icmp_le (tgt := 50) hx hb dX3_champion_42 (by decide) (fun c42 => ?_) (fun c42 => ?_)
          · have h := k_if c42 h
            obtain ⟨x9, ex9, h⟩ := k_ltx h
            refine lv_iinc (v := x9) (lv' := [(3, .int x9), (4, .int x8), (0, .ref (ad 0)), (1, .int x3), (2, .int x4)]) hx hb dX3_champion_50 hl (k := 4) rfl (by rw [ex9]; rfl) (by decide) rfl (fun ls hl => ?_)
            refine lv_goto (tgt := 24) hx hb dX3_champion_53 (by decide) ?_
            exact ih _ _ _ _ _ _ _ h hP (lv_sub hl [2, 3, 4, 0] rfl)
          · have h := k_nf c42 h
            refine lv_iload hx hb dX3_champion_45 (lv_at hl 0 rfl) ?_
            refine lv_istore_n (lv' := [(2, .int x8), (4, .int x8), (0, .ref (ad 0)), (1, .int x3), (3, .int x5)]) hx hb dX3_champion_47 rfl hl (by decide) rfl (fun ls hl => ?_)
            refine lv_iload_n hx hb dX3_champion_48 rfl (lv_at hl 4 rfl) ?_
            refine lv_istore_n (lv' := [(1, .int x5), (2, .int x8), (4, .int x8), (0, .ref (ad 0)), (3, .int x5)]) hx hb dX3_champion_49 rfl hl (by decide) rfl (fun ls hl => ?_)
            obtain ⟨x10, ex10, h⟩ := k_ltx h
            refine lv_iinc (v := x10) (lv' := [(3, .int x10), (1, .int x5), (2, .int x8), (4, .int x8), (0, .ref (ad 0))]) hx hb dX3_champion_50 hl (k := 4) rfl (by rw [ex10]; rfl) (by decide) rfl (fun ls hl => ?_)
            refine lv_goto (tgt := 24) hx hb dX3_champion_53 (by decide) ?_
            exact ih _ _ _ _ _ _ _ h hP (lv_sub hl [4, 1, 2, 0] rfl)
    exact hL24 FU _ _ _ _ _ _ _ h hP (lv_sub hl [3, 2, 1, 0] rfl)
  · have h := k_nf c4 h
    refine lv_aload_n hx hb dX3_champion_7 rfl (lv_at hl 0 rfl) ?_
    refine lv_bipush (v := (-5)) hx hb dX3_champion_8 (by decide) ?_
    obtain ⟨x12, σ11, h1, h⟩ := k_ob2 h
    refine k_callVi C hP hap hAA (c_X3_refuse l ev ad σ (-5)   _ _ h1) Emb.same hap gz_X3_refuse qML_RX3_60 qIM_yX3_refuse qSE_yX3_refuse ⟨(Nat.le_of_ble_eq_true rfl), (Nat.le_of_ble_eq_true rfl)⟩ (q0 := 0) rfl (by decide) rfl rfl rfl rfl hl.1 rfl (Nat.le_of_ble_eq_true rfl) dX3_champion_10 ⟨Nat.le_refl _, Nat.le_refl _⟩ (fun H locs hP => ?_)
    exact e_iret C hend hP (k_some2 h).1 (congrArg (xw ev ad) (k_some2 h).2) dX3_champion_13
