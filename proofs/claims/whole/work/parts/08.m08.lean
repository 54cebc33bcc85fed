/-! functions read off, and their contracts: by program (wip/whole/gen2.py) -/
def f_X3_best_L31_b  (k113 : Int32 → XX → Option (Int32 × XX)) (rec31 : Int64 → Int32 → Int32 → Int32 → XX → Option (Int32 × XX)) (y2 : Int64) (x3 : Int32) (x4 : Int32) (x5 : Int32) (σ6 : XX) : Option (Int32 × XX) :=
  if 7 ≤ x5 then k113 x3 σ6 else if (lg_cmp y2 0) = 0 then k113 x3 σ6 else lt (f_X3_firstSlot y2) (fun x7 => lt (y2 &&& (y2 - 1)) (fun y8 => ob (f_X0_become (x_thought σ6) (x_now σ6)) (fun σ9 => lt (x_thought' σ6 σ9) (fun σ10 => ob (f_X0_make (x_thought σ10) x7) (fun σ11 => lt (x_thought' σ10 σ11) (fun σ12 => ob2 (f_X3_outcome 10 (x_thought σ12) (-100) (-x4) 6) (fun x14 σ13 => lt (x_thought' σ12 σ13) (fun σ15 => lt (-x14) (fun x16 => if x16 ≤ x4 then lt (x5 + 1) (fun x17 => rec31 y8 x3 x4 x17 σ15) else lt (x5 + 1) (fun x18 => rec31 y8 x7 x16 x18 σ15))))))))))
def f_X3_best_L31  (k113 : Int32 → XX → Option (Int32 × XX)) (y2 : Int64) (x3 : Int32) (x4 : Int32) (x5 : Int32) (σ6 : XX) : Option (Int32 × XX) :=
  lp (fun _ _ _ _ _ => none) (f_X3_best_L31_b  k113) FU y2 x3 x4 x5 σ6
def f_X3_best (σ : XX) : Option (Int32 × XX) :=
  if (f_X3_isNearEnd σ) = true then lt (f_X0_openSlots (x_now σ)) (fun y1 => f_X3_best_L31 (fun x20 σ21 => some ((f_X3_moveOf x20), σ21)) y1 (-1) (-100) 0 σ) else ob2 (f_X3_refuse σ (-5)) (fun x23 σ22 => some (x23, σ22))
set_option maxHeartbeats 4000000 in
set_option maxRecDepth 100000 in
theorem c_X3_best (l : Launch) (ev : EV) (ad : Nat → Nat) (σ : XX)   (r : Int32) (σ' : XX) (h : f_X3_best σ = some (r, σ')) : Ct l yX3_best prog_1_method_42_code 8 (Option.some Jvm.ClassFile.FieldType.int) (rmk 29 1057) ev 26 ad (xw ev ad σ) (xw ev ad σ') [.ref (ad 0)] (some (.int r)) := by
  refine Ct.of (by decide +kernel) (Nat.le_of_ble_eq_true rfl) ?_
  intro p e s m args below meth c Qc C hap hP hend ls hl
  have hAA : ∀ j, j < 26 → inA ad 26 (ad j) := fun j hj => ⟨j, hj, rfl⟩
  have hx := C.1
  have hb := C.2.1
  have hl : lv_has ls 8 [(0, .ref (ad 0))] := hl
  have h := (f_X3_best.eq_1 _ ).symm.trans h
  refine lv_aload_n hx hb dX3_best_0 rfl (lv_at hl 0 rfl) ?_
  refine k_callVi C hP hap hAA (c_X3_isNearEnd l ev ad σ   _ rfl) Emb.same hap gz_X3_isNearEnd qML_RX3_308 qIM_yX3_isNearEnd qSE_yX3_isNearEnd ⟨(Nat.le_of_ble_eq_true rfl), (Nat.le_of_ble_eq_true rfl)⟩ (q0 := 0) rfl (by decide) rfl rfl rfl rfl hl.1 rfl (Nat.le_of_ble_eq_true rfl) dX3_best_1 ⟨Nat.le_refl _, Nat.le_refl _⟩ (fun H locs hP => ?_)
  refine r_ifz_ne (tgt := 14) hx hb dX3_best_4 (by decide) (fun c4 => ?_) (fun c4 => ?_)
  · have h := k_if c4 h
    refine lv_aload_n hx hb dX3_best_14 rfl (lv_at hl 0 rfl) ?_
    refine r_get C hP (ci := 3) rfl uin_X3 0 (by decide) 0 (by decide) rfl qFL_RX3_10 rfl rfl dX3_best_15 ?_
    refine k_callVl C hP hap hAA (c_X0_openSlots l ev (fun j => ad (j + 1)) (x_now σ)   _ rfl) (em_G1r) (apart_1 _) gz_X0_openSlots qML_RX3_127 qIM_yX0_openSlots qSE_yX0_openSlots ⟨(Nat.le_of_ble_eq_true rfl), (Nat.le_of_ble_eq_true rfl)⟩ (q0 := 1) rfl (by decide) rfl rfl rfl rfl hl.1 rfl (Nat.le_of_ble_eq_true rfl) dX3_best_18 ⟨Nat.le_refl _, Nat.le_refl _⟩ (fun H locs hP => ?_)
    refine lv_topl (fun y1 ey1 => ?_)
    have h := k_lt ey1 h
    refine lv_lstore_n (lv' := [(1, .long y1), (0, .ref (ad 0))]) hx hb dX3_best_21 rfl hl (by decide) rfl (fun ls hl => ?_)
    refine lv_iconst (v := (-1)) hx hb dX3_best_22 (by decide) ?_
    refine lv_istore_n (lv' := [(3, .int (-1)), (1, .long y1), (0, .ref (ad 0))]) hx hb dX3_best_23 rfl hl (by decide) rfl (fun ls hl => ?_)
    refine lv_bipush (v := (-100)) hx hb dX3_best_24 (by decide) ?_
    refine lv_istore (lv' := [(4, .int (-100)), (3, .int (-1)), (1, .long y1), (0, .ref (ad 0))]) hx hb dX3_best_26 hl (by decide) rfl (fun ls hl => ?_)
    refine lv_iconst (v := 0) hx hb dX3_best_28 (by decide) ?_
    refine lv_istore (lv' := [(5, .int 0), (4, .int (-100)), (3, .int (-1)), (1, .long y1), (0, .ref (ad 0))]) hx hb dX3_best_29 hl (by decide) rfl (fun ls hl => ?_)
    have hL31 : ∀ (k113 : Int32 → XX → Option (Int32 × XX)) (hk113 : ∀ (z19 : Int32) (σk : XX) (H : Heap) (locs : List Loc) (ls : Array Slot), k113 z19 σk = some (r, σ') → PS ev 26 ad (xw ev ad σk) (inA ad 26) s H locs → lv_has ls 8 [(3, .int z19)] → WW ev p l e (rmk 29 1057) s m args below meth c Qc ad 26 H locs 113 ls []) (n : Nat) (y2 : Int64) (x3 : Int32) (x4 : Int32) (x5 : Int32) (σ6 : XX) (H : Heap) (locs : List Loc) (ls : Array Slot), lp (fun _ _ _ _ _ => none) (f_X3_best_L31_b  k113) n y2 x3 x4 x5 σ6 = some (r, σ') → PS ev 26 ad (xw ev ad σ6) (inA ad 26) s H locs → lv_has ls 8 [(0, .ref (ad 0)), (1, .long y2), (3, .int x3), (4, .int x4), (5, .int x5)] → WW ev p l e (rmk 29 1057) s m args below meth c Qc ad 26 H locs 31 ls [] := by
      intro k113 hk113 n
      induction n with
      | zero =>
        intro y2 x3 x4 x5 σ6 H locs ls h; exact k_none h
      | succ n ih =>
        intro y2 x3 x4 x5 σ6 H locs ls h hP hl
        have h : f_X3_best_L31_b  k113 (lp (fun _ _ _ _ _ => none) (f_X3_best_L31_b  k113) n) y2 x3 x4 x5 σ6 = some (r, σ') := h
        have h := (f_X3_best_L31_b.eq_1 _ _ _ _ _ _ _ ).symm.trans h
        refine lv_iload hx hb dX3_best_31 (lv_at hl 4 rfl) ?_
        refine lv_bipush (v := 7) hx hb dX3_best_33 (by decide) ?_
        refine lv_icmp_ge (tgt := 113) hx hb dX3_best_35 (by decide) (fun c35 => ?_) (fun c35 => ?_)
        · have h := k_if c35 h
          exact hk113 _ _ _ _ _ h hP (lv_sub hl [2] rfl)
        · have h := k_nf c35 h
          refine lv_lload_n hx hb dX3_best_38 rfl (lv_at hl 1 rfl) ?_
          refine lv_lconst (v := 0) hx hb dX3_best_39 (by decide) ?_
          refine W.lcmp hx hb dX3_best_40 ?_
          refine lv_if_eq (tgt := 113) hx hb dX3_best_41 (by decide) (fun c41 => ?_) (fun c41 => ?_)
          · have h := k_if c41 h
            exact hk113 _ _ _ _ _ h hP (lv_sub hl [2] rfl)
          · have h := k_nf c41 h
            refine lv_lload_n hx hb dX3_best_44 rfl (lv_at hl 1 rfl) ?_
            refine k_callSi C hP hap hAA (c_X3_firstSlot l ev ad y2   _ rfl) Emb.none (apart_0 _) gz_X3_firstSlot qML_RX3_318 qSM_yX3_firstSlot ⟨(Nat.le_of_ble_eq_true rfl), (Nat.le_of_ble_eq_true rfl)⟩ rfl hl.1 rfl (Nat.le_of_ble_eq_true rfl) dX3_best_45 ⟨Nat.le_refl _, Nat.le_refl _⟩ (fun H locs hP => ?_)
            refine lv_topi (fun x7 ex7 => ?_)
            have h := k_lt ex7 h
            refine lv_istore (lv' := [(6, .int x7), (0, .ref (ad 0)), (1, .long y2), (3, .int x3), (4, .int x4), (5, .int x5)]) hx hb dX3_best_48 hl (by decide) rfl (fun ls hl => ?_)
            refine lv_lload_n hx hb dX3_best_50 rfl (lv_at hl 2 rfl) ?_
            refine lv_lload_n hx hb dX3_best_51 rfl (lv_at hl 2 rfl) ?_
            refine lv_lconst (v := 1) hx hb dX3_best_52 (by decide) ?_
            refine lv_lsub hx hb dX3_best_53 ?_
            refine lv_land hx hb dX3_best_54 ?_
            refine lv_topl (fun y8 ey8 => ?_)
            have h := k_lt ey8 h
            refine lv_lstore_n (lv' := [(1, .long y8), (6, .int x7), (0, .ref (ad 0)), (3, .int x3), (4, .int x4), (5, .int x5)]) hx hb dX3_best_55 rfl hl (by decide) rfl (fun ls hl => ?_)
            refine lv_aload_n hx hb dX3_best_56 rfl (lv_at hl 2 rfl) ?_
            refine r_get C hP (ci := 3) rfl uin_X3 1 (by decide) 0 (by decide) rfl qFL_RX3_16 rfl rfl dX3_best_57 ?_
            refine lv_aload_n hx hb dX3_best_60 rfl (lv_at hl 2 rfl) ?_
            refine r_get C hP (ci := 3) rfl uin_X3 0 (by decide) 0 (by decide) rfl qFL_RX3_10 rfl rfl dX3_best_61 ?_
            obtain ⟨σ9, h1, h⟩ := k_ob h
            refine k_callVv C hP hap hAA (c_X0_become l ev (fun j => if j = 0 then ad 2 else ad 1) (x_thought σ6) (x_now σ6)   _ h1) (em_GG21) (apart_GG hap (by decide) (by decide) (by decide)) gz_X0_become qML_RX3_165 qIM_yX0_become qSE_yX0_become ⟨(Nat.le_of_ble_eq_true rfl), (Nat.le_of_ble_eq_true rfl)⟩ (q0 := 2) rfl (by decide) rfl rfl rfl rfl hl.1 rfl (Nat.le_of_ble_eq_true rfl) dX3_best_64 ⟨Nat.le_refl _, Nat.le_refl _⟩ (fun H locs hP => ?_)
            obtain ⟨σ10, eσ10, h⟩ := k_ltx h
            rw [← eσ10] at hP
            refine lv_aload_n hx hb dX3_best_67 rfl (lv_at hl 2 rfl) ?_
            refine r_get C hP (ci := 3) rfl uin_X3 1 (by decide) 0 (by decide) rfl qFL_RX3_16 rfl rfl dX3_best_68 ?_
            refine lv_iload hx hb dX3_best_71 (lv_at hl 1 rfl) ?_
            obtain ⟨σ11, h1, h⟩ := k_ob h
            refine k_callVv C hP hap hAA (c_X0_make l ev (fun j => ad (j + 2)) (x_thought σ10) x7   _ h1) (em_G2) (apart_1 _) gz_X0_make qML_RX3_311 qIM_yX0_make qSE_yX0_make ⟨(Nat.le_of_ble_eq_true rfl), (Nat.le_of_ble_eq_true rfl)⟩ (q0 := 2) rfl (by decide) rfl rfl rfl rfl hl.1 rfl (Nat.le_of_ble_eq_true rfl) dX3_best_73 ⟨Nat.le_refl _, Nat.le_refl _⟩ (fun H locs hP => ?_)
            obtain ⟨σ12, eσ12, h⟩ := k_ltx h
            rw [← eσ12] at hP
            refine lv_aload_n hx hb dX3_best_76 rfl (lv_at hl 2 rfl) ?_
            refine r_get C hP (ci := 3) rfl uin_X3 1 (by decide) 0 (by decide) rfl qFL_RX3_16 rfl rfl dX3_best_77 ?_
            refine lv_bipush (v := (-100)) hx hb dX3_best_80 (by decide) ?_
            refine lv_iload hx hb dX3_best_82 (lv_at hl 4 rfl) ?_
            refine lv_ineg hx hb dX3_best_84 ?_
            refine lv_bipush (v := 6) hx hb dX3_best_85 (by decide) ?_
            obtain ⟨x14, σ13, h1, h⟩ := k_ob2 h
            refine k_callSi C hP hap hAA (c_X3_outcome l ev 10 (fun j => ad (j + 2)) (x_thought σ12) (-100) (-x4) 6   _ _ h1) (em_G2) (apart_1 _) gz_X3_outcome qML_RX3_314 qSM_yX3_outcome ⟨(Nat.le_of_ble_eq_true rfl), (Nat.le_of_ble_eq_true rfl)⟩ rfl hl.1 rfl (Nat.le_of_ble_eq_true rfl) dX3_best_87 ⟨Nat.le_refl _, Nat.le_refl _⟩ (fun H locs hP => ?_)
            obtain ⟨σ15, eσ15, h⟩ := k_ltx h
            rw [← eσ15] at hP
            refine lv_ineg hx hb dX3_best_90 ?_
            refine lv_topi (fun x16 ex16 => ?_)
            have h := k_lt ex16 h
            refine lv_istore (lv' := [(7, .int x16), (1, .long y8), (6, .int x7), (0, .ref (ad 0)), (3, .int x3), (4, .int x4), (5, .int x5)]) hx hb dX3_best_91 hl (by decide) rfl (fun ls hl => ?_)
            refine lv_iload hx hb dX3_best_93 (lv_at hl 0 rfl) ?_
            refine lv_iload hx hb dX3_best_95 (lv_at hl 5 rfl) ?_
            refine lv_icmp_le (tgt := 107) hx hb dX3_best_97 (by decide) (fun c97 => ?_) (fun c97 => ?_)
            · have h := k_if c97 h
              obtain ⟨x17, ex17, h⟩ := k_ltx h
              refine lv_iinc (v := x17) (lv' := [(5, .int x17), (7, .int x16), (1, .long y8), (6, .int x7), (0, .ref (ad 0)), (3, .int x3), (4, .int x4)]) hx hb dX3_best_107 hl (k := 6) rfl (by rw [ex17]; rfl) (by decide) rfl (fun ls hl => ?_)
              refine lv_goto (tgt := 31) hx hb dX3_best_110 (by decide) ?_
              exact ih _ _ _ _ _ _ _ _ h hP (lv_sub hl [4, 2, 5, 6, 0] rfl)
            · have h := k_nf c97 h
              refine lv_iload hx hb dX3_best_100 (lv_at hl 0 rfl) ?_
              refine lv_istore (lv' := [(4, .int x16), (7, .int x16), (1, .long y8), (6, .int x7), (0, .ref (ad 0)), (3, .int x3), (5, .int x5)]) hx hb dX3_best_102 hl (by decide) rfl (fun ls hl => ?_)
              refine lv_iload hx hb dX3_best_104 (lv_at hl 3 rfl) ?_
              refine lv_istore_n (lv' := [(3, .int x7), (4, .int x16), (7, .int x16), (1, .long y8), (6, .int x7), (0, .ref (ad 0)), (5, .int x5)]) hx hb dX3_best_106 rfl hl (by decide) rfl (fun ls hl => ?_)
              obtain ⟨x18, ex18, h⟩ := k_ltx h
              refine lv_iinc (v := x18) (lv' := [(5, .int x18), (3, .int x7), (4, .int x16), (7, .int x16), (1, .long y8), (6, .int x7), (0, .ref (ad 0))]) hx hb dX3_best_107 hl (k := 6) rfl (by rw [ex18]; rfl) (by decide) rfl (fun ls hl => ?_)
              refine lv_goto (tgt := 31) hx hb dX3_best_110 (by decide) ?_
              exact ih _ _ _ _ _ _ _ _ h hP (lv_sub hl [6, 4, 1, 2, 0] rfl)
    refine hL31 _ (fun x20 σ21 H locs ls h hP hl => ?_) FU _ _ _ _ _ _ _ _ h hP (lv_sub hl [4, 3, 2, 1, 0] rfl)
    refine lv_iload_n hx hb dX3_best_113 rfl (lv_at hl 0 rfl) ?_
    refine k_callSi C hP hap hAA (c_X3_moveOf l ev ad x20   _ rfl) Emb.none (apart_0 _) gz_X3_moveOf qML_RX3_249 qSM_yX3_moveOf ⟨(Nat.le_of_ble_eq_true rfl), (Nat.le_of_ble_eq_true rfl)⟩ rfl hl.1 rfl (Nat.le_of_ble_eq_true rfl) dX3_best_114 ⟨Nat.le_refl _, Nat.le_refl _⟩ (fun H locs hP => ?_)
    exact e_iret C hend hP (k_some2 h).1 (congrArg (xw ev ad) (k_some2 h).2) dX3_best_117
  · have h := k_nf c4 h
    refine lv_aload_n hx hb dX3_best_7 rfl (lv_at hl 0 rfl) ?_
    refine lv_bipush (v := (-5)) hx hb dX3_best_8 (by decide) ?_
    obtain ⟨x23, σ22, h1, h⟩ := k_ob2 h
    refine k_callVi C hP hap hAA (c_X3_refuse l ev ad σ (-5)   _ _ h1) Emb.same hap gz_X3_refuse qML_RX3_60 qIM_yX3_refuse qSE_yX3_refuse ⟨(Nat.le_of_ble_eq_true rfl), (Nat.le_of_ble_eq_true rfl)⟩ (q0 := 0) rfl (by decide) rfl rfl rfl rfl hl.1 rfl (Nat.le_of_ble_eq_true rfl) dX3_best_10 ⟨Nat.le_refl _, Nat.le_refl _⟩ (fun H locs hP => ?_)
    exact e_iret C hend hP (k_some2 h).1 (congrArg (xw ev ad) (k_some2 h).2) dX3_best_13
def f_X3_worth (σ : XX) : Option (Int32 × XX) :=
  if (f_X3_isNearEnd σ) = true then ob (f_X0_become (x_thought σ) (x_now σ)) (fun σ1 => lt (x_thought' σ σ1) (fun σ2 => ob2 (f_X3_outcome 10 (x_thought σ2) (-100) 100 7) (fun x4 σ3 => lt (x_thought' σ2 σ3) (fun σ5 => some (x4, σ5))))) else ob2 (f_X3_refuseLead σ (-5)) (fun x7 σ6 => some (x7, σ6))
set_option maxHeartbeats 4000000 in
set_option maxRecDepth 100000 in
theorem c_X3_worth (l : Launch) (ev : EV) (ad : Nat → Nat) (σ : XX)   (r : Int32) (σ' : XX) (h : f_X3_worth σ = some (r, σ')) : Ct l yX3_worth prog_1_method_43_code 1 (Option.some Jvm.ClassFile.FieldType.int) (rmk 29 1057) ev 26 ad (xw ev ad σ) (xw ev ad σ') [.ref (ad 0)] (some (.int r)) := by
  refine Ct.of (by decide +kernel) (Nat.le_of_ble_eq_true rfl) ?_
  intro p e s m args below meth c Qc C hap hP hend ls hl
  have hAA : ∀ j, j < 26 → inA ad 26 (ad j) := fun j hj => ⟨j, hj, rfl⟩
  have hx := C.1
  have hb := C.2.1
  have hl : lv_has ls 1 [(0, .ref (ad 0))] := hl
  have h := (f_X3_worth.eq_1 _ ).symm.trans h
  refine lv_aload_n hx hb dX3_worth_0 rfl (lv_at hl 0 rfl) ?_
  refine k_callVi C hP hap hAA (c_X3_isNearEnd l ev ad σ   _ rfl) Emb.same hap gz_X3_isNearEnd qML_RX3_308 qIM_yX3_isNearEnd qSE_yX3_isNearEnd ⟨(Nat.le_of_ble_eq_true rfl), (Nat.le_of_ble_eq_true rfl)⟩ (q0 := 0) rfl (by decide) rfl rfl rfl rfl hl.1 rfl (Nat.le_of_ble_eq_true rfl) dX3_worth_1 ⟨Nat.le_refl _, Nat.le_refl _⟩ (fun H locs hP => ?_)
  refine r_ifz_ne (tgt := 14) hx hb dX3_worth_4 (by decide) (fun c4 => ?_) (fun c4 => ?_)
  · have h := k_if c4 h
    refine lv_aload_n hx hb dX3_worth_14 rfl (lv_at hl 0 rfl) ?_
    refine r_get C hP (ci := 3) rfl uin_X3 1 (by decide) 0 (by decide) rfl qFL_RX3_16 rfl rfl dX3_worth_15 ?_
    refine lv_aload_n hx hb dX3_worth_18 rfl (lv_at hl 0 rfl) ?_
    refine r_get C hP (ci := 3) rfl uin_X3 0 (by decide) 0 (by decide) rfl qFL_RX3_10 rfl rfl dX3_worth_19 ?_
    obtain ⟨σ1, h1, h⟩ := k_ob h
    refine k_callVv C hP hap hAA (c_X0_become l ev (fun j => if j = 0 then ad 2 else ad 1) (x_thought σ) (x_now σ)   _ h1) (em_GG21) (apart_GG hap (by decide) (by decide) (by decide)) gz_X0_become qML_RX3_165 qIM_yX0_become qSE_yX0_become ⟨(Nat.le_of_ble_eq_true rfl), (Nat.le_of_ble_eq_true rfl)⟩ (q0 := 2) rfl (by decide) rfl rfl rfl rfl hl.1 rfl (Nat.le_of_ble_eq_true rfl) dX3_worth_22 ⟨Nat.le_refl _, Nat.le_refl _⟩ (fun H locs hP => ?_)
    obtain ⟨σ2, eσ2, h⟩ := k_ltx h
    rw [← eσ2] at hP
    refine lv_aload_n hx hb dX3_worth_25 rfl (lv_at hl 0 rfl) ?_
    refine r_get C hP (ci := 3) rfl uin_X3 1 (by decide) 0 (by decide) rfl qFL_RX3_16 rfl rfl dX3_worth_26 ?_
    refine lv_bipush (v := (-100)) hx hb dX3_worth_29 (by decide) ?_
    refine lv_bipush (v := 100) hx hb dX3_worth_31 (by decide) ?_
    refine lv_bipush (v := 7) hx hb dX3_worth_33 (by decide) ?_
    obtain ⟨x4, σ3, h1, h⟩ := k_ob2 h
    refine k_callSi C hP hap hAA (c_X3_outcome l ev 10 (fun j => ad (j + 2)) (x_thought σ2) (-100) 100 7   _ _ h1) (em_G2) (apart_1 _) gz_X3_outcome qML_RX3_314 qSM_yX3_outcome ⟨(Nat.le_of_ble_eq_true rfl), (Nat.le_of_ble_eq_true rfl)⟩ rfl hl.1 rfl (Nat.le_of_ble_eq_true rfl) dX3_worth_35 ⟨Nat.le_refl _, Nat.le_refl _⟩ (fun H locs hP => ?_)
    obtain ⟨σ5, eσ5, h⟩ := k_ltx h
    rw [← eσ5] at hP
    exact e_iret C hend hP (k_some2 h).1 (congrArg (xw ev ad) (k_some2 h).2) dX3_worth_38
  · have h := k_nf c4 h
    refine lv_aload_n hx hb dX3_worth_7 rfl (lv_at hl 0 rfl) ?_
    refine lv_bipush (v := (-5)) hx hb dX3_worth_8 (by decide) ?_
    obtain ⟨x7, σ6, h1, h⟩ := k_ob2 h
    refine k_callVi C hP hap hAA (c_X3_refuseLead l ev ad σ (-5)   _ _ h1) Emb.same hap gz_X3_refuseLead qML_RX3_258 qIM_yX3_refuseLead qSE_yX3_refuseLead ⟨(Nat.le_of_ble_eq_true rfl), (Nat.le_of_ble_eq_true rfl)⟩ (q0 := 0) rfl (by decide) rfl rfl rfl rfl hl.1 rfl (Nat.le_of_ble_eq_true rfl) dX3_worth_10 ⟨Nat.le_refl _, Nat.le_refl _⟩ (fun H locs hP => ?_)
    exact e_iret C hend hP (k_some2 h).1 (congrArg (xw ev ad) (k_some2 h).2) dX3_worth_13
def f_X3_choice (σ : XX) (a1 : Int32) : Option (Int32 × XX) :=
  if (f_X3_isPlayer σ a1) = true then ob2 (f_X3_thoughtChoice σ a1) (fun x4 σ3 => some (x4, σ3)) else ob2 (f_X3_refuse σ (-2)) (fun x2 σ1 => some (x2, σ1))
set_option maxHeartbeats 4000000 in
set_option maxRecDepth 100000 in
theorem c_X3_choice (l : Launch) (ev : EV) (ad : Nat → Nat) (σ : XX) (a1 : Int32)   (r : Int32) (σ' : XX) (h : f_X3_choice σ a1 = some (r, σ')) : Ct l yX3_choice prog_1_method_44_code 2 (Option.some Jvm.ClassFile.FieldType.int) (rmk 6 136) ev 26 ad (xw ev ad σ) (xw ev ad σ') [.ref (ad 0), .int a1] (some (.int r)) := by
  refine Ct.of (by decide +kernel) (Nat.le_of_ble_eq_true rfl) ?_
  intro p e s m args below meth c Qc C hap hP hend ls hl
  have hAA : ∀ j, j < 26 → inA ad 26 (ad j) := fun j hj => ⟨j, hj, rfl⟩
  have hx := C.1
  have hb := C.2.1
  have hl : lv_has ls 2 [(0, .ref (ad 0)), (1, .int a1)] := hl
  have h := (f_X3_choice.eq_1 _ _ ).symm.trans h
  refine lv_aload_n hx hb dX3_choice_0 rfl (lv_at hl 0 rfl) ?_
  refine lv_iload_n hx hb dX3_choice_1 rfl (lv_at hl 1 rfl) ?_
  refine k_callVi C hP hap hAA (c_X3_isPlayer l ev ad σ a1   _ rfl) Emb.same hap gz_X3_isPlayer qML_RX3_108 qIM_yX3_isPlayer qSE_yX3_isPlayer ⟨(Nat.le_of_ble_eq_true rfl), (Nat.le_of_ble_eq_true rfl)⟩ (q0 := 0) rfl (by decide) rfl rfl rfl rfl hl.1 rfl (Nat.le_of_ble_eq_true rfl) dX3_choice_2 ⟨Nat.le_refl _, Nat.le_refl _⟩ (fun H locs hP => ?_)
  refine r_ifz_eq (tgt := 16) hx hb dX3_choice_5 (by decide) (fun c5 => ?_) (fun c5 => ?_)
  · have h := k_nf c5 h
    refine lv_aload_n hx hb dX3_choice_16 rfl (lv_at hl 0 rfl) ?_
    refine lv_bipush (v := (-2)) hx hb dX3_choice_17 (by decide) ?_
    obtain ⟨x2, σ1, h1, h⟩ := k_ob2 h
    refine k_callVi C hP hap hAA (c_X3_refuse l ev ad σ (-2)   _ _ h1) Emb.same hap gz_X3_refuse qML_RX3_60 qIM_yX3_refuse qSE_yX3_refuse ⟨(Nat.le_of_ble_eq_true rfl), (Nat.le_of_ble_eq_true rfl)⟩ (q0 := 0) rfl (by decide) rfl rfl rfl rfl hl.1 rfl (Nat.le_of_ble_eq_true rfl) dX3_choice_19 ⟨Nat.le_refl _, Nat.le_refl _⟩ (fun H locs hP => ?_)
    exact e_iret C hend hP (k_some2 h).1 (congrArg (xw ev ad) (k_some2 h).2) dX3_choice_22
  · have h := k_if c5 h
    refine lv_aload_n hx hb dX3_choice_8 rfl (lv_at hl 0 rfl) ?_
    refine lv_iload_n hx hb dX3_choice_9 rfl (lv_at hl 1 rfl) ?_
    obtain ⟨x4, σ3, h1, h⟩ := k_ob2 h
    refine k_callVi C hP hap hAA (c_X3_thoughtChoice l ev ad σ a1   _ _ h1) Emb.same hap gz_X3_thoughtChoice qML_RX3_137 qIM_yX3_thoughtChoice qSE_yX3_thoughtChoice ⟨(Nat.le_of_ble_eq_true rfl), (Nat.le_of_ble_eq_true rfl)⟩ (q0 := 0) rfl (by decide) rfl rfl rfl rfl hl.1 rfl (Nat.le_of_ble_eq_true rfl) dX3_choice_10 ⟨Nat.le_refl _, Nat.le_refl _⟩ (fun H locs hP => ?_)
    refine lv_goto (tgt := 22) hx hb dX3_choice_13 (by decide) ?_
    exact e_iret C hend hP (k_some2 h).1 (congrArg (xw ev ad) (k_some2 h).2) dX3_choice_22
def f_X3_playOut_b50 (rec16 : Int32 → Int32 → XX → Option (Int32 × XX)) (x6 : Int32) (x7 : Int32) (x8 : Int32) (σ9 : XX) : Option (Int32 × XX) :=
  ob2 (f_X3_chosenSlot_thought σ9 x8) (fun x11 σ10 => if x11 = (-1) then some (x6, σ10) else if x7 = 0 then ob (f_X0_make (x_thought σ10) x11) (fun σ15 => lt (x_thought' σ10 σ15) (fun σ16 => lt (x7 + 1) (fun x17 => rec16 x11 x17 σ16))) else ob (f_X0_make (x_thought σ10) x11) (fun σ12 => lt (x_thought' σ10 σ12) (fun σ13 => lt (x7 + 1) (fun x14 => rec16 x6 x14 σ13))))
def f_X3_playOut_L16_b (a1 : Int32) (a2 : Int32)  (rec16 : Int32 → Int32 → XX → Option (Int32 × XX)) (x3 : Int32) (x4 : Int32) (σ5 : XX) : Option (Int32 × XX) :=
  if 56 ≤ x4 then some (x3, σ5) else if (g_turn (x_thought σ5)) = (g_turn (x_now σ5)) then f_X3_playOut_b50 rec16 x3 x4 a1 σ5 else f_X3_playOut_b50 rec16 x3 x4 a2 σ5
def f_X3_playOut_L16 (a1 : Int32) (a2 : Int32)  (x3 : Int32) (x4 : Int32) (σ5 : XX) : Option (Int32 × XX) :=
  lp (fun _ _ _ => none) (f_X3_playOut_L16_b a1 a2 ) FU x3 x4 σ5
def f_X3_playOut (σ : XX) (a1 : Int32) (a2 : Int32) : Option (Int32 × XX) :=
  ob (f_X0_become (x_thought σ) (x_now σ)) (fun σ1 => lt (x_thought' σ σ1) (fun σ2 => f_X3_playOut_L16 a1 a2 (-1) 0 σ2))
set_option maxHeartbeats 4000000 in
set_option maxRecDepth 100000 in
theorem c_X3_playOut (l : Launch) (ev : EV) (ad : Nat → Nat) (σ : XX) (a1 : Int32) (a2 : Int32)   (r : Int32) (σ' : XX) (h : f_X3_playOut σ a1 a2 = some (r, σ')) : Ct l yX3_playOut prog_1_method_83_code 6 (Option.some Jvm.ClassFile.FieldType.int) (rmk 5 115) ev 26 ad (xw ev ad σ) (xw ev ad σ') [.ref (ad 0), .int a1, .int a2] (some (.int r)) := by
  refine Ct.of (by decide +kernel) (Nat.le_of_ble_eq_true rfl) ?_
  intro p e s m args below meth c Qc C hap hP hend ls hl
  have hAA : ∀ j, j < 26 → inA ad 26 (ad j) := fun j hj => ⟨j, hj, rfl⟩
  have hx := C.1
  have hb := C.2.1
  have hl : lv_has ls 6 [(0, .ref (ad 0)), (1, .int a1), (2, .int a2)] := hl
  have h := (f_X3_playOut.eq_1 _ _ _ ).symm.trans h
  refine lv_aload_n hx hb dX3_playOut_0 rfl (lv_at hl 0 rfl) ?_
  refine r_get C hP (ci := 3) rfl uin_X3 1 (by decide) 0 (by decide) rfl qFL_RX3_16 rfl rfl dX3_playOut_1 ?_
  refine lv_aload_n hx hb dX3_playOut_4 rfl (lv_at hl 0 rfl) ?_
  refine r_get C hP (ci := 3) rfl uin_X3 0 (by decide) 0 (by decide) rfl qFL_RX3_10 rfl rfl dX3_playOut_5 ?_
  obtain ⟨σ1, h1, h⟩ := k_ob h
  refine k_callVv C hP hap hAA (c_X0_become l ev (fun j => if j = 0 then ad 2 else ad 1) (x_thought σ) (x_now σ)   _ h1) (em_GG21) (apart_GG hap (by decide) (by decide) (by decide)) gz_X0_become qML_RX3_165 qIM_yX0_become qSE_yX0_become ⟨(Nat.le_of_ble_eq_true rfl), (Nat.le_of_ble_eq_true rfl)⟩ (q0 := 2) rfl (by decide) rfl rfl rfl rfl hl.1 rfl (Nat.le_of_ble_eq_true rfl) dX3_playOut_8 ⟨Nat.le_refl _, Nat.le_refl _⟩ (fun H locs hP => ?_)
  obtain ⟨σ2, eσ2, h⟩ := k_ltx h
  rw [← eσ2] at hP
  refine lv_iconst (v := (-1)) hx hb dX3_playOut_11 (by decide) ?_
  refine lv_istore_n (lv' := [(3, .int (-1)), (0, .ref (ad 0)), (1, .int a1), (2, .int a2)]) hx hb dX3_playOut_12 rfl hl (by decide) rfl (fun ls hl => ?_)
  refine lv_iconst (v := 0) hx hb dX3_playOut_13 (by decide) ?_
  refine lv_istore (lv' := [(4, .int 0), (3, .int (-1)), (0, .ref (ad 0)), (1, .int a1), (2, .int a2)]) hx hb dX3_playOut_14 hl (by decide) rfl (fun ls hl => ?_)
  have hL16 : ∀ (n : Nat) (x3 : Int32) (x4 : Int32) (σ5 : XX) (H : Heap) (locs : List Loc) (ls : Array Slot), lp (fun _ _ _ => none) (f_X3_playOut_L16_b a1 a2 ) n x3 x4 σ5 = some (r, σ') → PS ev 26 ad (xw ev ad σ5) (inA ad 26) s H locs → lv_has ls 6 [(0, .ref (ad 0)), (1, .int a1), (2, .int a2), (3, .int x3), (4, .int x4)] → WW ev p l e (rmk 5 115) s m args below meth c Qc ad 26 H locs 16 ls [] := by
    intro n
    induction n with
    | zero =>
      intro x3 x4 σ5 H locs ls h; exact k_none h
    | succ n ih =>
      intro x3 x4 σ5 H locs ls h hP hl
      have h : f_X3_playOut_L16_b a1 a2  (lp (fun _ _ _ => none) (f_X3_playOut_L16_b a1 a2 ) n) x3 x4 σ5 = some (r, σ') := h
      have h := (f_X3_playOut_L16_b.eq_1 _ _ _ _ _ _ ).symm.trans h
      have hB50 : ∀ (x6 : Int32) (x7 : Int32) (x8 : Int32) (σ9 : XX) (H : Heap) (locs : List Loc) (ls : Array Slot), f_X3_playOut_b50 (lp (fun _ _ _ => none) (f_X3_playOut_L16_b a1 a2 ) n) x6 x7 x8 σ9 = some (r, σ') → PS ev 26 ad (xw ev ad σ9) (inA ad 26) s H locs → lv_has ls 6 [(0, .ref (ad 0)), (1, .int a1), (2, .int a2), (3, .int x6), (4, .int x7)] → WW ev p l e (rmk 5 115) s m args below meth c Qc ad 26 H locs 50 ls [.int x8, .ref (ad 2), .ref (ad 0)] := by
        intro x6 x7 x8 σ9 H locs ls h hP hl
        have h := (f_X3_playOut_b50.eq_1 _ _ _ _ _ ).symm.trans h
        obtain ⟨x11, σ10, h1, h⟩ := k_ob2 h
        refine k_callVi C hP hap hAA (c_X3_chosenSlot_thought l ev ad σ9 x8   _ _ h1) Emb.same hap gz_X3_chosenSlot qML_RX3_344 qIM_yX3_chosenSlot qSE_yX3_chosenSlot ⟨(Nat.le_of_ble_eq_true rfl), (Nat.le_of_ble_eq_true rfl)⟩ (q0 := 0) rfl (by decide) rfl rfl rfl rfl hl.1 rfl (Nat.le_of_ble_eq_true rfl) dX3_playOut_50 ⟨Nat.le_refl _, Nat.le_refl _⟩ (fun H locs hP => ?_)
        refine lv_istore (lv' := [(5, .int x11), (0, .ref (ad 0)), (1, .int a1), (2, .int a2), (3, .int x6), (4, .int x7)]) hx hb dX3_playOut_53 hl (by decide) rfl (fun ls hl => ?_)
        refine lv_iload hx hb dX3_playOut_55 (lv_at hl 0 rfl) ?_
        refine lv_iconst (v := (-1)) hx hb dX3_playOut_57 (by decide) ?_
        refine lv_icmp_ne (tgt := 64) hx hb dX3_playOut_58 (by decide) (fun c58 => ?_) (fun c58 => ?_)
        · have h := k_nf c58 h
          refine lv_iload hx hb dX3_playOut_64 (lv_at hl 5 rfl) ?_
          refine lv_if_ne (tgt := 72) hx hb dX3_playOut_66 (by decide) (fun c66 => ?_) (fun c66 => ?_)
          · have h := k_nf c66 h
            refine lv_aload_n hx hb dX3_playOut_72 rfl (lv_at hl 1 rfl) ?_
            refine r_get C hP (ci := 3) rfl uin_X3 1 (by decide) 0 (by decide) rfl qFL_RX3_16 rfl rfl dX3_playOut_73 ?_
            refine lv_iload hx hb dX3_playOut_76 (lv_at hl 0 rfl) ?_
            obtain ⟨σ12, h1, h⟩ := k_ob h
            refine k_callVv C hP hap hAA (c_X0_make l ev (fun j => ad (j + 2)) (x_thought σ10) x11   _ h1) (em_G2) (apart_1 _) gz_X0_make qML_RX3_311 qIM_yX0_make qSE_yX0_make ⟨(Nat.le_of_ble_eq_true rfl), (Nat.le_of_ble_eq_true rfl)⟩ (q0 := 2) rfl (by decide) rfl rfl rfl rfl hl.1 rfl (Nat.le_of_ble_eq_true rfl) dX3_playOut_78 ⟨Nat.le_refl _, Nat.le_refl _⟩ (fun H locs hP => ?_)
            obtain ⟨σ13, eσ13, h⟩ := k_ltx h
            rw [← eσ13] at hP
            obtain ⟨x14, ex14, h⟩ := k_ltx h
            refine lv_iinc (v := x14) (lv' := [(4, .int x14), (5, .int x11), (0, .ref (ad 0)), (1, .int a1), (2, .int a2), (3, .int x6)]) hx hb dX3_playOut_81 hl (k := 5) rfl (by rw [ex14]; rfl) (by decide) rfl (fun ls hl => ?_)
            refine lv_goto (tgt := 16) hx hb dX3_playOut_84 (by decide) ?_
            exact ih _ _ _ _ _ _ h hP (lv_sub hl [2, 3, 4, 5, 0] rfl)
          · have h := k_if c66 h
            refine lv_iload hx hb dX3_playOut_69 (lv_at hl 0 rfl) ?_
            refine lv_istore_n (lv' := [(3, .int x11), (5, .int x11), (0, .ref (ad 0)), (1, .int a1), (2, .int a2), (4, .int x7)]) hx hb dX3_playOut_71 rfl hl (by decide) rfl (fun ls hl => ?_)
            refine lv_aload_n hx hb dX3_playOut_72 rfl (lv_at hl 2 rfl) ?_
            refine r_get C hP (ci := 3) rfl uin_X3 1 (by decide) 0 (by decide) rfl qFL_RX3_16 rfl rfl dX3_playOut_73 ?_
            refine lv_iload hx hb dX3_playOut_76 (lv_at hl 1 rfl) ?_
            obtain ⟨σ15, h1, h⟩ := k_ob h
            refine k_callVv C hP hap hAA (c_X0_make l ev (fun j => ad (j + 2)) (x_thought σ10) x11   _ h1) (em_G2) (apart_1 _) gz_X0_make qML_RX3_311 qIM_yX0_make qSE_yX0_make ⟨(Nat.le_of_ble_eq_true rfl), (Nat.le_of_ble_eq_true rfl)⟩ (q0 := 2) rfl (by decide) rfl rfl rfl rfl hl.1 rfl (Nat.le_of_ble_eq_true rfl) dX3_playOut_78 ⟨Nat.le_refl _, Nat.le_refl _⟩ (fun H locs hP => ?_)
            obtain ⟨σ16, eσ16, h⟩ := k_ltx h
            rw [← eσ16] at hP
            obtain ⟨x17, ex17, h⟩ := k_ltx h
            refine lv_iinc (v := x17) (lv' := [(4, .int x17), (3, .int x11), (5, .int x11), (0, .ref (ad 0)), (1, .int a1), (2, .int a2)]) hx hb dX3_playOut_81 hl (k := 5) rfl (by rw [ex17]; rfl) (by decide) rfl (fun ls hl => ?_)
            refine lv_goto (tgt := 16) hx hb dX3_playOut_84 (by decide) ?_
            exact ih _ _ _ _ _ _ h hP (lv_sub hl [3, 4, 5, 1, 0] rfl)
        · have h := k_if c58 h
          refine lv_goto (tgt := 87) hx hb dX3_playOut_61 (by decide) ?_
          refine lv_iload_n hx hb dX3_playOut_87 rfl (lv_at hl 4 rfl) ?_
          exact e_iret C hend hP (k_some2 h).1 (congrArg (xw ev ad) (k_some2 h).2) dX3_playOut_88
      refine lv_iload hx hb dX3_playOut_16 (lv_at hl 4 rfl) ?_
      refine lv_bipush (v := 56) hx hb dX3_playOut_18 (by decide) ?_
      refine lv_icmp_ge (tgt := 87) hx hb dX3_playOut_20 (by decide) (fun c20 => ?_) (fun c20 => ?_)
      · have h := k_if c20 h
        refine lv_iload_n hx hb dX3_playOut_87 rfl (lv_at hl 3 rfl) ?_
        exact e_iret C hend hP (k_some2 h).1 (congrArg (xw ev ad) (k_some2 h).2) dX3_playOut_88
      · have h := k_nf c20 h
        refine lv_aload_n hx hb dX3_playOut_23 rfl (lv_at hl 0 rfl) ?_
        refine lv_aload_n hx hb dX3_playOut_24 rfl (lv_at hl 0 rfl) ?_
        refine r_get C hP (ci := 3) rfl uin_X3 1 (by decide) 0 (by decide) rfl qFL_RX3_16 rfl rfl dX3_playOut_25 ?_
        refine lv_aload_n hx hb dX3_playOut_28 rfl (lv_at hl 0 rfl) ?_
        refine r_get C hP (ci := 3) rfl uin_X3 1 (by decide) 0 (by decide) rfl qFL_RX3_16 rfl rfl dX3_playOut_29 ?_
        refine r_get C hP (ci := 0) rfl uin_X0 13 (by decide) 2 (by decide) rfl qFL_RX3_156 rfl rfl dX3_playOut_32 ?_
        refine lv_aload_n hx hb dX3_playOut_35 rfl (lv_at hl 0 rfl) ?_
        refine r_get C hP (ci := 3) rfl uin_X3 0 (by decide) 0 (by decide) rfl qFL_RX3_10 rfl rfl dX3_playOut_36 ?_
        refine r_get C hP (ci := 0) rfl uin_X0 13 (by decide) 1 (by decide) rfl qFL_RX3_156 rfl rfl dX3_playOut_39 ?_
        refine lv_icmp_ne (tgt := 49) hx hb dX3_playOut_42 (by decide) (fun c42 => ?_) (fun c42 => ?_)
        · have h := k_nf c42 h
          refine lv_iload_n hx hb dX3_playOut_49 rfl (lv_at hl 2 rfl) ?_
          exact hB50 _ _ _ _ _ _ _ h hP (lv_sub hl [0, 1, 2, 3, 4] rfl)
        · have h := k_if c42 h
          refine lv_iload_n hx hb dX3_playOut_45 rfl (lv_at hl 1 rfl) ?_
          refine lv_goto (tgt := 50) hx hb dX3_playOut_46 (by decide) ?_
          exact hB50 _ _ _ _ _ _ _ h hP (lv_sub hl [0, 1, 2, 3, 4] rfl)
  exact hL16 FU _ _ _ _ _ _ h hP (lv_sub hl [2, 3, 4, 1, 0] rfl)
def f_X3_played (σ : XX) (a1 : Int32) (a2 : Int32) (a3 : Int32) : Option (Int32 × XX) :=
  if (f_X3_isPlayer σ a1) = true then if (f_X3_isPlayer σ a2) = true then if a3 < 0 then ob2 (f_X3_refuseLead σ (-2)) (fun x6 σ5 => some (x6, σ5)) else if a3 ≤ 2 then ob2 (f_X3_playOut σ a1 a2) (fun x8 σ7 => if a3 = 0 then some (((g_made (x_thought σ7)) - (g_made (x_now σ7))), σ7) else if a3 = 1 then ob (f_X0_leadOf (x_thought σ7) 0) (fun x9 => some (x9, σ7)) else some ((f_X3_moveOf x8), σ7)) else ob2 (f_X3_refuseLead σ (-2)) (fun x11 σ10 => some (x11, σ10)) else ob2 (f_X3_refuseLead σ (-2)) (fun x4 σ3 => some (x4, σ3)) else ob2 (f_X3_refuseLead σ (-2)) (fun x2 σ1 => some (x2, σ1))
set_option maxHeartbeats 4000000 in
set_option maxRecDepth 100000 in
theorem c_X3_played (l : Launch) (ev : EV) (ad : Nat → Nat) (σ : XX) (a1 : Int32) (a2 : Int32) (a3 : Int32)   (r : Int32) (σ' : XX) (h : f_X3_played σ a1 a2 a3 = some (r, σ')) : Ct l yX3_played prog_1_method_45_code 5 (Option.some Jvm.ClassFile.FieldType.int) (rmk 6 145) ev 26 ad (xw ev ad σ) (xw ev ad σ') [.ref (ad 0), .int a1, .int a2, .int a3] (some (.int r)) := by
  refine Ct.of (by decide +kernel) (Nat.le_of_ble_eq_true rfl) ?_
  intro p e s m args below meth c Qc C hap hP hend ls hl
  have hAA : ∀ j, j < 26 → inA ad 26 (ad j) := fun j hj => ⟨j, hj, rfl⟩
  have hx := C.1
  have hb := C.2.1
  have hl : lv_has ls 5 [(0, .ref (ad 0)), (1, .int a1), (2, .int a2), (3, .int a3)] := hl
  have h := (f_X3_played.eq_1 _ _ _ _ ).symm.trans h
  refine lv_aload_n hx hb dX3_played_0 rfl (lv_at hl 0 rfl) ?_
  refine lv_iload_n hx hb dX3_played_1 rfl (lv_at hl 1 rfl) ?_
  refine k_callVi C hP hap hAA (c_X3_isPlayer l ev ad σ a1   _ rfl) Emb.same hap gz_X3_isPlayer qML_RX3_108 qIM_yX3_isPlayer qSE_yX3_isPlayer ⟨(Nat.le_of_ble_eq_true rfl), (Nat.le_of_ble_eq_true rfl)⟩ (q0 := 0) rfl (by decide) rfl rfl rfl rfl hl.1 rfl (Nat.le_of_ble_eq_true rfl) dX3_played_2 ⟨Nat.le_refl _, Nat.le_refl _⟩ (fun H locs hP => ?_)
  refine r_ifz_eq (tgt := 25) hx hb dX3_played_5 (by decide) (fun c5 => ?_) (fun c5 => ?_)
  · have h := k_nf c5 h
    refine lv_aload_n hx hb dX3_played_25 rfl (lv_at hl 0 rfl) ?_
    refine lv_bipush (v := (-2)) hx hb dX3_played_26 (by decide) ?_
    obtain ⟨x2, σ1, h1, h⟩ := k_ob2 h
    refine k_callVi C hP hap hAA (c_X3_refuseLead l ev ad σ (-2)   _ _ h1) Emb.same hap gz_X3_refuseLead qML_RX3_258 qIM_yX3_refuseLead qSE_yX3_refuseLead ⟨(Nat.le_of_ble_eq_true rfl), (Nat.le_of_ble_eq_true rfl)⟩ (q0 := 0) rfl (by decide) rfl rfl rfl rfl hl.1 rfl (Nat.le_of_ble_eq_true rfl) dX3_played_28 ⟨Nat.le_refl _, Nat.le_refl _⟩ (fun H locs hP => ?_)
    exact e_iret C hend hP (k_some2 h).1 (congrArg (xw ev ad) (k_some2 h).2) dX3_played_31
  · have h := k_if c5 h
    refine lv_aload_n hx hb dX3_played_8 rfl (lv_at hl 0 rfl) ?_
    refine lv_iload_n hx hb dX3_played_9 rfl (lv_at hl 2 rfl) ?_
    refine k_callVi C hP hap hAA (c_X3_isPlayer l ev ad σ a2   _ rfl) Emb.same hap gz_X3_isPlayer qML_RX3_108 qIM_yX3_isPlayer qSE_yX3_isPlayer ⟨(Nat.le_of_ble_eq_true rfl), (Nat.le_of_ble_eq_true rfl)⟩ (q0 := 0) rfl (by decide) rfl rfl rfl rfl hl.1 rfl (Nat.le_of_ble_eq_true rfl) dX3_played_10 ⟨Nat.le_refl _, Nat.le_refl _⟩ (fun H locs hP => ?_)
    refine r_ifz_eq (tgt := 25) hx hb dX3_played_13 (by decide) (fun c13 => ?_) (fun c13 => ?_)
    · have h := k_nf c13 h
      refine lv_aload_n hx hb dX3_played_25 rfl (lv_at hl 0 rfl) ?_
      refine lv_bipush (v := (-2)) hx hb dX3_played_26 (by decide) ?_
      obtain ⟨x4, σ3, h1, h⟩ := k_ob2 h
      refine k_callVi C hP hap hAA (c_X3_refuseLead l ev ad σ (-2)   _ _ h1) Emb.same hap gz_X3_refuseLead qML_RX3_258 qIM_yX3_refuseLead qSE_yX3_refuseLead ⟨(Nat.le_of_ble_eq_true rfl), (Nat.le_of_ble_eq_true rfl)⟩ (q0 := 0) rfl (by decide) rfl rfl rfl rfl hl.1 rfl (Nat.le_of_ble_eq_true rfl) dX3_played_28 ⟨Nat.le_refl _, Nat.le_refl _⟩ (fun H locs hP => ?_)
      exact e_iret C hend hP (k_some2 h).1 (congrArg (xw ev ad) (k_some2 h).2) dX3_played_31
    · have h := k_if c13 h
      refine lv_iload_n hx hb dX3_played_16 rfl (lv_at hl 3 rfl) ?_
      refine lv_if_lt (tgt := 25) hx hb dX3_played_17 (by decide) (fun c17 => ?_) (fun c17 => ?_)
      · have h := k_if c17 h
        refine lv_aload_n hx hb dX3_played_25 rfl (lv_at hl 0 rfl) ?_
        refine lv_bipush (v := (-2)) hx hb dX3_played_26 (by decide) ?_
        obtain ⟨x6, σ5, h1, h⟩ := k_ob2 h
        refine k_callVi C hP hap hAA (c_X3_refuseLead l ev ad σ (-2)   _ _ h1) Emb.same hap gz_X3_refuseLead qML_RX3_258 qIM_yX3_refuseLead qSE_yX3_refuseLead ⟨(Nat.le_of_ble_eq_true rfl), (Nat.le_of_ble_eq_true rfl)⟩ (q0 := 0) rfl (by decide) rfl rfl rfl rfl hl.1 rfl (Nat.le_of_ble_eq_true rfl) dX3_played_28 ⟨Nat.le_refl _, Nat.le_refl _⟩ (fun H locs hP => ?_)
        exact e_iret C hend hP (k_some2 h).1 (congrArg (xw ev ad) (k_some2 h).2) dX3_played_31
      · have h := k_nf c17 h
        refine lv_iload_n hx hb dX3_played_20 rfl (lv_at hl 3 rfl) ?_
        refine lv_iconst (v := 2) hx hb dX3_played_21 (by decide) ?_
        refine lv_icmp_le (tgt := 32) hx hb dX3_played_22 (by decide) (fun c22 => ?_) (fun c22 => ?_)
        · have h := k_if c22 h
          refine lv_aload_n hx hb dX3_played_32 rfl (lv_at hl 0 rfl) ?_
          refine lv_iload_n hx hb dX3_played_33 rfl (lv_at hl 1 rfl) ?_
          refine lv_iload_n hx hb dX3_played_34 rfl (lv_at hl 2 rfl) ?_
          obtain ⟨x8, σ7, h1, h⟩ := k_ob2 h
          refine k_callVi C hP hap hAA (c_X3_playOut l ev ad σ a1 a2   _ _ h1) Emb.same hap gz_X3_playOut qML_RX3_321 qIM_yX3_playOut qSE_yX3_playOut ⟨(Nat.le_of_ble_eq_true rfl), (Nat.le_of_ble_eq_true rfl)⟩ (q0 := 0) rfl (by decide) rfl rfl rfl rfl hl.1 rfl (Nat.le_of_ble_eq_true rfl) dX3_played_35 ⟨Nat.le_refl _, Nat.le_refl _⟩ (fun H locs hP => ?_)
          refine lv_istore (lv' := [(4, .int x8), (0, .ref (ad 0)), (1, .int a1), (2, .int a2), (3, .int a3)]) hx hb dX3_played_38 hl (by decide) rfl (fun ls hl => ?_)
          refine lv_iload_n hx hb dX3_played_40 rfl (lv_at hl 4 rfl) ?_
          refine lv_if_ne (tgt := 60) hx hb dX3_played_41 (by decide) (fun c41 => ?_) (fun c41 => ?_)
          · have h := k_nf c41 h
            refine lv_iload_n hx hb dX3_played_60 rfl (lv_at hl 4 rfl) ?_
            refine lv_iconst (v := 1) hx hb dX3_played_61 (by decide) ?_
            refine lv_icmp_ne (tgt := 76) hx hb dX3_played_62 (by decide) (fun c62 => ?_) (fun c62 => ?_)
            · have h := k_nf c62 h
              refine lv_iload hx hb dX3_played_76 (lv_at hl 0 rfl) ?_
              refine k_callSi C hP hap hAA (c_X3_moveOf l ev ad x8   _ rfl) Emb.none (apart_0 _) gz_X3_moveOf qML_RX3_249 qSM_yX3_moveOf ⟨(Nat.le_of_ble_eq_true rfl), (Nat.le_of_ble_eq_true rfl)⟩ rfl hl.1 rfl (Nat.le_of_ble_eq_true rfl) dX3_played_78 ⟨Nat.le_refl _, Nat.le_refl _⟩ (fun H locs hP => ?_)
              exact e_iret C hend hP (k_some2 h).1 (congrArg (xw ev ad) (k_some2 h).2) dX3_played_81
            · have h := k_if c62 h
              refine lv_aload_n hx hb dX3_played_65 rfl (lv_at hl 1 rfl) ?_
              refine r_get C hP (ci := 3) rfl uin_X3 1 (by decide) 0 (by decide) rfl qFL_RX3_16 rfl rfl dX3_played_66 ?_
              refine lv_iconst (v := 0) hx hb dX3_played_69 (by decide) ?_
              obtain ⟨x9, h1, h⟩ := k_ob h
              refine k_callVi C hP hap hAA (c_X0_leadOf l ev (fun j => ad (j + 2)) (x_thought σ7) 0   _ h1) (em_G2r) (apart_1 _) gz_X0_leadOf qML_RX3_255 qIM_yX0_leadOf qSE_yX0_leadOf ⟨(Nat.le_of_ble_eq_true rfl), (Nat.le_of_ble_eq_true rfl)⟩ (q0 := 2) rfl (by decide) rfl rfl rfl rfl hl.1 rfl (Nat.le_of_ble_eq_true rfl) dX3_played_70 ⟨Nat.le_refl _, Nat.le_refl _⟩ (fun H locs hP => ?_)
              refine lv_goto (tgt := 81) hx hb dX3_played_73 (by decide) ?_
              exact e_iret C hend hP (k_some2 h).1 (congrArg (xw ev ad) (k_some2 h).2) dX3_played_81
          · have h := k_if c41 h
            refine lv_aload_n hx hb dX3_played_44 rfl (lv_at hl 1 rfl) ?_
            refine r_get C hP (ci := 3) rfl uin_X3 1 (by decide) 0 (by decide) rfl qFL_RX3_16 rfl rfl dX3_played_45 ?_
            refine r_get C hP (ci := 0) rfl uin_X0 14 (by decide) 2 (by decide) rfl qFL_RX3_325 rfl rfl dX3_played_48 ?_
            refine lv_aload_n hx hb dX3_played_51 rfl (lv_at hl 1 rfl) ?_
            refine r_get C hP (ci := 3) rfl uin_X3 0 (by decide) 0 (by decide) rfl qFL_RX3_10 rfl rfl dX3_played_52 ?_
            refine r_get C hP (ci := 0) rfl uin_X0 14 (by decide) 1 (by decide) rfl qFL_RX3_325 rfl rfl dX3_played_55 ?_
            refine lv_isub hx hb dX3_played_58 ?_
            exact e_iret C hend hP (k_some2 h).1 (congrArg (xw ev ad) (k_some2 h).2) dX3_played_59
        · have h := k_nf c22 h
          refine lv_aload_n hx hb dX3_played_25 rfl (lv_at hl 0 rfl) ?_
          refine lv_bipush (v := (-2)) hx hb dX3_played_26 (by decide) ?_
          obtain ⟨x11, σ10, h1, h⟩ := k_ob2 h
          refine k_callVi C hP hap hAA (c_X3_refuseLead l ev ad σ (-2)   _ _ h1) Emb.same hap gz_X3_refuseLead qML_RX3_258 qIM_yX3_refuseLead qSE_yX3_refuseLead ⟨(Nat.le_of_ble_eq_true rfl), (Nat.le_of_ble_eq_true rfl)⟩ (q0 := 0) rfl (by decide) rfl rfl rfl rfl hl.1 rfl (Nat.le_of_ble_eq_true rfl) dX3_played_28 ⟨Nat.le_refl _, Nat.le_refl _⟩ (fun H locs hP => ?_)
          exact e_iret C hend hP (k_some2 h).1 (congrArg (xw ev ad) (k_some2 h).2) dX3_played_31
def f_X3_winnings_L4_b (a1 : Int32)  (rec4 : Int32 → Int32 → XX → Option (Int32 × XX)) (x1 : Int32) (x2 : Int32) (σ3 : XX) : Option (Int32 × XX) :=
  if (x_crew σ3) ≤ x2 then some (x1, σ3) else if x2 = a1 then lt (x2 + 1) (fun x4 => rec4 x1 x4 σ3) else ob2 (f_X3_playOut σ3 a1 x2) (fun x6 σ5 => ob (f_X0_leadOf (x_thought σ5) (g_turn (x_now σ5))) (fun x7 => lt (x1 + x7) (fun x8 => ob2 (f_X3_playOut σ5 x2 a1) (fun x10 σ9 => ob (f_X0_leadOf (x_thought σ9) (1 - (g_turn (x_now σ9)))) (fun x11 => lt (x8 + x11) (fun x12 => lt (x2 + 1) (fun x13 => rec4 x12 x13 σ9)))))))
def f_X3_winnings_L4 (a1 : Int32)  (x1 : Int32) (x2 : Int32) (σ3 : XX) : Option (Int32 × XX) :=
  lp (fun _ _ _ => none) (f_X3_winnings_L4_b a1 ) FU x1 x2 σ3
def f_X3_winnings (σ : XX) (a1 : Int32) : Option (Int32 × XX) :=
  f_X3_winnings_L4 a1 0 0 σ
set_option maxHeartbeats 4000000 in
set_option maxRecDepth 100000 in
theorem c_X3_winnings (l : Launch) (ev : EV) (ad : Nat → Nat) (σ : XX) (a1 : Int32)   (r : Int32) (σ' : XX) (h : f_X3_winnings σ a1 = some (r, σ')) : Ct l yX3_winnings prog_1_method_84_code 4 (Option.some Jvm.ClassFile.FieldType.int) (rmk 6 145) ev 26 ad (xw ev ad σ) (xw ev ad σ') [.ref (ad 0), .int a1] (some (.int r)) := by
  refine Ct.of (by decide +kernel) (Nat.le_of_ble_eq_true rfl) ?_
  intro p e s m args below meth c Qc C hap hP hend ls hl
  have hAA : ∀ j, j < 26 → inA ad 26 (ad j) := fun j hj => ⟨j, hj, rfl⟩
  have hx := C.1
  have hb := C.2.1
  have hl : lv_has ls 4 [(0, .ref (ad 0)), (1, .int a1)] := hl
  have h := (f_X3_winnings.eq_1 _ _ ).symm.trans h
  refine lv_iconst (v := 0) hx hb dX3_winnings_0 (by decide) ?_
  refine lv_istore_n (lv' := [(2, .int 0), (0, .ref (ad 0)), (1, .int a1)]) hx hb dX3_winnings_1 rfl hl (by decide) rfl (fun ls hl => ?_)
  refine lv_iconst (v := 0) hx hb dX3_winnings_2 (by decide) ?_
  refine lv_istore_n (lv' := [(3, .int 0), (2, .int 0), (0, .ref (ad 0)), (1, .int a1)]) hx hb dX3_winnings_3 rfl hl (by decide) rfl (fun ls hl => ?_)
  have hL4 : ∀ (n : Nat) (x1 : Int32) (x2 : Int32) (σ3 : XX) (H : Heap) (locs : List Loc) (ls : Array Slot), lp (fun _ _ _ => none) (f_X3_winnings_L4_b a1 ) n x1 x2 σ3 = some (r, σ') → PS ev 26 ad (xw ev ad σ3) (inA ad 26) s H locs → lv_has ls 4 [(0, .ref (ad 0)), (1, .int a1), (2, .int x1), (3, .int x2)] → WW ev p l e (rmk 6 145) s m args below meth c Qc ad 26 H locs 4 ls [] := by
    intro n
    induction n with
    | zero =>
      intro x1 x2 σ3 H locs ls h; exact k_none h
    | succ n ih =>
      intro x1 x2 σ3 H locs ls h hP hl
      have h : f_X3_winnings_L4_b a1  (lp (fun _ _ _ => none) (f_X3_winnings_L4_b a1 ) n) x1 x2 σ3 = some (r, σ') := h
      have h := (f_X3_winnings_L4_b.eq_1 _ _ _ _ _ ).symm.trans h
      refine lv_iload_n hx hb dX3_winnings_4 rfl (lv_at hl 3 rfl) ?_
      refine lv_aload_n hx hb dX3_winnings_5 rfl (lv_at hl 0 rfl) ?_
      refine r_get C hP (ci := 3) rfl uin_X3 6 (by decide) 0 (by decide) rfl qFL_RX3_33 rfl rfl dX3_winnings_6 ?_
      refine lv_icmp_ge (tgt := 73) hx hb dX3_winnings_9 (by decide) (fun c9 => ?_) (fun c9 => ?_)
      · have h := k_if c9 h
        refine lv_iload_n hx hb dX3_winnings_73 rfl (lv_at hl 2 rfl) ?_
        exact e_iret C hend hP (k_some2 h).1 (congrArg (xw ev ad) (k_some2 h).2) dX3_winnings_74
      · have h := k_nf c9 h
        refine lv_iload_n hx hb dX3_winnings_12 rfl (lv_at hl 3 rfl) ?_
        refine lv_iload_n hx hb dX3_winnings_13 rfl (lv_at hl 1 rfl) ?_
        refine lv_icmp_eq (tgt := 67) hx hb dX3_winnings_14 (by decide) (fun c14 => ?_) (fun c14 => ?_)
        · have h := k_if c14 h
          obtain ⟨x4, ex4, h⟩ := k_ltx h
          refine lv_iinc (v := x4) (lv' := [(3, .int x4), (0, .ref (ad 0)), (1, .int a1), (2, .int x1)]) hx hb dX3_winnings_67 hl (k := 3) rfl (by rw [ex4]; rfl) (by decide) rfl (fun ls hl => ?_)
          refine lv_goto (tgt := 4) hx hb dX3_winnings_70 (by decide) ?_
          exact ih _ _ _ _ _ _ h hP (lv_sub hl [1, 2, 3, 0] rfl)
        · have h := k_nf c14 h
          refine lv_aload_n hx hb dX3_winnings_17 rfl (lv_at hl 0 rfl) ?_
          refine lv_iload_n hx hb dX3_winnings_18 rfl (lv_at hl 1 rfl) ?_
          refine lv_iload_n hx hb dX3_winnings_19 rfl (lv_at hl 3 rfl) ?_
          obtain ⟨x6, σ5, h1, h⟩ := k_ob2 h
          refine k_callVi C hP hap hAA (c_X3_playOut l ev ad σ3 a1 x2   _ _ h1) Emb.same hap gz_X3_playOut qML_RX3_321 qIM_yX3_playOut qSE_yX3_playOut ⟨(Nat.le_of_ble_eq_true rfl), (Nat.le_of_ble_eq_true rfl)⟩ (q0 := 0) rfl (by decide) rfl rfl rfl rfl hl.1 rfl (Nat.le_of_ble_eq_true rfl) dX3_winnings_20 ⟨Nat.le_refl _, Nat.le_refl _⟩ (fun H locs hP => ?_)
          refine lv_pop hx hb dX3_winnings_23 rfl ?_
          refine lv_iload_n hx hb dX3_winnings_24 rfl (lv_at hl 2 rfl) ?_
          refine lv_aload_n hx hb dX3_winnings_25 rfl (lv_at hl 0 rfl) ?_
          refine r_get C hP (ci := 3) rfl uin_X3 1 (by decide) 0 (by decide) rfl qFL_RX3_16 rfl rfl dX3_winnings_26 ?_
          refine lv_aload_n hx hb dX3_winnings_29 rfl (lv_at hl 0 rfl) ?_
          refine r_get C hP (ci := 3) rfl uin_X3 0 (by decide) 0 (by decide) rfl qFL_RX3_10 rfl rfl dX3_winnings_30 ?_
          refine r_get C hP (ci := 0) rfl uin_X0 13 (by decide) 1 (by decide) rfl qFL_RX3_156 rfl rfl dX3_winnings_33 ?_
          obtain ⟨x7, h1, h⟩ := k_ob h
          refine k_callVi C hP hap hAA (c_X0_leadOf l ev (fun j => ad (j + 2)) (x_thought σ5) (g_turn (x_now σ5))   _ h1) (em_G2r) (apart_1 _) gz_X0_leadOf qML_RX3_255 qIM_yX0_leadOf qSE_yX0_leadOf ⟨(Nat.le_of_ble_eq_true rfl), (Nat.le_of_ble_eq_true rfl)⟩ (q0 := 2) rfl (by decide) rfl rfl rfl rfl hl.1 rfl (Nat.le_of_ble_eq_true rfl) dX3_winnings_36 ⟨Nat.le_refl _, Nat.le_refl _⟩ (fun H locs hP => ?_)
          refine lv_iadd hx hb dX3_winnings_39 ?_
          refine lv_topi (fun x8 ex8 => ?_)
          have h := k_lt ex8 h
          refine lv_istore_n (lv' := [(2, .int x8), (0, .ref (ad 0)), (1, .int a1), (3, .int x2)]) hx hb dX3_winnings_40 rfl hl (by decide) rfl (fun ls hl => ?_)
          refine lv_aload_n hx hb dX3_winnings_41 rfl (lv_at hl 1 rfl) ?_
          refine lv_iload_n hx hb dX3_winnings_42 rfl (lv_at hl 3 rfl) ?_
          refine lv_iload_n hx hb dX3_winnings_43 rfl (lv_at hl 2 rfl) ?_
          obtain ⟨x10, σ9, h1, h⟩ := k_ob2 h
          refine k_callVi C hP hap hAA (c_X3_playOut l ev ad σ5 x2 a1   _ _ h1) Emb.same hap gz_X3_playOut qML_RX3_321 qIM_yX3_playOut qSE_yX3_playOut ⟨(Nat.le_of_ble_eq_true rfl), (Nat.le_of_ble_eq_true rfl)⟩ (q0 := 0) rfl (by decide) rfl rfl rfl rfl hl.1 rfl (Nat.le_of_ble_eq_true rfl) dX3_winnings_44 ⟨Nat.le_refl _, Nat.le_refl _⟩ (fun H locs hP => ?_)
          refine lv_pop hx hb dX3_winnings_47 rfl ?_
          refine lv_iload_n hx hb dX3_winnings_48 rfl (lv_at hl 0 rfl) ?_
          refine lv_aload_n hx hb dX3_winnings_49 rfl (lv_at hl 1 rfl) ?_
          refine r_get C hP (ci := 3) rfl uin_X3 1 (by decide) 0 (by decide) rfl qFL_RX3_16 rfl rfl dX3_winnings_50 ?_
          refine lv_iconst (v := 1) hx hb dX3_winnings_53 (by decide) ?_
          refine lv_aload_n hx hb dX3_winnings_54 rfl (lv_at hl 1 rfl) ?_
          refine r_get C hP (ci := 3) rfl uin_X3 0 (by decide) 0 (by decide) rfl qFL_RX3_10 rfl rfl dX3_winnings_55 ?_
          refine r_get C hP (ci := 0) rfl uin_X0 13 (by decide) 1 (by decide) rfl qFL_RX3_156 rfl rfl dX3_winnings_58 ?_
          refine lv_isub hx hb dX3_winnings_61 ?_
          obtain ⟨x11, h1, h⟩ := k_ob h
          refine k_callVi C hP hap hAA (c_X0_leadOf l ev (fun j => ad (j + 2)) (x_thought σ9) (1 - (g_turn (x_now σ9)))   _ h1) (em_G2r) (apart_1 _) gz_X0_leadOf qML_RX3_255 qIM_yX0_leadOf qSE_yX0_leadOf ⟨(Nat.le_of_ble_eq_true rfl), (Nat.le_of_ble_eq_true rfl)⟩ (q0 := 2) rfl (by decide) rfl rfl rfl rfl hl.1 rfl (Nat.le_of_ble_eq_true rfl) dX3_winnings_62 ⟨Nat.le_refl _, Nat.le_refl _⟩ (fun H locs hP => ?_)
          refine lv_iadd hx hb dX3_winnings_65 ?_
          refine lv_topi (fun x12 ex12 => ?_)
          have h := k_lt ex12 h
          refine lv_istore_n (lv' := [(2, .int x12), (0, .ref (ad 0)), (1, .int a1), (3, .int x2)]) hx hb dX3_winnings_66 rfl hl (by decide) rfl (fun ls hl => ?_)
          obtain ⟨x13, ex13, h⟩ := k_ltx h
          refine lv_iinc (v := x13) (lv' := [(3, .int x13), (2, .int x12), (0, .ref (ad 0)), (1, .int a1)]) hx hb dX3_winnings_67 hl (k := 3) rfl (by rw [ex13]; rfl) (by decide) rfl (fun ls hl => ?_)
          refine lv_goto (tgt := 4) hx hb dX3_winnings_70 (by decide) ?_
          exact ih _ _ _ _ _ _ h hP (lv_sub hl [2, 3, 1, 0] rfl)
  exact hL4 FU _ _ _ _ _ _ h hP (lv_sub hl [2, 3, 1, 0] rfl)
def f_X3_wins (σ : XX) (a1 : Int32) : Option (Int32 × XX) :=
  if (f_X3_isPlayer σ a1) = true then ob2 (f_X3_winnings σ a1) (fun x4 σ3 => some (x4, σ3)) else ob2 (f_X3_refuseLead σ (-2)) (fun x2 σ1 => some (x2, σ1))
set_option maxHeartbeats 4000000 in
set_option maxRecDepth 100000 in
theorem c_X3_wins (l : Launch) (ev : EV) (ad : Nat → Nat) (σ : XX) (a1 : Int32)   (r : Int32) (σ' : XX) (h : f_X3_wins σ a1 = some (r, σ')) : Ct l yX3_wins prog_1_method_46_code 2 (Option.some Jvm.ClassFile.FieldType.int) (rmk 7 168) ev 26 ad (xw ev ad σ) (xw ev ad σ') [.ref (ad 0), .int a1] (some (.int r)) := by
  refine Ct.of (by decide +kernel) (Nat.le_of_ble_eq_true rfl) ?_
  intro p e s m args below meth c Qc C hap hP hend ls hl
  have hAA : ∀ j, j < 26 → inA ad 26 (ad j) := fun j hj => ⟨j, hj, rfl⟩
  have hx := C.1
  have hb := C.2.1
  have hl : lv_has ls 2 [(0, .ref (ad 0)), (1, .int a1)] := hl
  have h := (f_X3_wins.eq_1 _ _ ).symm.trans h
  refine lv_aload_n hx hb dX3_wins_0 rfl (lv_at hl 0 rfl) ?_
  refine lv_iload_n hx hb dX3_wins_1 rfl (lv_at hl 1 rfl) ?_
  refine k_callVi C hP hap hAA (c_X3_isPlayer l ev ad σ a1   _ rfl) Emb.same hap gz_X3_isPlayer qML_RX3_108 qIM_yX3_isPlayer qSE_yX3_isPlayer ⟨(Nat.le_of_ble_eq_true rfl), (Nat.le_of_ble_eq_true rfl)⟩ (q0 := 0) rfl (by decide) rfl rfl rfl rfl hl.1 rfl (Nat.le_of_ble_eq_true rfl) dX3_wins_2 ⟨Nat.le_refl _, Nat.le_refl _⟩ (fun H locs hP => ?_)
  refine r_ifz_eq (tgt := 16) hx hb dX3_wins_5 (by decide) (fun c5 => ?_) (fun c5 => ?_)
  · have h := k_nf c5 h
    refine lv_aload_n hx hb dX3_wins_16 rfl (lv_at hl 0 rfl) ?_
    refine lv_bipush (v := (-2)) hx hb dX3_wins_17 (by decide) ?_
    obtain ⟨x2, σ1, h1, h⟩ := k_ob2 h
    refine k_callVi C hP hap hAA (c_X3_refuseLead l ev ad σ (-2)   _ _ h1) Emb.same hap gz_X3_refuseLead qML_RX3_258 qIM_yX3_refuseLead qSE_yX3_refuseLead ⟨(Nat.le_of_ble_eq_true rfl), (Nat.le_of_ble_eq_true rfl)⟩ (q0 := 0) rfl (by decide) rfl rfl rfl rfl hl.1 rfl (Nat.le_of_ble_eq_true rfl) dX3_wins_19 ⟨Nat.le_refl _, Nat.le_refl _⟩ (fun H locs hP => ?_)
    exact e_iret C hend hP (k_some2 h).1 (congrArg (xw ev ad) (k_some2 h).2) dX3_wins_22
  · have h := k_if c5 h
    refine lv_aload_n hx hb dX3_wins_8 rfl (lv_at hl 0 rfl) ?_
    refine lv_iload_n hx hb dX3_wins_9 rfl (lv_at hl 1 rfl) ?_
    obtain ⟨x4, σ3, h1, h⟩ := k_ob2 h
    refine k_callVi C hP hap hAA (c_X3_winnings l ev ad σ a1   _ _ h1) Emb.same hap gz_X3_winnings qML_RX3_328 qIM_yX3_winnings qSE_yX3_winnings ⟨(Nat.le_of_ble_eq_true rfl), (Nat.le_of_ble_eq_true rfl)⟩ (q0 := 0) rfl (by decide) rfl rfl rfl rfl hl.1 rfl (Nat.le_of_ble_eq_true rfl) dX3_wins_10 ⟨Nat.le_refl _, Nat.le_refl _⟩ (fun H locs hP => ?_)
    refine lv_goto (tgt := 22) hx hb dX3_wins_13 (by decide) ?_
    exact e_iret C hend hP (k_some2 h).1 (congrArg (xw ev ad) (k_some2 h).2) dX3_wins_22
def f_X3_champion_L24_b   (rec24 : Int32 → Int32 → Int32 → XX → Option (Int32 × XX)) (x3 : Int32) (x4 : Int32) (x5 : Int32) (σ6 : XX) : Option (Int32 × XX) :=
  if (x_crew σ6) ≤ x5 then some (x3, σ6) else ob2 (f_X3_winnings σ6 x5) (fun x8 σ7 => if x8 ≤ x4 then lt (x5 + 1) (fun x9 => rec24 x3 x4 x9 σ7) else lt (x5 + 1) (fun x10 => rec24 x5 x8 x10 σ7))
def f_X3_champion_L24   (x3 : Int32) (x4 : Int32) (x5 : Int32) (σ6 : XX) : Option (Int32 × XX) :=
  lp (fun _ _ _ _ => none) (f_X3_champion_L24_b  ) FU x3 x4 x5 σ6
def f_X3_champion (σ : XX) : Option (Int32 × XX) :=
  if 0 < (x_crew σ) then ob2 (f_X3_winnings σ 0) (fun x2 σ1 => f_X3_champion_L24 0 x2 1 σ1) else ob2 (f_X3_refuse σ (-5)) (fun x12 σ11 => some (x12, σ11))
set_option maxHeartbeats 4000000 in
set_option maxRecDepth 100000 in
theorem c_X3_champion (l : Launch) (ev : EV) (ad : Nat → Nat) (σ : XX)   (r : Int32) (σ' : XX) (h : f_X3_champion σ = some (r, σ')) : Ct l yX3_champion prog_1_method_47_code 5 (Option.some Jvm.ClassFile.FieldType.int) (rmk 7 168) ev 26 ad (xw ev ad σ) (xw ev ad σ') [.ref (ad 0)] (some (.int r)) := by
  refine Ct.of (by decide +kernel) (Nat.le_of_ble_eq_true rfl) ?_
  intro p e s m args below meth c Qc C hap hP hend ls hl
  have hAA : ∀ j, j < 26 → inA ad 26 (ad j) := fun j hj => ⟨j, hj, rfl⟩
  have hx := C.1
  have hb := C.2.1
  have hl : lv_has ls 5 [(0, .ref (ad 0))] := hl
  have h := (f_X3_champion.eq_1 _ ).symm.trans h
  refine lv_aload_n hx hb dX3_champion_0 rfl (lv_at hl 0 rfl) ?_
  refine r_get C hP (ci := 3) rfl uin_X3 6 (by decide) 0 (by decide) rfl qFL_RX3_33 rfl rfl dX3_champion_1 ?_
  refine lv_if_gt (tgt := 14) hx hb dX3_champion_4 (by decide) (fun c4 => ?_) (fun c4 => ?_)
  · have h := k_if c4 h
    refine lv_iconst (v := 0) hx hb dX3_champion_14 (by decide) ?_
    refine lv_istore_n (lv' := [(1, .int 0), (0, .ref (ad 0))]) hx hb dX3_champion_15 rfl hl (by decide) rfl (fun ls hl => ?_)
    refine lv_aload_n hx hb dX3_champion_16 rfl (lv_at hl 1 rfl) ?_
    refine lv_iconst (v := 0) hx hb dX3_champion_17 (by decide) ?_
    obtain ⟨x2, σ1, h1, h⟩ := k_ob2 h
    refine k_callVi C hP hap hAA (c_X3_winnings l ev ad σ 0   _ _ h1) Emb.same hap gz_X3_winnings qML_RX3_328 qIM_yX3_winnings qSE_yX3_winnings ⟨(Nat.le_of_ble_eq_true rfl), (Nat.le_of_ble_eq_true rfl)⟩ (q0 := 0) rfl (by decide) rfl rfl rfl rfl hl.1 rfl (Nat.le_of_ble_eq_true rfl) dX3_champion_18 ⟨Nat.le_refl _, Nat.le_refl _⟩ (fun H locs hP => ?_)
    refine lv_istore_n (lv' := [(2, .int x2), (1, .int 0), (0, .ref (ad 0))]) hx hb dX3_champion_21 rfl hl (by decide) rfl (fun ls hl => ?_)
    refine lv_iconst (v := 1) hx hb dX3_champion_22 (by decide) ?_
    refine lv_istore_n (lv' := [(3, .int 1), (2, .int x2), (1, .int 0), (0, .ref (ad 0))]) hx hb dX3_champion_23 rfl hl (by decide) rfl (fun ls hl => ?_)
    have hL24 : ∀ (n : Nat) (x3 : Int32) (x4 : Int32) (x5 : Int32) (σ6 : XX) (H : Heap) (locs : List Loc) (ls : Array Slot), lp (fun _ _ _ _ => none) (f_X3_champion_L24_b  ) n x3 x4 x5 σ6 = some (r, σ') → PS ev 26 ad (xw ev ad σ6) (inA ad 26) s H locs → lv_has ls 5 [(0, .ref (ad 0)), (1, .int x3), (2, .int x4), (3, .int x5)] → WW ev p l e (rmk 7 168) s m args below meth c Qc ad 26 H locs 24 ls [] := by
      intro n
      induction n with
      | zero =>
        intro x3 x4 x5 σ6 H locs ls h; exact k_none h
      | succ n ih =>
        intro x3 x4 x5 σ6 H locs ls h hP hl
        have h : f_X3_champion_L24_b   (lp (fun _ _ _ _ => none) (f_X3_champion_L24_b  ) n) x3 x4 x5 σ6 = some (r, σ') := h
        have h := (f_X3_champion_L24_b.eq_1 _ _ _ _ _ ).symm.trans h
        refine lv_iload_n hx hb dX3_champion_24 rfl (lv_at hl 3 rfl) ?_
        refine lv_aload_n hx hb dX3_champion_25 rfl (lv_at hl 0 rfl) ?_
        refine r_get C hP (ci := 3) rfl uin_X3 6 (by decide) 0 (by decide) rfl qFL_RX3_33 rfl rfl dX3_champion_26 ?_
        refine lv_icmp_ge (tgt := 56) hx hb dX3_champion_29 (by decide) (fun c29 => ?_) (fun c29 => ?_)
        · have h := k_if c29 h
          refine lv_iload_n hx hb dX3_champion_56 rfl (lv_at hl 1 rfl) ?_
          exact e_iret C hend hP (k_some2 h).1 (congrArg (xw ev ad) (k_some2 h).2) dX3_champion_57
        · have h := k_nf c29 h
          refine lv_aload_n hx hb dX3_champion_32 rfl (lv_at hl 0 rfl) ?_
          refine lv_iload_n hx hb dX3_champion_33 rfl (lv_at hl 3 rfl) ?_
          obtain ⟨x8, σ7, h1, h⟩ := k_ob2 h
          refine k_callVi C hP hap hAA (c_X3_winnings l ev ad σ6 x5   _ _ h1) Emb.same hap gz_X3_winnings qML_RX3_328 qIM_yX3_winnings qSE_yX3_winnings ⟨(Nat.le_of_ble_eq_true rfl), (Nat.le_of_ble_eq_true rfl)⟩ (q0 := 0) rfl (by decide) rfl rfl rfl rfl hl.1 rfl (Nat.le_of_ble_eq_true rfl) dX3_champion_34 ⟨Nat.le_refl _, Nat.le_refl _⟩ (fun H locs hP => ?_)
          refine lv_istore (lv' := [(4, .int x8), (0, .ref (ad 0)), (1, .int x3), (2, .int x4), (3, .int x5)]) hx hb dX3_champion_37 hl (by decide) rfl (fun ls hl => ?_)
          refine lv_iload hx hb dX3_champion_39 (lv_at hl 0 rfl) ?_
          refine lv_iload_n hx hb dX3_champion_41 rfl (lv_at hl 3 rfl) ?_
          refine lv_icmp_le (tgt := 50) hx hb dX3_champion_42 (by decide) (fun c42 => ?_) (fun c42 => ?_)
          · have h := k_if c42 h
            obtain ⟨x9, ex9, h⟩ := k_ltx h
            refine lv_iinc (v := x9) (lv' := [(3, .int x9), (4, .int x8), (0, .ref (ad 0)), (1, .int x3), (2, .int x4)]) hx hb dX3_champion_50 hl (k := 4) rfl (by rw [ex9]; rfl) (by decide) rfl (fun ls hl => ?_)
            refine lv_goto (tgt := 24) hx hb dX3_champion_53 (by decide) ?_
            exact ih _ _ _ _ _ _ _ h hP (lv_sub hl [2, 3, 4, 0] rfl)
          · have h := k_nf c42 h
            refine lv_iload hx hb dX3_champion_45 (lv_at hl 0 rfl) ?_
            refine lv_istore_n (lv' := [(2, .int x8), (4, .int x8), (0, .ref (ad 0)), (1, .int x3), (3, .int x5)]) hx hb dX3_champion_47 rfl hl (by decide) rfl (fun ls hl => ?_)
            refine lv_iload_n hx hb dX3_champion_48 rfl (lv_at hl 4 rfl) ?_
            refine lv_istore_n (lv' := [(1, .int x5), (2, .int x8), (4, .int x8), (0, .ref (ad 0)), (3, .int x5)]) hx hb dX3_champion_49 rfl hl (by decide) rfl (fun ls hl => ?_)
            obtain ⟨x10, ex10, h⟩ := k_ltx h
            refine lv_iinc (v := x10) (lv' := [(3, .int x10), (1, .int x5), (2, .int x8), (4, .int x8), (0, .ref (ad 0))]) hx hb dX3_champion_50 hl (k := 4) rfl (by rw [ex10]; rfl) (by decide) rfl (fun ls hl => ?_)
            refine lv_goto (tgt := 24) hx hb dX3_champion_53 (by decide) ?_
            exact ih _ _ _ _ _ _ _ h hP (lv_sub hl [4, 1, 2, 0] rfl)
    exact hL24 FU _ _ _ _ _ _ _ h hP (lv_sub hl [3, 2, 1, 0] rfl)
  · have h := k_nf c4 h
    refine lv_aload_n hx hb dX3_champion_7 rfl (lv_at hl 0 rfl) ?_
    refine lv_bipush (v := (-5)) hx hb dX3_champion_8 (by decide) ?_
    obtain ⟨x12, σ11, h1, h⟩ := k_ob2 h
    refine k_callVi C hP hap hAA (c_X3_refuse l ev ad σ (-5)   _ _ h1) Emb.same hap gz_X3_refuse qML_RX3_60 qIM_yX3_refuse qSE_yX3_refuse ⟨(Nat.le_of_ble_eq_true rfl), (Nat.le_of_ble_eq_true rfl)⟩ (q0 := 0) rfl (by decide) rfl rfl rfl rfl hl.1 rfl (Nat.le_of_ble_eq_true rfl) dX3_champion_10 ⟨Nat.le_refl _, Nat.le_refl _⟩ (fun H locs hP => ?_)
    exact e_iret C hend hP (k_some2 h).1 (congrArg (xw ev ad) (k_some2 h).2) dX3_champion_13
def f_X3_waysToTurn (σ : XX) : Int32 :=
  if (g_width (x_now σ)) = (g_height (x_now σ)) then 8 else 4
set_option maxHeartbeats 4000000 in
set_option maxRecDepth 100000 in
theorem c_X3_waysToTurn (l : Launch) (ev : EV) (ad : Nat → Nat) (σ : XX)   (r : Int32)  (h : f_X3_waysToTurn σ = r) : Ct l yX3_waysToTurn prog_1_method_88_code 1 (Option.some Jvm.ClassFile.FieldType.int) (rmk 0 0) ev 26 ad (xw ev ad σ) (xw ev ad σ) [.ref (ad 0)] (some (.int r)) := by
  refine Ct.of (by decide +kernel) (Nat.le_of_ble_eq_true rfl) ?_
  intro p e s m args below meth c Qc C hap hP hend ls hl
  have hAA : ∀ j, j < 26 → inA ad 26 (ad j) := fun j hj => ⟨j, hj, rfl⟩
  have hx := C.1
  have hb := C.2.1
  have hl : lv_has ls 1 [(0, .ref (ad 0))] := hl
  have h := (f_X3_waysToTurn.eq_1 _ ).symm.trans h
  refine lv_aload_n hx hb dX3_waysToTurn_0 rfl (lv_at hl 0 rfl) ?_
  refine r_get C hP (ci := 3) rfl uin_X3 0 (by decide) 0 (by decide) rfl qFL_RX3_10 rfl rfl dX3_waysToTurn_1 ?_
  refine r_get C hP (ci := 0) rfl uin_X0 0 (by decide) 1 (by decide) rfl qFL_RX3_361 rfl rfl dX3_waysToTurn_4 ?_
  refine lv_aload_n hx hb dX3_waysToTurn_7 rfl (lv_at hl 0 rfl) ?_
  refine r_get C hP (ci := 3) rfl uin_X3 0 (by decide) 0 (by decide) rfl qFL_RX3_10 rfl rfl dX3_waysToTurn_8 ?_
  refine r_get C hP (ci := 0) rfl uin_X0 1 (by decide) 1 (by decide) rfl qFL_RX3_364 rfl rfl dX3_waysToTurn_11 ?_
  refine lv_icmp_ne (tgt := 22) hx hb dX3_waysToTurn_14 (by decide) (fun c14 => ?_) (fun c14 => ?_)
  · have h := k_nf c14 h
    refine lv_iconst (v := 4) hx hb dX3_waysToTurn_22 (by decide) ?_
    exact e_iret C hend hP h rfl dX3_waysToTurn_23
  · have h := k_if c14 h
    refine lv_bipush (v := 8) hx hb dX3_waysToTurn_17 (by decide) ?_
    refine lv_goto (tgt := 23) hx hb dX3_waysToTurn_19 (by decide) ?_
    exact e_iret C hend hP h rfl dX3_waysToTurn_23
def f_X3_likenesses_L4_b (σ : XX)  (rec4 : Int32 → Int32 → Option (Int32)) (x1 : Int32) (x2 : Int32) : Option (Int32) :=
  if (f_X3_waysToTurn σ) ≤ x2 then some x1 else ob (f_X0_isAlike (x_now σ) x2) (fun b3 => lt (x1 + (f_X3_truth (bi b3))) (fun x4 => lt (x2 + 1) (fun x5 => rec4 x4 x5)))
def f_X3_likenesses_L4 (σ : XX)  (x1 : Int32) (x2 : Int32) : Option (Int32) :=
  lp (fun _ _ => none) (f_X3_likenesses_L4_b σ ) FU x1 x2
def f_X3_likenesses (σ : XX) : Option (Int32) :=
  f_X3_likenesses_L4 σ 0 0
set_option maxHeartbeats 4000000 in
set_option maxRecDepth 100000 in
theorem c_X3_likenesses (l : Launch) (ev : EV) (ad : Nat → Nat) (σ : XX)   (r : Int32)  (h : f_X3_likenesses σ = some r) : Ct l yX3_likenesses prog_1_method_48_code 3 (Option.some Jvm.ClassFile.FieldType.int) (rmk 4 102) ev 26 ad (xw ev ad σ) (xw ev ad σ) [.ref (ad 0)] (some (.int r)) := by
  refine Ct.of (by decide +kernel) (Nat.le_of_ble_eq_true rfl) ?_
  intro p e s m args below meth c Qc C hap hP hend ls hl
  have hAA : ∀ j, j < 26 → inA ad 26 (ad j) := fun j hj => ⟨j, hj, rfl⟩
  have hx := C.1
  have hb := C.2.1
  have hl : lv_has ls 3 [(0, .ref (ad 0))] := hl
  have h := (f_X3_likenesses.eq_1 _ ).symm.trans h
  refine lv_iconst (v := 0) hx hb dX3_likenesses_0 (by decide) ?_
  refine lv_istore_n (lv' := [(1, .int 0), (0, .ref (ad 0))]) hx hb dX3_likenesses_1 rfl hl (by decide) rfl (fun ls hl => ?_)
  refine lv_iconst (v := 0) hx hb dX3_likenesses_2 (by decide) ?_
  refine lv_istore_n (lv' := [(2, .int 0), (1, .int 0), (0, .ref (ad 0))]) hx hb dX3_likenesses_3 rfl hl (by decide) rfl (fun ls hl => ?_)
  have hL4 : ∀ (n : Nat) (x1 : Int32) (x2 : Int32) (H : Heap) (locs : List Loc) (ls : Array Slot), lp (fun _ _ => none) (f_X3_likenesses_L4_b σ ) n x1 x2 = some r → PS ev 26 ad (xw ev ad σ) (inA ad 26) s H locs → lv_has ls 3 [(0, .ref (ad 0)), (1, .int x1), (2, .int x2)] → WW ev p l e (rmk 4 102) s m args below meth c Qc ad 26 H locs 4 ls [] := by
    intro n
    induction n with
    | zero =>
      intro x1 x2 H locs ls h; exact k_none h
    | succ n ih =>
      intro x1 x2 H locs ls h hP hl
      have h : f_X3_likenesses_L4_b σ  (lp (fun _ _ => none) (f_X3_likenesses_L4_b σ ) n) x1 x2 = some r := h
      have h := (f_X3_likenesses_L4_b.eq_1 _ _ _ _ ).symm.trans h
      refine lv_iload_n hx hb dX3_likenesses_4 rfl (lv_at hl 2 rfl) ?_
      refine lv_aload_n hx hb dX3_likenesses_5 rfl (lv_at hl 0 rfl) ?_
      refine k_callVi C hP hap hAA (c_X3_waysToTurn l ev ad σ   _ rfl) Emb.same hap gz_X3_waysToTurn qML_RX3_331 qIM_yX3_waysToTurn qSE_yX3_waysToTurn ⟨(Nat.le_of_ble_eq_true rfl), (Nat.le_of_ble_eq_true rfl)⟩ (q0 := 0) rfl (by decide) rfl rfl rfl rfl hl.1 rfl (Nat.le_of_ble_eq_true rfl) dX3_likenesses_6 ⟨Nat.le_refl _, Nat.le_refl _⟩ (fun H locs hP => ?_)
      refine lv_icmp_ge (tgt := 32) hx hb dX3_likenesses_9 (by decide) (fun c9 => ?_) (fun c9 => ?_)
      · have h := k_if c9 h
        refine lv_iload_n hx hb dX3_likenesses_32 rfl (lv_at hl 1 rfl) ?_
        exact e_iret C hend hP (k_some h) rfl dX3_likenesses_33
      · have h := k_nf c9 h
        refine lv_iload_n hx hb dX3_likenesses_12 rfl (lv_at hl 1 rfl) ?_
        refine lv_aload_n hx hb dX3_likenesses_13 rfl (lv_at hl 0 rfl) ?_
        refine r_get C hP (ci := 3) rfl uin_X3 0 (by decide) 0 (by decide) rfl qFL_RX3_10 rfl rfl dX3_likenesses_14 ?_
        refine lv_iload_n hx hb dX3_likenesses_17 rfl (lv_at hl 2 rfl) ?_
        obtain ⟨b3, h1, h⟩ := k_ob h
        refine k_callVi C hP hap hAA (c_X0_isAlike l ev (fun j => ad (j + 1)) (x_now σ) x2   _ h1) (em_G1r) (apart_1 _) gz_X0_isAlike qML_RX3_334 qIM_yX0_isAlike qSE_yX0_isAlike ⟨(Nat.le_of_ble_eq_true rfl), (Nat.le_of_ble_eq_true rfl)⟩ (q0 := 1) rfl (by decide) rfl rfl rfl rfl hl.1 rfl (Nat.le_of_ble_eq_true rfl) dX3_likenesses_18 ⟨Nat.le_refl _, Nat.le_refl _⟩ (fun H locs hP => ?_)
        refine k_callSi C hP hap hAA (c_X3_truth l ev ad (bi b3)   _ rfl) Emb.none (apart_0 _) gz_X3_truth qML_RX3_192 qSM_yX3_truth ⟨(Nat.le_of_ble_eq_true rfl), (Nat.le_of_ble_eq_true rfl)⟩ rfl hl.1 rfl (Nat.le_of_ble_eq_true rfl) dX3_likenesses_21 ⟨Nat.le_refl _, Nat.le_refl _⟩ (fun H locs hP => ?_)
        refine lv_iadd hx hb dX3_likenesses_24 ?_
        refine lv_topi (fun x4 ex4 => ?_)
        have h := k_lt ex4 h
        refine lv_istore_n (lv' := [(1, .int x4), (0, .ref (ad 0)), (2, .int x2)]) hx hb dX3_likenesses_25 rfl hl (by decide) rfl (fun ls hl => ?_)
        obtain ⟨x5, ex5, h⟩ := k_ltx h
        refine lv_iinc (v := x5) (lv' := [(2, .int x5), (1, .int x4), (0, .ref (ad 0))]) hx hb dX3_likenesses_26 hl (k := 2) rfl (by rw [ex5]; rfl) (by decide) rfl (fun ls hl => ?_)
        refine lv_goto (tgt := 4) hx hb dX3_likenesses_29 (by decide) ?_
        exact ih _ _ _ _ _ h hP (lv_sub hl [2, 1, 0] rfl)
  exact hL4 FU _ _ _ _ _ h hP (lv_sub hl [2, 1, 0] rfl)
def f_X3_alike (σ : XX) (a1 : Int32) : Option (Int32 × XX) :=
  if a1 < 0 then ob2 (f_X3_refuse σ (-2)) (fun x2 σ1 => some (x2, σ1)) else if a1 < (f_X3_waysToTurn σ) then ob (f_X0_isAlike (x_now σ) a1) (fun b3 => some ((f_X3_truth (bi b3)), σ)) else ob2 (f_X3_refuse σ (-2)) (fun x5 σ4 => some (x5, σ4))
set_option maxHeartbeats 4000000 in
set_option maxRecDepth 100000 in
theorem c_X3_alike (l : Launch) (ev : EV) (ad : Nat → Nat) (σ : XX) (a1 : Int32)   (r : Int32) (σ' : XX) (h : f_X3_alike σ a1 = some (r, σ')) : Ct l yX3_alike prog_1_method_49_code 2 (Option.some Jvm.ClassFile.FieldType.int) (rmk 4 102) ev 26 ad (xw ev ad σ) (xw ev ad σ') [.ref (ad 0), .int a1] (some (.int r)) := by
  refine Ct.of (by decide +kernel) (Nat.le_of_ble_eq_true rfl) ?_
  intro p e s m args below meth c Qc C hap hP hend ls hl
  have hAA : ∀ j, j < 26 → inA ad 26 (ad j) := fun j hj => ⟨j, hj, rfl⟩
  have hx := C.1
  have hb := C.2.1
  have hl : lv_has ls 2 [(0, .ref (ad 0)), (1, .int a1)] := hl
  have h := (f_X3_alike.eq_1 _ _ ).symm.trans h
  refine lv_iload_n hx hb dX3_alike_0 rfl (lv_at hl 1 rfl) ?_
  refine lv_if_lt (tgt := 12) hx hb dX3_alike_1 (by decide) (fun c1 => ?_) (fun c1 => ?_)
  · have h := k_if c1 h
    refine lv_aload_n hx hb dX3_alike_12 rfl (lv_at hl 0 rfl) ?_
    refine lv_bipush (v := (-2)) hx hb dX3_alike_13 (by decide) ?_
    obtain ⟨x2, σ1, h1, h⟩ := k_ob2 h
    refine k_callVi C hP hap hAA (c_X3_refuse l ev ad σ (-2)   _ _ h1) Emb.same hap gz_X3_refuse qML_RX3_60 qIM_yX3_refuse qSE_yX3_refuse ⟨(Nat.le_of_ble_eq_true rfl), (Nat.le_of_ble_eq_true rfl)⟩ (q0 := 0) rfl (by decide) rfl rfl rfl rfl hl.1 rfl (Nat.le_of_ble_eq_true rfl) dX3_alike_15 ⟨Nat.le_refl _, Nat.le_refl _⟩ (fun H locs hP => ?_)
    exact e_iret C hend hP (k_some2 h).1 (congrArg (xw ev ad) (k_some2 h).2) dX3_alike_18
  · have h := k_nf c1 h
    refine lv_iload_n hx hb dX3_alike_4 rfl (lv_at hl 1 rfl) ?_
    refine lv_aload_n hx hb dX3_alike_5 rfl (lv_at hl 0 rfl) ?_
    refine k_callVi C hP hap hAA (c_X3_waysToTurn l ev ad σ   _ rfl) Emb.same hap gz_X3_waysToTurn qML_RX3_331 qIM_yX3_waysToTurn qSE_yX3_waysToTurn ⟨(Nat.le_of_ble_eq_true rfl), (Nat.le_of_ble_eq_true rfl)⟩ (q0 := 0) rfl (by decide) rfl rfl rfl rfl hl.1 rfl (Nat.le_of_ble_eq_true rfl) dX3_alike_6 ⟨Nat.le_refl _, Nat.le_refl _⟩ (fun H locs hP => ?_)
    refine lv_icmp_lt (tgt := 19) hx hb dX3_alike_9 (by decide) (fun c9 => ?_) (fun c9 => ?_)
    · have h := k_if c9 h
      refine lv_aload_n hx hb dX3_alike_19 rfl (lv_at hl 0 rfl) ?_
      refine r_get C hP (ci := 3) rfl uin_X3 0 (by decide) 0 (by decide) rfl qFL_RX3_10 rfl rfl dX3_alike_20 ?_
      refine lv_iload_n hx hb dX3_alike_23 rfl (lv_at hl 1 rfl) ?_
      obtain ⟨b3, h1, h⟩ := k_ob h
      refine k_callVi C hP hap hAA (c_X0_isAlike l ev (fun j => ad (j + 1)) (x_now σ) a1   _ h1) (em_G1r) (apart_1 _) gz_X0_isAlike qML_RX3_334 qIM_yX0_isAlike qSE_yX0_isAlike ⟨(Nat.le_of_ble_eq_true rfl), (Nat.le_of_ble_eq_true rfl)⟩ (q0 := 1) rfl (by decide) rfl rfl rfl rfl hl.1 rfl (Nat.le_of_ble_eq_true rfl) dX3_alike_24 ⟨Nat.le_refl _, Nat.le_refl _⟩ (fun H locs hP => ?_)
      refine k_callSi C hP hap hAA (c_X3_truth l ev ad (bi b3)   _ rfl) Emb.none (apart_0 _) gz_X3_truth qML_RX3_192 qSM_yX3_truth ⟨(Nat.le_of_ble_eq_true rfl), (Nat.le_of_ble_eq_true rfl)⟩ rfl hl.1 rfl (Nat.le_of_ble_eq_true rfl) dX3_alike_27 ⟨Nat.le_refl _, Nat.le_refl _⟩ (fun H locs hP => ?_)
      exact e_iret C hend hP (k_some2 h).1 (congrArg (xw ev ad) (k_some2 h).2) dX3_alike_30
    · have h := k_nf c9 h
      refine lv_aload_n hx hb dX3_alike_12 rfl (lv_at hl 0 rfl) ?_
      refine lv_bipush (v := (-2)) hx hb dX3_alike_13 (by decide) ?_
      obtain ⟨x5, σ4, h1, h⟩ := k_ob2 h
      refine k_callVi C hP hap hAA (c_X3_refuse l ev ad σ (-2)   _ _ h1) Emb.same hap gz_X3_refuse qML_RX3_60 qIM_yX3_refuse qSE_yX3_refuse ⟨(Nat.le_of_ble_eq_true rfl), (Nat.le_of_ble_eq_true rfl)⟩ (q0 := 0) rfl (by decide) rfl rfl rfl rfl hl.1 rfl (Nat.le_of_ble_eq_true rfl) dX3_alike_15 ⟨Nat.le_refl _, Nat.le_refl _⟩ (fun H locs hP => ?_)
      exact e_iret C hend hP (k_some2 h).1 (congrArg (xw ev ad) (k_some2 h).2) dX3_alike_18
def f_X3_toldTrouble_n (a2 : Int32) : Int32 :=
  (-2)
set_option maxHeartbeats 4000000 in
set_option maxRecDepth 100000 in
theorem c_X3_toldTrouble_n (l : Launch) (ev : EV) (ad : Nat → Nat) (a2 : Int32)   (r : Int32)  (h : f_X3_toldTrouble_n a2 = r) : Ct l yX3_toldTrouble prog_1_method_72_code 3 (Option.some Jvm.ClassFile.FieldType.int) (rmk 0 0) ev 0 ad w00 w00 [.null, .int a2] (some (.int r)) := by
  refine Ct.of (by decide +kernel) (Nat.le_of_ble_eq_true rfl) ?_
  intro p e s m args below meth c Qc C hap hP hend ls hl
  have hAA : ∀ j, j < 0 → inA ad 0 (ad j) := fun j hj => ⟨j, hj, rfl⟩
  have hx := C.1
  have hb := C.2.1
  have hl : lv_has ls 3 [(0, .null), (1, .int a2)] := hl
  have h := (f_X3_toldTrouble_n.eq_1 _ ).symm.trans h
  refine lv_aload_nN hx hb dX3_toldTrouble_0 rfl (lv_at hl 0 rfl) ?_
  refine lv_ifnullN (tgt := 14) hx hb dX3_toldTrouble_1 (by decide) ?_
  refine lv_bipush (v := (-2)) hx hb dX3_toldTrouble_14 (by decide) ?_
  exact e_iret C hend hP h rfl dX3_toldTrouble_16
def f_X3_toldWrong_n_b59 (rec13 : Int32 → XX → Option (Int32 × XX)) (x8 : Int32) (x9 : Int32) (σ10 : XX) : Option (Int32 × XX) :=
  if x9 = (-1) then some (x8, σ10) else if (f_X0_isOpen (x_thought σ10) x9) = true then ob (f_X0_make (x_thought σ10) x9) (fun σ11 => lt (x_thought' σ10 σ11) (fun σ12 => lt (x8 + 1) (fun x13 => rec13 x13 σ12))) else some (x8, σ10)
def f_X3_toldWrong_n_b33 (rec13 : Int32 → XX → Option (Int32 × XX)) (x5 : Int32) (y6 : Int64) (σ7 : XX) : Option (Int32 × XX) :=
  if (lg_cmp y6 (Int32.toInt64 (Int64.toInt32 y6))) = 0 then f_X3_toldWrong_n_b59 rec13 x5 ((f_X0_slotOf (x_thought σ7) (Int64.toInt32 y6))) σ7 else f_X3_toldWrong_n_b59 rec13 x5 (-1) σ7
def f_X3_toldWrong_n_L13_b (a2 : Int32)  (rec13 : Int32 → XX → Option (Int32 × XX)) (x3 : Int32) (σ4 : XX) : Option (Int32 × XX) :=
  if a2 ≤ x3 then some ((-1), σ4) else f_X3_toldWrong_n_b33 rec13 x3 (-1) σ4
def f_X3_toldWrong_n_L13 (a2 : Int32)  (x3 : Int32) (σ4 : XX) : Option (Int32 × XX) :=
  lp (fun _ _ => none) (f_X3_toldWrong_n_L13_b a2 ) FU x3 σ4
def f_X3_toldWrong_n (σ : XX) (a2 : Int32) : Option (Int32 × XX) :=
  ob (f_X0_become (x_thought σ) (x_now σ)) (fun σ1 => lt (x_thought' σ σ1) (fun σ2 => f_X3_toldWrong_n_L13 a2 0 σ2))
set_option maxHeartbeats 4000000 in
set_option maxRecDepth 100000 in
theorem c_X3_toldWrong_n (l : Launch) (ev : EV) (ad : Nat → Nat) (σ : XX) (a2 : Int32)   (r : Int32) (σ' : XX) (h : f_X3_toldWrong_n σ a2 = some (r, σ')) : Ct l yX3_toldWrong prog_1_method_73_code 7 (Option.some Jvm.ClassFile.FieldType.int) (rmk 4 81) ev 26 ad (xw ev ad σ) (xw ev ad σ') [.ref (ad 0), .null, .int a2] (some (.int r)) := by
  refine Ct.of (by decide +kernel) (Nat.le_of_ble_eq_true rfl) ?_
  intro p e s m args below meth c Qc C hap hP hend ls hl
  have hAA : ∀ j, j < 26 → inA ad 26 (ad j) := fun j hj => ⟨j, hj, rfl⟩
  have hx := C.1
  have hb := C.2.1
  have hl : lv_has ls 7 [(0, .ref (ad 0)), (1, .null), (2, .int a2)] := hl
  have h := (f_X3_toldWrong_n.eq_1 _ _ ).symm.trans h
  refine lv_aload_n hx hb dX3_toldWrong_0 rfl (lv_at hl 0 rfl) ?_
  refine r_get C hP (ci := 3) rfl uin_X3 1 (by decide) 0 (by decide) rfl qFL_RX3_16 rfl rfl dX3_toldWrong_1 ?_
  refine lv_aload_n hx hb dX3_toldWrong_4 rfl (lv_at hl 0 rfl) ?_
  refine r_get C hP (ci := 3) rfl uin_X3 0 (by decide) 0 (by decide) rfl qFL_RX3_10 rfl rfl dX3_toldWrong_5 ?_
  obtain ⟨σ1, h1, h⟩ := k_ob h
  refine k_callVv C hP hap hAA (c_X0_become l ev (fun j => if j = 0 then ad 2 else ad 1) (x_thought σ) (x_now σ)   _ h1) (em_GG21) (apart_GG hap (by decide) (by decide) (by decide)) gz_X0_become qML_RX3_165 qIM_yX0_become qSE_yX0_become ⟨(Nat.le_of_ble_eq_true rfl), (Nat.le_of_ble_eq_true rfl)⟩ (q0 := 2) rfl (by decide) rfl rfl rfl rfl hl.1 rfl (Nat.le_of_ble_eq_true rfl) dX3_toldWrong_8 ⟨Nat.le_refl _, Nat.le_refl _⟩ (fun H locs hP => ?_)
  obtain ⟨σ2, eσ2, h⟩ := k_ltx h
  rw [← eσ2] at hP
  refine lv_iconst (v := 0) hx hb dX3_toldWrong_11 (by decide) ?_
  refine lv_istore_n (lv' := [(3, .int 0), (0, .ref (ad 0)), (1, .null), (2, .int a2)]) hx hb dX3_toldWrong_12 rfl hl (by decide) rfl (fun ls hl => ?_)
  have hL13 : ∀ (n : Nat) (x3 : Int32) (σ4 : XX) (H : Heap) (locs : List Loc) (ls : Array Slot), lp (fun _ _ => none) (f_X3_toldWrong_n_L13_b a2 ) n x3 σ4 = some (r, σ') → PS ev 26 ad (xw ev ad σ4) (inA ad 26) s H locs → lv_has ls 7 [(0, .ref (ad 0)), (1, .null), (2, .int a2), (3, .int x3)] → WW ev p l e (rmk 4 81) s m args below meth c Qc ad 26 H locs 13 ls [] := by
    intro n
    induction n with
    | zero =>
      intro x3 σ4 H locs ls h; exact k_none h
    | succ n ih =>
      intro x3 σ4 H locs ls h hP hl
      have h : f_X3_toldWrong_n_L13_b a2  (lp (fun _ _ => none) (f_X3_toldWrong_n_L13_b a2 ) n) x3 σ4 = some (r, σ') := h
      have h := (f_X3_toldWrong_n_L13_b.eq_1 _ _ _ _ ).symm.trans h
      have hB59 : ∀ (x8 : Int32) (x9 : Int32) (σ10 : XX) (H : Heap) (locs : List Loc) (ls : Array Slot), f_X3_toldWrong_n_b59 (lp (fun _ _ => none) (f_X3_toldWrong_n_L13_b a2 ) n) x8 x9 σ10 = some (r, σ') → PS ev 26 ad (xw ev ad σ10) (inA ad 26) s H locs → lv_has ls 7 [(0, .ref (ad 0)), (1, .null), (2, .int a2), (3, .int x8)] → WW ev p l e (rmk 4 81) s m args below meth c Qc ad 26 H locs 59 ls [.int x9] := by
        intro x8 x9 σ10 H locs ls h hP hl
        have h := (f_X3_toldWrong_n_b59.eq_1 _ _ _ _ ).symm.trans h
        refine lv_istore (lv' := [(6, .int x9), (0, .ref (ad 0)), (1, .null), (2, .int a2), (3, .int x8)]) hx hb dX3_toldWrong_59 hl (by decide) rfl (fun ls hl => ?_)
        refine lv_iload hx hb dX3_toldWrong_61 (lv_at hl 0 rfl) ?_
        refine lv_iconst (v := (-1)) hx hb dX3_toldWrong_63 (by decide) ?_
        refine lv_icmp_eq (tgt := 79) hx hb dX3_toldWrong_64 (by decide) (fun c64 => ?_) (fun c64 => ?_)
        · have h := k_if c64 h
          refine lv_iload_n hx hb dX3_toldWrong_79 rfl (lv_at hl 4 rfl) ?_
          exact e_iret C hend hP (k_some2 h).1 (congrArg (xw ev ad) (k_some2 h).2) dX3_toldWrong_80
        · have h := k_nf c64 h
          refine lv_aload_n hx hb dX3_toldWrong_67 rfl (lv_at hl 1 rfl) ?_
          refine r_get C hP (ci := 3) rfl uin_X3 1 (by decide) 0 (by decide) rfl qFL_RX3_16 rfl rfl dX3_toldWrong_68 ?_
          refine lv_iload hx hb dX3_toldWrong_71 (lv_at hl 0 rfl) ?_
          refine k_callVi C hP hap hAA (c_X0_isOpen l ev (fun j => ad (j + 2)) (x_thought σ10) x9   _ rfl) (em_G2r) (apart_1 _) gz_X0_isOpen qML_RX3_242 qIM_yX0_isOpen qSE_yX0_isOpen ⟨(Nat.le_of_ble_eq_true rfl), (Nat.le_of_ble_eq_true rfl)⟩ (q0 := 2) rfl (by decide) rfl rfl rfl rfl hl.1 rfl (Nat.le_of_ble_eq_true rfl) dX3_toldWrong_73 ⟨Nat.le_refl _, Nat.le_refl _⟩ (fun H locs hP => ?_)
          refine r_ifz_ne (tgt := 81) hx hb dX3_toldWrong_76 (by decide) (fun c76 => ?_) (fun c76 => ?_)
          · have h := k_if c76 h
            refine lv_aload_n hx hb dX3_toldWrong_81 rfl (lv_at hl 1 rfl) ?_
            refine r_get C hP (ci := 3) rfl uin_X3 1 (by decide) 0 (by decide) rfl qFL_RX3_16 rfl rfl dX3_toldWrong_82 ?_
            refine lv_iload hx hb dX3_toldWrong_85 (lv_at hl 0 rfl) ?_
            obtain ⟨σ11, h1, h⟩ := k_ob h
            refine k_callVv C hP hap hAA (c_X0_make l ev (fun j => ad (j + 2)) (x_thought σ10) x9   _ h1) (em_G2) (apart_1 _) gz_X0_make qML_RX3_311 qIM_yX0_make qSE_yX0_make ⟨(Nat.le_of_ble_eq_true rfl), (Nat.le_of_ble_eq_true rfl)⟩ (q0 := 2) rfl (by decide) rfl rfl rfl rfl hl.1 rfl (Nat.le_of_ble_eq_true rfl) dX3_toldWrong_87 ⟨Nat.le_refl _, Nat.le_refl _⟩ (fun H locs hP => ?_)
            obtain ⟨σ12, eσ12, h⟩ := k_ltx h
            rw [← eσ12] at hP
            obtain ⟨x13, ex13, h⟩ := k_ltx h
            refine lv_iinc (v := x13) (lv' := [(3, .int x13), (6, .int x9), (0, .ref (ad 0)), (1, .null), (2, .int a2)]) hx hb dX3_toldWrong_90 hl (k := 4) rfl (by rw [ex13]; rfl) (by decide) rfl (fun ls hl => ?_)
            refine lv_goto (tgt := 13) hx hb dX3_toldWrong_93 (by decide) ?_
            exact ih _ _ _ _ _ h hP (lv_sub hl [2, 3, 4, 0] rfl)
          · have h := k_nf c76 h
            refine lv_iload_n hx hb dX3_toldWrong_79 rfl (lv_at hl 4 rfl) ?_
            exact e_iret C hend hP (k_some2 h).1 (congrArg (xw ev ad) (k_some2 h).2) dX3_toldWrong_80
      have hB33 : ∀ (x5 : Int32) (y6 : Int64) (σ7 : XX) (H : Heap) (locs : List Loc) (ls : Array Slot), f_X3_toldWrong_n_b33 (lp (fun _ _ => none) (f_X3_toldWrong_n_L13_b a2 ) n) x5 y6 σ7 = some (r, σ') → PS ev 26 ad (xw ev ad σ7) (inA ad 26) s H locs → lv_has ls 7 [(0, .ref (ad 0)), (1, .null), (2, .int a2), (3, .int x5)] → WW ev p l e (rmk 4 81) s m args below meth c Qc ad 26 H locs 33 ls [.long y6] := by
        intro x5 y6 σ7 H locs ls h hP hl
        have h := (f_X3_toldWrong_n_b33.eq_1 _ _ _ _ ).symm.trans h
        refine lv_lstore (lv' := [(4, .long y6), (0, .ref (ad 0)), (1, .null), (2, .int a2), (3, .int x5)]) hx hb dX3_toldWrong_33 hl (by decide) rfl (fun ls hl => ?_)
        refine lv_lload hx hb dX3_toldWrong_35 (lv_at hl 0 rfl) ?_
        refine lv_lload hx hb dX3_toldWrong_37 (lv_at hl 0 rfl) ?_
        refine lv_l2i hx hb dX3_toldWrong_39 rfl ?_
        refine lv_i2l hx hb dX3_toldWrong_40 rfl ?_
        refine W.lcmp hx hb dX3_toldWrong_41 ?_
        refine lv_if_ne (tgt := 58) hx hb dX3_toldWrong_42 (by decide) (fun c42 => ?_) (fun c42 => ?_)
        · have h := k_nf c42 h
          refine lv_iconst (v := (-1)) hx hb dX3_toldWrong_58 (by decide) ?_
          exact hB59 _ _ _ _ _ _ h hP (lv_sub hl [1, 2, 3, 4] rfl)
        · have h := k_if c42 h
          refine lv_aload_n hx hb dX3_toldWrong_45 rfl (lv_at hl 1 rfl) ?_
          refine r_get C hP (ci := 3) rfl uin_X3 1 (by decide) 0 (by decide) rfl qFL_RX3_16 rfl rfl dX3_toldWrong_46 ?_
          refine lv_lload hx hb dX3_toldWrong_49 (lv_at hl 0 rfl) ?_
          refine lv_l2i hx hb dX3_toldWrong_51 rfl ?_
          refine k_callVi C hP hap hAA (c_X0_slotOf l ev (fun j => ad (j + 2)) (x_thought σ7) (Int64.toInt32 y6)   _ rfl) (em_G2r) (apart_1 _) gz_X0_slotOf qML_RX3_239 qIM_yX0_slotOf qSE_yX0_slotOf ⟨(Nat.le_of_ble_eq_true rfl), (Nat.le_of_ble_eq_true rfl)⟩ (q0 := 2) rfl (by decide) rfl rfl rfl rfl hl.1 rfl (Nat.le_of_ble_eq_true rfl) dX3_toldWrong_52 ⟨Nat.le_refl _, Nat.le_refl _⟩ (fun H locs hP => ?_)
          refine lv_goto (tgt := 59) hx hb dX3_toldWrong_55 (by decide) ?_
          exact hB59 _ _ _ _ _ _ h hP (lv_sub hl [1, 2, 3, 4] rfl)
      refine lv_iload_n hx hb dX3_toldWrong_13 rfl (lv_at hl 3 rfl) ?_
      refine lv_iload_n hx hb dX3_toldWrong_14 rfl (lv_at hl 2 rfl) ?_
      refine lv_icmp_ge (tgt := 96) hx hb dX3_toldWrong_15 (by decide) (fun c15 => ?_) (fun c15 => ?_)
      · have h := k_if c15 h
        refine lv_iconst (v := (-1)) hx hb dX3_toldWrong_96 (by decide) ?_
        exact e_iret C hend hP (k_some2 h).1 (congrArg (xw ev ad) (k_some2 h).2) dX3_toldWrong_97
      · have h := k_nf c15 h
        refine lv_aload_nN hx hb dX3_toldWrong_18 rfl (lv_at hl 1 rfl) ?_
        refine lv_ifnonnullN hx hb dX3_toldWrong_19 ?_
        refine lv_ldc2 (v := (-1)) hx hb C.2.2.2.2.2.1 (C.2.2.2.2.1 _ qCL_RX3_303) dX3_toldWrong_22 ?_
        refine lv_goto (tgt := 33) hx hb dX3_toldWrong_25 (by decide) ?_
        exact hB33 _ _ _ _ _ _ h hP (lv_sub hl [0, 1, 2, 3] rfl)
  exact hL13 FU _ _ _ _ _ h hP (lv_sub hl [1, 2, 3, 0] rfl)
def f_X3_toldWrong_s_b59 (rec13 : Int32 → XX → Option (Int32 × XX)) (x9 : Int32) (x10 : Int32) (σ11 : XX) : Option (Int32 × XX) :=
  if x10 = (-1) then some (x9, σ11) else if (f_X0_isOpen (x_thought σ11) x10) = true then ob (f_X0_make (x_thought σ11) x10) (fun σ12 => lt (x_thought' σ11 σ12) (fun σ13 => lt (x9 + 1) (fun x14 => rec13 x14 σ13))) else some (x9, σ11)
def f_X3_toldWrong_s_b33 (rec13 : Int32 → XX → Option (Int32 × XX)) (x6 : Int32) (y7 : Int64) (σ8 : XX) : Option (Int32 × XX) :=
  if (lg_cmp y7 (Int32.toInt64 (Int64.toInt32 y7))) = 0 then f_X3_toldWrong_s_b59 rec13 x6 ((f_X0_slotOf (x_thought σ8) (Int64.toInt32 y7))) σ8 else f_X3_toldWrong_s_b59 rec13 x6 (-1) σ8
def f_X3_toldWrong_s_L13_b (q : Nat) (a2 : Int32)  (rec13 : Int32 → XX → Option (Int32 × XX)) (x3 : Int32) (σ4 : XX) : Option (Int32 × XX) :=
  if a2 ≤ x3 then some ((-1), σ4) else ob (f_X1_elementAt (x_shelf σ4 q) x3) (fun y5 => f_X3_toldWrong_s_b33 rec13 x3 y5 σ4)
def f_X3_toldWrong_s_L13 (q : Nat) (a2 : Int32)  (x3 : Int32) (σ4 : XX) : Option (Int32 × XX) :=
  lp (fun _ _ => none) (f_X3_toldWrong_s_L13_b q a2 ) FU x3 σ4
def f_X3_toldWrong_s (σ : XX) (q : Nat) (a2 : Int32) : Option (Int32 × XX) :=
  ob (f_X0_become (x_thought σ) (x_now σ)) (fun σ1 => lt (x_thought' σ σ1) (fun σ2 => f_X3_toldWrong_s_L13 q a2 0 σ2))
set_option maxHeartbeats 4000000 in
set_option maxRecDepth 100000 in
theorem c_X3_toldWrong_s (l : Launch) (ev : EV) (ad : Nat → Nat) (σ : XX) (q : Nat) (a2 : Int32) (hq : q < 8)  (r : Int32) (σ' : XX) (h : f_X3_toldWrong_s σ q a2 = some (r, σ')) : Ct l yX3_toldWrong prog_1_method_73_code 7 (Option.some Jvm.ClassFile.FieldType.int) (rmk 4 81) ev 26 ad (xw ev ad σ) (xw ev ad σ') [.ref (ad 0), .ref (ad (q + 10)), .int a2] (some (.int r)) := by
  refine Ct.of (by decide +kernel) (Nat.le_of_ble_eq_true rfl) ?_
  intro p e s m args below meth c Qc C hap hP hend ls hl
  have hAA : ∀ j, j < 26 → inA ad 26 (ad j) := fun j hj => ⟨j, hj, rfl⟩
  have hx := C.1
  have hb := C.2.1
  have hl : lv_has ls 7 [(0, .ref (ad 0)), (1, .ref (ad (q + 10))), (2, .int a2)] := hl
  have h := (f_X3_toldWrong_s.eq_1 _ _ _ ).symm.trans h
  refine lv_aload_n hx hb dX3_toldWrong_0 rfl (lv_at hl 0 rfl) ?_
  refine r_get C hP (ci := 3) rfl uin_X3 1 (by decide) 0 (by decide) rfl qFL_RX3_16 rfl rfl dX3_toldWrong_1 ?_
  refine lv_aload_n hx hb dX3_toldWrong_4 rfl (lv_at hl 0 rfl) ?_
  refine r_get C hP (ci := 3) rfl uin_X3 0 (by decide) 0 (by decide) rfl qFL_RX3_10 rfl rfl dX3_toldWrong_5 ?_
  obtain ⟨σ1, h1, h⟩ := k_ob h
  refine k_callVv C hP hap hAA (c_X0_become l ev (fun j => if j = 0 then ad 2 else ad 1) (x_thought σ) (x_now σ)   _ h1) (em_GG21) (apart_GG hap (by decide) (by decide) (by decide)) gz_X0_become qML_RX3_165 qIM_yX0_become qSE_yX0_become ⟨(Nat.le_of_ble_eq_true rfl), (Nat.le_of_ble_eq_true rfl)⟩ (q0 := 2) rfl (by decide) rfl rfl rfl rfl hl.1 rfl (Nat.le_of_ble_eq_true rfl) dX3_toldWrong_8 ⟨Nat.le_refl _, Nat.le_refl _⟩ (fun H locs hP => ?_)
  obtain ⟨σ2, eσ2, h⟩ := k_ltx h
  rw [← eσ2] at hP
  refine lv_iconst (v := 0) hx hb dX3_toldWrong_11 (by decide) ?_
  refine lv_istore_n (lv' := [(3, .int 0), (0, .ref (ad 0)), (1, .ref (ad (q + 10))), (2, .int a2)]) hx hb dX3_toldWrong_12 rfl hl (by decide) rfl (fun ls hl => ?_)
  have hL13 : ∀ (n : Nat) (x3 : Int32) (σ4 : XX) (H : Heap) (locs : List Loc) (ls : Array Slot), lp (fun _ _ => none) (f_X3_toldWrong_s_L13_b q a2 ) n x3 σ4 = some (r, σ') → PS ev 26 ad (xw ev ad σ4) (inA ad 26) s H locs → lv_has ls 7 [(0, .ref (ad 0)), (1, .ref (ad (q + 10))), (2, .int a2), (3, .int x3)] → WW ev p l e (rmk 4 81) s m args below meth c Qc ad 26 H locs 13 ls [] := by
    intro n
    induction n with
    | zero =>
      intro x3 σ4 H locs ls h; exact k_none h
    | succ n ih =>
      intro x3 σ4 H locs ls h hP hl
      have h : f_X3_toldWrong_s_L13_b q a2  (lp (fun _ _ => none) (f_X3_toldWrong_s_L13_b q a2 ) n) x3 σ4 = some (r, σ') := h
      have h := (f_X3_toldWrong_s_L13_b.eq_1 _ _ _ _ _ ).symm.trans h
      have hB59 : ∀ (x9 : Int32) (x10 : Int32) (σ11 : XX) (H : Heap) (locs : List Loc) (ls : Array Slot), f_X3_toldWrong_s_b59 (lp (fun _ _ => none) (f_X3_toldWrong_s_L13_b q a2 ) n) x9 x10 σ11 = some (r, σ') → PS ev 26 ad (xw ev ad σ11) (inA ad 26) s H locs → lv_has ls 7 [(0, .ref (ad 0)), (1, .ref (ad (q + 10))), (2, .int a2), (3, .int x9)] → WW ev p l e (rmk 4 81) s m args below meth c Qc ad 26 H locs 59 ls [.int x10] := by
        intro x9 x10 σ11 H locs ls h hP hl
        have h := (f_X3_toldWrong_s_b59.eq_1 _ _ _ _ ).symm.trans h
        refine lv_istore (lv' := [(6, .int x10), (0, .ref (ad 0)), (1, .ref (ad (q + 10))), (2, .int a2), (3, .int x9)]) hx hb dX3_toldWrong_59 hl (by decide) rfl (fun ls hl => ?_)
        refine lv_iload hx hb dX3_toldWrong_61 (lv_at hl 0 rfl) ?_
        refine lv_iconst (v := (-1)) hx hb dX3_toldWrong_63 (by decide) ?_
        refine lv_icmp_eq (tgt := 79) hx hb dX3_toldWrong_64 (by decide) (fun c64 => ?_) (fun c64 => ?_)
        · have h := k_if c64 h
          refine lv_iload_n hx hb dX3_toldWrong_79 rfl (lv_at hl 4 rfl) ?_
          exact e_iret C hend hP (k_some2 h).1 (congrArg (xw ev ad) (k_some2 h).2) dX3_toldWrong_80
        · have h := k_nf c64 h
          refine lv_aload_n hx hb dX3_toldWrong_67 rfl (lv_at hl 1 rfl) ?_
          refine r_get C hP (ci := 3) rfl uin_X3 1 (by decide) 0 (by decide) rfl qFL_RX3_16 rfl rfl dX3_toldWrong_68 ?_
          refine lv_iload hx hb dX3_toldWrong_71 (lv_at hl 0 rfl) ?_
          refine k_callVi C hP hap hAA (c_X0_isOpen l ev (fun j => ad (j + 2)) (x_thought σ11) x10   _ rfl) (em_G2r) (apart_1 _) gz_X0_isOpen qML_RX3_242 qIM_yX0_isOpen qSE_yX0_isOpen ⟨(Nat.le_of_ble_eq_true rfl), (Nat.le_of_ble_eq_true rfl)⟩ (q0 := 2) rfl (by decide) rfl rfl rfl rfl hl.1 rfl (Nat.le_of_ble_eq_true rfl) dX3_toldWrong_73 ⟨Nat.le_refl _, Nat.le_refl _⟩ (fun H locs hP => ?_)
          refine r_ifz_ne (tgt := 81) hx hb dX3_toldWrong_76 (by decide) (fun c76 => ?_) (fun c76 => ?_)
          · have h := k_if c76 h
            refine lv_aload_n hx hb dX3_toldWrong_81 rfl (lv_at hl 1 rfl) ?_
            refine r_get C hP (ci := 3) rfl uin_X3 1 (by decide) 0 (by decide) rfl qFL_RX3_16 rfl rfl dX3_toldWrong_82 ?_
            refine lv_iload hx hb dX3_toldWrong_85 (lv_at hl 0 rfl) ?_
            obtain ⟨σ12, h1, h⟩ := k_ob h
            refine k_callVv C hP hap hAA (c_X0_make l ev (fun j => ad (j + 2)) (x_thought σ11) x10   _ h1) (em_G2) (apart_1 _) gz_X0_make qML_RX3_311 qIM_yX0_make qSE_yX0_make ⟨(Nat.le_of_ble_eq_true rfl), (Nat.le_of_ble_eq_true rfl)⟩ (q0 := 2) rfl (by decide) rfl rfl rfl rfl hl.1 rfl (Nat.le_of_ble_eq_true rfl) dX3_toldWrong_87 ⟨Nat.le_refl _, Nat.le_refl _⟩ (fun H locs hP => ?_)
            obtain ⟨σ13, eσ13, h⟩ := k_ltx h
            rw [← eσ13] at hP
            obtain ⟨x14, ex14, h⟩ := k_ltx h
            refine lv_iinc (v := x14) (lv' := [(3, .int x14), (6, .int x10), (0, .ref (ad 0)), (1, .ref (ad (q + 10))), (2, .int a2)]) hx hb dX3_toldWrong_90 hl (k := 4) rfl (by rw [ex14]; rfl) (by decide) rfl (fun ls hl => ?_)
            refine lv_goto (tgt := 13) hx hb dX3_toldWrong_93 (by decide) ?_
            exact ih _ _ _ _ _ h hP (lv_sub hl [2, 3, 4, 0] rfl)
          · have h := k_nf c76 h
            refine lv_iload_n hx hb dX3_toldWrong_79 rfl (lv_at hl 4 rfl) ?_
            exact e_iret C hend hP (k_some2 h).1 (congrArg (xw ev ad) (k_some2 h).2) dX3_toldWrong_80
      have hB33 : ∀ (x6 : Int32) (y7 : Int64) (σ8 : XX) (H : Heap) (locs : List Loc) (ls : Array Slot), f_X3_toldWrong_s_b33 (lp (fun _ _ => none) (f_X3_toldWrong_s_L13_b q a2 ) n) x6 y7 σ8 = some (r, σ') → PS ev 26 ad (xw ev ad σ8) (inA ad 26) s H locs → lv_has ls 7 [(0, .ref (ad 0)), (1, .ref (ad (q + 10))), (2, .int a2), (3, .int x6)] → WW ev p l e (rmk 4 81) s m args below meth c Qc ad 26 H locs 33 ls [.long y7] := by
        intro x6 y7 σ8 H locs ls h hP hl
        have h := (f_X3_toldWrong_s_b33.eq_1 _ _ _ _ ).symm.trans h
        refine lv_lstore (lv' := [(4, .long y7), (0, .ref (ad 0)), (1, .ref (ad (q + 10))), (2, .int a2), (3, .int x6)]) hx hb dX3_toldWrong_33 hl (by decide) rfl (fun ls hl => ?_)
        refine lv_lload hx hb dX3_toldWrong_35 (lv_at hl 0 rfl) ?_
        refine lv_lload hx hb dX3_toldWrong_37 (lv_at hl 0 rfl) ?_
        refine lv_l2i hx hb dX3_toldWrong_39 rfl ?_
        refine lv_i2l hx hb dX3_toldWrong_40 rfl ?_
        refine W.lcmp hx hb dX3_toldWrong_41 ?_
        refine lv_if_ne (tgt := 58) hx hb dX3_toldWrong_42 (by decide) (fun c42 => ?_) (fun c42 => ?_)
        · have h := k_nf c42 h
          refine lv_iconst (v := (-1)) hx hb dX3_toldWrong_58 (by decide) ?_
          exact hB59 _ _ _ _ _ _ h hP (lv_sub hl [1, 2, 3, 4] rfl)
        · have h := k_if c42 h
          refine lv_aload_n hx hb dX3_toldWrong_45 rfl (lv_at hl 1 rfl) ?_
          refine r_get C hP (ci := 3) rfl uin_X3 1 (by decide) 0 (by decide) rfl qFL_RX3_16 rfl rfl dX3_toldWrong_46 ?_
          refine lv_lload hx hb dX3_toldWrong_49 (lv_at hl 0 rfl) ?_
          refine lv_l2i hx hb dX3_toldWrong_51 rfl ?_
          refine k_callVi C hP hap hAA (c_X0_slotOf l ev (fun j => ad (j + 2)) (x_thought σ8) (Int64.toInt32 y7)   _ rfl) (em_G2r) (apart_1 _) gz_X0_slotOf qML_RX3_239 qIM_yX0_slotOf qSE_yX0_slotOf ⟨(Nat.le_of_ble_eq_true rfl), (Nat.le_of_ble_eq_true rfl)⟩ (q0 := 2) rfl (by decide) rfl rfl rfl rfl hl.1 rfl (Nat.le_of_ble_eq_true rfl) dX3_toldWrong_52 ⟨Nat.le_refl _, Nat.le_refl _⟩ (fun H locs hP => ?_)
          refine lv_goto (tgt := 59) hx hb dX3_toldWrong_55 (by decide) ?_
          exact hB59 _ _ _ _ _ _ h hP (lv_sub hl [1, 2, 3, 4] rfl)
      refine lv_iload_n hx hb dX3_toldWrong_13 rfl (lv_at hl 3 rfl) ?_
      refine lv_iload_n hx hb dX3_toldWrong_14 rfl (lv_at hl 2 rfl) ?_
      refine lv_icmp_ge (tgt := 96) hx hb dX3_toldWrong_15 (by decide) (fun c15 => ?_) (fun c15 => ?_)
      · have h := k_if c15 h
        refine lv_iconst (v := (-1)) hx hb dX3_toldWrong_96 (by decide) ?_
        exact e_iret C hend hP (k_some2 h).1 (congrArg (xw ev ad) (k_some2 h).2) dX3_toldWrong_97
      · have h := k_nf c15 h
        refine lv_aload_n hx hb dX3_toldWrong_18 rfl (lv_at hl 1 rfl) ?_
        refine lv_ifnonnull (tgt := 28) hx hb dX3_toldWrong_19 (by decide) ?_
        refine lv_aload_n hx hb dX3_toldWrong_28 rfl (lv_at hl 1 rfl) ?_
        refine lv_iload_n hx hb dX3_toldWrong_29 rfl (lv_at hl 3 rfl) ?_
        obtain ⟨y5, h1, h⟩ := k_ob h
        refine k_callVl C hP hap hAA (c_X1_elementAt l ev (fun j => ad (q + 10 + 8 * j)) (x_shelf σ4 q) x3   _ h1) (em_Sr hq) (apart_S hap hq) gz_X1_elementAt qML_RX3_104 qIM_yX1_elementAt qSE_yX1_elementAt ⟨(Nat.le_of_ble_eq_true rfl), (Nat.le_of_ble_eq_true rfl)⟩ (q0 := (q + 10)) rfl (by omega) (xw_shelf hq) rfl rfl rfl hl.1 rfl (Nat.le_of_ble_eq_true rfl) dX3_toldWrong_30 ⟨Nat.le_refl _, Nat.le_refl _⟩ (fun H locs hP => ?_)
        exact hB33 _ _ _ _ _ _ h hP (lv_sub hl [0, 1, 2, 3] rfl)
  exact hL13 FU _ _ _ _ _ h hP (lv_sub hl [1, 2, 3, 0] rfl)
