/-! functions read off, and their contracts: by program (wip/whole/gen2.py) -/
def f_X3_best_L31_b  (k113 : Int32 → XX → Option (Int32 × XX)) (rec31 : Int64 → Int32 → Int32 → Int32 → XX → Option (Int32 × XX)) (y2 : Int64) (x3 : Int32) (x4 : Int32) (x5 : Int32) (σ6 : XX) : Option (Int32 × XX) :=
  if 7 ≤ x5 then k113 x3 σ6 else if (lg_cmp y2 0) = 0 then k113 x3 σ6 else lt (f_X3_firstSlot y2) (fun x7 => lt (y2 &&& (y2 - 1)) (fun y8 => ob (f_X0_become (x_thought σ6) (x_now σ6)) (fun σ9 => lt (x_thought' σ6 σ9) (fun σ10 => ob (f_X0_make (x_thought σ10) x7) (fun σ11 => lt (x_thought' σ10 σ11) (fun σ12 => ob2 (f_X3_outcome 10 (x_thought σ12) (-100) (-x4) 6) (fun x14 σ13 => lt (x_thought' σ12 σ13) (fun σ15 => lt (-x14) (fun x16 => if x16 ≤ x4 then lt (x5 + 1) (fun x17 => rec31 y8 x3 x4 x17 σ15) else lt (x5 + 1) (fun x18 => rec31 y8 x7 x16 x18 σ15))))))))))
def f_X3_best_L31  (k113 : Int32 → XX → Option (Int32 × XX)) (y2 : Int64) (x3 : Int32) (x4 : Int32) (x5 : Int32) (σ6 : XX) : Option (Int32 × XX) :=
  lp (fun _ _ _ _ _ => none) (f_X3_best_L31_b  k113) FU y2 x3 x4 x5 σ6
def f_X3_best (σ : XX) : Option (Int32 × XX) :=
  if (f_X3_isNearEnd σ) = true then lt (f_X0_openSlots (x_now σ)) (fun y1 => f_X3_best_L31 (fun x20 σ21 => some ((f_X3_moveOf x20), σ21)) y1 (-1) (-100) 0 σ) else ob2 (f_X3_refuse σ (-5)) (fun x23 σ22 => some (x23, σ22))
set_option maxHeartbeats 4000000 in
set_option maxRecDepth 100000 in
theorem c_X3_best (l : Launch) (ev : EV) (ad : Nat → Nat) (σ : XX)   (r : Int32) (σ' : XX) (h : f_X3_best σ = some (r, σ')) : Ct l yX3_best prog_1_method_42_code 8 (Option.some Jvm.ClassFile.FieldType.int) (rmk 29 1057) ev 26 ad (xw ev ad σ) (xw ev ad σ') [.ref (ad 0)] (some (.int r)) := by
  refine Ct.of (by decide +kernel) (Nat.le_of_ble_eq_true rfl) ?_
  intro p e s m args below meth c Qc C hap hP hend ls hl
  have hAA : ∀ j, j < 26 → inA ad 26 (ad j) := fun j hj => ⟨j, hj, rfl⟩
  have hx := C.1
  have hb := C.2.1
  have hl : lv_has ls 8 [(0, .ref (ad 0))] := hl
  have h := (f_X3_best.eq_1 _ ).symm.trans h
  refine lv_aload_n hx hb dX3_best_0 rfl (lv_at hl 0 rfl) ?_
  refine k_callVi C hP hap hAA (c_X3_isNearEnd l ev ad σ   _ rfl) Emb.same hap gz_X3_isNearEnd qML_RX3_308 qIM_yX3_isNearEnd qSE_yX3_isNearEnd ⟨(Nat.le_of_ble_eq_true rfl), (Nat.le_of_ble_eq_true rfl)⟩ (q0 := 0) rfl (by decide) rfl rfl rfl rfl hl.1 rfl (Nat.le_of_ble_eq_true rfl) dX3_best_1 ⟨Nat.le_refl _, Nat.le_refl _⟩ (fun H locs hP => ?_)
  refine r_ifz_ne (tgt := 14) hx hb dX3_best_4 (by decide) (fun c4 => ?_) (fun c4 => ?_)
  · have h := k_if c4 h
    refine lv_aload_n hx hb dX3_best_14 rfl (lv_at hl 0 rfl) ?_
    refine r_get C hP (ci := 3) rfl uin_X3 0 (by decide) 0 (by decide) rfl qFL_RX3_10 rfl rfl dX3_best_15 ?_
    refine k_callVl C hP hap hAA (c_X0_openSlots l ev (fun j => ad (j + 1)) (x_now σ)   _ rfl) (em_G1r) (apart_1 _) gz_X0_openSlots qML_RX3_127 qIM_yX0_openSlots qSE_yX0_openSlots ⟨(Nat.le_of_ble_eq_true rfl), (Nat.le_of_ble_eq_true rfl)⟩ (q0 := 1) rfl (by decide) rfl rfl rfl rfl hl.1 rfl (Nat.le_of_ble_eq_true rfl) dX3_best_18 ⟨Nat.le_refl _, Nat.le_refl _⟩ (fun H locs hP => ?_)
    refine lv_topl (fun y1 ey1 => ?_)
    have h := k_lt ey1 h
    refine lv_lstore_n (lv' := [(1, .long y1), (0, .ref (ad 0))]) hx hb dX3_best_21 rfl hl (by decide) rfl (fun ls hl => ?_)
    refine lv_iconst (v := (-1)) hx hb dX3_best_22 (by decide) ?_
    refine lv_istore_n (lv' := [(3, .int (-1)), (1, .long y1), (0, .ref (ad 0))]) hx hb dX3_best_23 rfl hl (by decide) rfl (fun ls hl => ?_)
    refine lv_bipush (v := (-100)) hx hb dX3_best_24 (by decide) ?_
    refine lv_istore (lv' := [(4, .int (-100)), (3, .int (-1)), (1, .long y1), (0, .ref (ad 0))]) hx hb dX3_best_26 hl (by decide) rfl (fun ls hl => ?_)
    refine lv_iconst (v := 0) hx hb dX3_best_28 (by decide) ?_
    refine lv_istore (lv' := [(5, .int 0), (4, .int (-100)), (3, .int (-1)), (1, .long y1), (0, .ref (ad 0))]) hx hb dX3_best_29 hl (by decide) rfl (fun ls hl => ?_)
    have hL31 : ∀ (k113 : Int32 → XX → Option (Int32 × XX)) (hk113 : ∀ (z19 : Int32) (σk : XX) (H : Heap) (locs : List Loc) (ls : Array Slot), k113 z19 σk = some (r, σ') → PS ev 26 ad (xw ev ad σk) (inA ad 26) s H locs → lv_has ls 8 [(3, .int z19)] → WW ev p l e (rmk 29 1057) s m args below meth c Qc ad 26 H locs 113 ls []) (n : Nat) (y2 : Int64) (x3 : Int32) (x4 : Int32) (x5 : Int32) (σ6 : XX) (H : Heap) (locs : List Loc) (ls : Array Slot), lp (fun _ _ _ _ _ => none) (f_X3_best_L31_b  k113) n y2 x3 x4 x5 σ6 = some (r, σ') → PS ev 26 ad (xw ev ad σ6) (inA ad 26) s H locs → lv_has ls 8 [(0, .ref (ad 0)), (1, .long y2), (3, .int x3), (4, .int x4), (5, .int x5)] → WW ev p l e (rmk 29 1057) s m args below meth c Qc ad 26 H locs 31 ls [] := by
      intro k113 hk113 n
      induction n with
      | zero =>
        intro y2 x3 x4 x5 σ6 H locs ls h; exact k_none h
      | succ n ih =>
        intro y2 x3 x4 x5 σ6 H locs ls h hP hl
        have h : f_X3_best_L31_b  k113 (lp (fun _ _ _ _ _ => none) (f_X3_best_L31_b  k113) n) y2 x3 x4 x5 σ6 = some (r, σ') := h
        have h := (f_X3_best_L31_b.eq_1 _ _ _ _ _ _ _ ).symm.trans h
        refine lv_iload hx hb dX3_best_31 (lv_at hl 4 rfl) ?_
        refine lv_bipush (v := 7) hx hb dX3_best_33 (by decide) ?_
        refine lv_icmp_ge (tgt := 113) hx hb dX3_best_35 (by decide) (fun c35 => ?_) (fun c35 => ?_)
        · have h := k_if c35 h
          exact hk113 _ _ _ _ _ h hP (lv_sub hl [2] rfl)
        · have h := k_nf c35 h
          refine lv_lload_n hx hb dX3_best_38 rfl (lv_at hl 1 rfl) ?_
          refine lv_lconst (v := 0) hx hb dX3_best_39 (by decide) ?_
          refine W.lcmp hx hb dX3_best_40 ?_
          refine lv_if_eq (tgt := 113) hx hb dX3_best_41 (by decide) (fun c41 => ?_) (fun c41 => ?_)
          · have h := k_if c41 h
            exact hk113 _ _ _ _ _ h hP (lv_sub hl [2] rfl)
          · have h := k_nf c41 h
            refine lv_lload_n hx hb dX3_best_44 rfl (lv_at hl 1 rfl) ?_
            refine k_callSi C hP hap hAA (c_X3_firstSlot l ev ad y2   _ rfl) Emb.none (apart_0 _) gz_X3_firstSlot qML_RX3_318 qSM_yX3_firstSlot ⟨(Nat.le_of_ble_eq_true rfl), (Nat.le_of_ble_eq_true rfl)⟩ rfl hl.1 rfl (Nat.le_of_ble_eq_true rfl) dX3_best_45 ⟨Nat.le_refl _, Nat.le_refl _⟩ (fun H locs hP => ?_)
            refine lv_topi (fun x7 ex7 => ?_)
            have h := k_lt ex7 h
            refine lv_istore (lv' := [(6, .int x7), (0, .ref (ad 0)), (1, .long y2), (3, .int x3), (4, .int x4), (5, .int x5)]) hx hb dX3_best_48 hl (by decide) rfl (fun ls hl => ?_)
            refine lv_lload_n hx hb dX3_best_50 rfl (lv_at hl 2 rfl) ?_
            refine lv_lload_n hx hb dX3_best_51 rfl (lv_at hl 2 rfl) ?_
            refine lv_lconst (v := 1) hx hb dX3_best_52 (by decide) ?_
            refine lv_lsub hx hb dX3_best_53 ?_
            refine lv_land hx hb dX3_best_54 ?_
            refine lv_topl (fun y8 ey8 => ?_)
            have h := k_lt ey8 h
            refine lv_lstore_n (lv' := [(1, .long y8), (6, .int x7), (0, .ref (ad 0)), (3, .int x3), (4, .int x4), (5, .int x5)]) hx hb dX3_best_55 rfl hl (by decide) rfl (fun ls hl => ?_)
            refine lv_aload_n hx hb dX3_best_56 rfl (lv_at hl 2 rfl) ?_
            refine r_get C hP (ci := 3) rfl uin_X3 1 (by decide) 0 (by decide) rfl qFL_RX3_16 rfl rfl dX3_best_57 ?_
            refine lv_aload_n hx hb dX3_best_60 rfl (lv_at hl 2 rfl) ?_
            refine r_get C hP (ci := 3) rfl uin_X3 0 (by decide) 0 (by decide) rfl qFL_RX3_10 rfl rfl dX3_best_61 ?_
            obtain ⟨σ9, h1, h⟩ := k_ob h
            refine k_callVv C hP hap hAA (c_X0_become l ev (fun j => if j = 0 then ad 2 else ad 1) (x_thought σ6) (x_now σ6)   _ h1) (em_GG21) (apart_GG hap (by decide) (by decide) (by decide)) gz_X0_become qML_RX3_165 qIM_yX0_become qSE_yX0_become ⟨(Nat.le_of_ble_eq_true rfl), (Nat.le_of_ble_eq_true rfl)⟩ (q0 := 2) rfl (by decide) rfl rfl rfl rfl hl.1 rfl (Nat.le_of_ble_eq_true rfl) dX3_best_64 ⟨Nat.le_refl _, Nat.le_refl _⟩ (fun H locs hP => ?_)
            obtain ⟨σ10, eσ10, h⟩ := k_ltx h
            rw [← eσ10] at hP
            refine lv_aload_n hx hb dX3_best_67 rfl (lv_at hl 2 rfl) ?_
            refine r_get C hP (ci := 3) rfl uin_X3 1 (by decide) 0 (by decide) rfl qFL_RX3_16 rfl rfl dX3_best_68 ?_
            refine lv_iload hx hb dX3_best_71 (lv_at hl 1 rfl) ?_
            obtain ⟨σ11, h1, h⟩ := k_ob h
            refine k_callVv C hP hap hAA (c_X0_make l ev (fun j => ad (j + 2)) (x_thought σ10) x7   _ h1) (em_G2) (apart_1 _) gz_X0_make qML_RX3_311 qIM_yX0_make qSE_yX0_make ⟨(Nat.le_of_ble_eq_true rfl), (Nat.le_of_ble_eq_true rfl)⟩ (q0 := 2) rfl (by decide) rfl rfl rfl rfl hl.1 rfl (Nat.le_of_ble_eq_true rfl) dX3_best_73 ⟨Nat.le_refl _, Nat.le_refl _⟩ (fun H locs hP => ?_)
            obtain ⟨σ12, eσ12, h⟩ := k_ltx h
            rw [← eσ12] at hP
            refine lv_aload_n hx hb dX3_best_76 rfl (lv_at hl 2 rfl) ?_
            refine r_get C hP (ci := 3) rfl uin_X3 1 (by decide) 0 (by decide) rfl qFL_RX3_16 rfl rfl dX3_best_77 ?_
            refine lv_bipush (v := (-100)) hx hb dX3_best_80 (by decide) ?_
            refine lv_iload hx hb dX3_best_82 (lv_at hl 4 rfl) ?_
            refine lv_ineg hx hb dX3_best_84 ?_
            refine lv_bipush (v := 6) hx hb dX3_best_85 (by decide) ?_
            obtain ⟨x14, σ13, h1, h⟩ := k_ob2 h
            refine k_callSi C hP hap hAA (c_X3_outcome l ev 10 (fun j => ad (j + 2)) (x_thought σ12) (-100) (-x4) 6   _ _ h1) (em_G2) (apart_1 _) gz_X3_outcome qML_RX3_314 qSM_yX3_outcome ⟨(Nat.le_of_ble_eq_true rfl), (Nat.le_of_ble_eq_true rfl)⟩ rfl hl.1 rfl (Nat.le_of_ble_eq_true rfl) dX3_best_87 ⟨Nat.le_refl _, Nat.le_refl _⟩ (fun H locs hP => ?_)
            obtain ⟨σ15, eσ15, h⟩ := k_ltx h
            rw [← eσ15] at hP
            refine lv_ineg hx hb dX3_best_90 ?_
            refine lv_topi (fun x16 ex16 => ?_)
            have h := k_lt ex16 h
            refine lv_istore (lv' := [(7, .int x16), (1, .long y8), (6, .int x7), (0, .ref (ad 0)), (3, .int x3), (4, .int x4), (5, .int x5)]) hx hb dX3_best_91 hl (by decide) rfl (fun ls hl => ?_)
            refine lv_iload hx hb dX3_best_93 (lv_at hl 0 rfl) ?_
            refine lv_iload hx hb dX3_best_95 (lv_at hl 5 rfl) ?_
            refine lv_icmp_le (tgt := 107) hx hb dX3_best_97 (by decide) (fun c97 => ?_) (fun c97 => ?_)
            · have h := k_if c97 h
              obtain ⟨x17, ex17, h⟩ := k_ltx h
              refine lv_iinc (v := x17) (lv' := [(5, .int x17), (7, .int x16), (1, .long y8), (6, .int x7), (0, .ref (ad 0)), (3, .int x3), (4, .int x4)]) hx hb dX3_best_107 hl (k := 6) rfl (by rw [ex17]; rfl) (by decide) rfl (fun ls hl => ?_)
              refine lv_goto (tgt := 31) hx hb dX3_best_110 (by decide) ?_
              exact ih _ _ _ _ _ _ _ _ h hP (lv_sub hl [4, 2, 5, 6, 0] rfl)
            · have h := k_nf c97 h
              refine lv_iload hx hb dX3_best_100 (lv_at hl 0 rfl) ?_
              refine lv_istore (lv' := [(4, .int x16), (7, .int x16), (1, .long y8), (6, .int x7), (0, .ref (ad 0)), (3, .int x3), (5, .int x5)]) hx hb dX3_best_102 hl (by decide) rfl (fun ls hl => ?_)
              refine lv_iload hx hb dX3_best_104 (lv_at hl 3 rfl) ?_
              refine lv_istore_n (lv' := [(3, .int x7), (4, .int x16), (7, .int x16), (1, .long y8), (6, .int x7), (0, .ref (ad 0)), (5, .int x5)]) hx hb dX3_best_106 rfl hl (by decide) rfl (fun ls hl => ?_)
              obtain ⟨x18, ex18, h⟩ := k_ltx h
              refine lv_iinc (v := x18) (lv' := [(5, .int x18), (3, .int x7), (4, .int x16), (7, .int x16), (1, .long y8), (6, .int x7), (0, .ref (ad 0))]) hx hb dX3_best_107 hl (k := 6) rfl (by rw [ex18]; rfl) (by decide) rfl (fun ls hl => ?_)
              refine lv_goto (tgt := 31) hx hb dX3_best_110 (by decide) ?_
              exact ih _ _ _ _ _ _ _ _ h hP (lv_sub hl [6, 4, 1, 2, 0] rfl)
    refine hL31 _ (fun x20 σ21 H locs ls h hP hl => ?_) FU _ _ _ _ _ _ _ _ h hP (lv_sub hl [4, 3, 2, 1, 0] rfl)
    refine lv_iload_n hx hb dX3_best_113 rfl (lv_at hl 0 rfl) ?_
    refine k_callSi C hP hap hAA (c_X3_moveOf l ev ad x20   _ rfl) Emb.none (apart_0 _) gz_X3_moveOf qML_RX3_249 qSM_yX3_moveOf ⟨(Nat.le_of_ble_eq_true rfl), (Nat.le_of_ble_eq_true rfl)⟩ rfl hl.1 rfl (Nat.le_of_ble_eq_true rfl) dX3_best_114 ⟨Nat.le_refl _, Nat.le_refl _⟩ (fun H locs hP => ?_)
    exact e_iret C hend hP (k_some2 h).1 (congrArg (xw ev ad) (k_some2 h).2) dX3_best_117
  · have h := k_nf c4 h
    refine lv_aload_n hx hb dX3_best_7 rfl (lv_at hl 0 rfl) ?_
    refine lv_bipush (v := (-5)) hx hb dX3_best_8 (by decide) ?_
    obtain ⟨x23, σ22, h1, h⟩ := k_ob2 h
    refine k_callVi C hP hap hAA (c_X3_refuse l ev ad σ (-5)   _ _ h1) Emb.same hap gz_X3_refuse qML_RX3_60 qIM_yX3_refuse qSE_yX3_refuse ⟨(Nat.le_of_ble_eq_true rfl), (Nat.le_of_ble_eq_true rfl)⟩ (q0 := 0) rfl (by decide) rfl rfl rfl rfl hl.1 rfl (Nat.le_of_ble_eq_true rfl) dX3_best_10 ⟨Nat.le_refl _, Nat.le_refl _⟩ (fun H locs hP => ?_)
    exact e_iret C hend hP (k_some2 h).1 (congrArg (xw ev ad) (k_some2 h).2) dX3_best_13
def f_X3_worth (σ : XX) : Option (Int32 × XX) :=
  if (f_X3_isNearEnd σ) = true then ob (f_X0_become (x_thought σ) (x_now σ)) (fun σ1 => lt (x_thought' σ σ1) (fun σ2 => ob2 (f_X3_outcome 10 (x_thought σ2) (-100) 100 7) (fun x4 σ3 => lt (x_thought' σ2 σ3) (fun σ5 => some (x4, σ5))))) else ob2 (f_X3_refuseLead σ (-5)) (fun x7 σ6 => some (x7, σ6))
set_option maxHeartbeats 4000000 in
set_option maxRecDepth 100000 in
theorem c_X3_worth (l : Launch) (ev : EV) (ad : Nat → Nat) (σ : XX)   (r : Int32) (σ' : XX) (h : f_X3_worth σ = some (r, σ')) : Ct l yX3_worth prog_1_method_43_code 1 (Option.some Jvm.ClassFile.FieldType.int) (rmk 29 1057) ev 26 ad (xw ev ad σ) (xw ev ad σ') [.ref (ad 0)] (some (.int r)) := by
  refine Ct.of (by decide +kernel) (Nat.le_of_ble_eq_true rfl) ?_
  intro p e s m args below meth c Qc C hap hP hend ls hl
  have hAA : ∀ j, j < 26 → inA ad 26 (ad j) := fun j hj => ⟨j, hj, rfl⟩
  have hx := C.1
  have hb := C.2.1
  have hl : lv_has ls 1 [(0, .ref (ad 0))] := hl
  have h := (f_X3_worth.eq_1 _ ).symm.trans h
  refine lv_aload_n hx hb dX3_worth_0 rfl (lv_at hl 0 rfl) ?_
  refine k_callVi C hP hap hAA (c_X3_isNearEnd l ev ad σ   _ rfl) Emb.same hap gz_X3_isNearEnd qML_RX3_308 qIM_yX3_isNearEnd qSE_yX3_isNearEnd ⟨(Nat.le_of_ble_eq_true rfl), (Nat.le_of_ble_eq_true rfl)⟩ (q0 := 0) rfl (by decide) rfl rfl rfl rfl hl.1 rfl (Nat.le_of_ble_eq_true rfl) dX3_worth_1 ⟨Nat.le_refl _, Nat.le_refl _⟩ (fun H locs hP => ?_)
  refine r_ifz_ne (tgt := 14) hx hb dX3_worth_4 (by decide) (fun c4 => ?_) (fun c4 => ?_)
  · have h := k_if c4 h
    refine lv_aload_n hx hb dX3_worth_14 rfl (lv_at hl 0 rfl) ?_
    refine r_get C hP (ci := 3) rfl uin_X3 1 (by decide) 0 (by decide) rfl qFL_RX3_16 rfl rfl dX3_worth_15 ?_
    refine lv_aload_n hx hb dX3_worth_18 rfl (lv_at hl 0 rfl) ?_
    refine r_get C hP (ci := 3) rfl uin_X3 0 (by decide) 0 (by decide) rfl qFL_RX3_10 rfl rfl dX3_worth_19 ?_
    obtain ⟨σ1, h1, h⟩ := k_ob h
    refine k_callVv C hP hap hAA (c_X0_become l ev (fun j => if j = 0 then ad 2 else ad 1) (x_thought σ) (x_now σ)   _ h1) (em_GG21) (apart_GG hap (by decide) (by decide) (by decide)) gz_X0_become qML_RX3_165 qIM_yX0_become qSE_yX0_become ⟨(Nat.le_of_ble_eq_true rfl), (Nat.le_of_ble_eq_true rfl)⟩ (q0 := 2) rfl (by decide) rfl rfl rfl rfl hl.1 rfl (Nat.le_of_ble_eq_true rfl) dX3_worth_22 ⟨Nat.le_refl _, Nat.le_refl _⟩ (fun H locs hP => ?_)
    obtain ⟨σ2, eσ2, h⟩ := k_ltx h
    rw [← eσ2] at hP
    refine lv_aload_n hx hb dX3_worth_25 rfl (lv_at hl 0 rfl) ?_
    refine r_get C hP (ci := 3) rfl uin_X3 1 (by decide) 0 (by decide) rfl qFL_RX3_16 rfl rfl dX3_worth_26 ?_
    refine lv_bipush (v := (-100)) hx hb dX3_worth_29 (by decide) ?_
    refine lv_bipush (v := 100) hx hb dX3_worth_31 (by decide) ?_
    refine lv_bipush (v := 7) hx hb dX3_worth_33 (by decide) ?_
    obtain ⟨x4, σ3, h1, h⟩ := k_ob2 h
    refine k_callSi C hP hap hAA (c_X3_outcome l ev 10 (fun j => ad (j + 2)) (x_thought σ2) (-100) 100 7   _ _ h1) (em_G2) (apart_1 _) gz_X3_outcome qML_RX3_314 qSM_yX3_outcome ⟨(Nat.le_of_ble_eq_true rfl), (Nat.le_of_ble_eq_true rfl)⟩ rfl hl.1 rfl (Nat.le_of_ble_eq_true rfl) dX3_worth_35 ⟨Nat.le_refl _, Nat.le_refl _⟩ (fun H locs hP => ?_)
    obtain ⟨σ5, eσ5, h⟩ := k_ltx h
    rw [← eσ5] at hP
    exact e_iret C hend hP (k_some2 h).1 (congrArg (xw ev ad) (k_some2 h).2) dX3_worth_38
  · have h := k_nf c4 h
    refine lv_aload_n hx hb dX3_worth_7 rfl (lv_at hl 0 rfl) ?_
    refine lv_bipush (v := (-5)) hx hb dX3_worth_8 (by decide) ?_
    obtain ⟨x7, σ6, h1, h⟩ := k_ob2 h
    refine k_callVi C hP hap hAA (c_X3_refuseLead l ev ad σ (-5)   _ _ h1) Emb.same hap gz_X3_refuseLead qML_RX3_258 qIM_yX3_refuseLead qSE_yX3_refuseLead ⟨(Nat.le_of_ble_eq_true rfl), (Nat.le_of_ble_eq_true rfl)⟩ (q0 := 0) rfl (by decide) rfl rfl rfl rfl hl.1 rfl (Nat.le_of_ble_eq_true rfl) dX3_worth_10 ⟨Nat.le_refl _, Nat.le_refl _⟩ (fun H locs hP => ?_)
    exact e_iret C hend hP (k_some2 h).1 (congrArg (xw ev ad) (k_some2 h).2) dX3_worth_13
def f_X3_choice (σ : XX) (a1 : Int32) : Option (Int32 × XX) :=
  if (f_X3_isPlayer σ a1) = true then ob2 (f_X3_thoughtChoice σ a1) (fun x4 σ3 => some (x4, σ3)) else ob2 (f_X3_refuse σ (-2)) (fun x2 σ1 => some (x2, σ1))
set_option maxHeartbeats 4000000 in
set_option maxRecDepth 100000 in
theorem c_X3_choice (l : Launch) (ev : EV) (ad : Nat → Nat) (σ : XX) (a1 : Int32)   (r : Int32) (σ' : XX) (h : f_X3_choice σ a1 = some (r, σ')) : Ct l yX3_choice prog_1_method_44_code 2 (Option.some Jvm.ClassFile.FieldType.int) (rmk 6 136) ev 26 ad (xw ev ad σ) (xw ev ad σ') [.ref (ad 0), .int a1] (some (.int r)) := by
  refine Ct.of (by decide +kernel) (Nat.le_of_ble_eq_true rfl) ?_
  intro p e s m args below meth c Qc C hap hP hend ls hl
  have hAA : ∀ j, j < 26 → inA ad 26 (ad j) := fun j hj => ⟨j, hj, rfl⟩
  have hx := C.1
  have hb := C.2.1
  have hl : lv_has ls 2 [(0, .ref (ad 0)), (1, .int a1)] := hl
  have h := (f_X3_choice.eq_1 _ _ ).symm.trans h
  refine lv_aload_n hx hb dX3_choice_0 rfl (lv_at hl 0 rfl) ?_
  refine lv_iload_n hx hb dX3_choice_1 rfl (lv_at hl 1 rfl) ?_
  refine k_callVi C hP hap hAA (c_X3_isPlayer l ev ad σ a1   _ rfl) Emb.same hap gz_X3_isPlayer qML_RX3_108 qIM_yX3_isPlayer qSE_yX3_isPlayer ⟨(Nat.le_of_ble_eq_true rfl), (Nat.le_of_ble_eq_true rfl)⟩ (q0 := 0) rfl (by decide) rfl rfl rfl rfl hl.1 rfl (Nat.le_of_ble_eq_true rfl) dX3_choice_2 ⟨Nat.le_refl _, Nat.le_refl _⟩ (fun H locs hP => ?_)
  refine r_ifz_eq (tgt := 16) hx hb dX3_choice_5 (by decide) (fun c5 => ?_) (fun c5 => ?_)
  · have h := k_nf c5 h
    refine lv_aload_n hx hb dX3_choice_16 rfl (lv_at hl 0 rfl) ?_
    refine lv_bipush (v := (-2)) hx hb dX3_choice_17 (by decide) ?_
    obtain ⟨x2, σ1, h1, h⟩ := k_ob2 h
    refine k_callVi C hP hap hAA (c_X3_refuse l ev ad σ (-2)   _ _ h1) Emb.same hap gz_X3_refuse qML_RX3_60 qIM_yX3_refuse qSE_yX3_refuse ⟨(Nat.le_of_ble_eq_true rfl), (Nat.le_of_ble_eq_true rfl)⟩ (q0 := 0) rfl (by decide) rfl rfl rfl rfl hl.1 rfl (Nat.le_of_ble_eq_true rfl) dX3_choice_19 ⟨Nat.le_refl _, Nat.le_refl _⟩ (fun H locs hP => ?_)
    exact e_iret C hend hP (k_some2 h).1 (congrArg (xw ev ad) (k_some2 h).2) dX3_choice_22
  · have h := k_if c5 h
    refine lv_aload_n hx hb dX3_choice_8 rfl (lv_at hl 0 rfl) ?_
    refine lv_iload_n hx hb dX3_choice_9 rfl (lv_at hl 1 rfl) ?_
    obtain ⟨x4, σ3, h1, h⟩ := k_ob2 h
    refine k_callVi C hP hap hAA (c_X3_thoughtChoice l ev ad σ a1   _ _ h1) Emb.same hap gz_X3_thoughtChoice qML_RX3_137 qIM_yX3_thoughtChoice qSE_yX3_thoughtChoice ⟨(Nat.le_of_ble_eq_true rfl), (Nat.le_of_ble_eq_true rfl)⟩ (q0 := 0) rfl (by decide) rfl rfl rfl rfl hl.1 rfl (Nat.le_of_ble_eq_true rfl) dX3_choice_10 ⟨Nat.le_refl _, Nat.le_refl _⟩ (fun H locs hP => ?_)
    refine lv_goto (tgt := 22) hx hb dX3_choice_13 (by decide) ?_
    exact e_iret C hend hP (k_some2 h).1 (congrArg (xw ev ad) (k_some2 h).2) dX3_choice_22
def f_X3_playOut_b50 (rec16 : Int32 → Int32 → XX → Option (Int32 × XX)) (x6 : Int32) (x7 : Int32) (x8 : Int32) (σ9 : XX) : Option (Int32 × XX) :=
  ob2 (f_X3_chosenSlot_thought σ9 x8) (fun x11 σ10 => if x11 = (-1) then some (x6, σ10) else if x7 = 0 then ob (f_X0_make (x_thought σ10) x11) (fun σ15 => lt (x_thought' σ10 σ15) (fun σ16 => lt (x7 + 1) (fun x17 => rec16 x11 x17 σ16))) else ob (f_X0_make (x_thought σ10) x11) (fun σ12 => lt (x_thought' σ10 σ12) (fun σ13 => lt (x7 + 1) (fun x14 => rec16 x6 x14 σ13))))
def f_X3_playOut_L16_b (a1 : Int32) (a2 : Int32)  (rec16 : Int32 → Int32 → XX → Option (Int32 × XX)) (x3 : Int32) (x4 : Int32) (σ5 : XX) : Option (Int32 × XX) :=
  if 56 ≤ x4 then some (x3, σ5) else if (g_turn (x_thought σ5)) = (g_turn (x_now σ5)) then f_X3_playOut_b50 rec16 x3 x4 a1 σ5 else f_X3_playOut_b50 rec16 x3 x4 a2 σ5
def f_X3_playOut_L16 (a1 : Int32) (a2 : Int32)  (x3 : Int32) (x4 : Int32) (σ5 : XX) : Option (Int32 × XX) :=
  lp (fun _ _ _ => none) (f_X3_playOut_L16_b a1 a2 ) FU x3 x4 σ5
def f_X3_playOut (σ : XX) (a1 : Int32) (a2 : Int32) : Option (Int32 × XX) :=
  ob (f_X0_become (x_thought σ) (x_now σ)) (fun σ1 => lt (x_thought' σ σ1) (fun σ2 => f_X3_playOut_L16 a1 a2 (-1) 0 σ2))
set_option maxHeartbeats 4000000 in
set_option maxRecDepth 100000 in
theorem c_X3_playOut (l : Launch) (ev : EV) (ad : Nat → Nat) (σ : XX) (a1 : Int32) (a2 : Int32)   (r : Int32) (σ' : XX) (h : f_X3_playOut σ a1 a2 = some (r, σ')) : Ct l yX3_playOut prog_1_method_83_code 6 (Option.some Jvm.ClassFile.FieldType.int) (rmk 5 115) ev 26 ad (xw ev ad σ) (xw ev ad σ') [.ref (ad 0), .int a1, .int a2] (some (.int r)) := by
  refine Ct.of (by decide +kernel) (Nat.le_of_ble_eq_true rfl) ?_
  intro p e s m args below meth c Qc C hap hP hend ls hl
  have hAA : ∀ j, j < 26 → inA ad 26 (ad j) := fun j hj => ⟨j, hj, rfl⟩
  have hx := C.1
  have hb := C.2.1
  have hl : lv_has ls 6 [(0, .ref (ad 0)), (1, .int a1), (2, .int a2)] := hl
  have h := (f_X3_playOut.eq_1 _ _ _ ).symm.trans h
  refine lv_aload_n hx hb dX3_playOut_0 rfl (lv_at hl 0 rfl) ?_
  refine r_get C hP (ci := 3) rfl uin_X3 1 (by decide) 0 (by decide) rfl qFL_RX3_16 rfl rfl dX3_playOut_1 ?_
  refine lv_aload_n hx hb dX3_playOut_4 rfl (lv_at hl 0 rfl) ?_
  refine r_get C hP (ci := 3) rfl uin_X3 0 (by decide) 0 (by decide) rfl qFL_RX3_10 rfl rfl dX3_playOut_5 ?_
  obtain ⟨σ1, h1, h⟩ := k_ob h
  refine k_callVv C hP hap hAA (c_X0_become l ev (fun j => if j = 0 then ad 2 else ad 1) (x_thought σ) (x_now σ)   _ h1) (em_GG21) (apart_GG hap (by decide) (by decide) (by decide)) gz_X0_become qML_RX3_165 qIM_yX0_become qSE_yX0_become ⟨(Nat.le_of_ble_eq_true rfl), (Nat.le_of_ble_eq_true rfl)⟩ (q0 := 2) rfl (by decide) rfl rfl rfl rfl hl.1 rfl (Nat.le_of_ble_eq_true rfl) dX3_playOut_8 ⟨Nat.le_refl _, Nat.le_refl _⟩ (fun H locs hP => ?_)
  obtain ⟨σ2, eσ2, h⟩ := k_ltx h
  rw [← eσ2] at hP
  refine lv_iconst (v := (-1)) hx hb dX3_playOut_11 (by decide) ?_
  refine lv_istore_n (lv' := [(3, .int (-1)), (0, .ref (ad 0)), (1, .int a1), (2, .int a2)]) hx hb dX3_playOut_12 rfl hl (by decide) rfl (fun ls hl => ?_)
  refine lv_iconst (v := 0) hx hb dX3_playOut_13 (by decide) ?_
  refine lv_istore (lv' := [(4, .int 0), (3, .int (-1)), (0, .ref (ad 0)), (1, .int a1), (2, .int a2)]) hx hb dX3_playOut_14 hl (by decide) rfl (fun ls hl => ?_)
  have hL16 : ∀ (n : Nat) (x3 : Int32) (x4 : Int32) (σ5 : XX) (H : Heap) (locs : List Loc) (ls : Array Slot), lp (fun _ _ _ => none) (f_X3_playOut_L16_b a1 a2 ) n x3 x4 σ5 = some (r, σ') → PS ev 26 ad (xw ev ad σ5) (inA ad 26) s H locs → lv_has ls 6 [(0, .ref (ad 0)), (1, .int a1), (2, .int a2), (3, .int x3), (4, .int x4)] → WW ev p l e (rmk 5 115) s m args below meth c Qc ad 26 H locs 16 ls [] := by
    intro n
    induction n with
    | zero =>
      intro x3 x4 σ5 H locs ls h; exact k_none h
    | succ n ih =>
      intro x3 x4 σ5 H locs ls h hP hl
      have h : f_X3_playOut_L16_b a1 a2  (lp (fun _ _ _ => none) (f_X3_playOut_L16_b a1 a2 ) n) x3 x4 σ5 = some (r, σ') := h
      have h := (f_X3_playOut_L16_b.eq_1 _ _ _ _ _ _ ).symm.trans h
      have hB50 : ∀ (x6 : Int32) (x7 : Int32) (x8 : Int32) (σ9 : XX) (H : Heap) (locs : List Loc) (ls : Array Slot), f_X3_playOut_b50 (lp (fun _ _ _ => none) (f_X3_playOut_L16_b a1 a2 ) n) x6 x7 x8 σ9 = some (r, σ') → PS ev 26 ad (xw ev ad σ9) (inA ad 26) s H locs → lv_has ls 6 [(0, .ref (ad 0)), (1, .int a1), (2, .int a2), (3, .int x6), (4, .int x7)] → WW ev p l e (rmk 5 115) s m args below meth c Qc ad 26 H locs 50 ls [.int x8, .ref (ad 2), .ref (ad 0)] := by
        intro x6 x7 x8 σ9 H locs ls h hP hl
        have h := (f_X3_playOut_b50.eq_1 _ _ _ _ _ ).symm.trans h
        obtain ⟨x11, σ10, h1, h⟩ := k_ob2 h
        refine k_callVi C hP hap hAA (c_X3_chosenSlot_thought l ev ad σ9 x8   _ _ h1) Emb.same hap gz_X3_chosenSlot qML_RX3_344 qIM_yX3_chosenSlot qSE_yX3_chosenSlot ⟨(Nat.le_of_ble_eq_true rfl), (Nat.le_of_ble_eq_true rfl)⟩ (q0 := 0) rfl (by decide) rfl rfl rfl rfl hl.1 rfl (Nat.le_of_ble_eq_true rfl) dX3_playOut_50 ⟨Nat.le_refl _, Nat.le_refl _⟩ (fun H locs hP => ?_)
        refine lv_istore (lv' := [(5, .int x11), (0, .ref (ad 0)), (1, .int a1), (2, .int a2), (3, .int x6), (4, .int x7)]) hx hb dX3_playOut_53 hl (by decide) rfl (fun ls hl => ?_)
        refine lv_iload hx hb dX3_playOut_55 (lv_at hl 0 rfl) ?_
        refine lv_iconst (v := (-1)) hx hb dX3_playOut_57 (by decide) ?_
        refine lv_icmp_ne (tgt := 64) hx hb dX3_playOut_58 (by decide) (fun c58 => ?_) (fun c58 => ?_)
        · have h := k_nf c58 h
          refine lv_iload hx hb dX3_playOut_64 (lv_at hl 5 rfl) ?_
          refine lv_if_ne (tgt := 72) hx hb dX3_playOut_66 (by decide) (fun c66 => ?_) (fun c66 => ?_)
          · have h := k_nf c66 h
            refine lv_aload_n hx hb dX3_playOut_72 rfl (lv_at hl 1 rfl) ?_
            refine r_get C hP (ci := 3) rfl uin_X3 1 (by decide) 0 (by decide) rfl qFL_RX3_16 rfl rfl dX3_playOut_73 ?_
            refine lv_iload hx hb dX3_playOut_76 (lv_at hl 0 rfl) ?_
            obtain ⟨σ12, h1, h⟩ := k_ob h
            refine k_callVv C hP hap hAA (c_X0_make l ev (fun j => ad (j + 2)) (x_thought σ10) x11   _ h1) (em_G2) (apart_1 _) gz_X0_make qML_RX3_311 qIM_yX0_make qSE_yX0_make ⟨(Nat.le_of_ble_eq_true rfl), (Nat.le_of_ble_eq_true rfl)⟩ (q0 := 2) rfl (by decide) rfl rfl rfl rfl hl.1 rfl (Nat.le_of_ble_eq_true rfl) dX3_playOut_78 ⟨Nat.le_refl _, Nat.le_refl _⟩ (fun H locs hP => ?_)
            obtain ⟨σ13, eσ13, h⟩ := k_ltx h
            rw [← eσ13] at hP
            obtain ⟨x14, ex14, h⟩ := k_ltx h
            refine lv_iinc (v := x14) (lv' := [(4, .int x14), (5, .int x11), (0, .ref (ad 0)), (1, .int a1), (2, .int a2), (3, .int x6)]) hx hb dX3_playOut_81 hl (k := 5) rfl (by rw [ex14]; rfl) (by decide) rfl (fun ls hl => ?_)
            refine lv_goto (tgt := 16) hx hb dX3_playOut_84 (by decide) ?_
            exact ih _ _ _ _ _ _ h hP (lv_sub hl [2, 3, 4, 5, 0] rfl)
          · have h := k_if c66 h
            refine lv_iload hx hb dX3_playOut_69 (lv_at hl 0 rfl) ?_
            refine lv_istore_n (lv' := [(3, .int x11), (5, .int x11), (0, .ref (ad 0)), (1, .int a1), (2, .int a2), (4, .int x7)]) hx hb dX3_playOut_71 rfl hl (by decide) rfl (fun ls hl => ?_)
            refine lv_aload_n hx hb dX3_playOut_72 rfl (lv_at hl 2 rfl) ?_
            refine r_get C hP (ci := 3) rfl uin_X3 1 (by decide) 0 (by decide) rfl qFL_RX3_16 rfl rfl dX3_playOut_73 ?_
            refine lv_iload hx hb dX3_playOut_76 (lv_at hl 1 rfl) ?_
            obtain ⟨σ15, h1, h⟩ := k_ob h
            refine k_callVv C hP hap hAA (c_X0_make l ev (fun j => ad (j + 2)) (x_thought σ10) x11   _ h1) (em_G2) (apart_1 _) gz_X0_make qML_RX3_311 qIM_yX0_make qSE_yX0_make ⟨(Nat.le_of_ble_eq_true rfl), (Nat.le_of_ble_eq_true rfl)⟩ (q0 := 2) rfl (by decide) rfl rfl rfl rfl hl.1 rfl (Nat.le_of_ble_eq_true rfl) dX3_playOut_78 ⟨Nat.le_refl _, Nat.le_refl _⟩ (fun H locs hP => ?_)
            obtain ⟨σ16, eσ16, h⟩ := k_ltx h
            rw [← eσ16] at hP
            obtain ⟨x17, ex17, h⟩ := k_ltx h
            refine lv_iinc (v := x17) (lv' := [(4, .int x17), (3, .int x11), (5, .int x11), (0, .ref (ad 0)), (1, .int a1), (2, .int a2)]) hx hb dX3_playOut_81 hl (k := 5) rfl (by rw [ex17]; rfl) (by decide) rfl (fun ls hl => ?_)
            refine lv_goto (tgt := 16) hx hb dX3_playOut_84 (by decide) ?_
            exact ih _ _ _ _ _ _ h hP (lv_sub hl [3, 4, 5, 1, 0] rfl)
        · have h := k_if c58 h
          refine lv_goto (tgt := 87) hx hb dX3_playOut_61 (by decide) ?_
          refine lv_iload_n hx hb dX3_playOut_87 rfl (lv_at hl 4 rfl) ?_
          exact e_iret C hend hP (k_some2 h).1 (congrArg (xw ev ad) (k_some2 h).2) dX3_playOut_88
      refine lv_iload hx hb dX3_playOut_16 (lv_at hl 4 rfl) ?_
      refine lv_bipush (v := 56) hx hb dX3_playOut_18 (by decide) ?_
      refine lv_icmp_ge (tgt := 87) hx hb dX3_playOut_20 (by decide) (fun c20 => ?_) (fun c20 => ?_)
      · have h := k_if c20 h
        refine lv_iload_n hx hb dX3_playOut_87 rfl (lv_at hl 3 rfl) ?_
        exact e_iret C hend hP (k_some2 h).1 (congrArg (xw ev ad) (k_some2 h).2) dX3_playOut_88
      · have h := k_nf c20 h
        refine lv_aload_n hx hb dX3_playOut_23 rfl (lv_at hl 0 rfl) ?_
        refine lv_aload_n hx hb dX3_playOut_24 rfl (lv_at hl 0 rfl) ?_
        refine r_get C hP (ci := 3) rfl uin_X3 1 (by decide) 0 (by decide) rfl qFL_RX3_16 rfl rfl dX3_playOut_25 ?_
        refine lv_aload_n hx hb dX3_playOut_28 rfl (lv_at hl 0 rfl) ?_
        refine r_get C hP (ci := 3) rfl uin_X3 1 (by decide) 0 (by decide) rfl qFL_RX3_16 rfl rfl dX3_playOut_29 ?_
        refine r_get C hP (ci := 0) rfl uin_X0 13 (by decide) 2 (by decide) rfl qFL_RX3_156 rfl rfl dX3_playOut_32 ?_
        refine lv_aload_n hx hb dX3_playOut_35 rfl (lv_at hl 0 rfl) ?_
        refine r_get C hP (ci := 3) rfl uin_X3 0 (by decide) 0 (by decide) rfl qFL_RX3_10 rfl rfl dX3_playOut_36 ?_
        refine r_get C hP (ci := 0) rfl uin_X0 13 (by decide) 1 (by decide) rfl qFL_RX3_156 rfl rfl dX3_playOut_39 ?_
        refine lv_icmp_ne (tgt := 49) hx hb dX3_playOut_42 (by decide) (fun c42 => ?_) (fun c42 => ?_)
        · have h := k_nf c42 h
          refine lv_iload_n hx hb dX3_playOut_49 rfl (lv_at hl 2 rfl) ?_
          exact hB50 _ _ _ _ _ _ _ h hP (lv_sub hl [0, 1, 2, 3, 4] rfl)
        · have h := k_if c42 h
          refine lv_iload_n hx hb dX3_playOut_45 rfl (lv_at hl 1 rfl) ?_
          refine lv_goto (tgt := 50) hx hb dX3_playOut_46 (by decide) ?_
          exact hB50 _ _ _ _ _ _ _ h hP (lv_sub hl [0, 1, 2, 3, 4] rfl)
  exact hL16 FU _ _ _ _ _ _ h hP (lv_sub hl [2, 3, 4, 1, 0] rfl)
