/-! functions read off, and their contracts: by program (wip/whole/gen2.py) -/
def f_X3_status (σ : XX) (a1 : Int32) : Option (Int32) :=
  if a1 = 0 then some (g_width (x_now σ)) else if a1 = 1 then some (g_height (x_now σ)) else if a1 = 2 then some (f_J13_bitCount_95d88 (g_hedges (x_now σ))) else if a1 = 3 then some (f_J6_bitCount_0f7a4 (g_dug (x_now σ))) else if a1 = 4 then some (f_J6_bitCount_0f7a4 (f_X0_shutFields (x_now σ))) else if a1 = 5 then some (g_turn (x_now σ)) else if a1 = 6 then some (g_made (x_now σ)) else if a1 = 7 then some (x_crew σ) else if a1 = 8 then some (t_length (x_tape σ)) else if a1 = 9 then some (g_seed (x_now σ)) else if a1 = 10 then ob (f_X3_fullShelves σ) (fun x1 => some x1) else if a1 = 11 then some (g_edges (x_now σ)) else ob (f_X3_refusalCount σ a1) (fun x2 => some x2)
set_option maxHeartbeats 4000000 in
set_option maxRecDepth 100000 in
theorem c_X3_status (l : Launch) (ev : EV) (ad : Nat → Nat) (σ : XX) (a1 : Int32)   (r : Int32)  (h : f_X3_status σ a1 = some r) : Ct l yX3_status prog_1_method_59_code 2 (Option.some Jvm.ClassFile.FieldType.int) (rmk 3 65) ev 26 ad (xw ev ad σ) (xw ev ad σ) [.ref (ad 0), .int a1] (some (.int r)) := by
  refine Ct.of (by decide +kernel) (Nat.le_of_ble_eq_true rfl) ?_
  intro p e s m args below meth c Qc C hap hP hend ls hl
  have hAA : ∀ j, j < 26 → inA ad 26 (ad j) := fun j hj => ⟨j, hj, rfl⟩
  have hx := C.1
  have hb := C.2.1
  have hl : lv_has ls 2 [(0, .ref (ad 0)), (1, .int a1)] := hl
  have h := (f_X3_status.eq_1 _ _ ).symm.trans h
  refine lv_iload_n hx hb dX3_status_0 rfl (lv_at hl 1 rfl) ?_
  by_cases cs0 : a1 = 0
  · have h := k_if cs0 h
    refine r_tabIn (tgt := 64) (off := 63) (i := 0) hx hb dX3_status_1 cs0 (by decide) (by decide) (by decide) (by decide) ?_
    refine lv_aload_n hx hb dX3_status_64 rfl (lv_at hl 0 rfl) ?_
    refine r_get C hP (ci := 3) rfl uin_X3 0 (by decide) 0 (by decide) rfl qFL_RX3_10 rfl rfl dX3_status_65 ?_
    refine r_get C hP (ci := 0) rfl uin_X0 0 (by decide) 1 (by decide) rfl qFL_RX3_361 rfl rfl dX3_status_68 ?_
    exact e_iret C hend hP (k_some h) rfl dX3_status_71
  · have h := k_nf cs0 h
    by_cases cs1 : a1 = 1
    · have h := k_if cs1 h
      refine r_tabIn (tgt := 72) (off := 71) (i := 1) hx hb dX3_status_1 cs1 (by decide) (by decide) (by decide) (by decide) ?_
      refine lv_aload_n hx hb dX3_status_72 rfl (lv_at hl 0 rfl) ?_
      refine r_get C hP (ci := 3) rfl uin_X3 0 (by decide) 0 (by decide) rfl qFL_RX3_10 rfl rfl dX3_status_73 ?_
      refine r_get C hP (ci := 0) rfl uin_X0 1 (by decide) 1 (by decide) rfl qFL_RX3_364 rfl rfl dX3_status_76 ?_
      exact e_iret C hend hP (k_some h) rfl dX3_status_79
    · have h := k_nf cs1 h
      by_cases cs2 : a1 = 2
      · have h := k_if cs2 h
        refine r_tabIn (tgt := 80) (off := 79) (i := 2) hx hb dX3_status_1 cs2 (by decide) (by decide) (by decide) (by decide) ?_
        refine lv_aload_n hx hb dX3_status_80 rfl (lv_at hl 0 rfl) ?_
        refine r_get C hP (ci := 3) rfl uin_X3 0 (by decide) 0 (by decide) rfl qFL_RX3_10 rfl rfl dX3_status_81 ?_
        refine r_get C hP (ci := 0) rfl uin_X0 9 (by decide) 1 (by decide) rfl qFL_RX3_185 rfl rfl dX3_status_84 ?_
        refine k_callSi C hP hap hAA (c_J13_bitCount_95d88 l ev ad (g_hedges (x_now σ))   _ rfl) Emb.none (apart_0 _) gz_J13_bitCount_95d88 qML_RX3_131 qSM_yJ13_bitCount_95d88 ⟨(Nat.le_of_ble_eq_true rfl), (Nat.le_of_ble_eq_true rfl)⟩ rfl hl.1 rfl (Nat.le_of_ble_eq_true rfl) dX3_status_87 ⟨Nat.le_refl _, Nat.le_refl _⟩ (fun H locs hP => ?_)
        exact e_iret C hend hP (k_some h) rfl dX3_status_90
      · have h := k_nf cs2 h
        by_cases cs3 : a1 = 3
        · have h := k_if cs3 h
          refine r_tabIn (tgt := 91) (off := 90) (i := 3) hx hb dX3_status_1 cs3 (by decide) (by decide) (by decide) (by decide) ?_
          refine lv_aload_n hx hb dX3_status_91 rfl (lv_at hl 0 rfl) ?_
          refine r_get C hP (ci := 3) rfl uin_X3 0 (by decide) 0 (by decide) rfl qFL_RX3_10 rfl rfl dX3_status_92 ?_
          refine r_get C hP (ci := 0) rfl uin_X0 10 (by decide) 1 (by decide) rfl qFL_RX3_189 rfl rfl dX3_status_95 ?_
          refine k_callSi C hP hap hAA (c_J6_bitCount_0f7a4 l ev ad (g_dug (x_now σ))   _ rfl) Emb.none (apart_0 _) gz_J6_bitCount_0f7a4 qML_RX3_286 qSM_yJ6_bitCount_0f7a4 ⟨(Nat.le_of_ble_eq_true rfl), (Nat.le_of_ble_eq_true rfl)⟩ rfl hl.1 rfl (Nat.le_of_ble_eq_true rfl) dX3_status_98 ⟨Nat.le_refl _, Nat.le_refl _⟩ (fun H locs hP => ?_)
          exact e_iret C hend hP (k_some h) rfl dX3_status_101
        · have h := k_nf cs3 h
          by_cases cs4 : a1 = 4
          · have h := k_if cs4 h
            refine r_tabIn (tgt := 102) (off := 101) (i := 4) hx hb dX3_status_1 cs4 (by decide) (by decide) (by decide) (by decide) ?_
            refine lv_aload_n hx hb dX3_status_102 rfl (lv_at hl 0 rfl) ?_
            refine r_get C hP (ci := 3) rfl uin_X3 0 (by decide) 0 (by decide) rfl qFL_RX3_10 rfl rfl dX3_status_103 ?_
            refine k_callVi C hP hap hAA (c_X0_shutFields l ev (fun j => ad (j + 1)) (x_now σ)   _ rfl) (em_G1r) (apart_1 _) gz_X0_shutFields qML_RX3_283 qIM_yX0_shutFields qSE_yX0_shutFields ⟨(Nat.le_of_ble_eq_true rfl), (Nat.le_of_ble_eq_true rfl)⟩ (q0 := 1) rfl (by decide) rfl rfl rfl rfl hl.1 rfl (Nat.le_of_ble_eq_true rfl) dX3_status_106 ⟨Nat.le_refl _, Nat.le_refl _⟩ (fun H locs hP => ?_)
            refine k_callSi C hP hap hAA (c_J6_bitCount_0f7a4 l ev ad (f_X0_shutFields (x_now σ))   _ rfl) Emb.none (apart_0 _) gz_J6_bitCount_0f7a4 qML_RX3_286 qSM_yJ6_bitCount_0f7a4 ⟨(Nat.le_of_ble_eq_true rfl), (Nat.le_of_ble_eq_true rfl)⟩ rfl hl.1 rfl (Nat.le_of_ble_eq_true rfl) dX3_status_109 ⟨Nat.le_refl _, Nat.le_refl _⟩ (fun H locs hP => ?_)
            exact e_iret C hend hP (k_some h) rfl dX3_status_112
          · have h := k_nf cs4 h
            by_cases cs5 : a1 = 5
            · have h := k_if cs5 h
              refine r_tabIn (tgt := 113) (off := 112) (i := 5) hx hb dX3_status_1 cs5 (by decide) (by decide) (by decide) (by decide) ?_
              refine lv_aload_n hx hb dX3_status_113 rfl (lv_at hl 0 rfl) ?_
              refine r_get C hP (ci := 3) rfl uin_X3 0 (by decide) 0 (by decide) rfl qFL_RX3_10 rfl rfl dX3_status_114 ?_
              refine r_get C hP (ci := 0) rfl uin_X0 13 (by decide) 1 (by decide) rfl qFL_RX3_156 rfl rfl dX3_status_117 ?_
              exact e_iret C hend hP (k_some h) rfl dX3_status_120
            · have h := k_nf cs5 h
              by_cases cs6 : a1 = 6
              · have h := k_if cs6 h
                refine r_tabIn (tgt := 121) (off := 120) (i := 6) hx hb dX3_status_1 cs6 (by decide) (by decide) (by decide) (by decide) ?_
                refine lv_aload_n hx hb dX3_status_121 rfl (lv_at hl 0 rfl) ?_
                refine r_get C hP (ci := 3) rfl uin_X3 0 (by decide) 0 (by decide) rfl qFL_RX3_10 rfl rfl dX3_status_122 ?_
                refine r_get C hP (ci := 0) rfl uin_X0 14 (by decide) 1 (by decide) rfl qFL_RX3_325 rfl rfl dX3_status_125 ?_
                exact e_iret C hend hP (k_some h) rfl dX3_status_128
              · have h := k_nf cs6 h
                by_cases cs7 : a1 = 7
                · have h := k_if cs7 h
                  refine r_tabIn (tgt := 129) (off := 128) (i := 7) hx hb dX3_status_1 cs7 (by decide) (by decide) (by decide) (by decide) ?_
                  refine lv_aload_n hx hb dX3_status_129 rfl (lv_at hl 0 rfl) ?_
                  refine r_get C hP (ci := 3) rfl uin_X3 6 (by decide) 0 (by decide) rfl qFL_RX3_33 rfl rfl dX3_status_130 ?_
                  exact e_iret C hend hP (k_some h) rfl dX3_status_133
                · have h := k_nf cs7 h
                  by_cases cs8 : a1 = 8
                  · have h := k_if cs8 h
                    refine r_tabIn (tgt := 134) (off := 133) (i := 8) hx hb dX3_status_1 cs8 (by decide) (by decide) (by decide) (by decide) ?_
                    refine lv_aload_n hx hb dX3_status_134 rfl (lv_at hl 0 rfl) ?_
                    refine r_get C hP (ci := 3) rfl uin_X3 9 (by decide) 0 (by decide) rfl qFL_RX3_48 rfl rfl dX3_status_135 ?_
                    refine r_get C hP (ci := 2) rfl uin_X2 1 (by decide) 8 (by decide) rfl qFL_RX3_159 rfl rfl dX3_status_138 ?_
                    exact e_iret C hend hP (k_some h) rfl dX3_status_141
                  · have h := k_nf cs8 h
                    by_cases cs9 : a1 = 9
                    · have h := k_if cs9 h
                      refine r_tabIn (tgt := 142) (off := 141) (i := 9) hx hb dX3_status_1 cs9 (by decide) (by decide) (by decide) (by decide) ?_
                      refine lv_aload_n hx hb dX3_status_142 rfl (lv_at hl 0 rfl) ?_
                      refine r_get C hP (ci := 3) rfl uin_X3 0 (by decide) 0 (by decide) rfl qFL_RX3_10 rfl rfl dX3_status_143 ?_
                      refine r_get C hP (ci := 0) rfl uin_X0 15 (by decide) 1 (by decide) rfl qFL_RX3_354 rfl rfl dX3_status_146 ?_
                      exact e_iret C hend hP (k_some h) rfl dX3_status_149
                    · have h := k_nf cs9 h
                      by_cases cs10 : a1 = 10
                      · have h := k_if cs10 h
                        refine r_tabIn (tgt := 150) (off := 149) (i := 10) hx hb dX3_status_1 cs10 (by decide) (by decide) (by decide) (by decide) ?_
                        refine lv_aload_n hx hb dX3_status_150 rfl (lv_at hl 0 rfl) ?_
                        obtain ⟨x1, h1, h⟩ := k_ob h
                        refine k_callVi C hP hap hAA (c_X3_fullShelves l ev ad σ   _ h1) Emb.same hap gz_X3_fullShelves qML_RX3_367 qIM_yX3_fullShelves qSE_yX3_fullShelves ⟨(Nat.le_of_ble_eq_true rfl), (Nat.le_of_ble_eq_true rfl)⟩ (q0 := 0) rfl (by decide) rfl rfl rfl rfl hl.1 rfl (Nat.le_of_ble_eq_true rfl) dX3_status_151 ⟨Nat.le_refl _, Nat.le_refl _⟩ (fun H locs hP => ?_)
                        exact e_iret C hend hP (k_some h) rfl dX3_status_154
                      · have h := k_nf cs10 h
                        by_cases cs11 : a1 = 11
                        · have h := k_if cs11 h
                          refine r_tabIn (tgt := 155) (off := 154) (i := 11) hx hb dX3_status_1 cs11 (by decide) (by decide) (by decide) (by decide) ?_
                          refine lv_aload_n hx hb dX3_status_155 rfl (lv_at hl 0 rfl) ?_
                          refine r_get C hP (ci := 3) rfl uin_X3 0 (by decide) 0 (by decide) rfl qFL_RX3_10 rfl rfl dX3_status_156 ?_
                          refine r_get C hP (ci := 0) rfl uin_X0 3 (by decide) 1 (by decide) rfl qFL_RX3_146 rfl rfl dX3_status_159 ?_
                          exact e_iret C hend hP (k_some h) rfl dX3_status_162
                        · have h := k_nf cs11 h
                          refine r_tabOut (tgt := 163) hx hb dX3_status_1 (fun i h1 h2 => by
                            have h3 : i = 0 ∨ i = 1 ∨ i = 2 ∨ i = 3 ∨ i = 4 ∨ i = 5 ∨ i = 6 ∨ i = 7 ∨ i = 8 ∨ i = 9 ∨ i = 10 ∨ i = 11 := by omega
                            rcases h3 with rfl | rfl | rfl | rfl | rfl | rfl | rfl | rfl | rfl | rfl | rfl | rfl
                            · exact cs0
                            · exact cs1
                            · exact cs2
                            · exact cs3
                            · exact cs4
                            · exact cs5
                            · exact cs6
                            · exact cs7
                            · exact cs8
                            · exact cs9
                            · exact cs10
                            · exact cs11
                            ) (by decide) ?_
                          refine lv_aload_n hx hb dX3_status_163 rfl (lv_at hl 0 rfl) ?_
                          refine lv_iload_n hx hb dX3_status_164 rfl (lv_at hl 1 rfl) ?_
                          obtain ⟨x2, h1, h⟩ := k_ob h
                          refine k_callVi C hP hap hAA (c_X3_refusalCount l ev ad σ a1   _ h1) Emb.same hap gz_X3_refusalCount qML_RX3_370 qIM_yX3_refusalCount qSE_yX3_refusalCount ⟨(Nat.le_of_ble_eq_true rfl), (Nat.le_of_ble_eq_true rfl)⟩ (q0 := 0) rfl (by decide) rfl rfl rfl rfl hl.1 rfl (Nat.le_of_ble_eq_true rfl) dX3_status_165 ⟨Nat.le_refl _, Nat.le_refl _⟩ (fun H locs hP => ?_)
                          exact e_iret C hend hP (k_some h) rfl dX3_status_168
def f_X4_no (σ : MM) (a1 : Int32) : Option (Int32 × MM) :=
  lt (-a1) (fun x1 => gd (inb x1 7) (gd (inb x1 7) (lt (m_refusals' σ (upd (m_refusals σ) (Int32.toNatClampNeg x1) (((m_refusals σ) (Int32.toNatClampNeg x1)) + 1))) (fun σ2 => some (a1, σ2)))))
set_option maxHeartbeats 4000000 in
set_option maxRecDepth 100000 in
theorem c_X4_no (l : Launch) (ev : EV) (ad : Nat → Nat) (σ : MM) (a1 : Int32)   (r : Int32) (σ' : MM) (h : f_X4_no σ a1 = some (r, σ')) : Ct l yX4_no prog_6_method_2_code 2 (Option.some Jvm.ClassFile.FieldType.int) (rmk 0 0) ev 13 ad (mw ev ad σ) (mw ev ad σ') [.ref (ad 0), .int a1] (some (.int r)) := by
  refine Ct.of (by decide +kernel) (Nat.le_of_ble_eq_true rfl) ?_
  intro p e s m args below meth c Qc C hap hP hend ls hl
  have hAA : ∀ j, j < 13 → inA ad 13 (ad j) := fun j hj => ⟨j, hj, rfl⟩
  have hx := C.1
  have hb := C.2.1
  have hl : lv_has ls 2 [(0, .ref (ad 0)), (1, .int a1)] := hl
  have h := (f_X4_no.eq_1 _ _ ).symm.trans h
  refine lv_aload_n hx hb dX4_no_0 rfl (lv_at hl 0 rfl) ?_
  refine r_get C hP (ci := 4) rfl uin_X4 20 (by decide) 0 (by decide) rfl qFL_RX4_39 rfl rfl dX4_no_1 ?_
  refine lv_iload_n hx hb dX4_no_4 rfl (lv_at hl 1 rfl) ?_
  refine lv_ineg hx hb dX4_no_5 ?_
  refine lv_topi (fun x1 ex1 => ?_)
  have h := k_lt ex1 h
  refine lv_dup2_11 hx hb dX4_no_6 rfl rfl ?_
  obtain ⟨hg, h⟩ := k_gd h
  refine r_iald C hP 10 (by decide) rfl hg dX4_no_7 ?_
  refine lv_iconst (v := 1) hx hb dX4_no_8 (by decide) ?_
  refine lv_iadd hx hb dX4_no_9 ?_
  obtain ⟨hg, h⟩ := k_gd h
  obtain ⟨σ2, eσ2, h⟩ := k_ltx h
  refine st_M_refusals C hP hap hAA eσ2 hg dX4_no_10 (fun H locs hP => ?_)
  refine lv_iload_n hx hb dX4_no_11 rfl (lv_at hl 1 rfl) ?_
  exact e_iret C hend hP (k_some2 h).1 (congrArg (mw ev ad) (k_some2 h).2) dX4_no_12
def f_X4_noLead (σ : MM) (a1 : Int32) : Option (Int32 × MM) :=
  ob2 (f_X4_no σ a1) (fun x2 σ1 => some ((x2 - 1000), σ1))
set_option maxHeartbeats 4000000 in
set_option maxRecDepth 100000 in
theorem c_X4_noLead (l : Launch) (ev : EV) (ad : Nat → Nat) (σ : MM) (a1 : Int32)   (r : Int32) (σ' : MM) (h : f_X4_noLead σ a1 = some (r, σ')) : Ct l yX4_noLead prog_6_method_3_code 2 (Option.some Jvm.ClassFile.FieldType.int) (rmk 1 21) ev 13 ad (mw ev ad σ) (mw ev ad σ') [.ref (ad 0), .int a1] (some (.int r)) := by
  refine Ct.of (by decide +kernel) (Nat.le_of_ble_eq_true rfl) ?_
  intro p e s m args below meth c Qc C hap hP hend ls hl
  have hAA : ∀ j, j < 13 → inA ad 13 (ad j) := fun j hj => ⟨j, hj, rfl⟩
  have hx := C.1
  have hb := C.2.1
  have hl : lv_has ls 2 [(0, .ref (ad 0)), (1, .int a1)] := hl
  have h := (f_X4_noLead.eq_1 _ _ ).symm.trans h
  refine lv_aload_n hx hb dX4_noLead_0 rfl (lv_at hl 0 rfl) ?_
  refine lv_iload_n hx hb dX4_noLead_1 rfl (lv_at hl 1 rfl) ?_
  obtain ⟨x2, σ1, h1, h⟩ := k_ob2 h
  refine k_callVi C hP hap hAA (c_X4_no l ev ad σ a1   _ _ h1) Emb.same hap gz_X4_no qML_RX4_56 qIM_yX4_no qSE_yX4_no ⟨(Nat.le_of_ble_eq_true rfl), (Nat.le_of_ble_eq_true rfl)⟩ (q0 := 0) rfl (by decide) rfl rfl rfl rfl hl.1 rfl (Nat.le_of_ble_eq_true rfl) dX4_noLead_2 ⟨Nat.le_refl _, Nat.le_refl _⟩ (fun H locs hP => ?_)
  refine lv_sipush (v := 1000) hx hb dX4_noLead_5 (by decide) ?_
  refine lv_isub hx hb dX4_noLead_8 ?_
  exact e_iret C hend hP (k_some2 h).1 (congrArg (mw ev ad) (k_some2 h).2) dX4_noLead_9
def f_X4_within (a1 : Int32) (a2 : Int32) (a3 : Int32) : Bool :=
  if a1 < a2 then false else if a3 < a1 then false else true
set_option maxHeartbeats 4000000 in
set_option maxRecDepth 100000 in
theorem c_X4_within (l : Launch) (ev : EV) (ad : Nat → Nat) (a1 : Int32) (a2 : Int32) (a3 : Int32)   (r : Bool)  (h : f_X4_within a1 a2 a3 = r) : Ct l yX4_within prog_6_method_4_code 3 (Option.some Jvm.ClassFile.FieldType.boolean) (rmk 0 0) ev 0 ad w00 w00 [.int a1, .int a2, .int a3] (some (.int (bi r))) := by
  refine Ct.of (by decide +kernel) (Nat.le_of_ble_eq_true rfl) ?_
  intro p e s m args below meth c Qc C hap hP hend ls hl
  have hAA : ∀ j, j < 0 → inA ad 0 (ad j) := fun j hj => ⟨j, hj, rfl⟩
  have hx := C.1
  have hb := C.2.1
  have hl : lv_has ls 3 [(0, .int a1), (1, .int a2), (2, .int a3)] := hl
  have h := (f_X4_within.eq_1 _ _ _ ).symm.trans h
  refine lv_iload_n hx hb dX4_within_0 rfl (lv_at hl 0 rfl) ?_
  refine lv_iload_n hx hb dX4_within_1 rfl (lv_at hl 1 rfl) ?_
  refine lv_icmp_lt (tgt := 14) hx hb dX4_within_2 (by decide) (fun c2 => ?_) (fun c2 => ?_)
  · have h := k_if c2 h
    refine lv_iconst (v := 0) hx hb dX4_within_14 (by decide) ?_
    exact e_zret C hend hP h rfl dX4_within_15 rfl
  · have h := k_nf c2 h
    refine lv_iload_n hx hb dX4_within_5 rfl (lv_at hl 0 rfl) ?_
    refine lv_iload_n hx hb dX4_within_6 rfl (lv_at hl 2 rfl) ?_
    refine lv_icmp_gt (tgt := 14) hx hb dX4_within_7 (by decide) (fun c7 => ?_) (fun c7 => ?_)
    · have h := k_if c7 h
      refine lv_iconst (v := 0) hx hb dX4_within_14 (by decide) ?_
      exact e_zret C hend hP h rfl dX4_within_15 rfl
    · have h := k_nf c7 h
      refine lv_iconst (v := 1) hx hb dX4_within_10 (by decide) ?_
      refine lv_goto (tgt := 15) hx hb dX4_within_11 (by decide) ?_
      exact e_zret C hend hP h rfl dX4_within_15 rfl
def f_X4_isPlayer (σ : MM) (a1 : Int32) : Bool :=
  (f_X4_within a1 0 ((m_players σ) - 1))
set_option maxHeartbeats 4000000 in
set_option maxRecDepth 100000 in
theorem c_X4_isPlayer (l : Launch) (ev : EV) (ad : Nat → Nat) (σ : MM) (a1 : Int32)   (r : Bool)  (h : f_X4_isPlayer σ a1 = r) : Ct l yX4_isPlayer prog_6_method_5_code 2 (Option.some Jvm.ClassFile.FieldType.boolean) (rmk 1 22) ev 13 ad (mw ev ad σ) (mw ev ad σ) [.ref (ad 0), .int a1] (some (.int (bi r))) := by
  refine Ct.of (by decide +kernel) (Nat.le_of_ble_eq_true rfl) ?_
  intro p e s m args below meth c Qc C hap hP hend ls hl
  have hAA : ∀ j, j < 13 → inA ad 13 (ad j) := fun j hj => ⟨j, hj, rfl⟩
  have hx := C.1
  have hb := C.2.1
  have hl : lv_has ls 2 [(0, .ref (ad 0)), (1, .int a1)] := hl
  have h := (f_X4_isPlayer.eq_1 _ _ ).symm.trans h
  refine lv_iload_n hx hb dX4_isPlayer_0 rfl (lv_at hl 1 rfl) ?_
  refine lv_iconst (v := 0) hx hb dX4_isPlayer_1 (by decide) ?_
  refine lv_aload_n hx hb dX4_isPlayer_2 rfl (lv_at hl 0 rfl) ?_
  refine r_get C hP (ci := 4) rfl uin_X4 7 (by decide) 0 (by decide) rfl qFL_RX4_60 rfl rfl dX4_isPlayer_3 ?_
  refine lv_iconst (v := 1) hx hb dX4_isPlayer_6 (by decide) ?_
  refine lv_isub hx hb dX4_isPlayer_7 ?_
  refine k_callSi C hP hap hAA (c_X4_within l ev ad a1 0 ((m_players σ) - 1)   _ rfl) Emb.none (apart_0 _) gz_X4_within qML_RX4_63 qSM_yX4_within ⟨(Nat.le_of_ble_eq_true rfl), (Nat.le_of_ble_eq_true rfl)⟩ rfl hl.1 rfl (Nat.le_of_ble_eq_true rfl) dX4_isPlayer_8 ⟨Nat.le_refl _, Nat.le_refl _⟩ (fun H locs hP => ?_)
  exact e_zret C hend hP h rfl dX4_isPlayer_11 rfl
def f_X4_isField (σ : MM) (a1 : Int32) : Bool :=
  (f_X4_within a1 0 (((m_w σ) * (m_h σ)) - 1))
set_option maxHeartbeats 4000000 in
set_option maxRecDepth 100000 in
theorem c_X4_isField (l : Launch) (ev : EV) (ad : Nat → Nat) (σ : MM) (a1 : Int32)   (r : Bool)  (h : f_X4_isField σ a1 = r) : Ct l yX4_isField prog_6_method_6_code 2 (Option.some Jvm.ClassFile.FieldType.boolean) (rmk 1 22) ev 13 ad (mw ev ad σ) (mw ev ad σ) [.ref (ad 0), .int a1] (some (.int (bi r))) := by
  refine Ct.of (by decide +kernel) (Nat.le_of_ble_eq_true rfl) ?_
  intro p e s m args below meth c Qc C hap hP hend ls hl
  have hAA : ∀ j, j < 13 → inA ad 13 (ad j) := fun j hj => ⟨j, hj, rfl⟩
  have hx := C.1
  have hb := C.2.1
  have hl : lv_has ls 2 [(0, .ref (ad 0)), (1, .int a1)] := hl
  have h := (f_X4_isField.eq_1 _ _ ).symm.trans h
  refine lv_iload_n hx hb dX4_isField_0 rfl (lv_at hl 1 rfl) ?_
  refine lv_iconst (v := 0) hx hb dX4_isField_1 (by decide) ?_
  refine lv_aload_n hx hb dX4_isField_2 rfl (lv_at hl 0 rfl) ?_
  refine r_get C hP (ci := 4) rfl uin_X4 0 (by decide) 0 (by decide) rfl qFL_RX4_67 rfl rfl dX4_isField_3 ?_
  refine lv_aload_n hx hb dX4_isField_6 rfl (lv_at hl 0 rfl) ?_
  refine r_get C hP (ci := 4) rfl uin_X4 1 (by decide) 0 (by decide) rfl qFL_RX4_70 rfl rfl dX4_isField_7 ?_
  refine lv_imul hx hb dX4_isField_10 ?_
  refine lv_iconst (v := 1) hx hb dX4_isField_11 (by decide) ?_
  refine lv_isub hx hb dX4_isField_12 ?_
  refine k_callSi C hP hap hAA (c_X4_within l ev ad a1 0 (((m_w σ) * (m_h σ)) - 1)   _ rfl) Emb.none (apart_0 _) gz_X4_within qML_RX4_63 qSM_yX4_within ⟨(Nat.le_of_ble_eq_true rfl), (Nat.le_of_ble_eq_true rfl)⟩ rfl hl.1 rfl (Nat.le_of_ble_eq_true rfl) dX4_isField_13 ⟨Nat.le_refl _, Nat.le_refl _⟩ (fun H locs hP => ?_)
  exact e_zret C hend hP h rfl dX4_isField_16 rfl
