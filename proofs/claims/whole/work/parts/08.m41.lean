/-! functions read off, and their contracts: by program (wip/whole/gen2.py) -/
def f_X4_newPlayer (σ : MM) (a1 : Int32) (a2 : Int32) : Option (Int32 × MM) :=
  gd (inb (m_players σ) 6) (lt (m_kind' σ (upd (m_kind σ) (Int32.toNatClampNeg (m_players σ)) a1)) (fun σ1 => gd (inb (m_players σ1) 6) (lt (m_own' σ1 (upd (m_own σ1) (Int32.toNatClampNeg (m_players σ1)) a2)) (fun σ2 => lt (m_players σ2) (fun x3 => lt (m_players' σ2 (x3 + 1)) (fun σ4 => some (x3, σ4)))))))
set_option maxHeartbeats 4000000 in
set_option maxRecDepth 100000 in
theorem c_X4_newPlayer (l : Launch) (ev : EV) (ad : Nat → Nat) (σ : MM) (a1 : Int32) (a2 : Int32)   (r : Int32) (σ' : MM) (h : f_X4_newPlayer σ a1 a2 = some (r, σ')) : Ct l yX4_newPlayer prog_6_method_23_code 3 (Option.some Jvm.ClassFile.FieldType.int) (rmk 0 0) ev 13 ad (mw ev ad σ) (mw ev ad σ') [.ref (ad 0), .int a1, .int a2] (some (.int r)) := by
  refine Ct.of (by decide +kernel) (Nat.le_of_ble_eq_true rfl) ?_
  intro p e s m args below meth c Qc C hap hP hend ls hl
  have hAA : ∀ j, j < 13 → inA ad 13 (ad j) := fun j hj => ⟨j, hj, rfl⟩
  have hx := C.1
  have hb := C.2.1
  have hl : lv_has ls 3 [(0, .ref (ad 0)), (1, .int a1), (2, .int a2)] := hl
  have h := (f_X4_newPlayer.eq_1 _ _ _ ).symm.trans h
  refine lv_aload_n hx hb dX4_newPlayer_0 rfl (lv_at hl 0 rfl) ?_
  refine r_get C hP (ci := 4) rfl uin_X4 8 (by decide) 0 (by decide) rfl qFL_RX4_20 rfl rfl dX4_newPlayer_1 ?_
  refine lv_aload_n hx hb dX4_newPlayer_4 rfl (lv_at hl 0 rfl) ?_
  refine r_get C hP (ci := 4) rfl uin_X4 7 (by decide) 0 (by decide) rfl qFL_RX4_60 rfl rfl dX4_newPlayer_5 ?_
  refine lv_iload_n hx hb dX4_newPlayer_8 rfl (lv_at hl 1 rfl) ?_
  obtain ⟨hg, h⟩ := k_gd h
  obtain ⟨σ1, eσ1, h⟩ := k_ltx h
  refine st_M_kind C hP hap hAA eσ1 hg dX4_newPlayer_9 (fun H locs hP => ?_)
  refine lv_aload_n hx hb dX4_newPlayer_10 rfl (lv_at hl 0 rfl) ?_
  refine r_get C hP (ci := 4) rfl uin_X4 9 (by decide) 0 (by decide) rfl qFL_RX4_23 rfl rfl dX4_newPlayer_11 ?_
  refine lv_aload_n hx hb dX4_newPlayer_14 rfl (lv_at hl 0 rfl) ?_
  refine r_get C hP (ci := 4) rfl uin_X4 7 (by decide) 0 (by decide) rfl qFL_RX4_60 rfl rfl dX4_newPlayer_15 ?_
  refine lv_iload_n hx hb dX4_newPlayer_18 rfl (lv_at hl 2 rfl) ?_
  obtain ⟨hg, h⟩ := k_gd h
  obtain ⟨σ2, eσ2, h⟩ := k_ltx h
  refine st_M_own C hP hap hAA eσ2 hg dX4_newPlayer_19 (fun H locs hP => ?_)
  refine lv_aload_n hx hb dX4_newPlayer_20 rfl (lv_at hl 0 rfl) ?_
  refine lv_dup hx hb dX4_newPlayer_21 rfl ?_
  refine r_get C hP (ci := 4) rfl uin_X4 7 (by decide) 0 (by decide) rfl qFL_RX4_60 rfl rfl dX4_newPlayer_22 ?_
  refine lv_topi (fun x3 ex3 => ?_)
  have h := k_lt ex3 h
  refine lv_dup_x1 hx hb dX4_newPlayer_25 rfl rfl ?_
  refine lv_iconst (v := 1) hx hb dX4_newPlayer_26 (by decide) ?_
  refine lv_iadd hx hb dX4_newPlayer_27 ?_
  obtain ⟨σ4, eσ4, h⟩ := k_ltx h
  refine pt_M_X4_players C hP hap hAA eσ4 qFL_RX4_60 dX4_newPlayer_28 (fun H locs hP => ?_)
  exact e_iret C hend hP (k_some2 h).1 (congrArg (mw ev ad) (k_some2 h).2) dX4_newPlayer_31
def f_X4_player (σ : MM) (a1 : Int32) (a2 : Int32) : Option (Int32 × MM) :=
  if (f_X4_within a1 0 5) = true then if (f_X4_within a2 0 9) = true then if (m_players σ) = 6 then ob2 (f_X4_no σ (-6)) (fun x6 σ5 => some (x6, σ5)) else ob2 (f_X4_newPlayer σ a1 a2) (fun x4 σ3 => some (x4, σ3)) else ob2 (f_X4_no σ (-2)) (fun x8 σ7 => some (x8, σ7)) else ob2 (f_X4_no σ (-2)) (fun x2 σ1 => some (x2, σ1))
set_option maxHeartbeats 4000000 in
set_option maxRecDepth 100000 in
theorem c_X4_player (l : Launch) (ev : EV) (ad : Nat → Nat) (σ : MM) (a1 : Int32) (a2 : Int32)   (r : Int32) (σ' : MM) (h : f_X4_player σ a1 a2 = some (r, σ')) : Ct l yX4_player prog_6_method_24_code 3 (Option.some Jvm.ClassFile.FieldType.int) (rmk 1 22) ev 13 ad (mw ev ad σ) (mw ev ad σ') [.ref (ad 0), .int a1, .int a2] (some (.int r)) := by
  refine Ct.of (by decide +kernel) (Nat.le_of_ble_eq_true rfl) ?_
  intro p e s m args below meth c Qc C hap hP hend ls hl
  have hAA : ∀ j, j < 13 → inA ad 13 (ad j) := fun j hj => ⟨j, hj, rfl⟩
  have hx := C.1
  have hb := C.2.1
  have hl : lv_has ls 3 [(0, .ref (ad 0)), (1, .int a1), (2, .int a2)] := hl
  have h := (f_X4_player.eq_1 _ _ _ ).symm.trans h
  refine lv_iload_n hx hb dX4_player_0 rfl (lv_at hl 1 rfl) ?_
  refine lv_iconst (v := 0) hx hb dX4_player_1 (by decide) ?_
  refine lv_iconst (v := 5) hx hb dX4_player_2 (by decide) ?_
  refine k_callSi C hP hap hAA (c_X4_within l ev ad a1 0 5   _ rfl) Emb.none (apart_0 _) gz_X4_within qML_RX4_63 qSM_yX4_within ⟨(Nat.le_of_ble_eq_true rfl), (Nat.le_of_ble_eq_true rfl)⟩ rfl hl.1 rfl (Nat.le_of_ble_eq_true rfl) dX4_player_3 ⟨Nat.le_refl _, Nat.le_refl _⟩ (fun H locs hP => ?_)
  refine r_ifz_eq (tgt := 19) hx hb dX4_player_6 (by decide) (fun c6 => ?_) (fun c6 => ?_)
  · have h := k_nf c6 h
    refine lv_aload_n hx hb dX4_player_19 rfl (lv_at hl 0 rfl) ?_
    refine lv_bipush (v := (-2)) hx hb dX4_player_20 (by decide) ?_
    obtain ⟨x2, σ1, h1, h⟩ := k_ob2 h
    refine k_callVi C hP hap hAA (c_X4_no l ev ad σ (-2)   _ _ h1) Emb.same hap gz_X4_no qML_RX4_56 qIM_yX4_no qSE_yX4_no ⟨(Nat.le_of_ble_eq_true rfl), (Nat.le_of_ble_eq_true rfl)⟩ (q0 := 0) rfl (by decide) rfl rfl rfl rfl hl.1 rfl (Nat.le_of_ble_eq_true rfl) dX4_player_22 ⟨Nat.le_refl _, Nat.le_refl _⟩ (fun H locs hP => ?_)
    exact e_iret C hend hP (k_some2 h).1 (congrArg (mw ev ad) (k_some2 h).2) dX4_player_25
  · have h := k_if c6 h
    refine lv_iload_n hx hb dX4_player_9 rfl (lv_at hl 2 rfl) ?_
    refine lv_iconst (v := 0) hx hb dX4_player_10 (by decide) ?_
    refine lv_bipush (v := 9) hx hb dX4_player_11 (by decide) ?_
    refine k_callSi C hP hap hAA (c_X4_within l ev ad a2 0 9   _ rfl) Emb.none (apart_0 _) gz_X4_within qML_RX4_63 qSM_yX4_within ⟨(Nat.le_of_ble_eq_true rfl), (Nat.le_of_ble_eq_true rfl)⟩ rfl hl.1 rfl (Nat.le_of_ble_eq_true rfl) dX4_player_13 ⟨Nat.le_refl _, Nat.le_refl _⟩ (fun H locs hP => ?_)
    refine r_ifz_ne (tgt := 26) hx hb dX4_player_16 (by decide) (fun c16 => ?_) (fun c16 => ?_)
    · have h := k_if c16 h
      refine lv_aload_n hx hb dX4_player_26 rfl (lv_at hl 0 rfl) ?_
      refine r_get C hP (ci := 4) rfl uin_X4 7 (by decide) 0 (by decide) rfl qFL_RX4_60 rfl rfl dX4_player_27 ?_
      refine lv_bipush (v := 6) hx hb dX4_player_30 (by decide) ?_
      refine lv_icmp_ne (tgt := 44) hx hb dX4_player_32 (by decide) (fun c32 => ?_) (fun c32 => ?_)
      · have h := k_nf c32 h
        refine lv_aload_n hx hb dX4_player_44 rfl (lv_at hl 0 rfl) ?_
        refine lv_iload_n hx hb dX4_player_45 rfl (lv_at hl 1 rfl) ?_
        refine lv_iload_n hx hb dX4_player_46 rfl (lv_at hl 2 rfl) ?_
        obtain ⟨x4, σ3, h1, h⟩ := k_ob2 h
        refine k_callVi C hP hap hAA (c_X4_newPlayer l ev ad σ a1 a2   _ _ h1) Emb.same hap gz_X4_newPlayer qML_RX4_113 qIM_yX4_newPlayer qSE_yX4_newPlayer ⟨(Nat.le_of_ble_eq_true rfl), (Nat.le_of_ble_eq_true rfl)⟩ (q0 := 0) rfl (by decide) rfl rfl rfl rfl hl.1 rfl (Nat.le_of_ble_eq_true rfl) dX4_player_47 ⟨Nat.le_refl _, Nat.le_refl _⟩ (fun H locs hP => ?_)
        exact e_iret C hend hP (k_some2 h).1 (congrArg (mw ev ad) (k_some2 h).2) dX4_player_50
      · have h := k_if c32 h
        refine lv_aload_n hx hb dX4_player_35 rfl (lv_at hl 0 rfl) ?_
        refine lv_bipush (v := (-6)) hx hb dX4_player_36 (by decide) ?_
        obtain ⟨x6, σ5, h1, h⟩ := k_ob2 h
        refine k_callVi C hP hap hAA (c_X4_no l ev ad σ (-6)   _ _ h1) Emb.same hap gz_X4_no qML_RX4_56 qIM_yX4_no qSE_yX4_no ⟨(Nat.le_of_ble_eq_true rfl), (Nat.le_of_ble_eq_true rfl)⟩ (q0 := 0) rfl (by decide) rfl rfl rfl rfl hl.1 rfl (Nat.le_of_ble_eq_true rfl) dX4_player_38 ⟨Nat.le_refl _, Nat.le_refl _⟩ (fun H locs hP => ?_)
        refine lv_goto (tgt := 50) hx hb dX4_player_41 (by decide) ?_
        exact e_iret C hend hP (k_some2 h).1 (congrArg (mw ev ad) (k_some2 h).2) dX4_player_50
    · have h := k_nf c16 h
      refine lv_aload_n hx hb dX4_player_19 rfl (lv_at hl 0 rfl) ?_
      refine lv_bipush (v := (-2)) hx hb dX4_player_20 (by decide) ?_
      obtain ⟨x8, σ7, h1, h⟩ := k_ob2 h
      refine k_callVi C hP hap hAA (c_X4_no l ev ad σ (-2)   _ _ h1) Emb.same hap gz_X4_no qML_RX4_56 qIM_yX4_no qSE_yX4_no ⟨(Nat.le_of_ble_eq_true rfl), (Nat.le_of_ble_eq_true rfl)⟩ (q0 := 0) rfl (by decide) rfl rfl rfl rfl hl.1 rfl (Nat.le_of_ble_eq_true rfl) dX4_player_22 ⟨Nat.le_refl _, Nat.le_refl _⟩ (fun H locs hP => ?_)
      exact e_iret C hend hP (k_some2 h).1 (congrArg (mw ev ad) (k_some2 h).2) dX4_player_25
def f_X4_turn (σ : MM) (a1 : Int32) : Option (Int32 × MM) :=
  if (f_X4_within a1 0 1) = true then lt (m_turn σ) (fun x1 => lt (m_turn' σ a1) (fun σ2 => some (x1, σ2))) else ob2 (f_X4_no σ (-2)) (fun x4 σ3 => some (x4, σ3))
set_option maxHeartbeats 4000000 in
set_option maxRecDepth 100000 in
theorem c_X4_turn (l : Launch) (ev : EV) (ad : Nat → Nat) (σ : MM) (a1 : Int32)   (r : Int32) (σ' : MM) (h : f_X4_turn σ a1 = some (r, σ')) : Ct l yX4_turn prog_6_method_25_code 3 (Option.some Jvm.ClassFile.FieldType.int) (rmk 1 22) ev 13 ad (mw ev ad σ) (mw ev ad σ') [.ref (ad 0), .int a1] (some (.int r)) := by
  refine Ct.of (by decide +kernel) (Nat.le_of_ble_eq_true rfl) ?_
  intro p e s m args below meth c Qc C hap hP hend ls hl
  have hAA : ∀ j, j < 13 → inA ad 13 (ad j) := fun j hj => ⟨j, hj, rfl⟩
  have hx := C.1
  have hb := C.2.1
  have hl : lv_has ls 3 [(0, .ref (ad 0)), (1, .int a1)] := hl
  have h := (f_X4_turn.eq_1 _ _ ).symm.trans h
  refine lv_iload_n hx hb dX4_turn_0 rfl (lv_at hl 1 rfl) ?_
  refine lv_iconst (v := 0) hx hb dX4_turn_1 (by decide) ?_
  refine lv_iconst (v := 1) hx hb dX4_turn_2 (by decide) ?_
  refine k_callSi C hP hap hAA (c_X4_within l ev ad a1 0 1   _ rfl) Emb.none (apart_0 _) gz_X4_within qML_RX4_63 qSM_yX4_within ⟨(Nat.le_of_ble_eq_true rfl), (Nat.le_of_ble_eq_true rfl)⟩ rfl hl.1 rfl (Nat.le_of_ble_eq_true rfl) dX4_turn_3 ⟨Nat.le_refl _, Nat.le_refl _⟩ (fun H locs hP => ?_)
  refine r_ifz_ne (tgt := 16) hx hb dX4_turn_6 (by decide) (fun c6 => ?_) (fun c6 => ?_)
  · have h := k_if c6 h
    refine lv_aload_n hx hb dX4_turn_16 rfl (lv_at hl 0 rfl) ?_
    refine r_get C hP (ci := 4) rfl uin_X4 5 (by decide) 0 (by decide) rfl qFL_RX4_101 rfl rfl dX4_turn_17 ?_
    refine lv_topi (fun x1 ex1 => ?_)
    have h := k_lt ex1 h
    refine lv_istore_n (lv' := [(2, .int x1), (0, .ref (ad 0)), (1, .int a1)]) hx hb dX4_turn_20 rfl hl (by decide) rfl (fun ls hl => ?_)
    refine lv_aload_n hx hb dX4_turn_21 rfl (lv_at hl 1 rfl) ?_
    refine lv_iload_n hx hb dX4_turn_22 rfl (lv_at hl 2 rfl) ?_
    obtain ⟨σ2, eσ2, h⟩ := k_ltx h
    refine pt_M_X4_turn C hP hap hAA eσ2 qFL_RX4_101 dX4_turn_23 (fun H locs hP => ?_)
    refine lv_iload_n hx hb dX4_turn_26 rfl (lv_at hl 0 rfl) ?_
    exact e_iret C hend hP (k_some2 h).1 (congrArg (mw ev ad) (k_some2 h).2) dX4_turn_27
  · have h := k_nf c6 h
    refine lv_aload_n hx hb dX4_turn_9 rfl (lv_at hl 0 rfl) ?_
    refine lv_bipush (v := (-2)) hx hb dX4_turn_10 (by decide) ?_
    obtain ⟨x4, σ3, h1, h⟩ := k_ob2 h
    refine k_callVi C hP hap hAA (c_X4_no l ev ad σ (-2)   _ _ h1) Emb.same hap gz_X4_no qML_RX4_56 qIM_yX4_no qSE_yX4_no ⟨(Nat.le_of_ble_eq_true rfl), (Nat.le_of_ble_eq_true rfl)⟩ (q0 := 0) rfl (by decide) rfl rfl rfl rfl hl.1 rfl (Nat.le_of_ble_eq_true rfl) dX4_turn_12 ⟨Nat.le_refl _, Nat.le_refl _⟩ (fun H locs hP => ?_)
    exact e_iret C hend hP (k_some2 h).1 (congrArg (mw ev ad) (k_some2 h).2) dX4_turn_15
def f_X4_beside (σ : MM) (a1 : Int32) (a2 : Int32) : Option (Int32) :=
  ob (f_X4_edge σ a1 a2) (fun x1 => gd (nz 2) (ob (f_X4_field σ x1 (irem a2 2)) (fun x2 => some x2)))
set_option maxHeartbeats 4000000 in
set_option maxRecDepth 100000 in
theorem c_X4_beside (l : Launch) (ev : EV) (ad : Nat → Nat) (σ : MM) (a1 : Int32) (a2 : Int32)   (r : Int32)  (h : f_X4_beside σ a1 a2 = some r) : Ct l yX4_beside prog_6_method_30_code 3 (Option.some Jvm.ClassFile.FieldType.int) (rmk 3 67) ev 13 ad (mw ev ad σ) (mw ev ad σ) [.ref (ad 0), .int a1, .int a2] (some (.int r)) := by
  refine Ct.of (by decide +kernel) (Nat.le_of_ble_eq_true rfl) ?_
  intro p e s m args below meth c Qc C hap hP hend ls hl
  have hAA : ∀ j, j < 13 → inA ad 13 (ad j) := fun j hj => ⟨j, hj, rfl⟩
  have hx := C.1
  have hb := C.2.1
  have hl : lv_has ls 3 [(0, .ref (ad 0)), (1, .int a1), (2, .int a2)] := hl
  have h := (f_X4_beside.eq_1 _ _ _ ).symm.trans h
  refine lv_aload_n hx hb dX4_beside_0 rfl (lv_at hl 0 rfl) ?_
  refine lv_aload_n hx hb dX4_beside_1 rfl (lv_at hl 0 rfl) ?_
  refine lv_iload_n hx hb dX4_beside_2 rfl (lv_at hl 1 rfl) ?_
  refine lv_iload_n hx hb dX4_beside_3 rfl (lv_at hl 2 rfl) ?_
  obtain ⟨x1, h1, h⟩ := k_ob h
  refine k_callVi C hP hap hAA (c_X4_edge l ev ad σ a1 a2   _ h1) Emb.same hap gz_X4_edge qML_RX4_122 qIM_yX4_edge qSE_yX4_edge ⟨(Nat.le_of_ble_eq_true rfl), (Nat.le_of_ble_eq_true rfl)⟩ (q0 := 0) rfl (by decide) rfl rfl rfl rfl hl.1 rfl (Nat.le_of_ble_eq_true rfl) dX4_beside_4 ⟨Nat.le_refl _, Nat.le_refl _⟩ (fun H locs hP => ?_)
  refine lv_iload_n hx hb dX4_beside_7 rfl (lv_at hl 2 rfl) ?_
  refine lv_iconst (v := 2) hx hb dX4_beside_8 (by decide) ?_
  obtain ⟨hg, h⟩ := k_gd h
  refine r_irem hx hb dX4_beside_9 (nz_ne hg) ?_
  obtain ⟨x2, h1, h⟩ := k_ob h
  refine k_callVi C hP hap hAA (c_X4_field l ev ad σ x1 (irem a2 2)   _ h1) Emb.same hap gz_X4_field qML_RX4_119 qIM_yX4_field qSE_yX4_field ⟨(Nat.le_of_ble_eq_true rfl), (Nat.le_of_ble_eq_true rfl)⟩ (q0 := 0) rfl (by decide) rfl rfl rfl rfl hl.1 rfl (Nat.le_of_ble_eq_true rfl) dX4_beside_10 ⟨Nat.le_refl _, Nat.le_refl _⟩ (fun H locs hP => ?_)
  exact e_iret C hend hP (k_some h) rfl dX4_beside_13
def f_X4_feed (σ : MM) (a1 : Int32) : Option (Int32 × MM) :=
  if (f_X4_within a1 0 255) = true then if (m_taped σ) = 250 then ob2 (f_X4_no σ (-6)) (fun x5 σ4 => some (x5, σ4)) else lt (m_taped σ) (fun x1 => lt (m_taped' σ (x1 + 1)) (fun σ2 => gd (inb x1 250) (lt (m_tape' σ2 (upd (m_tape σ2) (Int32.toNatClampNeg x1) a1)) (fun σ3 => some ((m_taped σ3), σ3))))) else ob2 (f_X4_no σ (-2)) (fun x7 σ6 => some (x7, σ6))
set_option maxHeartbeats 4000000 in
set_option maxRecDepth 100000 in
theorem c_X4_feed (l : Launch) (ev : EV) (ad : Nat → Nat) (σ : MM) (a1 : Int32)   (r : Int32) (σ' : MM) (h : f_X4_feed σ a1 = some (r, σ')) : Ct l yX4_feed prog_6_method_32_code 2 (Option.some Jvm.ClassFile.FieldType.int) (rmk 1 22) ev 13 ad (mw ev ad σ) (mw ev ad σ') [.ref (ad 0), .int a1] (some (.int r)) := by
  refine Ct.of (by decide +kernel) (Nat.le_of_ble_eq_true rfl) ?_
  intro p e s m args below meth c Qc C hap hP hend ls hl
  have hAA : ∀ j, j < 13 → inA ad 13 (ad j) := fun j hj => ⟨j, hj, rfl⟩
  have hx := C.1
  have hb := C.2.1
  have hl : lv_has ls 2 [(0, .ref (ad 0)), (1, .int a1)] := hl
  have h := (f_X4_feed.eq_1 _ _ ).symm.trans h
  refine lv_iload_n hx hb dX4_feed_0 rfl (lv_at hl 1 rfl) ?_
  refine lv_iconst (v := 0) hx hb dX4_feed_1 (by decide) ?_
  refine lv_sipush (v := 255) hx hb dX4_feed_2 (by decide) ?_
  refine k_callSi C hP hap hAA (c_X4_within l ev ad a1 0 255   _ rfl) Emb.none (apart_0 _) gz_X4_within qML_RX4_63 qSM_yX4_within ⟨(Nat.le_of_ble_eq_true rfl), (Nat.le_of_ble_eq_true rfl)⟩ rfl hl.1 rfl (Nat.le_of_ble_eq_true rfl) dX4_feed_5 ⟨Nat.le_refl _, Nat.le_refl _⟩ (fun H locs hP => ?_)
  refine r_ifz_ne (tgt := 18) hx hb dX4_feed_8 (by decide) (fun c8 => ?_) (fun c8 => ?_)
  · have h := k_if c8 h
    refine lv_aload_n hx hb dX4_feed_18 rfl (lv_at hl 0 rfl) ?_
    refine r_get C hP (ci := 4) rfl uin_X4 11 (by decide) 0 (by decide) rfl qFL_RX4_128 rfl rfl dX4_feed_19 ?_
    refine lv_sipush (v := 250) hx hb dX4_feed_22 (by decide) ?_
    refine lv_icmp_ne (tgt := 35) hx hb dX4_feed_25 (by decide) (fun c25 => ?_) (fun c25 => ?_)
    · have h := k_nf c25 h
      refine lv_aload_n hx hb dX4_feed_35 rfl (lv_at hl 0 rfl) ?_
      refine r_get C hP (ci := 4) rfl uin_X4 12 (by decide) 0 (by decide) rfl qFL_RX4_26 rfl rfl dX4_feed_36 ?_
      refine lv_aload_n hx hb dX4_feed_39 rfl (lv_at hl 0 rfl) ?_
      refine lv_dup hx hb dX4_feed_40 rfl ?_
      refine r_get C hP (ci := 4) rfl uin_X4 11 (by decide) 0 (by decide) rfl qFL_RX4_128 rfl rfl dX4_feed_41 ?_
      refine lv_topi (fun x1 ex1 => ?_)
      have h := k_lt ex1 h
      refine lv_dup_x1 hx hb dX4_feed_44 rfl rfl ?_
      refine lv_iconst (v := 1) hx hb dX4_feed_45 (by decide) ?_
      refine lv_iadd hx hb dX4_feed_46 ?_
      obtain ⟨σ2, eσ2, h⟩ := k_ltx h
      refine pt_M_X4_taped C hP hap hAA eσ2 qFL_RX4_128 dX4_feed_47 (fun H locs hP => ?_)
      refine lv_iload_n hx hb dX4_feed_50 rfl (lv_at hl 1 rfl) ?_
      obtain ⟨hg, h⟩ := k_gd h
      obtain ⟨σ3, eσ3, h⟩ := k_ltx h
      refine st_M_tape C hP hap hAA eσ3 hg dX4_feed_51 (fun H locs hP => ?_)
      refine lv_aload_n hx hb dX4_feed_52 rfl (lv_at hl 0 rfl) ?_
      refine r_get C hP (ci := 4) rfl uin_X4 11 (by decide) 0 (by decide) rfl qFL_RX4_128 rfl rfl dX4_feed_53 ?_
      exact e_iret C hend hP (k_some2 h).1 (congrArg (mw ev ad) (k_some2 h).2) dX4_feed_56
    · have h := k_if c25 h
      refine lv_aload_n hx hb dX4_feed_28 rfl (lv_at hl 0 rfl) ?_
      refine lv_bipush (v := (-6)) hx hb dX4_feed_29 (by decide) ?_
      obtain ⟨x5, σ4, h1, h⟩ := k_ob2 h
      refine k_callVi C hP hap hAA (c_X4_no l ev ad σ (-6)   _ _ h1) Emb.same hap gz_X4_no qML_RX4_56 qIM_yX4_no qSE_yX4_no ⟨(Nat.le_of_ble_eq_true rfl), (Nat.le_of_ble_eq_true rfl)⟩ (q0 := 0) rfl (by decide) rfl rfl rfl rfl hl.1 rfl (Nat.le_of_ble_eq_true rfl) dX4_feed_31 ⟨Nat.le_refl _, Nat.le_refl _⟩ (fun H locs hP => ?_)
      exact e_iret C hend hP (k_some2 h).1 (congrArg (mw ev ad) (k_some2 h).2) dX4_feed_34
  · have h := k_nf c8 h
    refine lv_aload_n hx hb dX4_feed_11 rfl (lv_at hl 0 rfl) ?_
    refine lv_bipush (v := (-2)) hx hb dX4_feed_12 (by decide) ?_
    obtain ⟨x7, σ6, h1, h⟩ := k_ob2 h
    refine k_callVi C hP hap hAA (c_X4_no l ev ad σ (-2)   _ _ h1) Emb.same hap gz_X4_no qML_RX4_56 qIM_yX4_no qSE_yX4_no ⟨(Nat.le_of_ble_eq_true rfl), (Nat.le_of_ble_eq_true rfl)⟩ (q0 := 0) rfl (by decide) rfl rfl rfl rfl hl.1 rfl (Nat.le_of_ble_eq_true rfl) dX4_feed_14 ⟨Nat.le_refl _, Nat.le_refl _⟩ (fun H locs hP => ?_)
    exact e_iret C hend hP (k_some2 h).1 (congrArg (mw ev ad) (k_some2 h).2) dX4_feed_17
def f_X4_wipe (σ : MM) : Option (Int32 × MM) :=
  lt (m_taped σ) (fun x1 => lt (m_taped' σ 0) (fun σ2 => some (x1, σ2)))
set_option maxHeartbeats 4000000 in
set_option maxRecDepth 100000 in
theorem c_X4_wipe (l : Launch) (ev : EV) (ad : Nat → Nat) (σ : MM)   (r : Int32) (σ' : MM) (h : f_X4_wipe σ = some (r, σ')) : Ct l yX4_wipe prog_6_method_33_code 2 (Option.some Jvm.ClassFile.FieldType.int) (rmk 0 0) ev 13 ad (mw ev ad σ) (mw ev ad σ') [.ref (ad 0)] (some (.int r)) := by
  refine Ct.of (by decide +kernel) (Nat.le_of_ble_eq_true rfl) ?_
  intro p e s m args below meth c Qc C hap hP hend ls hl
  have hAA : ∀ j, j < 13 → inA ad 13 (ad j) := fun j hj => ⟨j, hj, rfl⟩
  have hx := C.1
  have hb := C.2.1
  have hl : lv_has ls 2 [(0, .ref (ad 0))] := hl
  have h := (f_X4_wipe.eq_1 _ ).symm.trans h
  refine lv_aload_n hx hb dX4_wipe_0 rfl (lv_at hl 0 rfl) ?_
  refine r_get C hP (ci := 4) rfl uin_X4 11 (by decide) 0 (by decide) rfl qFL_RX4_128 rfl rfl dX4_wipe_1 ?_
  refine lv_topi (fun x1 ex1 => ?_)
  have h := k_lt ex1 h
  refine lv_istore_n (lv' := [(1, .int x1), (0, .ref (ad 0))]) hx hb dX4_wipe_4 rfl hl (by decide) rfl (fun ls hl => ?_)
  refine lv_aload_n hx hb dX4_wipe_5 rfl (lv_at hl 1 rfl) ?_
  refine lv_iconst (v := 0) hx hb dX4_wipe_6 (by decide) ?_
  obtain ⟨σ2, eσ2, h⟩ := k_ltx h
  refine pt_M_X4_taped C hP hap hAA eσ2 qFL_RX4_128 dX4_wipe_7 (fun H locs hP => ?_)
  refine lv_iload_n hx hb dX4_wipe_10 rfl (lv_at hl 0 rfl) ?_
  exact e_iret C hend hP (k_some2 h).1 (congrArg (mw ev ad) (k_some2 h).2) dX4_wipe_11
def f_X4_isLetter (a1 : Int32) : Bool :=
  if a1 < 97 then false else if 122 < a1 then false else true
set_option maxHeartbeats 4000000 in
set_option maxRecDepth 100000 in
theorem c_X4_isLetter (l : Launch) (ev : EV) (ad : Nat → Nat) (a1 : Int32)   (r : Bool)  (h : f_X4_isLetter a1 = r) : Ct l yX4_isLetter prog_6_method_34_code 1 (Option.some Jvm.ClassFile.FieldType.boolean) (rmk 0 0) ev 0 ad w00 w00 [.int a1] (some (.int (bi r))) := by
  refine Ct.of (by decide +kernel) (Nat.le_of_ble_eq_true rfl) ?_
  intro p e s m args below meth c Qc C hap hP hend ls hl
  have hAA : ∀ j, j < 0 → inA ad 0 (ad j) := fun j hj => ⟨j, hj, rfl⟩
  have hx := C.1
  have hb := C.2.1
  have hl : lv_has ls 1 [(0, .int a1)] := hl
  have h := (f_X4_isLetter.eq_1 _ ).symm.trans h
  refine lv_iload_n hx hb dX4_isLetter_0 rfl (lv_at hl 0 rfl) ?_
  refine lv_bipush (v := 97) hx hb dX4_isLetter_1 (by decide) ?_
  refine lv_icmp_lt (tgt := 16) hx hb dX4_isLetter_3 (by decide) (fun c3 => ?_) (fun c3 => ?_)
  · have h := k_if c3 h
    refine lv_iconst (v := 0) hx hb dX4_isLetter_16 (by decide) ?_
    exact e_zret C hend hP h rfl dX4_isLetter_17 rfl
  · have h := k_nf c3 h
    refine lv_iload_n hx hb dX4_isLetter_6 rfl (lv_at hl 0 rfl) ?_
    refine lv_bipush (v := 122) hx hb dX4_isLetter_7 (by decide) ?_
    refine lv_icmp_gt (tgt := 16) hx hb dX4_isLetter_9 (by decide) (fun c9 => ?_) (fun c9 => ?_)
    · have h := k_if c9 h
      refine lv_iconst (v := 0) hx hb dX4_isLetter_16 (by decide) ?_
      exact e_zret C hend hP h rfl dX4_isLetter_17 rfl
    · have h := k_nf c9 h
      refine lv_iconst (v := 1) hx hb dX4_isLetter_12 (by decide) ?_
      refine lv_goto (tgt := 17) hx hb dX4_isLetter_13 (by decide) ?_
      exact e_zret C hend hP h rfl dX4_isLetter_17 rfl
