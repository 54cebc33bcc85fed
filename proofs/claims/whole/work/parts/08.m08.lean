/-! functions read off, and their contracts: by program (wip/whole/gen2.py) -/
def f_X0_placeTurned_b42 (a3 : Int32) (a4 : Int32) (a5 : Int32) (x4 : Int32) (x5 : Int32) : Int32 :=
  if (a5 &&& 2) = 0 then ((x4 * a4) + x5) else lt ((a3 - 1) - x4) (fun x6 => ((x6 * a4) + x5))
def f_X0_placeTurned_b24 (a3 : Int32) (a4 : Int32) (a5 : Int32) (x2 : Int32) (x3 : Int32) : Int32 :=
  if (a5 &&& 1) = 0 then f_X0_placeTurned_b42 a3 a4 a5 x2 x3 else lt ((a4 - 1) - x3) (fun x7 => f_X0_placeTurned_b42 a3 a4 a5 x2 x7)
def f_X0_placeTurned_b11 (a1 : Int32) (a2 : Int32) (a3 : Int32) (a4 : Int32) (a5 : Int32) (x1 : Int32) : Int32 :=
  if 4 ≤ a5 then f_X0_placeTurned_b24 a3 a4 a5 x1 a1 else f_X0_placeTurned_b24 a3 a4 a5 x1 a2
def f_X0_placeTurned (σ : GG) (a1 : Int32) (a2 : Int32) (a3 : Int32) (a4 : Int32) (a5 : Int32) : Int32 :=
  if 4 ≤ a5 then f_X0_placeTurned_b11 a1 a2 a3 a4 a5 a2 else f_X0_placeTurned_b11 a1 a2 a3 a4 a5 a1
set_option maxHeartbeats 4000000 in
set_option maxRecDepth 100000 in
theorem c_X0_placeTurned (l : Launch) (ev : EV) (ad : Nat → Nat) (σ : GG) (a1 : Int32) (a2 : Int32) (a3 : Int32) (a4 : Int32) (a5 : Int32)   (r : Int32)  (h : f_X0_placeTurned σ a1 a2 a3 a4 a5 = r) : Ct l yX0_placeTurned prog_2_method_52_code 8 (Option.some Jvm.ClassFile.FieldType.int) (rmk 0 0) ev 1 ad (gw1 σ) (gw1 σ) [.ref (ad 0), .int a1, .int a2, .int a3, .int a4, .int a5] (some (.int r)) := by
  refine Ct.of (by decide +kernel) (Nat.le_of_ble_eq_true rfl) ?_
  intro p e s m args below meth c Qc C hap hP hend ls hl
  have hAA : ∀ j, j < 1 → inA ad 1 (ad j) := fun j hj => ⟨j, hj, rfl⟩
  have hx := C.1
  have hb := C.2.1
  have hl : lv_has ls 8 [(0, .ref (ad 0)), (1, .int a1), (2, .int a2), (3, .int a3), (4, .int a4), (5, .int a5)] := hl
  have h := (f_X0_placeTurned.eq_1 _ _ _ _ _ _ ).symm.trans h
  have hB42 : ∀ (x4 : Int32) (x5 : Int32) (H : Heap) (locs : List Loc) (ls : Array Slot), f_X0_placeTurned_b42 a3 a4 a5 x4 x5 = r → PS ev 1 ad (gw1 σ) (inA ad 1) s H locs → lv_has ls 8 [(3, .int a3), (4, .int a4), (5, .int a5), (6, .int x4), (7, .int x5)] → WW ev p l e (rmk 0 0) s m args below meth c Qc ad 1 H locs 42 ls [] := by
    intro x4 x5 H locs ls h hP hl
    have h := (f_X0_placeTurned_b42.eq_1 _ _ _ _ _ ).symm.trans h
    refine lv_iload hx hb dX0_placeTurned_42 (lv_at hl 2 rfl) ?_
    refine lv_iconst (v := 2) hx hb dX0_placeTurned_44 (by decide) ?_
    refine lv_iand hx hb dX0_placeTurned_45 ?_
    refine lv_if_eq (tgt := 57) hx hb dX0_placeTurned_46 (by decide) (fun c46 => ?_) (fun c46 => ?_)
    · have h := k_if c46 h
      refine lv_iload hx hb dX0_placeTurned_57 (lv_at hl 3 rfl) ?_
      refine lv_iload hx hb dX0_placeTurned_59 (lv_at hl 1 rfl) ?_
      refine lv_imul hx hb dX0_placeTurned_61 ?_
      refine lv_iload hx hb dX0_placeTurned_62 (lv_at hl 4 rfl) ?_
      refine lv_iadd hx hb dX0_placeTurned_64 ?_
      exact e_iret C hend hP h rfl dX0_placeTurned_65
    · have h := k_nf c46 h
      refine lv_iload_n hx hb dX0_placeTurned_49 rfl (lv_at hl 0 rfl) ?_
      refine lv_iconst (v := 1) hx hb dX0_placeTurned_50 (by decide) ?_
      refine lv_isub hx hb dX0_placeTurned_51 ?_
      refine lv_iload hx hb dX0_placeTurned_52 (lv_at hl 3 rfl) ?_
      refine lv_isub hx hb dX0_placeTurned_54 ?_
      refine lv_topi (fun x6 ex6 => ?_)
      have h := k_lt ex6 h
      refine lv_istore (lv' := [(6, .int x6), (3, .int a3), (4, .int a4), (5, .int a5), (7, .int x5)]) hx hb dX0_placeTurned_55 hl (by decide) rfl (fun ls hl => ?_)
      refine lv_iload hx hb dX0_placeTurned_57 (lv_at hl 0 rfl) ?_
      refine lv_iload hx hb dX0_placeTurned_59 (lv_at hl 2 rfl) ?_
      refine lv_imul hx hb dX0_placeTurned_61 ?_
      refine lv_iload hx hb dX0_placeTurned_62 (lv_at hl 4 rfl) ?_
      refine lv_iadd hx hb dX0_placeTurned_64 ?_
      exact e_iret C hend hP h rfl dX0_placeTurned_65
  have hB24 : ∀ (x2 : Int32) (x3 : Int32) (H : Heap) (locs : List Loc) (ls : Array Slot), f_X0_placeTurned_b24 a3 a4 a5 x2 x3 = r → PS ev 1 ad (gw1 σ) (inA ad 1) s H locs → lv_has ls 8 [(3, .int a3), (4, .int a4), (5, .int a5), (6, .int x2)] → WW ev p l e (rmk 0 0) s m args below meth c Qc ad 1 H locs 24 ls [.int x3] := by
    intro x2 x3 H locs ls h hP hl
    have h := (f_X0_placeTurned_b24.eq_1 _ _ _ _ _ ).symm.trans h
    refine lv_istore (lv' := [(7, .int x3), (3, .int a3), (4, .int a4), (5, .int a5), (6, .int x2)]) hx hb dX0_placeTurned_24 hl (by decide) rfl (fun ls hl => ?_)
    refine lv_iload hx hb dX0_placeTurned_26 (lv_at hl 3 rfl) ?_
    refine lv_iconst (v := 1) hx hb dX0_placeTurned_28 (by decide) ?_
    refine lv_iand hx hb dX0_placeTurned_29 ?_
    refine lv_if_eq (tgt := 42) hx hb dX0_placeTurned_30 (by decide) (fun c30 => ?_) (fun c30 => ?_)
    · have h := k_if c30 h
      exact hB42 _ _ _ _ _ h hP (lv_sub hl [1, 2, 3, 4, 0] rfl)
    · have h := k_nf c30 h
      refine lv_iload hx hb dX0_placeTurned_33 (lv_at hl 2 rfl) ?_
      refine lv_iconst (v := 1) hx hb dX0_placeTurned_35 (by decide) ?_
      refine lv_isub hx hb dX0_placeTurned_36 ?_
      refine lv_iload hx hb dX0_placeTurned_37 (lv_at hl 0 rfl) ?_
      refine lv_isub hx hb dX0_placeTurned_39 ?_
      refine lv_topi (fun x7 ex7 => ?_)
      have h := k_lt ex7 h
      refine lv_istore (lv' := [(7, .int x7), (3, .int a3), (4, .int a4), (5, .int a5), (6, .int x2)]) hx hb dX0_placeTurned_40 hl (by decide) rfl (fun ls hl => ?_)
      exact hB42 _ _ _ _ _ h hP (lv_sub hl [1, 2, 3, 4, 0] rfl)
  have hB11 : ∀ (x1 : Int32) (H : Heap) (locs : List Loc) (ls : Array Slot), f_X0_placeTurned_b11 a1 a2 a3 a4 a5 x1 = r → PS ev 1 ad (gw1 σ) (inA ad 1) s H locs → lv_has ls 8 [(1, .int a1), (2, .int a2), (3, .int a3), (4, .int a4), (5, .int a5)] → WW ev p l e (rmk 0 0) s m args below meth c Qc ad 1 H locs 11 ls [.int x1] := by
    intro x1 H locs ls h hP hl
    have h := (f_X0_placeTurned_b11.eq_1 _ _ _ _ _ _ ).symm.trans h
    refine lv_istore (lv' := [(6, .int x1), (1, .int a1), (2, .int a2), (3, .int a3), (4, .int a4), (5, .int a5)]) hx hb dX0_placeTurned_11 hl (by decide) rfl (fun ls hl => ?_)
    refine lv_iload hx hb dX0_placeTurned_13 (lv_at hl 5 rfl) ?_
    refine lv_iconst (v := 4) hx hb dX0_placeTurned_15 (by decide) ?_
    refine lv_icmp_ge (tgt := 23) hx hb dX0_placeTurned_16 (by decide) (fun c16 => ?_) (fun c16 => ?_)
    · have h := k_if c16 h
      refine lv_iload_n hx hb dX0_placeTurned_23 rfl (lv_at hl 1 rfl) ?_
      exact hB24 _ _ _ _ _ h hP (lv_sub hl [3, 4, 5, 0] rfl)
    · have h := k_nf c16 h
      refine lv_iload_n hx hb dX0_placeTurned_19 rfl (lv_at hl 2 rfl) ?_
      refine lv_goto (tgt := 24) hx hb dX0_placeTurned_20 (by decide) ?_
      exact hB24 _ _ _ _ _ h hP (lv_sub hl [3, 4, 5, 0] rfl)
  refine lv_iload hx hb dX0_placeTurned_0 (lv_at hl 5 rfl) ?_
  refine lv_iconst (v := 4) hx hb dX0_placeTurned_2 (by decide) ?_
  refine lv_icmp_ge (tgt := 10) hx hb dX0_placeTurned_3 (by decide) (fun c3 => ?_) (fun c3 => ?_)
  · have h := k_if c3 h
    refine lv_iload_n hx hb dX0_placeTurned_10 rfl (lv_at hl 2 rfl) ?_
    exact hB11 _ _ _ _ h hP (lv_sub hl [1, 2, 3, 4, 5] rfl)
  · have h := k_nf c3 h
    refine lv_iload_n hx hb dX0_placeTurned_6 rfl (lv_at hl 1 rfl) ?_
    refine lv_goto (tgt := 11) hx hb dX0_placeTurned_7 (by decide) ?_
    exact hB11 _ _ _ _ h hP (lv_sub hl [1, 2, 3, 4, 5] rfl)
def f_X0_edgeTurned_b126 (σ : GG) (a2 : Int32) (x19 : Int32) (x20 : Int32) (x21 : Int32) (x22 : Int32) (x23 : Int32) : Option (Int32) :=
  if x21 = 0 then some ((g_uprights σ) + (f_X0_placeTurned σ x19 x20 x22 x23 a2)) else some (0 + (f_X0_placeTurned σ x19 x20 x22 x23 a2))
def f_X0_edgeTurned_b106 (σ : GG) (a2 : Int32) (x15 : Int32) (x16 : Int32) (x17 : Int32) (x18 : Int32) : Option (Int32) :=
  if x17 = 0 then f_X0_edgeTurned_b126 σ a2 x15 x16 x17 x18 (((g_width σ) + 1)) else f_X0_edgeTurned_b126 σ a2 x15 x16 x17 x18 ((g_width σ))
def f_X0_edgeTurned_b86 (σ : GG) (a2 : Int32) (x12 : Int32) (x13 : Int32) (x14 : Int32) : Option (Int32) :=
  if x14 = 0 then f_X0_edgeTurned_b106 σ a2 x12 x13 x14 ((g_height σ)) else f_X0_edgeTurned_b106 σ a2 x12 x13 x14 (((g_height σ) + 1))
def f_X0_edgeTurned_b78 (σ : GG) (a2 : Int32) (x8 : Int32) (x9 : Int32) (x10 : Int32) (x11 : Int32) : Option (Int32) :=
  if x11 = x10 then f_X0_edgeTurned_b86 σ a2 x8 x9 1 else f_X0_edgeTurned_b86 σ a2 x8 x9 0
def f_X0_edgeTurned_b65 (σ : GG) (a2 : Int32) (x5 : Int32) (x6 : Int32) (x7 : Int32) : Option (Int32) :=
  if 4 ≤ a2 then f_X0_edgeTurned_b78 σ a2 x6 x7 0 x5 else f_X0_edgeTurned_b78 σ a2 x6 x7 1 x5
def f_X0_edgeTurned_b31 (σ : GG) (a1 : Int32) (a2 : Int32) (x3 : Int32) (x4 : Int32) : Option (Int32) :=
  if x3 = 0 then f_X0_edgeTurned_b65 σ a2 x3 x4 (((a1 - (g_uprights σ)) - (x4 * ((g_width σ) + 1)))) else f_X0_edgeTurned_b65 σ a2 x3 x4 ((a1 - (x4 * (g_width σ))))
def f_X0_edgeTurned_b13 (σ : GG) (a1 : Int32) (a2 : Int32) (x1 : Int32) : Option (Int32) :=
  if x1 = 0 then ob (f_X0_uprightRow σ a1) (fun x2 => f_X0_edgeTurned_b31 σ a1 a2 x1 x2) else ob (f_X0_rowOf σ a1) (fun x24 => f_X0_edgeTurned_b31 σ a1 a2 x1 x24)
def f_X0_edgeTurned (σ : GG) (a1 : Int32) (a2 : Int32) : Option (Int32) :=
  if (g_uprights σ) ≤ a1 then f_X0_edgeTurned_b13 σ a1 a2 0 else f_X0_edgeTurned_b13 σ a1 a2 1
set_option maxHeartbeats 4000000 in
set_option maxRecDepth 100000 in
theorem c_X0_edgeTurned (l : Launch) (ev : EV) (ad : Nat → Nat) (σ : GG) (a1 : Int32) (a2 : Int32)   (r : Int32)  (h : f_X0_edgeTurned σ a1 a2 = some r) : Ct l yX0_edgeTurned prog_2_method_51_code 9 (Option.some Jvm.ClassFile.FieldType.int) (rmk 1 27) ev 1 ad (gw1 σ) (gw1 σ) [.ref (ad 0), .int a1, .int a2] (some (.int r)) := by
  refine Ct.of (by decide +kernel) (Nat.le_of_ble_eq_true rfl) ?_
  intro p e s m args below meth c Qc C hap hP hend ls hl
  have hAA : ∀ j, j < 1 → inA ad 1 (ad j) := fun j hj => ⟨j, hj, rfl⟩
  have hx := C.1
  have hb := C.2.1
  have hl : lv_has ls 9 [(0, .ref (ad 0)), (1, .int a1), (2, .int a2)] := hl
  have h := (f_X0_edgeTurned.eq_1 _ _ _ ).symm.trans h
  have hB126 : ∀ (x19 : Int32) (x20 : Int32) (x21 : Int32) (x22 : Int32) (x23 : Int32) (H : Heap) (locs : List Loc) (ls : Array Slot), f_X0_edgeTurned_b126 σ a2 x19 x20 x21 x22 x23 = some r → PS ev 1 ad (gw1 σ) (inA ad 1) s H locs → lv_has ls 9 [(0, .ref (ad 0)), (2, .int a2), (4, .int x19), (5, .int x20), (6, .int x21), (7, .int x22)] → WW ev p l e (rmk 1 27) s m args below meth c Qc ad 1 H locs 126 ls [.int x23] := by
    intro x19 x20 x21 x22 x23 H locs ls h hP hl
    have h := (f_X0_edgeTurned_b126.eq_1 _ _ _ _ _ _ _ ).symm.trans h
    refine lv_istore (lv' := [(8, .int x23), (0, .ref (ad 0)), (2, .int a2), (4, .int x19), (5, .int x20), (6, .int x21), (7, .int x22)]) hx hb dX0_edgeTurned_126 hl (by decide) rfl (fun ls hl => ?_)
    refine lv_iload hx hb dX0_edgeTurned_128 (lv_at hl 5 rfl) ?_
    refine lv_if_eq (tgt := 137) hx hb dX0_edgeTurned_130 (by decide) (fun c130 => ?_) (fun c130 => ?_)
    · have h := k_if c130 h
      refine lv_aload_n hx hb dX0_edgeTurned_137 rfl (lv_at hl 1 rfl) ?_
      refine r_get C hP (ci := 0) rfl uin_X0 4 (by decide) 0 (by decide) rfl qFL_RX0_28 rfl rfl dX0_edgeTurned_138 ?_
      refine lv_aload_n hx hb dX0_edgeTurned_141 rfl (lv_at hl 1 rfl) ?_
      refine lv_iload hx hb dX0_edgeTurned_142 (lv_at hl 3 rfl) ?_
      refine lv_iload hx hb dX0_edgeTurned_144 (lv_at hl 4 rfl) ?_
      refine lv_iload hx hb dX0_edgeTurned_146 (lv_at hl 6 rfl) ?_
      refine lv_iload hx hb dX0_edgeTurned_148 (lv_at hl 0 rfl) ?_
      refine lv_iload_n hx hb dX0_edgeTurned_150 rfl (lv_at hl 2 rfl) ?_
      refine k_callVi C hP hap hAA (c_X0_placeTurned l ev ad σ x19 x20 x22 x23 a2   _ rfl) Emb.same hap gz_X0_placeTurned qML_RX0_184 qIM_yX0_placeTurned qSE_yX0_placeTurned ⟨(Nat.le_of_ble_eq_true rfl), (Nat.le_of_ble_eq_true rfl)⟩ (q0 := 0) rfl (by decide) rfl rfl rfl rfl hl.1 rfl (Nat.le_of_ble_eq_true rfl) dX0_edgeTurned_151 ⟨Nat.le_refl _, Nat.le_refl _⟩ (fun H locs hP => ?_)
      refine lv_iadd hx hb dX0_edgeTurned_154 ?_
      exact e_iret C hend hP (k_some h) rfl dX0_edgeTurned_155
    · have h := k_nf c130 h
      refine lv_iconst (v := 0) hx hb dX0_edgeTurned_133 (by decide) ?_
      refine lv_goto (tgt := 141) hx hb dX0_edgeTurned_134 (by decide) ?_
      refine lv_aload_n hx hb dX0_edgeTurned_141 rfl (lv_at hl 1 rfl) ?_
      refine lv_iload hx hb dX0_edgeTurned_142 (lv_at hl 3 rfl) ?_
      refine lv_iload hx hb dX0_edgeTurned_144 (lv_at hl 4 rfl) ?_
      refine lv_iload hx hb dX0_edgeTurned_146 (lv_at hl 6 rfl) ?_
      refine lv_iload hx hb dX0_edgeTurned_148 (lv_at hl 0 rfl) ?_
      refine lv_iload_n hx hb dX0_edgeTurned_150 rfl (lv_at hl 2 rfl) ?_
      refine k_callVi C hP hap hAA (c_X0_placeTurned l ev ad σ x19 x20 x22 x23 a2   _ rfl) Emb.same hap gz_X0_placeTurned qML_RX0_184 qIM_yX0_placeTurned qSE_yX0_placeTurned ⟨(Nat.le_of_ble_eq_true rfl), (Nat.le_of_ble_eq_true rfl)⟩ (q0 := 0) rfl (by decide) rfl rfl rfl rfl hl.1 rfl (Nat.le_of_ble_eq_true rfl) dX0_edgeTurned_151 ⟨Nat.le_refl _, Nat.le_refl _⟩ (fun H locs hP => ?_)
      refine lv_iadd hx hb dX0_edgeTurned_154 ?_
      exact e_iret C hend hP (k_some h) rfl dX0_edgeTurned_155
  have hB106 : ∀ (x15 : Int32) (x16 : Int32) (x17 : Int32) (x18 : Int32) (H : Heap) (locs : List Loc) (ls : Array Slot), f_X0_edgeTurned_b106 σ a2 x15 x16 x17 x18 = some r → PS ev 1 ad (gw1 σ) (inA ad 1) s H locs → lv_has ls 9 [(0, .ref (ad 0)), (2, .int a2), (4, .int x15), (5, .int x16), (6, .int x17)] → WW ev p l e (rmk 1 27) s m args below meth c Qc ad 1 H locs 106 ls [.int x18] := by
    intro x15 x16 x17 x18 H locs ls h hP hl
    have h := (f_X0_edgeTurned_b106.eq_1 _ _ _ _ _ _ ).symm.trans h
    refine lv_istore (lv' := [(7, .int x18), (0, .ref (ad 0)), (2, .int a2), (4, .int x15), (5, .int x16), (6, .int x17)]) hx hb dX0_edgeTurned_106 hl (by decide) rfl (fun ls hl => ?_)
    refine lv_iload hx hb dX0_edgeTurned_108 (lv_at hl 5 rfl) ?_
    refine lv_if_eq (tgt := 120) hx hb dX0_edgeTurned_110 (by decide) (fun c110 => ?_) (fun c110 => ?_)
    · have h := k_if c110 h
      refine lv_aload_n hx hb dX0_edgeTurned_120 rfl (lv_at hl 1 rfl) ?_
      refine r_get C hP (ci := 0) rfl uin_X0 0 (by decide) 0 (by decide) rfl qFL_RX0_19 rfl rfl dX0_edgeTurned_121 ?_
      refine lv_iconst (v := 1) hx hb dX0_edgeTurned_124 (by decide) ?_
      refine lv_iadd hx hb dX0_edgeTurned_125 ?_
      exact hB126 _ _ _ _ _ _ _ _ h hP (lv_sub hl [1, 2, 3, 4, 5, 0] rfl)
    · have h := k_nf c110 h
      refine lv_aload_n hx hb dX0_edgeTurned_113 rfl (lv_at hl 1 rfl) ?_
      refine r_get C hP (ci := 0) rfl uin_X0 0 (by decide) 0 (by decide) rfl qFL_RX0_19 rfl rfl dX0_edgeTurned_114 ?_
      refine lv_goto (tgt := 126) hx hb dX0_edgeTurned_117 (by decide) ?_
      exact hB126 _ _ _ _ _ _ _ _ h hP (lv_sub hl [1, 2, 3, 4, 5, 0] rfl)
  have hB86 : ∀ (x12 : Int32) (x13 : Int32) (x14 : Int32) (H : Heap) (locs : List Loc) (ls : Array Slot), f_X0_edgeTurned_b86 σ a2 x12 x13 x14 = some r → PS ev 1 ad (gw1 σ) (inA ad 1) s H locs → lv_has ls 9 [(0, .ref (ad 0)), (2, .int a2), (4, .int x12), (5, .int x13)] → WW ev p l e (rmk 1 27) s m args below meth c Qc ad 1 H locs 86 ls [.int x14] := by
    intro x12 x13 x14 H locs ls h hP hl
    have h := (f_X0_edgeTurned_b86.eq_1 _ _ _ _ _ ).symm.trans h
    refine lv_istore (lv' := [(6, .int x14), (0, .ref (ad 0)), (2, .int a2), (4, .int x12), (5, .int x13)]) hx hb dX0_edgeTurned_86 hl (by decide) rfl (fun ls hl => ?_)
    refine lv_iload hx hb dX0_edgeTurned_88 (lv_at hl 0 rfl) ?_
    refine lv_if_eq (tgt := 102) hx hb dX0_edgeTurned_90 (by decide) (fun c90 => ?_) (fun c90 => ?_)
    · have h := k_if c90 h
      refine lv_aload_n hx hb dX0_edgeTurned_102 rfl (lv_at hl 1 rfl) ?_
      refine r_get C hP (ci := 0) rfl uin_X0 1 (by decide) 0 (by decide) rfl qFL_RX0_22 rfl rfl dX0_edgeTurned_103 ?_
      exact hB106 _ _ _ _ _ _ _ h hP (lv_sub hl [1, 2, 3, 4, 0] rfl)
    · have h := k_nf c90 h
      refine lv_aload_n hx hb dX0_edgeTurned_93 rfl (lv_at hl 1 rfl) ?_
      refine r_get C hP (ci := 0) rfl uin_X0 1 (by decide) 0 (by decide) rfl qFL_RX0_22 rfl rfl dX0_edgeTurned_94 ?_
      refine lv_iconst (v := 1) hx hb dX0_edgeTurned_97 (by decide) ?_
      refine lv_iadd hx hb dX0_edgeTurned_98 ?_
      refine lv_goto (tgt := 106) hx hb dX0_edgeTurned_99 (by decide) ?_
      exact hB106 _ _ _ _ _ _ _ h hP (lv_sub hl [1, 2, 3, 4, 0] rfl)
  have hB78 : ∀ (x8 : Int32) (x9 : Int32) (x10 : Int32) (x11 : Int32) (H : Heap) (locs : List Loc) (ls : Array Slot), f_X0_edgeTurned_b78 σ a2 x8 x9 x10 x11 = some r → PS ev 1 ad (gw1 σ) (inA ad 1) s H locs → lv_has ls 9 [(0, .ref (ad 0)), (2, .int a2), (4, .int x8), (5, .int x9)] → WW ev p l e (rmk 1 27) s m args below meth c Qc ad 1 H locs 78 ls [.int x10, .int x11] := by
    intro x8 x9 x10 x11 H locs ls h hP hl
    have h := (f_X0_edgeTurned_b78.eq_1 _ _ _ _ _ _ ).symm.trans h
    refine lv_icmp_ne (tgt := 85) hx hb dX0_edgeTurned_78 (by decide) (fun c78 => ?_) (fun c78 => ?_)
    · have h := k_nf c78 h
      refine lv_iconst (v := 0) hx hb dX0_edgeTurned_85 (by decide) ?_
      exact hB86 _ _ _ _ _ _ h hP (lv_sub hl [0, 1, 2, 3] rfl)
    · have h := k_if c78 h
      refine lv_iconst (v := 1) hx hb dX0_edgeTurned_81 (by decide) ?_
      refine lv_goto (tgt := 86) hx hb dX0_edgeTurned_82 (by decide) ?_
      exact hB86 _ _ _ _ _ _ h hP (lv_sub hl [0, 1, 2, 3] rfl)
  have hB65 : ∀ (x5 : Int32) (x6 : Int32) (x7 : Int32) (H : Heap) (locs : List Loc) (ls : Array Slot), f_X0_edgeTurned_b65 σ a2 x5 x6 x7 = some r → PS ev 1 ad (gw1 σ) (inA ad 1) s H locs → lv_has ls 9 [(0, .ref (ad 0)), (2, .int a2), (3, .int x5), (4, .int x6)] → WW ev p l e (rmk 1 27) s m args below meth c Qc ad 1 H locs 65 ls [.int x7] := by
    intro x5 x6 x7 H locs ls h hP hl
    have h := (f_X0_edgeTurned_b65.eq_1 _ _ _ _ _ ).symm.trans h
    refine lv_istore (lv' := [(5, .int x7), (0, .ref (ad 0)), (2, .int a2), (3, .int x5), (4, .int x6)]) hx hb dX0_edgeTurned_65 hl (by decide) rfl (fun ls hl => ?_)
    refine lv_iload_n hx hb dX0_edgeTurned_67 rfl (lv_at hl 3 rfl) ?_
    refine lv_iload_n hx hb dX0_edgeTurned_68 rfl (lv_at hl 2 rfl) ?_
    refine lv_iconst (v := 4) hx hb dX0_edgeTurned_69 (by decide) ?_
    refine lv_icmp_ge (tgt := 77) hx hb dX0_edgeTurned_70 (by decide) (fun c70 => ?_) (fun c70 => ?_)
    · have h := k_if c70 h
      refine lv_iconst (v := 0) hx hb dX0_edgeTurned_77 (by decide) ?_
      exact hB78 _ _ _ _ _ _ _ h hP (lv_sub hl [1, 2, 4, 0] rfl)
    · have h := k_nf c70 h
      refine lv_iconst (v := 1) hx hb dX0_edgeTurned_73 (by decide) ?_
      refine lv_goto (tgt := 78) hx hb dX0_edgeTurned_74 (by decide) ?_
      exact hB78 _ _ _ _ _ _ _ h hP (lv_sub hl [1, 2, 4, 0] rfl)
  have hB31 : ∀ (x3 : Int32) (x4 : Int32) (H : Heap) (locs : List Loc) (ls : Array Slot), f_X0_edgeTurned_b31 σ a1 a2 x3 x4 = some r → PS ev 1 ad (gw1 σ) (inA ad 1) s H locs → lv_has ls 9 [(0, .ref (ad 0)), (1, .int a1), (2, .int a2), (3, .int x3)] → WW ev p l e (rmk 1 27) s m args below meth c Qc ad 1 H locs 31 ls [.int x4] := by
    intro x3 x4 H locs ls h hP hl
    have h := (f_X0_edgeTurned_b31.eq_1 _ _ _ _ _ ).symm.trans h
    refine lv_istore (lv' := [(4, .int x4), (0, .ref (ad 0)), (1, .int a1), (2, .int a2), (3, .int x3)]) hx hb dX0_edgeTurned_31 hl (by decide) rfl (fun ls hl => ?_)
    refine lv_iload_n hx hb dX0_edgeTurned_33 rfl (lv_at hl 4 rfl) ?_
    refine lv_if_eq (tgt := 49) hx hb dX0_edgeTurned_34 (by decide) (fun c34 => ?_) (fun c34 => ?_)
    · have h := k_if c34 h
      refine lv_iload_n hx hb dX0_edgeTurned_49 rfl (lv_at hl 2 rfl) ?_
      refine lv_aload_n hx hb dX0_edgeTurned_50 rfl (lv_at hl 1 rfl) ?_
      refine r_get C hP (ci := 0) rfl uin_X0 4 (by decide) 0 (by decide) rfl qFL_RX0_28 rfl rfl dX0_edgeTurned_51 ?_
      refine lv_isub hx hb dX0_edgeTurned_54 ?_
      refine lv_iload hx hb dX0_edgeTurned_55 (lv_at hl 0 rfl) ?_
      refine lv_aload_n hx hb dX0_edgeTurned_57 rfl (lv_at hl 1 rfl) ?_
      refine r_get C hP (ci := 0) rfl uin_X0 0 (by decide) 0 (by decide) rfl qFL_RX0_19 rfl rfl dX0_edgeTurned_58 ?_
      refine lv_iconst (v := 1) hx hb dX0_edgeTurned_61 (by decide) ?_
      refine lv_iadd hx hb dX0_edgeTurned_62 ?_
      refine lv_imul hx hb dX0_edgeTurned_63 ?_
      refine lv_isub hx hb dX0_edgeTurned_64 ?_
      exact hB65 _ _ _ _ _ _ h hP (lv_sub hl [1, 3, 4, 0] rfl)
    · have h := k_nf c34 h
      refine lv_iload_n hx hb dX0_edgeTurned_37 rfl (lv_at hl 2 rfl) ?_
      refine lv_iload hx hb dX0_edgeTurned_38 (lv_at hl 0 rfl) ?_
      refine lv_aload_n hx hb dX0_edgeTurned_40 rfl (lv_at hl 1 rfl) ?_
      refine r_get C hP (ci := 0) rfl uin_X0 0 (by decide) 0 (by decide) rfl qFL_RX0_19 rfl rfl dX0_edgeTurned_41 ?_
      refine lv_imul hx hb dX0_edgeTurned_44 ?_
      refine lv_isub hx hb dX0_edgeTurned_45 ?_
      refine lv_goto (tgt := 65) hx hb dX0_edgeTurned_46 (by decide) ?_
      exact hB65 _ _ _ _ _ _ h hP (lv_sub hl [1, 3, 4, 0] rfl)
  have hB13 : ∀ (x1 : Int32) (H : Heap) (locs : List Loc) (ls : Array Slot), f_X0_edgeTurned_b13 σ a1 a2 x1 = some r → PS ev 1 ad (gw1 σ) (inA ad 1) s H locs → lv_has ls 9 [(0, .ref (ad 0)), (1, .int a1), (2, .int a2)] → WW ev p l e (rmk 1 27) s m args below meth c Qc ad 1 H locs 13 ls [.int x1] := by
    intro x1 H locs ls h hP hl
    have h := (f_X0_edgeTurned_b13.eq_1 _ _ _ _ ).symm.trans h
    refine lv_istore_n (lv' := [(3, .int x1), (0, .ref (ad 0)), (1, .int a1), (2, .int a2)]) hx hb dX0_edgeTurned_13 rfl hl (by decide) rfl (fun ls hl => ?_)
    refine lv_iload_n hx hb dX0_edgeTurned_14 rfl (lv_at hl 0 rfl) ?_
    refine lv_if_eq (tgt := 26) hx hb dX0_edgeTurned_15 (by decide) (fun c15 => ?_) (fun c15 => ?_)
    · have h := k_if c15 h
      refine lv_aload_n hx hb dX0_edgeTurned_26 rfl (lv_at hl 1 rfl) ?_
      refine lv_iload_n hx hb dX0_edgeTurned_27 rfl (lv_at hl 2 rfl) ?_
      obtain ⟨x2, h1, h⟩ := k_ob h
      refine k_callVi C hP hap hAA (c_X0_uprightRow l ev ad σ a1   _ h1) Emb.same hap gz_X0_uprightRow qML_RX0_81 qIM_yX0_uprightRow qSE_yX0_uprightRow ⟨(Nat.le_of_ble_eq_true rfl), (Nat.le_of_ble_eq_true rfl)⟩ (q0 := 0) rfl (by decide) rfl rfl rfl rfl hl.1 rfl (Nat.le_of_ble_eq_true rfl) dX0_edgeTurned_28 ⟨Nat.le_refl _, Nat.le_refl _⟩ (fun H locs hP => ?_)
      exact hB31 _ _ _ _ _ h hP (lv_sub hl [1, 2, 3, 0] rfl)
    · have h := k_nf c15 h
      refine lv_aload_n hx hb dX0_edgeTurned_18 rfl (lv_at hl 1 rfl) ?_
      refine lv_iload_n hx hb dX0_edgeTurned_19 rfl (lv_at hl 2 rfl) ?_
      obtain ⟨x24, h1, h⟩ := k_ob h
      refine k_callVi C hP hap hAA (c_X0_rowOf l ev ad σ a1   _ h1) Emb.same hap gz_X0_rowOf qML_RX0_75 qIM_yX0_rowOf qSE_yX0_rowOf ⟨(Nat.le_of_ble_eq_true rfl), (Nat.le_of_ble_eq_true rfl)⟩ (q0 := 0) rfl (by decide) rfl rfl rfl rfl hl.1 rfl (Nat.le_of_ble_eq_true rfl) dX0_edgeTurned_20 ⟨Nat.le_refl _, Nat.le_refl _⟩ (fun H locs hP => ?_)
      refine lv_goto (tgt := 31) hx hb dX0_edgeTurned_23 (by decide) ?_
      exact hB31 _ _ _ _ _ h hP (lv_sub hl [1, 2, 3, 0] rfl)
  refine lv_iload_n hx hb dX0_edgeTurned_0 rfl (lv_at hl 1 rfl) ?_
  refine lv_aload_n hx hb dX0_edgeTurned_1 rfl (lv_at hl 0 rfl) ?_
  refine r_get C hP (ci := 0) rfl uin_X0 4 (by decide) 0 (by decide) rfl qFL_RX0_28 rfl rfl dX0_edgeTurned_2 ?_
  refine lv_icmp_ge (tgt := 12) hx hb dX0_edgeTurned_5 (by decide) (fun c5 => ?_) (fun c5 => ?_)
  · have h := k_if c5 h
    refine lv_iconst (v := 0) hx hb dX0_edgeTurned_12 (by decide) ?_
    exact hB13 _ _ _ _ h hP (lv_sub hl [0, 1, 2] rfl)
  · have h := k_nf c5 h
    refine lv_iconst (v := 1) hx hb dX0_edgeTurned_8 (by decide) ?_
    refine lv_goto (tgt := 13) hx hb dX0_edgeTurned_9 (by decide) ?_
    exact hB13 _ _ _ _ h hP (lv_sub hl [0, 1, 2] rfl)
