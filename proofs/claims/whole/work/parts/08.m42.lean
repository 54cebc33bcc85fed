/-! functions read off, and their contracts: by program (wip/whole/gen2.py) -/
def f_X4_isDigit (a1 : Int32) : Bool :=
  if a1 < 48 then false else if 57 < a1 then false else true
set_option maxHeartbeats 4000000 in
set_option maxRecDepth 100000 in
theorem c_X4_isDigit (l : Launch) (ev : EV) (ad : Nat → Nat) (a1 : Int32)   (r : Bool)  (h : f_X4_isDigit a1 = r) : Ct l yX4_isDigit prog_6_method_35_code 1 (Option.some Jvm.ClassFile.FieldType.boolean) (rmk 0 0) ev 0 ad w00 w00 [.int a1] (some (.int (bi r))) := by
  refine Ct.of (by decide +kernel) (Nat.le_of_ble_eq_true rfl) ?_
  intro p e s m args below meth c Qc C hap hP hend ls hl
  have hAA : ∀ j, j < 0 → inA ad 0 (ad j) := fun j hj => ⟨j, hj, rfl⟩
  have hx := C.1
  have hb := C.2.1
  have hl : lv_has ls 1 [(0, .int a1)] := hl
  have h := (f_X4_isDigit.eq_1 _ ).symm.trans h
  refine lv_iload_n hx hb dX4_isDigit_0 rfl (lv_at hl 0 rfl) ?_
  refine lv_bipush (v := 48) hx hb dX4_isDigit_1 (by decide) ?_
  refine lv_icmp_lt (tgt := 16) hx hb dX4_isDigit_3 (by decide) (fun c3 => ?_) (fun c3 => ?_)
  · have h := k_if c3 h
    refine lv_iconst (v := 0) hx hb dX4_isDigit_16 (by decide) ?_
    exact e_zret C hend hP h rfl dX4_isDigit_17 rfl
  · have h := k_nf c3 h
    refine lv_iload_n hx hb dX4_isDigit_6 rfl (lv_at hl 0 rfl) ?_
    refine lv_bipush (v := 57) hx hb dX4_isDigit_7 (by decide) ?_
    refine lv_icmp_gt (tgt := 16) hx hb dX4_isDigit_9 (by decide) (fun c9 => ?_) (fun c9 => ?_)
    · have h := k_if c9 h
      refine lv_iconst (v := 0) hx hb dX4_isDigit_16 (by decide) ?_
      exact e_zret C hend hP h rfl dX4_isDigit_17 rfl
    · have h := k_nf c9 h
      refine lv_iconst (v := 1) hx hb dX4_isDigit_12 (by decide) ?_
      refine lv_goto (tgt := 17) hx hb dX4_isDigit_13 (by decide) ?_
      exact e_zret C hend hP h rfl dX4_isDigit_17 rfl
def f_X4_next_L8_b  (k46 : MM → Option MM) (rec8 : MM → Option MM) (σ2 : MM) : Option MM :=
  if (m_taped σ2) ≤ (m_from σ2) then k46 σ2 else gd (inb (m_from σ2) 250) (if ((m_tape σ2) (Int32.toNatClampNeg (m_from σ2))) = 32 then lt (m_from' σ2 ((m_from σ2) + 1)) (fun σ3 => rec8 σ3) else k46 σ2)
def f_X4_next_L8  (k46 : MM → Option MM) (σ2 : MM) : Option MM :=
  lp (fun _ => none) (f_X4_next_L8_b  k46) FU σ2
def f_X4_next_L159_b  (k235 : MM → Option MM) (rec159 : MM → Option MM) (σ13 : MM) : Option MM :=
  if (m_taped σ13) ≤ (m_to σ13) then k235 σ13 else gd (inb (m_to σ13) 250) (if (f_X4_isDigit ((m_tape σ13) (Int32.toNatClampNeg (m_to σ13)))) = true then if 2 ≤ ((m_to σ13) - (m_from σ13)) then lt (m_to' σ13 ((m_to σ13) + 1)) (fun σ14 => rec159 σ14) else gd (inb (m_to σ13) 250) (lt (m_value' σ13 (((10 * (m_value σ13)) + ((m_tape σ13) (Int32.toNatClampNeg (m_to σ13)))) - 48)) (fun σ15 => lt (m_to' σ15 ((m_to σ15) + 1)) (fun σ16 => rec159 σ16))) else k235 σ13)
def f_X4_next_L159  (k235 : MM → Option MM) (σ13 : MM) : Option MM :=
  lp (fun _ => none) (f_X4_next_L159_b  k235) FU σ13
def f_X4_next_b235  (σ18 : MM) : Option MM :=
  if ((m_to σ18) - (m_from σ18)) ≤ 2 then lt (m_token' σ18 48) (fun σ19 => some σ19) else lt (m_token' σ18 120) (fun σ20 => some σ20)
def f_X4_next_L96_b  (k135 : MM → Option MM) (rec96 : MM → Option MM) (σ21 : MM) : Option MM :=
  if (m_taped σ21) ≤ (m_to σ21) then k135 σ21 else gd (inb (m_to σ21) 250) (if (f_X4_isLetter ((m_tape σ21) (Int32.toNatClampNeg (m_to σ21)))) = true then lt (m_to' σ21 ((m_to σ21) + 1)) (fun σ22 => rec96 σ22) else k135 σ21)
def f_X4_next_L96  (k135 : MM → Option MM) (σ21 : MM) : Option MM :=
  lp (fun _ => none) (f_X4_next_L96_b  k135) FU σ21
def f_X4_next_b46  (σ5 : MM) : Option MM :=
  lt (m_to' σ5 (m_from σ5)) (fun σ6 => if (m_from σ6) = (m_taped σ6) then lt (m_token' σ6 101) (fun σ25 => some σ25) else lt (m_to σ6) (fun x7 => lt (m_to' σ6 (x7 + 1)) (fun σ8 => gd (inb x7 250) (lt ((m_tape σ8) (Int32.toNatClampNeg x7)) (fun x9 => if (f_X4_isLetter x9) = true then f_X4_next_L96 (fun σ23 => lt (m_token' σ23 119) (fun σ24 => some σ24)) σ8 else if (f_X4_isDigit x9) = true then lt (m_value' σ8 (x9 - 48)) (fun σ12 => f_X4_next_L159 (fun σ17 => f_X4_next_b235 σ17) σ12) else if x9 = 59 then lt (m_token' σ8 59) (fun σ11 => some σ11) else lt (m_token' σ8 120) (fun σ10 => some σ10))))))
def f_X4_next (σ : MM) : Option MM :=
  lt (m_from' σ (m_to σ)) (fun σ1 => f_X4_next_L8 (fun σ4 => f_X4_next_b46 σ4) σ1)
set_option maxHeartbeats 4000000 in
set_option maxRecDepth 100000 in
theorem c_X4_next (l : Launch) (ev : EV) (ad : Nat → Nat) (σ : MM)    (σ' : MM) (h : f_X4_next σ = some σ') : Ct l yX4_next prog_6_method_36_code 2 (Option.none : Option Jvm.ClassFile.FieldType) (rmk 1 20) ev 13 ad (mw ev ad σ) (mw ev ad σ') [.ref (ad 0)] none := by
  refine Ct.of (by decide +kernel) (Nat.le_of_ble_eq_true rfl) ?_
  intro p e s m args below meth c Qc C hap hP hend ls hl
  have hAA : ∀ j, j < 13 → inA ad 13 (ad j) := fun j hj => ⟨j, hj, rfl⟩
  have hx := C.1
  have hb := C.2.1
  have hl : lv_has ls 2 [(0, .ref (ad 0))] := hl
  have h := (f_X4_next.eq_1 _ ).symm.trans h
  have hB235 : ∀ (σ18 : MM) (H : Heap) (locs : List Loc) (ls : Array Slot), f_X4_next_b235  σ18 = some σ' → PS ev 13 ad (mw ev ad σ18) (inA ad 13) s H locs → lv_has ls 2 [(0, .ref (ad 0))] → WW ev p l e (rmk 1 20) s m args below meth c Qc ad 13 H locs 235 ls [] := by
    intro σ18 H locs ls h hP hl
    have h := (f_X4_next_b235.eq_1 _ ).symm.trans h
    refine lv_aload_n hx hb dX4_next_235 rfl (lv_at hl 0 rfl) ?_
    refine lv_aload_n hx hb dX4_next_236 rfl (lv_at hl 0 rfl) ?_
    refine r_get C hP (ci := 4) rfl uin_X4 14 (by decide) 0 (by decide) rfl qFL_RX4_131 rfl rfl dX4_next_237 ?_
    refine lv_aload_n hx hb dX4_next_240 rfl (lv_at hl 0 rfl) ?_
    refine r_get C hP (ci := 4) rfl uin_X4 13 (by decide) 0 (by decide) rfl qFL_RX4_134 rfl rfl dX4_next_241 ?_
    refine lv_isub hx hb dX4_next_244 ?_
    refine lv_iconst (v := 2) hx hb dX4_next_245 (by decide) ?_
    refine lv_icmp_le (tgt := 254) hx hb dX4_next_246 (by decide) (fun c246 => ?_) (fun c246 => ?_)
    · have h := k_if c246 h
      refine lv_bipush (v := 48) hx hb dX4_next_254 (by decide) ?_
      obtain ⟨σ19, eσ19, h⟩ := k_ltx h
      refine pt_M_X4_token C hP hap hAA eσ19 qFL_RX4_137 dX4_next_256 (fun H locs hP => ?_)
      refine lv_goto (tgt := 279) hx hb dX4_next_259 (by decide) ?_
      exact e_vret C hend hP (congrArg (mw ev ad) (k_some h)) dX4_next_279
    · have h := k_nf c246 h
      refine lv_bipush (v := 120) hx hb dX4_next_249 (by decide) ?_
      refine lv_goto (tgt := 256) hx hb dX4_next_251 (by decide) ?_
      obtain ⟨σ20, eσ20, h⟩ := k_ltx h
      refine pt_M_X4_token C hP hap hAA eσ20 qFL_RX4_137 dX4_next_256 (fun H locs hP => ?_)
      refine lv_goto (tgt := 279) hx hb dX4_next_259 (by decide) ?_
      exact e_vret C hend hP (congrArg (mw ev ad) (k_some h)) dX4_next_279
  have hB46 : ∀ (σ5 : MM) (H : Heap) (locs : List Loc) (ls : Array Slot), f_X4_next_b46  σ5 = some σ' → PS ev 13 ad (mw ev ad σ5) (inA ad 13) s H locs → lv_has ls 2 [(0, .ref (ad 0))] → WW ev p l e (rmk 1 20) s m args below meth c Qc ad 13 H locs 46 ls [] := by
    intro σ5 H locs ls h hP hl
    have h := (f_X4_next_b46.eq_1 _ ).symm.trans h
    refine lv_aload_n hx hb dX4_next_46 rfl (lv_at hl 0 rfl) ?_
    refine lv_aload_n hx hb dX4_next_47 rfl (lv_at hl 0 rfl) ?_
    refine r_get C hP (ci := 4) rfl uin_X4 13 (by decide) 0 (by decide) rfl qFL_RX4_134 rfl rfl dX4_next_48 ?_
    obtain ⟨σ6, eσ6, h⟩ := k_ltx h
    refine pt_M_X4_to C hP hap hAA eσ6 qFL_RX4_131 dX4_next_51 (fun H locs hP => ?_)
    refine lv_aload_n hx hb dX4_next_54 rfl (lv_at hl 0 rfl) ?_
    refine r_get C hP (ci := 4) rfl uin_X4 13 (by decide) 0 (by decide) rfl qFL_RX4_134 rfl rfl dX4_next_55 ?_
    refine lv_aload_n hx hb dX4_next_58 rfl (lv_at hl 0 rfl) ?_
    refine r_get C hP (ci := 4) rfl uin_X4 11 (by decide) 0 (by decide) rfl qFL_RX4_128 rfl rfl dX4_next_59 ?_
    refine lv_icmp_ne (tgt := 72) hx hb dX4_next_62 (by decide) (fun c62 => ?_) (fun c62 => ?_)
    · have h := k_nf c62 h
      refine lv_aload_n hx hb dX4_next_72 rfl (lv_at hl 0 rfl) ?_
      refine r_get C hP (ci := 4) rfl uin_X4 12 (by decide) 0 (by decide) rfl qFL_RX4_26 rfl rfl dX4_next_73 ?_
      refine lv_aload_n hx hb dX4_next_76 rfl (lv_at hl 0 rfl) ?_
      refine lv_dup hx hb dX4_next_77 rfl ?_
      refine r_get C hP (ci := 4) rfl uin_X4 14 (by decide) 0 (by decide) rfl qFL_RX4_131 rfl rfl dX4_next_78 ?_
      refine lv_topi (fun x7 ex7 => ?_)
      have h := k_lt ex7 h
      refine lv_dup_x1 hx hb dX4_next_81 rfl rfl ?_
      refine lv_iconst (v := 1) hx hb dX4_next_82 (by decide) ?_
      refine lv_iadd hx hb dX4_next_83 ?_
      obtain ⟨σ8, eσ8, h⟩ := k_ltx h
      refine pt_M_X4_to C hP hap hAA eσ8 qFL_RX4_131 dX4_next_84 (fun H locs hP => ?_)
      obtain ⟨hg, h⟩ := k_gd h
      refine r_iald C hP 6 (by decide) rfl hg dX4_next_87 ?_
      refine lv_topi (fun x9 ex9 => ?_)
      have h := k_lt ex9 h
      refine lv_istore_n (lv' := [(1, .int x9), (0, .ref (ad 0))]) hx hb dX4_next_88 rfl hl (by decide) rfl (fun ls hl => ?_)
      refine lv_iload_n hx hb dX4_next_89 rfl (lv_at hl 0 rfl) ?_
      refine k_callSi C hP hap hAA (c_X4_isLetter l ev ad x9   _ rfl) Emb.none (apart_0 _) gz_X4_isLetter qML_RX4_140 qSM_yX4_isLetter ⟨(Nat.le_of_ble_eq_true rfl), (Nat.le_of_ble_eq_true rfl)⟩ rfl hl.1 rfl (Nat.le_of_ble_eq_true rfl) dX4_next_90 ⟨Nat.le_refl _, Nat.le_refl _⟩ (fun H locs hP => ?_)
      refine r_ifz_eq (tgt := 144) hx hb dX4_next_93 (by decide) (fun c93 => ?_) (fun c93 => ?_)
      · have h := k_nf c93 h
        refine lv_iload_n hx hb dX4_next_144 rfl (lv_at hl 0 rfl) ?_
        refine k_callSi C hP hap hAA (c_X4_isDigit l ev ad x9   _ rfl) Emb.none (apart_0 _) gz_X4_isDigit qML_RX4_143 qSM_yX4_isDigit ⟨(Nat.le_of_ble_eq_true rfl), (Nat.le_of_ble_eq_true rfl)⟩ rfl hl.1 rfl (Nat.le_of_ble_eq_true rfl) dX4_next_145 ⟨Nat.le_refl _, Nat.le_refl _⟩ (fun H locs hP => ?_)
        refine r_ifz_eq (tgt := 262) hx hb dX4_next_148 (by decide) (fun c148 => ?_) (fun c148 => ?_)
        · have h := k_nf c148 h
          refine lv_aload_n hx hb dX4_next_262 rfl (lv_at hl 1 rfl) ?_
          refine lv_iload_n hx hb dX4_next_263 rfl (lv_at hl 0 rfl) ?_
          refine lv_bipush (v := 59) hx hb dX4_next_264 (by decide) ?_
          refine lv_icmp_ne (tgt := 274) hx hb dX4_next_266 (by decide) (fun c266 => ?_) (fun c266 => ?_)
          · have h := k_nf c266 h
            refine lv_bipush (v := 120) hx hb dX4_next_274 (by decide) ?_
            obtain ⟨σ10, eσ10, h⟩ := k_ltx h
            refine pt_M_X4_token C hP hap hAA eσ10 qFL_RX4_137 dX4_next_276 (fun H locs hP => ?_)
            exact e_vret C hend hP (congrArg (mw ev ad) (k_some h)) dX4_next_279
          · have h := k_if c266 h
            refine lv_bipush (v := 59) hx hb dX4_next_269 (by decide) ?_
            refine lv_goto (tgt := 276) hx hb dX4_next_271 (by decide) ?_
            obtain ⟨σ11, eσ11, h⟩ := k_ltx h
            refine pt_M_X4_token C hP hap hAA eσ11 qFL_RX4_137 dX4_next_276 (fun H locs hP => ?_)
            exact e_vret C hend hP (congrArg (mw ev ad) (k_some h)) dX4_next_279
        · have h := k_if c148 h
          refine lv_aload_n hx hb dX4_next_151 rfl (lv_at hl 1 rfl) ?_
          refine lv_iload_n hx hb dX4_next_152 rfl (lv_at hl 0 rfl) ?_
          refine lv_bipush (v := 48) hx hb dX4_next_153 (by decide) ?_
          refine lv_isub hx hb dX4_next_155 ?_
          obtain ⟨σ12, eσ12, h⟩ := k_ltx h
          refine pt_M_X4_value C hP hap hAA eσ12 qFL_RX4_146 dX4_next_156 (fun H locs hP => ?_)
          have hL159 : ∀ (k235 : MM → Option MM) (hk235 : ∀  (σk : MM) (H : Heap) (locs : List Loc) (ls : Array Slot), k235  σk = some σ' → PS ev 13 ad (mw ev ad σk) (inA ad 13) s H locs → lv_has ls 2 [(0, .ref (ad 0))] → WW ev p l e (rmk 1 20) s m args below meth c Qc ad 13 H locs 235 ls []) (n : Nat) (σ13 : MM) (H : Heap) (locs : List Loc) (ls : Array Slot), lp (fun _ => none) (f_X4_next_L159_b  k235) n σ13 = some σ' → PS ev 13 ad (mw ev ad σ13) (inA ad 13) s H locs → lv_has ls 2 [(0, .ref (ad 0))] → WW ev p l e (rmk 1 20) s m args below meth c Qc ad 13 H locs 159 ls [] := by
            intro k235 hk235 n
            induction n with
            | zero =>
              intro σ13 H locs ls h; exact k_none h
            | succ n ih =>
              intro σ13 H locs ls h hP hl
              have h : f_X4_next_L159_b  k235 (lp (fun _ => none) (f_X4_next_L159_b  k235) n) σ13 = some σ' := h
              have h := (f_X4_next_L159_b.eq_1 _ _ _ ).symm.trans h
              refine lv_aload_n hx hb dX4_next_159 rfl (lv_at hl 0 rfl) ?_
              refine r_get C hP (ci := 4) rfl uin_X4 14 (by decide) 0 (by decide) rfl qFL_RX4_131 rfl rfl dX4_next_160 ?_
              refine lv_aload_n hx hb dX4_next_163 rfl (lv_at hl 0 rfl) ?_
              refine r_get C hP (ci := 4) rfl uin_X4 11 (by decide) 0 (by decide) rfl qFL_RX4_128 rfl rfl dX4_next_164 ?_
              refine lv_icmp_ge (tgt := 235) hx hb dX4_next_167 (by decide) (fun c167 => ?_) (fun c167 => ?_)
              · have h := k_if c167 h
                exact hk235 _ _ _ _ h hP (lv_sub hl [0] rfl)
              · have h := k_nf c167 h
                refine lv_aload_n hx hb dX4_next_170 rfl (lv_at hl 0 rfl) ?_
                refine r_get C hP (ci := 4) rfl uin_X4 12 (by decide) 0 (by decide) rfl qFL_RX4_26 rfl rfl dX4_next_171 ?_
                refine lv_aload_n hx hb dX4_next_174 rfl (lv_at hl 0 rfl) ?_
                refine r_get C hP (ci := 4) rfl uin_X4 14 (by decide) 0 (by decide) rfl qFL_RX4_131 rfl rfl dX4_next_175 ?_
                obtain ⟨hg, h⟩ := k_gd h
                refine r_iald C hP 6 (by decide) rfl hg dX4_next_178 ?_
                refine k_callSi C hP hap hAA (c_X4_isDigit l ev ad ((m_tape σ13) (Int32.toNatClampNeg (m_to σ13)))   _ rfl) Emb.none (apart_0 _) gz_X4_isDigit qML_RX4_143 qSM_yX4_isDigit ⟨(Nat.le_of_ble_eq_true rfl), (Nat.le_of_ble_eq_true rfl)⟩ rfl hl.1 rfl (Nat.le_of_ble_eq_true rfl) dX4_next_179 ⟨Nat.le_refl _, Nat.le_refl _⟩ (fun H locs hP => ?_)
                refine r_ifz_eq (tgt := 235) hx hb dX4_next_182 (by decide) (fun c182 => ?_) (fun c182 => ?_)
                · have h := k_nf c182 h
                  exact hk235 _ _ _ _ h hP (lv_sub hl [0] rfl)
                · have h := k_if c182 h
                  refine lv_aload_n hx hb dX4_next_185 rfl (lv_at hl 0 rfl) ?_
                  refine r_get C hP (ci := 4) rfl uin_X4 14 (by decide) 0 (by decide) rfl qFL_RX4_131 rfl rfl dX4_next_186 ?_
                  refine lv_aload_n hx hb dX4_next_189 rfl (lv_at hl 0 rfl) ?_
                  refine r_get C hP (ci := 4) rfl uin_X4 13 (by decide) 0 (by decide) rfl qFL_RX4_134 rfl rfl dX4_next_190 ?_
                  refine lv_isub hx hb dX4_next_193 ?_
                  refine lv_iconst (v := 2) hx hb dX4_next_194 (by decide) ?_
                  refine lv_icmp_ge (tgt := 222) hx hb dX4_next_195 (by decide) (fun c195 => ?_) (fun c195 => ?_)
                  · have h := k_if c195 h
                    refine lv_aload_n hx hb dX4_next_222 rfl (lv_at hl 0 rfl) ?_
                    refine lv_dup hx hb dX4_next_223 rfl ?_
                    refine r_get C hP (ci := 4) rfl uin_X4 14 (by decide) 0 (by decide) rfl qFL_RX4_131 rfl rfl dX4_next_224 ?_
                    refine lv_iconst (v := 1) hx hb dX4_next_227 (by decide) ?_
                    refine lv_iadd hx hb dX4_next_228 ?_
                    obtain ⟨σ14, eσ14, h⟩ := k_ltx h
                    refine pt_M_X4_to C hP hap hAA eσ14 qFL_RX4_131 dX4_next_229 (fun H locs hP => ?_)
                    refine lv_goto (tgt := 159) hx hb dX4_next_232 (by decide) ?_
                    exact ih _ _ _ _ h hP (lv_sub hl [0] rfl)
                  · have h := k_nf c195 h
                    refine lv_aload_n hx hb dX4_next_198 rfl (lv_at hl 0 rfl) ?_
                    refine lv_bipush (v := 10) hx hb dX4_next_199 (by decide) ?_
                    refine lv_aload_n hx hb dX4_next_201 rfl (lv_at hl 0 rfl) ?_
                    refine r_get C hP (ci := 4) rfl uin_X4 16 (by decide) 0 (by decide) rfl qFL_RX4_146 rfl rfl dX4_next_202 ?_
                    refine lv_imul hx hb dX4_next_205 ?_
                    refine lv_aload_n hx hb dX4_next_206 rfl (lv_at hl 0 rfl) ?_
                    refine r_get C hP (ci := 4) rfl uin_X4 12 (by decide) 0 (by decide) rfl qFL_RX4_26 rfl rfl dX4_next_207 ?_
                    refine lv_aload_n hx hb dX4_next_210 rfl (lv_at hl 0 rfl) ?_
                    refine r_get C hP (ci := 4) rfl uin_X4 14 (by decide) 0 (by decide) rfl qFL_RX4_131 rfl rfl dX4_next_211 ?_
                    obtain ⟨hg, h⟩ := k_gd h
                    refine r_iald C hP 6 (by decide) rfl hg dX4_next_214 ?_
                    refine lv_iadd hx hb dX4_next_215 ?_
                    refine lv_bipush (v := 48) hx hb dX4_next_216 (by decide) ?_
                    refine lv_isub hx hb dX4_next_218 ?_
                    obtain ⟨σ15, eσ15, h⟩ := k_ltx h
                    refine pt_M_X4_value C hP hap hAA eσ15 qFL_RX4_146 dX4_next_219 (fun H locs hP => ?_)
                    refine lv_aload_n hx hb dX4_next_222 rfl (lv_at hl 0 rfl) ?_
                    refine lv_dup hx hb dX4_next_223 rfl ?_
                    refine r_get C hP (ci := 4) rfl uin_X4 14 (by decide) 0 (by decide) rfl qFL_RX4_131 rfl rfl dX4_next_224 ?_
                    refine lv_iconst (v := 1) hx hb dX4_next_227 (by decide) ?_
                    refine lv_iadd hx hb dX4_next_228 ?_
                    obtain ⟨σ16, eσ16, h⟩ := k_ltx h
                    refine pt_M_X4_to C hP hap hAA eσ16 qFL_RX4_131 dX4_next_229 (fun H locs hP => ?_)
                    refine lv_goto (tgt := 159) hx hb dX4_next_232 (by decide) ?_
                    exact ih _ _ _ _ h hP (lv_sub hl [0] rfl)
          refine hL159 _ (fun σ17 H locs ls h hP hl => ?_) FU _ _ _ _ h hP (lv_sub hl [1] rfl)
          exact hB235 _ _ _ _ h hP (lv_sub hl [0] rfl)
      · have h := k_if c93 h
        have hL96 : ∀ (k135 : MM → Option MM) (hk135 : ∀  (σk : MM) (H : Heap) (locs : List Loc) (ls : Array Slot), k135  σk = some σ' → PS ev 13 ad (mw ev ad σk) (inA ad 13) s H locs → lv_has ls 2 [(0, .ref (ad 0))] → WW ev p l e (rmk 1 20) s m args below meth c Qc ad 13 H locs 135 ls []) (n : Nat) (σ21 : MM) (H : Heap) (locs : List Loc) (ls : Array Slot), lp (fun _ => none) (f_X4_next_L96_b  k135) n σ21 = some σ' → PS ev 13 ad (mw ev ad σ21) (inA ad 13) s H locs → lv_has ls 2 [(0, .ref (ad 0))] → WW ev p l e (rmk 1 20) s m args below meth c Qc ad 13 H locs 96 ls [] := by
          intro k135 hk135 n
          induction n with
          | zero =>
            intro σ21 H locs ls h; exact k_none h
          | succ n ih =>
            intro σ21 H locs ls h hP hl
            have h : f_X4_next_L96_b  k135 (lp (fun _ => none) (f_X4_next_L96_b  k135) n) σ21 = some σ' := h
            have h := (f_X4_next_L96_b.eq_1 _ _ _ ).symm.trans h
            refine lv_aload_n hx hb dX4_next_96 rfl (lv_at hl 0 rfl) ?_
            refine r_get C hP (ci := 4) rfl uin_X4 14 (by decide) 0 (by decide) rfl qFL_RX4_131 rfl rfl dX4_next_97 ?_
            refine lv_aload_n hx hb dX4_next_100 rfl (lv_at hl 0 rfl) ?_
            refine r_get C hP (ci := 4) rfl uin_X4 11 (by decide) 0 (by decide) rfl qFL_RX4_128 rfl rfl dX4_next_101 ?_
            refine lv_icmp_ge (tgt := 135) hx hb dX4_next_104 (by decide) (fun c104 => ?_) (fun c104 => ?_)
            · have h := k_if c104 h
              exact hk135 _ _ _ _ h hP (lv_sub hl [0] rfl)
            · have h := k_nf c104 h
              refine lv_aload_n hx hb dX4_next_107 rfl (lv_at hl 0 rfl) ?_
              refine r_get C hP (ci := 4) rfl uin_X4 12 (by decide) 0 (by decide) rfl qFL_RX4_26 rfl rfl dX4_next_108 ?_
              refine lv_aload_n hx hb dX4_next_111 rfl (lv_at hl 0 rfl) ?_
              refine r_get C hP (ci := 4) rfl uin_X4 14 (by decide) 0 (by decide) rfl qFL_RX4_131 rfl rfl dX4_next_112 ?_
              obtain ⟨hg, h⟩ := k_gd h
              refine r_iald C hP 6 (by decide) rfl hg dX4_next_115 ?_
              refine k_callSi C hP hap hAA (c_X4_isLetter l ev ad ((m_tape σ21) (Int32.toNatClampNeg (m_to σ21)))   _ rfl) Emb.none (apart_0 _) gz_X4_isLetter qML_RX4_140 qSM_yX4_isLetter ⟨(Nat.le_of_ble_eq_true rfl), (Nat.le_of_ble_eq_true rfl)⟩ rfl hl.1 rfl (Nat.le_of_ble_eq_true rfl) dX4_next_116 ⟨Nat.le_refl _, Nat.le_refl _⟩ (fun H locs hP => ?_)
              refine r_ifz_eq (tgt := 135) hx hb dX4_next_119 (by decide) (fun c119 => ?_) (fun c119 => ?_)
              · have h := k_nf c119 h
                exact hk135 _ _ _ _ h hP (lv_sub hl [0] rfl)
              · have h := k_if c119 h
                refine lv_aload_n hx hb dX4_next_122 rfl (lv_at hl 0 rfl) ?_
                refine lv_dup hx hb dX4_next_123 rfl ?_
                refine r_get C hP (ci := 4) rfl uin_X4 14 (by decide) 0 (by decide) rfl qFL_RX4_131 rfl rfl dX4_next_124 ?_
                refine lv_iconst (v := 1) hx hb dX4_next_127 (by decide) ?_
                refine lv_iadd hx hb dX4_next_128 ?_
                obtain ⟨σ22, eσ22, h⟩ := k_ltx h
                refine pt_M_X4_to C hP hap hAA eσ22 qFL_RX4_131 dX4_next_129 (fun H locs hP => ?_)
                refine lv_goto (tgt := 96) hx hb dX4_next_132 (by decide) ?_
                exact ih _ _ _ _ h hP (lv_sub hl [0] rfl)
        refine hL96 _ (fun σ23 H locs ls h hP hl => ?_) FU _ _ _ _ h hP (lv_sub hl [1] rfl)
        refine lv_aload_n hx hb dX4_next_135 rfl (lv_at hl 0 rfl) ?_
        refine lv_bipush (v := 119) hx hb dX4_next_136 (by decide) ?_
        obtain ⟨σ24, eσ24, h⟩ := k_ltx h
        refine pt_M_X4_token C hP hap hAA eσ24 qFL_RX4_137 dX4_next_138 (fun H locs hP => ?_)
        refine lv_goto (tgt := 279) hx hb dX4_next_141 (by decide) ?_
        exact e_vret C hend hP (congrArg (mw ev ad) (k_some h)) dX4_next_279
    · have h := k_if c62 h
      refine lv_aload_n hx hb dX4_next_65 rfl (lv_at hl 0 rfl) ?_
      refine lv_bipush (v := 101) hx hb dX4_next_66 (by decide) ?_
      obtain ⟨σ25, eσ25, h⟩ := k_ltx h
      refine pt_M_X4_token C hP hap hAA eσ25 qFL_RX4_137 dX4_next_68 (fun H locs hP => ?_)
      exact e_vret C hend hP (congrArg (mw ev ad) (k_some h)) dX4_next_71
  refine lv_aload_n hx hb dX4_next_0 rfl (lv_at hl 0 rfl) ?_
  refine lv_aload_n hx hb dX4_next_1 rfl (lv_at hl 0 rfl) ?_
  refine r_get C hP (ci := 4) rfl uin_X4 14 (by decide) 0 (by decide) rfl qFL_RX4_131 rfl rfl dX4_next_2 ?_
  obtain ⟨σ1, eσ1, h⟩ := k_ltx h
  refine pt_M_X4_from C hP hap hAA eσ1 qFL_RX4_134 dX4_next_5 (fun H locs hP => ?_)
  have hL8 : ∀ (k46 : MM → Option MM) (hk46 : ∀  (σk : MM) (H : Heap) (locs : List Loc) (ls : Array Slot), k46  σk = some σ' → PS ev 13 ad (mw ev ad σk) (inA ad 13) s H locs → lv_has ls 2 [(0, .ref (ad 0))] → WW ev p l e (rmk 1 20) s m args below meth c Qc ad 13 H locs 46 ls []) (n : Nat) (σ2 : MM) (H : Heap) (locs : List Loc) (ls : Array Slot), lp (fun _ => none) (f_X4_next_L8_b  k46) n σ2 = some σ' → PS ev 13 ad (mw ev ad σ2) (inA ad 13) s H locs → lv_has ls 2 [(0, .ref (ad 0))] → WW ev p l e (rmk 1 20) s m args below meth c Qc ad 13 H locs 8 ls [] := by
    intro k46 hk46 n
    induction n with
    | zero =>
      intro σ2 H locs ls h; exact k_none h
    | succ n ih =>
      intro σ2 H locs ls h hP hl
      have h : f_X4_next_L8_b  k46 (lp (fun _ => none) (f_X4_next_L8_b  k46) n) σ2 = some σ' := h
      have h := (f_X4_next_L8_b.eq_1 _ _ _ ).symm.trans h
      refine lv_aload_n hx hb dX4_next_8 rfl (lv_at hl 0 rfl) ?_
      refine r_get C hP (ci := 4) rfl uin_X4 13 (by decide) 0 (by decide) rfl qFL_RX4_134 rfl rfl dX4_next_9 ?_
      refine lv_aload_n hx hb dX4_next_12 rfl (lv_at hl 0 rfl) ?_
      refine r_get C hP (ci := 4) rfl uin_X4 11 (by decide) 0 (by decide) rfl qFL_RX4_128 rfl rfl dX4_next_13 ?_
      refine lv_icmp_ge (tgt := 46) hx hb dX4_next_16 (by decide) (fun c16 => ?_) (fun c16 => ?_)
      · have h := k_if c16 h
        exact hk46 _ _ _ _ h hP (lv_sub hl [0] rfl)
      · have h := k_nf c16 h
        refine lv_aload_n hx hb dX4_next_19 rfl (lv_at hl 0 rfl) ?_
        refine r_get C hP (ci := 4) rfl uin_X4 12 (by decide) 0 (by decide) rfl qFL_RX4_26 rfl rfl dX4_next_20 ?_
        refine lv_aload_n hx hb dX4_next_23 rfl (lv_at hl 0 rfl) ?_
        refine r_get C hP (ci := 4) rfl uin_X4 13 (by decide) 0 (by decide) rfl qFL_RX4_134 rfl rfl dX4_next_24 ?_
        obtain ⟨hg, h⟩ := k_gd h
        refine r_iald C hP 6 (by decide) rfl hg dX4_next_27 ?_
        refine lv_bipush (v := 32) hx hb dX4_next_28 (by decide) ?_
        refine lv_icmp_ne (tgt := 46) hx hb dX4_next_30 (by decide) (fun c30 => ?_) (fun c30 => ?_)
        · have h := k_nf c30 h
          exact hk46 _ _ _ _ h hP (lv_sub hl [0] rfl)
        · have h := k_if c30 h
          refine lv_aload_n hx hb dX4_next_33 rfl (lv_at hl 0 rfl) ?_
          refine lv_dup hx hb dX4_next_34 rfl ?_
          refine r_get C hP (ci := 4) rfl uin_X4 13 (by decide) 0 (by decide) rfl qFL_RX4_134 rfl rfl dX4_next_35 ?_
          refine lv_iconst (v := 1) hx hb dX4_next_38 (by decide) ?_
          refine lv_iadd hx hb dX4_next_39 ?_
          obtain ⟨σ3, eσ3, h⟩ := k_ltx h
          refine pt_M_X4_from C hP hap hAA eσ3 qFL_RX4_134 dX4_next_40 (fun H locs hP => ?_)
          refine lv_goto (tgt := 8) hx hb dX4_next_43 (by decide) ?_
          exact ih _ _ _ _ h hP (lv_sub hl [0] rfl)
  refine hL8 _ (fun σ4 H locs ls h hP hl => ?_) FU _ _ _ _ h hP (lv_sub hl [0] rfl)
  exact hB46 _ _ _ _ h hP (lv_sub hl [0] rfl)
