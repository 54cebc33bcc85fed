/-! the law from its entry -/
def tmS : Nat → Term := fun i => match i with
  | 0 => .string "HedgesAndDitches" 411
  | 1 => .string "HedgesAndDitches" 420
  | 2 => .string "HedgesAndDitches" 425
  | 3 => .string "HedgesAndDitches" 427
  | _ => .string "HedgesAndDitches" 431
def tmM : Nat → Term := fun i => match i with
  | 0 => .string "HedgesAndDitchesModel" 161
  | 1 => .string "HedgesAndDitchesModel" 170
  | 2 => .string "HedgesAndDitchesModel" 171
  | 3 => .string "HedgesAndDitchesModel" 182
  | _ => .string "HedgesAndDitchesModel" 183
abbrev atN : List Cond := flatC (Jvm.Cond.and given_1 narrow_1)
abbrev tmK : Term := .static "HedgesAndDitches" "KIND_ABOVE" "[I"
theorem nw_k0 : Cond.arrayOf tmK .int ∈ atN := by decide +kernel
theorem nw_k1 : Cond.eq (.length tmK) (.int 6) ∈ atN := by decide +kernel
theorem nw_k2 : ∀ j, j < 6 → Cond.eq (.elem tmK (.int (Int32.ofNat j))) (.int (kaF j)) ∈ atN := by decide +kernel
theorem nw_c : Cond.eq (.static "java/lang/String" "COMPACT_STRINGS" "Z") (.int 1) ∈ atN := by decide +kernel
theorem nw_s : Cond.isRef (.static "jdk/internal/util/Preconditions" "SIOOBE_FORMATTER" "Ljava/util/function/BiFunction;") ∈ atN := by decide +kernel
theorem nw_ex : ∀ i, i < 5 → Cond.exactly (tmS i) "java/lang/String" ∈ atN := by decide +kernel
theorem nw_co : ∀ i, i < 5 → Cond.eq (.field (tmS i) "java/lang/String" "coder" "B") (.int 0) ∈ atN := by decide +kernel
theorem nw_ar : ∀ i, i < 5 → Cond.arrayOf (.field (tmS i) "java/lang/String" "value" "[B") .byte ∈ atN := by decide +kernel
theorem nw_le : ∀ i, i < 5 → Cond.eq (.length (.field (tmS i) "java/lang/String" "value" "[B")) (.int (Int32.ofNat (lenJS.getD i 0))) ∈ atN := by decide +kernel
theorem nw_el : ∀ i, i < 5 → ∀ j, j < lenJS.getD i 0 → Cond.eq (.elem (.field (tmS i) "java/lang/String" "value" "[B") (.int (Int32.ofNat j))) (.int ((bytJS.getD i []).getD j 0)) ∈ atN := by decide +kernel
theorem nw_ne : ∀ i, i < 5 → ∀ j, j < 5 → i ≠ j → Cond.not (Cond.eq (tmS i) (tmS j)) ∈ atN ∨ Cond.not (Cond.eq (tmS j) (tmS i)) ∈ atN := by decide +kernel
theorem nw_eq : ∀ i, i < 5 → Cond.eq (tmS i) (tmM i) ∈ atN := by decide +kernel
theorem eq_ref {args : Array Value} {s : State} {t1 t2 : Term} {a : Nat} (h : (Cond.eq t1 t2).before args s = true) (h1 : t1.eval args s none [] s = some (.ref a)) : t2.eval args s none [] s = some (.ref a) := by
  cases hv : t2.eval args s none [] s with
  | none => simp [Cond.before, Cond.holds, Cond.value, hv, h1] at h
  | some w =>
    simp only [Cond.before, Cond.holds, Cond.value, hv, h1] at h
    cases w <;> simp_all
theorem arr_known {args : Array Value} {s : State} {ty : FieldType} (hno : ∀ C, ty ≠ .object C) (h : (Cond.arrayClass ty).before args s = true) : ∃ cA : ClassId, ArrOfT s cA ty ∧ va_RA s cA ty := by
  obtain ⟨cA, kA, comp, h1, h2, h3⟩ := Cond.arrayClass_spec h
  refine ⟨cA, fun n z => ⟨fun k h => (by cases h), kA, h2, comp, h3⟩, ?_⟩
  cases ty with
  | object C => exact absurd rfl (hno C)
  | _ => exact h1
theorem arr_knownO {args : Array Value} {s : State} {C : String} (h : (Cond.arrayOver (.object C)).before args s = true) : ∃ cA : ClassId, ArrOfT s cA (.object C) ∧ va_RA s cA (.object C) := by
  obtain ⟨comp, cA, kA, h1, -, h3, h4, h5⟩ := Cond.arrayOver_spec h
  exact ⟨cA, fun n z => ⟨fun k h => (by cases h), kA, h3, comp, h4⟩, kA, comp, h3, h4, h1, h5⟩
theorem lw_range {n j : Nat} {f : Nat → va_E} (h : j < n) : lw ((List.range n).map f) j = f j := by
  simp [lw, List.getD_eq_getElem?_getD, h]
theorem lw_ht {L : List va_E} {d : va_E} {j : Nat} (h : 0 < L.length) : lw (L.headD d :: L.tail) j = lw L j := by
  cases L with
  | nil => exact absurd h (Nat.lt_irrefl 0)
  | cons x xs => rfl
theorem mw_cong {ev : EV} {ad ad2 : Nat → Nat} {z : MM} (h : ∀ j, j < 13 → ad j = ad2 j) : ∀ k, mw ev ad z k = mw ev ad2 z k := by
  intro k
  match k with
  | 0 =>
    show mE ad z = mE ad2 z
    simp only [mE, h 1 (by decide), h 2 (by decide), h 3 (by decide), h 4 (by decide), h 5 (by decide), h 6 (by decide), h 7 (by decide), h 8 (by decide), h 9 (by decide), h 10 (by decide), h 11 (by decide), h 12 (by decide)]
  | 1 => rfl
  | 2 => rfl
  | 3 => rfl
  | 4 => rfl
  | 5 => rfl
  | 6 => rfl
  | 7 => rfl
  | 8 => rfl
  | 9 => rfl
  | 10 => rfl
  | 11 => rfl
  | k + 12 => rfl
theorem xw_cong {ev : EV} {ad ad2 : Nat → Nat} {z : XX} (h : ∀ j, j < 26 → ad j = ad2 j) : ∀ k, k < 26 → k ≠ 7 → xw ev ad z k = xw ev ad2 z k := by
  intro k hk h7
  match k, hk, h7 with
  | 0, _, _ =>
    show xE ad z = xE ad2 z
    simp only [xE, h 1 (by decide), h 2 (by decide), h 3 (by decide), h 4 (by decide), h 5 (by decide), h 6 (by decide), h 7 (by decide), h 8 (by decide)]
  | 1, _, _ => rfl
  | 2, _, _ => rfl
  | 3, _, _ => rfl
  | 4, _, _ => rfl
  | 5, _, _ => rfl
  | 6, _, _ => rfl
  | 7, _, h7 => exact absurd rfl h7
  | 8, _, _ =>
    show tE (ad 9) _ = tE (ad2 9) _
    rw [h 9 (by decide)]
  | 9, _, _ => rfl
  | k + 10, hk, _ =>
    by_cases h8 : k < 8
    · rw [xw_shelf h8, xw_shelf h8, h (k + 18) (by omega)]
    · obtain ⟨i, rfl⟩ : ∃ i, k = i + 8 := ⟨k - 8, by omega⟩
      rw [show i + 8 + 10 = i + 18 from rfl, xw_elem (by omega), xw_elem (by omega)]
theorem xw_cong7 {ev : EV} {ad ad2 : Nat → Nat} {z : XX} {q : Nat} {H : Heap} (h : ∀ j, j < 26 → ad j = ad2 j) (h1 : va_at ev.1 vwCl (q, xw ev ad z 7) H) : va_at ev.1 vwCl (q, xw ev ad2 z 7) H := by
  have e7 : vp_cell (ev.2.1 4) (8, .inr (.inr (.inr (.inr (fun j => some (ad (j + 10))))))) = vp_cell (ev.2.1 4) (8, .inr (.inr (.inr (.inr (fun j => some (ad2 (j + 10))))))) := by
    rw [vp_cell_q, vp_cell_q]
    exact arrV_congr (fun j hj => by rw [h (j + 10) (by omega)])
  have h2 : H[q]? = some (vp_cell (ev.2.1 4) (8, .inr (.inr (.inr (.inr (fun j => some (ad (j + 10)))))))) := h1
  exact h2.trans (congrArg some e7)
set_option maxHeartbeats 4000000 in
set_option maxRecDepth 100000 in
/-- what the start gives: the classes, the arrays' classes, the statics, the texts -/
theorem start_ev {p : Program} {s : State} {m : MethodId} {meth : Method} {c : Code} {b L : Nat} {xs : Nat → Int32} (C0 : lw_At p s m meth c b L xs) : ∃ ev : EV, CX ev p s m #[Value.ref b] meth c code 4 ret R_law (fun q => s.heap.size ≤ q) := by
  obtain ⟨hx, hb, hr, hml, hown, hts, hX, hbl, hlocks, hgv⟩ := id C0
  have hg : ∀ w ∈ gw, w.before #[Value.ref b] s = true := fun w hw => hts w (gw_tb hw)
  have hN := flat_of_before _ hgv
  have hA : ∀ a : Nat, a < s.heap.size → ¬ (fun q => s.heap.size ≤ q) a := fun a h => Nat.not_le.mpr h
  obtain ⟨c0, i0, hK0⟩ := u_known (C := RX0) (T := TX0) (N := 16) (n := 16) hg uin_X0 (hg _ qIS_RX0)
  obtain ⟨c1, i1, hK1⟩ := u_known (C := RX1) (T := TX1) (N := 3) (n := 3) hg uin_X1 (hg _ qIS_RX1)
  obtain ⟨c2, i2, hK2⟩ := u_known (C := RX2) (T := TX2) (N := 4) (n := 4) hg uin_X2 (hg _ qIS_RX2)
  obtain ⟨c3, i3, hK3⟩ := u_known (C := RX3) (T := TX3) (N := 11) (n := 11) hg uin_X3 (hg _ qIS_RX3)
  obtain ⟨c4, i4, hK4⟩ := u_known (C := RX4) (T := TX4) (N := 25) (n := 25) hg uin_X4 (hg _ qIS_RX4)
  obtain ⟨aI, aI1, aI2⟩ := arr_known (ty := .int) (fun C h => by cases h) (hg _ qarrayClass_1_133)
  obtain ⟨aZ, aZ1, aZ2⟩ := arr_known (ty := .boolean) (fun C h => by cases h) (hg _ qarrayClass_5_53)
  obtain ⟨aJ, aJ1, aJ2⟩ := arr_known (ty := .long) (fun C h => by cases h) (hg _ qarrayClass_1_153)
  obtain ⟨aC, aC1, aC2⟩ := arr_known (ty := .char) (fun C h => by cases h) (hg _ qarrayClass_1_134)
  obtain ⟨aO, aO1, aO2⟩ := arr_knownO (C := "HedgesAndDitches$Shelf") (hts _ qarrayOver_1_111)
  obtain ⟨ka, hka, hkt⟩ := va_Tof (tm := tmK) (ty := .int) (N := 6) (f := fun j => .int (kaF j)) (A := fun q => s.heap.size ≤ q) (by decide) (hN _ nw_k0) (va_eqt (hN _ nw_k1)) (fun j hj => va_eqt (hN _ (nw_k2 j hj))) hA
  obtain ⟨adK, adV, hS, hSe⟩ := vk_Sof (s := s) (N := 5) (tm := tmS) (len := lenJS) (byt := bytJS) (A := fun q => s.heap.size ≤ q) (by decide +kernel) (fun i hi => hN _ (nw_ex i hi)) (fun i hi => hN _ (nw_co i hi)) (fun i hi => hN _ (nw_ar i hi)) (fun i hi => hN _ (nw_le i hi)) (fun i hi j hj => hN _ (nw_el i hi j hj))
    (fun i j hi hj hij => by rcases nw_ne i hi j hj hij with h | h; exact Or.inl (hN _ h); exact Or.inr (hN _ h)) hA
  have hMe : ∀ i, i < 5 → (tmM i).eval #[Value.ref b] s none [] s = some (.ref (adK i)) := fun i hi => eq_ref (hN _ (nw_eq i hi)) (hSe i hi)
  refine ⟨((fun k => match k with | 0 => c0 | 1 => c1 | 2 => c2 | 3 => c3 | _ => c4, fun k => match k with | 0 => i0 | 1 => i1 | 2 => i2 | 3 => i3 | _ => i4), (fun k => match k with | 0 => aI | 1 => aZ | 2 => aJ | 3 => aC | _ => aO), ka, adK, adV), hx, hb, hml, hr, hg, hown, hlocks, ⟨fun k q hq => ?_, fun k q hq => ?_⟩, ?_⟩
  · match k, hq with
    | 0, hq => cases hq; exact hK0
    | 1, hq => cases hq; exact hK1
    | 2, hq => cases hq; exact hK2
    | 3, hq => cases hq; exact hK3
    | 4, hq => cases hq; exact hK4
    | k + 5, hq => simp [vwCl] at hq
  · match k, hq with
    | 0, hq => cases hq; exact ⟨aI1, aI2⟩
    | 1, hq => cases hq; exact ⟨aZ1, aZ2⟩
    | 2, hq => cases hq; exact ⟨aJ1, aJ2⟩
    | 3, hq => cases hq; exact ⟨aC1, aC2⟩
    | 4, hq => cases hq; exact ⟨aO1, aO2⟩
    | k + 5, hq => simp [TY] at hq
  · refine ⟨va_Zref (hts _ qlaysStatic_2_46) (hg _ qIN_RX3) hka hA, hkt, va_Zof (hts _ qlaysStatic_2_231) (hg _ qIN_RJ0) (va_eqi (hN _ nw_c)) hA, ?_, hS, ⟨vk_R.of (hts _ qstringRef_2_217) (hSe 0 (by decide)), vk_R.of (hts _ qstringRef_3_42) (hSe 1 (by decide)), vk_R.of (hts _ qstringRef_3_72) (hSe 2 (by decide)), vk_R.of (hts _ qstringRef_3_73) (hSe 3 (by decide)), vk_R.of (hts _ qstringRef_3_78) (hSe 4 (by decide))⟩,
      ⟨vk_R.of (hts _ qstringRef_5_229) (hMe 0 (by decide)), vk_R.of (hts _ qstringRef_6_0) (hMe 1 (by decide)), vk_R.of (hts _ qstringRef_6_1) (hMe 2 (by decide)), vk_R.of (hts _ qstringRef_6_6) (hMe 3 (by decide)), vk_R.of (hts _ qstringRef_6_7) (hMe 4 (by decide))⟩, ?_, va_AO.of (hts _ qarrayOver_1_111)⟩
    · rcases va_Zqof (hts _ qlaysStatic_3_7) (hg _ qIN_RJ3) (hN _ nw_s) hA with h | ⟨t, h⟩
      · exact ⟨_, Or.inl rfl, h⟩
      · exact ⟨_, Or.inr ⟨t, rfl⟩, h⟩
    · intro q hq
      simp only [nestL, List.mem_cons, List.not_mem_nil, or_false] at hq
      rcases hq with rfl | rfl | rfl | rfl | rfl
      · exact va_Nw.of rfl (hts _ qMN_RX3_47)
      · exact va_Nw.of rfl (hts _ qMN_RX3_55)
      · exact va_Nw.of rfl (hts _ qMN_RX1_30)
      · exact va_Nw.of rfl (hts _ qMN_RX0_170)
      · exact va_Nw.of rfl (hts _ qMN_RX0_173)
set_option maxHeartbeats 8000000 in
set_option maxRecDepth 100000 in
/-- THE LAW, from its entry -/
theorem whole_start {p : Program} {e : Env} {s : State} {m : MethodId} {below : List Frame} {meth : Method} {c : Code} (l : Launch) (hflags : l.flags = flags0) {b L : Nat} {xs : Nat → Int32} (hL : L ≤ 3072) (C0 : lw_At p s m meth c b L xs) : W p l e room_1 s m #[Value.ref b] below meth c s.heap [] 0 0 (lw_Z below #[Value.ref b] s) (entryFrame m ([Value.ref b] : List Value).toArray 4) := by
  obtain ⟨ev, C⟩ := start_ev C0
  obtain ⟨-, -, -, -, -, -, hX, hbl, -, -⟩ := C0
  obtain ⟨r, gI, z1, hg1, hg2, hR⟩ := B_init
  have hA : ∀ q : Nat, s.heap.size ≤ q → (fun q : Nat => s.heap.size ≤ q) q := fun _ h => h
  have hx := C.1
  have hb := C.2.1
  have hP : PS ev 0 (la []) (lw []) (fun q => s.heap.size ≤ q) s s.heap [] := ⟨wl_P.mpr (fun k hk => absurd hk (Nat.not_lt_zero k)), va_S.rf⟩
  have hap : apart (la []) 0 := apart_0 _
  have hAA : ∀ j, j < 0 → (fun q => s.heap.size ≤ q) (la [] j) := fun j hj => absurd hj (Nat.not_lt_zero j)
  have hl := lv_entry ([.ref b]) (n := 4) (Nat.le_of_ble_eq_true rfl)
  rw [lg_entry_eq]
  generalize (lg_sl ([.ref b]) ++ List.replicate (4 - (lg_sl ([.ref b])).length) Slot.unset).toArray = ls at hl ⊢
  have hl : lv_has ls 4 [(0, .ref b)] := hl
  refine r_newL C hP hap hAA hA rfl rfl (ci := 3) rfl uin_X3 tyX3 tyX3_ok qKL_RL_7 qIS_RX3 qIN_RX3 (fs := [.null, .null, .null, .int 0, .null, .null, .int 0, .int 0, .null, .null, .null]) (fun j hj => by rcases (show j = 0 ∨ j = 1 ∨ j = 2 ∨ j = 3 ∨ j = 4 ∨ j = 5 ∨ j = 6 ∨ j = 7 ∨ j = 8 ∨ j = 9 ∨ j = 10 by omega) with rfl | rfl | rfl | rfl | rfl | rfl | rfl | rfl | rfl | rfl | rfl <;> rfl) (Nat.le_of_ble_eq_true rfl) (Nat.le_of_ble_eq_true rfl) dL_law_0 (fun q1 H hP hap hAA => ?_)
  refine lv_dup hx hb dL_law_3 rfl ?_
  have hE1 : ∀ qs : List Nat, qs.length = 25 → (eX ev gI (q1 :: qs)).length = 25 + 1 := fun qs _ => by simp [eX]
  refine k_newN (k := 25) (E := eX ev gI) C hP hap hAA hA rfl rfl (c_X3_init l ev q1 H.size hg1) 0 (by decide) rfl rfl hE1 gz_X3_init qML_RL_9 qIM_yX3_init rfl ⟨(Nat.le_of_ble_eq_true rfl), (Nat.le_of_ble_eq_true rfl)⟩ rfl hl.1 rfl (Nat.le_of_ble_eq_true rfl) dL_law_4 ⟨(Nat.le_of_ble_eq_true rfl), (Nat.le_of_ble_eq_true rfl)⟩ (fun qs H locs hqs hP hap hAA => ?_)
  refine lv_astore_n (lv' := [(1, .ref q1), (0, .ref b)]) hx hb dL_law_7 rfl hl (by decide) rfl (fun ls hl => ?_)
  have hlen1 : ([] ++ [q1] ++ qs : List Nat).length = 0 + 1 + 25 := by simp [hqs]
  have hX0 : ∀ j, j < 26 → lw ((([] ++ [.inr (3, [.null, .null, .null, .int 0, .null, .null, .int 0, .int 0, .null, .null, .null])] : List va_E).set 0 ((eX ev gI (q1 :: qs)).headD (.inr (0, [])))) ++ (eX ev gI (q1 :: qs)).tail) j = xw ev (la (q1 :: qs)) (xI gI) j := fun j hj => by
    have h1 : lw ((([] ++ [.inr (3, [.null, .null, .null, .int 0, .null, .null, .int 0, .int 0, .null, .null, .null])] : List va_E).set 0 ((eX ev gI (q1 :: qs)).headD (.inr (0, [])))) ++ (eX ev gI (q1 :: qs)).tail) j = lw ((eX ev gI (q1 :: qs)).headD (.inr (0, [])) :: (eX ev gI (q1 :: qs)).tail) j := rfl
    rw [h1, lw_ht (by rw [hE1 qs hqs]; decide)]
    exact lw_range hj
  generalize hes1 : ((([] ++ [.inr (3, [.null, .null, .null, .int 0, .null, .null, .int 0, .int 0, .null, .null, .null])] : List va_E).set 0 ((eX ev gI (q1 :: qs)).headD (.inr (0, [])))) ++ (eX ev gI (q1 :: qs)).tail) = es1 at hP hX0
  have hlen2 : es1.length = 0 + 1 + 25 := by
    rw [← hes1]
    simp [eX]
  have hla1 : la ([] ++ [q1] ++ qs) = la (q1 :: qs) := rfl
  refine r_newL (as := [] ++ [q1] ++ qs) C hP hap hAA hA hlen1 hlen2 (ci := 4) rfl uin_X4 tyX4 tyX4_ok qKL_RL_10 qIS_RX4 qIN_RX4 (fs := [.int 0, .int 0, .null, .null, .null, .int 0, .int 0, .int 0, .null, .null, .int 0, .int 0, .null, .int 0, .int 0, .int 0, .int 0, .null, .null, .null, .null, .int 0, .null, .null, .int 0]) (fun j hj => by rcases (show j = 0 ∨ j = 1 ∨ j = 2 ∨ j = 3 ∨ j = 4 ∨ j = 5 ∨ j = 6 ∨ j = 7 ∨ j = 8 ∨ j = 9 ∨ j = 10 ∨ j = 11 ∨ j = 12 ∨ j = 13 ∨ j = 14 ∨ j = 15 ∨ j = 16 ∨ j = 17 ∨ j = 18 ∨ j = 19 ∨ j = 20 ∨ j = 21 ∨ j = 22 ∨ j = 23 ∨ j = 24 by omega) with rfl | rfl | rfl | rfl | rfl | rfl | rfl | rfl | rfl | rfl | rfl | rfl | rfl | rfl | rfl | rfl | rfl | rfl | rfl | rfl | rfl | rfl | rfl | rfl | rfl <;> rfl) (Nat.le_of_ble_eq_true rfl) (Nat.le_of_ble_eq_true rfl) dL_law_8 (fun q2 H hP hap hAA => ?_)
  refine lv_dup hx hb dL_law_11 rfl ?_
  have hE2 : ∀ qs2 : List Nat, qs2.length = 12 → (eM ev z1 (q2 :: qs2)).length = 12 + 1 := fun qs2 _ => by simp [eM]
  have hj26 : la ([] ++ [q1] ++ qs ++ [q2]) 26 = q2 := by
    rw [la_right (by rw [hlen1]; decide), hlen1]
    rfl
  have hw26 : lw (es1 ++ ([.inr (4, [.int 0, .int 0, .null, .null, .null, .int 0, .int 0, .int 0, .null, .null, .int 0, .int 0, .null, .int 0, .int 0, .int 0, .int 0, .null, .null, .null, .null, .int 0, .null, .null, .int 0])] : List va_E)) 26 = .inr (4, [.int 0, .int 0, .null, .null, .null, .int 0, .int 0, .int 0, .null, .null, .int 0, .int 0, .null, .int 0, .int 0, .int 0, .int 0, .null, .null, .null, .null, .int 0, .null, .null, .int 0]) := by
    rw [lw_right (by rw [hlen2]; decide), hlen2]
    rfl
  refine k_newN (k := 12) (E := eM ev z1) C hP hap hAA hA (by simp [hqs]) (by simp [hlen2]) (c_X4_init l ev q2 H.size hg2) 26 (by decide) hj26.symm hw26 hE2 gz_X4_init qML_RL_12 qIM_yX4_init rfl ⟨(Nat.le_of_ble_eq_true rfl), (Nat.le_of_ble_eq_true rfl)⟩ rfl hl.1 rfl (Nat.le_of_ble_eq_true rfl) dL_law_12 ⟨(Nat.le_of_ble_eq_true rfl), (Nat.le_of_ble_eq_true rfl)⟩ (fun qs2 H locs hqs2 hP hap hAA => ?_)
  generalize hasd : ([] ++ [q1] ++ qs ++ [q2] ++ qs2 : List Nat) = as3 at hP hap hAA
  have h39 : 0 + 1 + 25 + 1 + 12 = 39 := rfl
  have hlx : ∀ j, j < 26 → la (q1 :: qs) j = la as3 j := fun j hj => by
    rw [← hasd, la_left (by simp [hqs]; omega), la_left (by simp [hqs]; omega)]
    rfl
  have hlm : ∀ j, j < 13 → la (q2 :: qs2) j = la as3 (j + 26) := fun j hj => by
    rw [← hasd, show ([] ++ [q1] ++ qs ++ [q2] ++ qs2 : List Nat) = ([] ++ [q1] ++ qs) ++ (q2 :: qs2) by simp, la_right (by rw [hlen1]; omega), hlen1]
    rfl
  have hP3 : PS ev 39 (la as3) (LWf ev (la as3) (xI gI) z1) (fun q => s.heap.size ≤ q) s H locs := by
    refine ⟨wl_P.mpr (fun j hj => ?_), hP.2⟩
    have h1 := wl_P.mp hP.1 j hj
    by_cases h26 : j < 26
    · rw [lw_left (by simp [hlen2]; omega), lw_set (by simp [hlen2])] at h1
      have h2 : updW (lw (es1 ++ ([.inr (4, [.int 0, .int 0, .null, .null, .null, .int 0, .int 0, .int 0, .null, .null, .int 0, .int 0, .null, .int 0, .int 0, .int 0, .int 0, .null, .null, .null, .null, .int 0, .null, .null, .int 0])] : List va_E))) 26 ((eM ev z1 (q2 :: qs2)).headD (.inr (0, []))) j = xw ev (la (q1 :: qs)) (xI gI) j := by
        unfold updW
        rw [if_neg (by omega), lw_left (by omega)]
        exact hX0 j h26
      rw [h2] at h1
      have h3 : LWf ev (la as3) (xI gI) z1 j = xw ev (la as3) (xI gI) j := if_pos h26
      rw [h3]
      by_cases h7 : j = 7
      · subst h7
        exact xw_cong7 hlx h1
      · rw [← xw_cong hlx j h26 h7]
        exact h1
    · have h3 : LWf ev (la as3) (xI gI) z1 j = mw ev (fun j => la as3 (j + 26)) z1 (j - 26) := if_neg h26
      rw [h3, ← mw_cong hlm]
      have h2 : lw ((es1 ++ ([.inr (4, [.int 0, .int 0, .null, .null, .null, .int 0, .int 0, .int 0, .null, .null, .int 0, .int 0, .null, .int 0, .int 0, .int 0, .int 0, .null, .null, .null, .null, .int 0, .null, .null, .int 0])] : List va_E)).set 26 ((eM ev z1 (q2 :: qs2)).headD (.inr (0, []))) ++ (eM ev z1 (q2 :: qs2)).tail) j = mw ev (la (q2 :: qs2)) z1 (j - 26) := by
        have h5 : lw (eM ev z1 (q2 :: qs2)) (j - 26) = mw ev (la (q2 :: qs2)) z1 (j - 26) := lw_range (by omega)
        refine Eq.trans ?_ ((lw_ht (d := .inr (0, [])) (by rw [hE2 qs2 hqs2]; decide)).trans h5)
        by_cases he : j = 26
        · subst he
          rw [lw_left (by simp [hlen2]), lw_set (by simp [hlen2])]
          unfold updW
          rw [if_pos rfl]
          rfl
        · rw [lw_right (by simp [hlen2]; omega)]
          have h6 : ((es1 ++ ([.inr (4, [.int 0, .int 0, .null, .null, .null, .int 0, .int 0, .int 0, .null, .null, .int 0, .int 0, .null, .int 0, .int 0, .int 0, .int 0, .null, .null, .null, .null, .int 0, .null, .null, .int 0])] : List va_E)).set 26 ((eM ev z1 (q2 :: qs2)).headD (.inr (0, [])))).length = 27 := by simp [hlen2]
          rw [h6]
          obtain ⟨i, rfl⟩ : ∃ i, j = i + 27 := ⟨j - 27, by omega⟩
          rw [Nat.add_sub_cancel, show i + 27 - 26 = i + 1 by omega]
          rfl
      rw [h2] at h1
      exact h1
  have hq1 : la as3 0 = q1 := (hlx 0 (by decide)).symm
  have hq2 : la as3 26 = q2 := (hlm 0 (by decide)).symm
  rw [← hq1] at hl
  refine W.widen (k := 600000) (n := 7302250) (Nat.le_of_ble_eq_true rfl) (Nat.le_of_ble_eq_true rfl) ?_
  rw [← hq2]
  refine lv_astore_n (lv' := [(2, .ref (la as3 26)), (1, .ref (la as3 0)), (0, .ref b)]) hx hb dL_law_15 rfl hl (by decide) rfl (fun ls hl => ?_)
  refine lv_iconst (v := nI 0) hx hb dL_law_16 (by decide) ?_
  refine lv_istore_n (lv' := [(3, .int (nI 0)), (2, .ref (la as3 26)), (1, .ref (la as3 0)), (0, .ref b)]) hx hb dL_law_17 rfl hl (by decide) rfl (fun ls hl => ?_)
  exact law_loop C hL hX hbl hap hAA (L + 1) 0 (Nat.zero_le L) (by omega) (xI gI) z1 _ _ _ hR hP3 (lv_sub hl [3, 2, 1, 0] rfl)
