/-! Rows for a static array, String constants: at first as statements -/
section NAT
variable {p : Program} {l : Launch} {e : Env} {R : Room} {s : State} {m : MethodId} {args : Array Value} {below : List Frame} {meth : Method} {c : Code} {H : Heap} {locs : List Loc} {cells slots : Nat} {Q : State → Prop}
variable {cc : ByteArray} {nL : Nat} {ret : Option FieldType} {own : String} {A : Nat → Prop} {pc : Nat} {ls : Array Slot} {rest st0 : List Value} {ev : EV} {n n' : Nat} {ad ad' : Nat → Nat} {w w' w2 w0 w0' : Nat → va_E} {index tgt : Nat}
theorem r_kind (C : CX ev p s m args meth c cc nL ret own A) (hP : PS ev n ad w A s H locs) (hlink : Cond.fieldLink own index "HedgesAndDitches" "KIND_ABOVE" "[I" ∈ gw) (hdg : decode cc pc = .ok (.getstatic index, 3))
    (kk : W p l e R s m args below meth c H locs cells slots Q (F0 m (pc + 3) ls (.ref ev.2.2.1 :: rest))) : W p l e R s m args below meth c H locs cells slots Q (F0 m pc ls rest) := by
  obtain ⟨hx, hb, -, -, hts, hown, -, -, hE⟩ := C
  exact va_gets hx hb hE.1 hP.2 hown (hts _ hlink) (fun _ h => h) hdg kk
theorem r_kald (C : CX ev p s m args meth c cc nL ret own A) (hP : PS ev n ad w A s H locs) {i : Int32} (hin : inb i 6 = true) (hdg : decode cc pc = .ok (.iaload, 1))
    (kk : W p l e R s m args below meth c H locs cells slots Q (F0 m (pc + 1) ls (.int (kaF i.toNatClampNeg) :: rest))) : W p l e R s m args below meth c H locs cells slots Q (F0 m pc ls (.int i :: .ref ev.2.2.1 :: rest)) :=
  va_ti C.1 C.2.1 C.2.2.2.2.2.2.2.2.2.1 hP.2 (inb_in hin) rfl hdg kk
theorem r_kalen (C : CX ev p s m args meth c cc nL ret own A) (hP : PS ev n ad w A s H locs) (hdg : decode cc pc = .ok (.arraylength, 1))
    (kk : W p l e R s m args below meth c H locs cells slots Q (F0 m (pc + 1) ls (.int 6 :: rest))) : W p l e R s m args below meth c H locs cells slots Q (F0 m pc ls (.ref ev.2.2.1 :: rest)) :=
  va_tlen C.1 C.2.1 C.2.2.2.2.2.2.2.2.2.1 hP.2 rfl hdg kk
theorem look_out {x : Int32} : ∀ (l : List (Int × Int)) (d : Int), (∀ q ∈ l, ¬ x = Int32.ofInt q.1) → Op.lookupswitch.offset l d x.toInt = d
  | [], _, _ => rfl
  | (a, o) :: r, d, h => by
    rw [Op.lookupswitch.offset_cons, if_neg (fun ha => h (a, o) List.mem_cons_self (by rw [ha]; exact (Int32.ofInt_toInt x).symm))]
    exact look_out r d (fun q hq => h q (List.mem_cons_of_mem _ hq))
theorem r_lookOut (hx : p.tables.exec = Jvm.exec) (hb : c.code = cc) {dflt : Int} {ps : Array (Int × Int)} {len : Nat} {x : Int32} (hdg : decode cc pc = .ok (.lookupswitch dflt ps, len)) (hp : (ps.toList.zip (ps.toList.drop 1)).all (fun (a, next) => a.1 < next.1) = true) (h : ∀ q ∈ ps.toList, ¬ x = Int32.ofInt q.1) (ht : (pc : Int) + dflt = (tgt : Int)) (k : W p l e R s m args below meth c H locs cells slots Q (F0 m tgt ls rest)) : W p l e R s m args below meth c H locs cells slots Q (F0 m pc ls (.int x :: rest)) := lv_lookup hx hb hdg hp (look_out _ _ h) ht k
theorem va_ldcSw (hexec : p.tables.exec = Jvm.exec) (hb : c.code = cc) {own tx : String} {index q : Nat} (hown : s.vm.findClass own = some m.cls) (hZ : vk_R own index tx q s) (hdg : decode cc pc = .ok (.ldc_w index, 3))
    (k : W p l e R s m args below meth c H locs cells slots Q (F0 m (pc + 3) ls (.ref q :: rest))) : W p l e R s m args below meth c H locs cells slots Q (F0 m pc ls rest) := by
  intro T hT X
  obtain ⟨t, a1, b1⟩ := k T hT X
  obtain ⟨kk, cf, i, a', hk, hcf, hcp, -, hr, hev'⟩ := Cond.stringRef_spec hown hZ.1
  have hq : q = a' := Value.ref.inj (Option.some.inj (hZ.2.symm.trans hev'))
  obtain ⟨k', hk', he⟩ := X.warmed.alike.2.2 _ _ hk
  have hr' : k'.resolved[index]? = some (some (.string q)) := by
    rw [hq]
    rcases X.warmed.entry hk hk' index with h | ⟨h, -⟩
    · rw [h]; exact hr
    · rw [hr] at h; cases h
  have hdg' : decode c.code pc = .ok (.ldc_w index, 3) := by rw [hb]; exact hdg
  refine ⟨t, ?_, b1⟩
  jvm_step X.here [hexec, hdg', ldc_w.wp_string (e := e) (s := T) (f := F0 m pc ls rest) X.here.top hk' (by rw [he]; exact hcf) hcp hr']
  exact a1
theorem r_objInit (C : CX ev p s m args meth c cc nL ret own A) (hl : Cond.methodLink own index objectInit ∈ gw) (hi : Cond.instanceMethod objectInit ∈ gw) (hco : Cond.code objectInit ⟨#[0xb1]⟩ 1 none ∈ gw) (hsize : ls.size = nL) (hR : 1 ≤ R.frames ∧ 40 ≤ R.locals) (hW8 : (rest.map fun v => v.category).sum ≤ 8) {a : Nat} (hdg : decode cc pc = .ok (.invokespecial index, 3))
    (kk : W p l e R s m args below meth c H locs cells slots Q (F0 m (pc + 3) ls rest)) : W p l e R s m args below meth c H locs cells slots Q (F0 m pc ls (.ref a :: rest)) := by
  obtain ⟨hx, hb, hml, -, hts, hown, -⟩ := C
  exact W.objInit hx hb hown (hts _ hl) (hts _ hi) (hts _ hco) rfl (hsize.trans hml.symm) rfl hdg hR.1 (by show 2 * 0 + _ + 12 ≤ _; have := hR.2; omega) kk
theorem r_compact (C : CX ev p s m args meth c cc nL ret own A) (hP : PS ev n ad w A s H locs) (hlink : Cond.fieldLink own index "java/lang/String" "COMPACT_STRINGS" "Z" ∈ gw) (hdg : decode cc pc = .ok (.getstatic index, 3))
    (kk : W p l e R s m args below meth c H locs cells slots Q (F0 m (pc + 3) ls (.int 1 :: rest))) : W p l e R s m args below meth c H locs cells slots Q (F0 m pc ls rest) := by
  obtain ⟨hx, hb, -, -, hts, hown, -, -, -, -, hE, -⟩ := C
  exact va_gets hx hb hE hP.2 hown (hts _ hlink) (fun _ h => h) hdg kk
theorem r_sio (C : CX ev p s m args meth c cc nL ret own A) (hP : PS ev n ad w A s H locs) (hlink : Cond.fieldLink own index "jdk/internal/util/Preconditions" "SIOOBE_FORMATTER" "Ljava/util/function/BiFunction;" ∈ gw) (hdg : decode cc pc = .ok (.getstatic index, 3))
    (kk : ∀ v : Value, (v = .null ∨ ∃ q, v = .ref q) → W p l e R s m args below meth c H locs cells slots Q (F0 m (pc + 3) ls (v :: rest))) : W p l e R s m args below meth c H locs cells slots Q (F0 m pc ls rest) := by
  obtain ⟨hx, hb, -, -, hts, hown, -, -, -, -, -, ⟨v, hv, hE⟩, -⟩ := C
  exact va_gets hx hb hE hP.2 hown (hts _ hlink) (fun _ h => h) hdg (kk v hv)
theorem r_scoder (C : CX ev p s m args meth c cc nL ret own A) (hP : PS ev n ad w A s H locs) (q : Nat) (hq : q < 5) (hlink : Cond.fieldLink own index "java/lang/String" "coder" "B" ∈ gw) (hdg : decode cc pc = .ok (.getfield index, 3))
    (kk : W p l e R s m args below meth c H locs cells slots Q (F0 m (pc + 3) ls (.int 0 :: rest))) : W p l e R s m args below meth c H locs cells slots Q (F0 m pc ls (.ref (ev.2.2.2.1 q) :: rest)) := by
  obtain ⟨hx, hb, -, -, hts, hown, -, -, -, -, -, -, hE, -⟩ := C
  exact vk_getf hx hb (hE.1 q hq).2.1 hP.2 hown (hts _ hlink) (fun _ h => h) hdg kk
theorem r_sval (C : CX ev p s m args meth c cc nL ret own A) (hP : PS ev n ad w A s H locs) (q : Nat) (hq : q < 5) (hlink : Cond.fieldLink own index "java/lang/String" "value" "[B" ∈ gw) (hdg : decode cc pc = .ok (.getfield index, 3))
    (kk : W p l e R s m args below meth c H locs cells slots Q (F0 m (pc + 3) ls (.ref (ev.2.2.2.2 q) :: rest))) : W p l e R s m args below meth c H locs cells slots Q (F0 m pc ls (.ref (ev.2.2.2.1 q) :: rest)) := by
  obtain ⟨hx, hb, -, -, hts, hown, -, -, -, -, -, -, hE, -⟩ := C
  exact vk_getf hx hb (hE.1 q hq).2.2.1 hP.2 hown (hts _ hlink) (fun _ h => h) hdg kk
theorem r_svlen (C : CX ev p s m args meth c cc nL ret own A) (hP : PS ev n ad w A s H locs) (q : Nat) (hq : q < 5) (hdg : decode cc pc = .ok (.arraylength, 1))
    (kk : W p l e R s m args below meth c H locs cells slots Q (F0 m (pc + 1) ls (.int (nI (lenJS.getD q 0)) :: rest))) : W p l e R s m args below meth c H locs cells slots Q (F0 m pc ls (.ref (ev.2.2.2.2 q) :: rest)) := by
  obtain ⟨hx, hb, -, -, hts, hown, -, -, -, -, -, -, hE, -⟩ := C
  exact va_tlen hx hb (hE.1 q hq).2.2.2 hP.2 rfl hdg kk
theorem r_svld (C : CX ev p s m args meth c cc nL ret own A) (hP : PS ev n ad w A s H locs) (q : Nat) (hq : q < 5) {i : Int32} (hi : inb i (lenJS.getD q 0) = true) (hdg : decode cc pc = .ok (.baload, 1))
    (kk : W p l e R s m args below meth c H locs cells slots Q (F0 m (pc + 1) ls (.int (sch q i) :: rest))) : W p l e R s m args below meth c H locs cells slots Q (F0 m pc ls (.int i :: .ref (ev.2.2.2.2 q) :: rest)) := by
  obtain ⟨hx, hb, -, -, hts, hown, -, -, -, -, -, -, hE, -⟩ := C
  exact va_tb hx hb (hE.1 q hq).2.2.2 hP.2 (inb_in hi) rfl hdg kk
theorem e_nret {v : Int32} {ty : FieldType} {Qc : Array Value → State → Outcome → State → Prop} (C : CX ev p s m args meth c cc nL (some ty) own A) (hend : ∀ (t : State) (H : Heap) (locs : List Loc), PS ev n ad w (inA ad n) s H locs → t.heap = H → s.WarmedH t.vm → Qc args s (.returned (some (.int v))) t) (hP : PS ev n ad w (inA ad n) s H locs) (hn : narrow ty (.int v) = .int v) (hdg : decode cc pc = .ok (.ireturn, 1)) : W p l e R s m args below meth c H locs 0 0 (MQ below Qc args s 0 0 (inA ad n)) (F0 m pc ls [.int v]) := by
  have hlocks := C.2.2.2.2.2.2.1
  exact W.zret C.1 C.2.1 C.2.2.2.1 hn (fun t ht hW => hend t _ _ hP ht hW) hP.2.2.2 hdg
/-- a call of a method of a String constant -/
theorem k_callQi {y : MethodName} {bytes : ByteArray} {maxL nA : Nat} {rty : Option FieldType} {fr lc : Nat} {As : List Value} {r : Int32} (C : CX ev p s m args meth c cc nL ret own A) (hP : PS ev n ad w A s H locs) (hap : apart ad n) (hAA : ∀ j, j < n → A (ad j)) (q : Nat) (hq : q < 5) (hM : Ct l y bytes maxL rty (rmk fr lc) ev 0 ad w00 w00 (.ref (ev.2.2.2.1 q) :: As) (some (.int r)))
    (hg : GZ y bytes maxL rty nA) (hl : Cond.methodLink own index y ∈ gw) (hi : Cond.instanceMethod y ∈ gw) (hse : Cond.selects y.cls y y ∈ gw) (hR : fr + 1 ≤ R.frames ∧ 8 + (maxL + 11) + lc ≤ R.locals) (hyc : y.cls = "java/lang/String")
    (hn : As.length = nA) (hsize : ls.size = nL) (hst : st0 = As.reverse ++ .ref (ev.2.2.2.1 q) :: rest) (hW8 : (rest.map fun v => v.category).sum ≤ 8) (hdg : decode cc pc = .ok (.invokevirtual index, 3)) (hf : cells ≤ R.cells ∧ slots ≤ R.slots)
    (kk : ∀ (H1 : Heap) (locs1 : List Loc), PS ev n ad w A s H1 locs1 → W p l e R s m args below meth c H1 locs1 cells slots Q (F0 m (pc + 3) ls (.int r :: rest))) : W p l e R s m args below meth c H locs cells slots Q (F0 m pc ls st0) := by
  have hr := va_runV (p := p) (l := l) (e := e) (R := R) (s := s) (m := m) (args := args) (below := below) (meth := meth) (c := c) (H := H) (locs := locs) (cells := cells) (slots := slots) (mc := 0) (ms := 0) (g := F0 m pc ls st0) (b := ev.2.2.2.1 q) (As := As) (rest := rest) (Ts := gw) (own := own) (C := y.cls) (index := index) (n := nA) (bytes := bytes) (maxL := maxL) (ret := rty) (nL := nL) (cc := cc)
    ⟨C.1, C.2.1, C.2.2.1, C.2.2.2.2.2.1, C.2.2.2.2.1⟩ hM (cwV nA C.2.2.2.2.1 (hg.goodV hl hi hse) rfl rfl rfl ⟨rfl, hg.2.2.1, hg.2.2.2.1, hg.2.2.2.2⟩ hR)
    ⟨PreC.blind, by
      have h := vk_recv (i := q) C.2.2.2.2.2.2.2.2.2.2.2.2.1 hq hP.2
      rw [← hyc] at h
      exact h, fun U hU hW => k_pre C hP (apart_0 ad) hAA (Emb.none (w0' := w00)) U hU hW⟩ rfl hn hsize hst (by simpa using hW8) hdg hf
  exact k_back hr hP hap hAA (Emb.none (w0 := w00)) kk
end NAT
theorem sch_len : ∀ q, q < 5 → ishr (nI (lenJS.getD q 0)) 0 = nI (lenJS.getD q 0) := by decide +kernel
theorem sch_and : ∀ q, q < 5 → ∀ j, j < lenJS.getD q 0 → (bytJS.getD q []).getD j 0 &&& 255 = (bytJS.getD q []).getD j 0 := by decide +kernel
theorem sch_i {q : Nat} {i : Int32} (hq : q < 5) (hi : inb i (lenJS.getD q 0) = true) : sch q i &&& 255 = sch q i := sch_and q hq _ (by
  have h := inb_in hi
  unfold vp_in at h
  omega)
theorem sch_rng {q : Nat} {i : Int32} (hq : q < 5) (hi : inb i (lenJS.getD q 0) = true) : ¬ i < 0 ∧ i < nI (lenJS.getD q 0) := by
  have hlen : lenJS.getD q 0 < 2 ^ 31 := (by decide +kernel : ∀ q, q < 5 → lenJS.getD q 0 < 2 ^ 31) q hq
  obtain ⟨j, hj, rfl⟩ := vp_in_of (inb_in hi) hlen
  exact ⟨nI_pos (by omega), nI_lt hj hlen⟩
set_option maxHeartbeats 4000000 in
set_option maxRecDepth 100000 in
theorem c_J0_coder (l : Launch) (ev : EV) (ad : Nat → Nat) {q : Nat} (hq : q < 5) : Ct l yJ0_coder_7d493 prog_10_method_152_code 1 (Option.some Jvm.ClassFile.FieldType.byte) (rmk 0 0) ev 0 ad w00 w00 [.ref (ev.2.2.2.1 q)] (some (.int 0)) := by
  refine Ct.of (by decide +kernel) (Nat.le_of_ble_eq_true rfl) ?_
  intro p e s m args below meth c Qc C hap hP hend ls hl
  have hAA : ∀ j, j < 0 → inA ad 0 (ad j) := fun j hj => absurd hj (Nat.not_lt_zero j)
  have hx := C.1
  have hb := C.2.1
  have hl : lv_has ls 1 [(0, .ref (ev.2.2.2.1 q))] := hl
  refine r_compact C hP qFL_RJ0_38 dJ0_coder_7d493_0 ?_
  refine lv_if_eq (tgt := 13) hx hb dJ0_coder_7d493_3 (by decide) (fun c => absurd c (by decide)) (fun _ => ?_)
  refine lv_aload_n hx hb dJ0_coder_7d493_6 rfl (lv_at hl 0 rfl) ?_
  refine r_scoder C hP q hq qFL_RJ0_15 dJ0_coder_7d493_7 ?_
  refine lv_goto (tgt := 14) hx hb dJ0_coder_7d493_10 (by decide) ?_
  exact e_nret C hend hP rfl dJ0_coder_7d493_14
set_option maxHeartbeats 4000000 in
set_option maxRecDepth 100000 in
theorem c_J0_isLatin1 (l : Launch) (ev : EV) (ad : Nat → Nat) {q : Nat} (hq : q < 5) : Ct l yJ0_isLatin1_aae02 prog_10_method_154_code 1 (Option.some Jvm.ClassFile.FieldType.boolean) (rmk 0 0) ev 0 ad w00 w00 [.ref (ev.2.2.2.1 q)] (some (.int 1)) := by
  refine Ct.of (by decide +kernel) (Nat.le_of_ble_eq_true rfl) ?_
  intro p e s m args below meth c Qc C hap hP hend ls hl
  have hAA : ∀ j, j < 0 → inA ad 0 (ad j) := fun j hj => absurd hj (Nat.not_lt_zero j)
  have hx := C.1
  have hb := C.2.1
  have hl : lv_has ls 1 [(0, .ref (ev.2.2.2.1 q))] := hl
  refine r_compact C hP qFL_RJ0_38 dJ0_isLatin1_aae02_0 ?_
  refine lv_if_eq (tgt := 17) hx hb dJ0_isLatin1_aae02_3 (by decide) (fun c => absurd c (by decide)) (fun _ => ?_)
  refine lv_aload_n hx hb dJ0_isLatin1_aae02_6 rfl (lv_at hl 0 rfl) ?_
  refine r_scoder C hP q hq qFL_RJ0_15 dJ0_isLatin1_aae02_7 ?_
  refine lv_if_ne (tgt := 17) hx hb dJ0_isLatin1_aae02_10 (by decide) (fun c => absurd rfl c) (fun _ => ?_)
  refine lv_iconst (v := 1) hx hb dJ0_isLatin1_aae02_13 (by decide) ?_
  refine lv_goto (tgt := 18) hx hb dJ0_isLatin1_aae02_14 (by decide) ?_
  exact e_nret C hend hP rfl dJ0_isLatin1_aae02_18
set_option maxHeartbeats 4000000 in
set_option maxRecDepth 100000 in
theorem c_J0_length (l : Launch) (ev : EV) (ad : Nat → Nat) {q : Nat} (hq : q < 5) : Ct l yJ0_length_8abf5 prog_10_method_54_code 1 (Option.some Jvm.ClassFile.FieldType.int) (rmk 1 20) ev 0 ad w00 w00 [.ref (ev.2.2.2.1 q)] (some (.int (nI (lenJS.getD q 0)))) := by
  refine Ct.of (by decide +kernel) (Nat.le_of_ble_eq_true rfl) ?_
  intro p e s m args below meth c Qc C hap hP hend ls hl
  have hAA : ∀ j, j < 0 → inA ad 0 (ad j) := fun j hj => absurd hj (Nat.not_lt_zero j)
  have hx := C.1
  have hb := C.2.1
  have hl : lv_has ls 1 [(0, .ref (ev.2.2.2.1 q))] := hl
  refine lv_aload_n hx hb dJ0_length_8abf5_0 rfl (lv_at hl 0 rfl) ?_
  refine r_sval C hP q hq qFL_RJ0_9 dJ0_length_8abf5_1 ?_
  refine r_svlen C hP q hq dJ0_length_8abf5_4 ?_
  refine lv_aload_n hx hb dJ0_length_8abf5_5 rfl (lv_at hl 0 rfl) ?_
  refine k_callQi C hP hap hAA q hq (c_J0_coder l ev ad hq) gz_J0_coder_7d493 qML_RJ0_335 qIM_yJ0_coder_7d493 qSE_yJ0_coder_7d493 ⟨(Nat.le_of_ble_eq_true rfl), (Nat.le_of_ble_eq_true rfl)⟩ rfl rfl hl.1 rfl (Nat.le_of_ble_eq_true rfl) dJ0_length_8abf5_6 ⟨Nat.le_refl _, Nat.le_refl _⟩ (fun H locs hP => ?_)
  refine r_ishr hx hb dJ0_length_8abf5_9 ?_
  rw [sch_len q hq]
  exact e_nret C hend hP rfl dJ0_length_8abf5_10
set_option maxHeartbeats 4000000 in
set_option maxRecDepth 100000 in
theorem c_J3_checkIndex_n (l : Launch) (ev : EV) (ad : Nat → Nat)  {i n : Int32} (h0 : ¬ i < 0) (h1 : i < n) : Ct l yJ3_checkIndex_8e157 prog_14_method_11_code 3 (Option.some Jvm.ClassFile.FieldType.int) (rmk 0 0) ev 0 ad w00 w00 [.int i, .int n, .null] (some (.int i)) := by
  refine Ct.of (by decide +kernel) (Nat.le_of_ble_eq_true rfl) ?_
  intro p e s m args below meth c Qc C hap hP hend ls hl
  have hAA : ∀ j, j < 0 → inA ad 0 (ad j) := fun j hj => absurd hj (Nat.not_lt_zero j)
  have hx := C.1
  have hb := C.2.1
  have hl : lv_has ls 3 [(0, .int i), (1, .int n), (2, .null)] := hl
  refine lv_iload_n hx hb dJ3_checkIndex_8e157_0 rfl (lv_at hl 0 rfl) ?_
  refine lv_if_lt (tgt := 9) hx hb dJ3_checkIndex_8e157_1 (by decide) (fun c => absurd c h0) (fun _ => ?_)
  refine lv_iload_n hx hb dJ3_checkIndex_8e157_4 rfl (lv_at hl 0 rfl) ?_
  refine lv_iload_n hx hb dJ3_checkIndex_8e157_5 rfl (lv_at hl 1 rfl) ?_
  refine lv_icmp_lt (tgt := 16) hx hb dJ3_checkIndex_8e157_6 (by decide) (fun _ => ?_) (fun c => absurd h1 c)
  refine lv_iload_n hx hb dJ3_checkIndex_8e157_16 rfl (lv_at hl 0 rfl) ?_
  exact e_nret C hend hP rfl dJ3_checkIndex_8e157_17
set_option maxHeartbeats 4000000 in
set_option maxRecDepth 100000 in
theorem c_J3_checkIndex_r (l : Launch) (ev : EV) (ad : Nat → Nat) (z : Nat) {i n : Int32} (h0 : ¬ i < 0) (h1 : i < n) : Ct l yJ3_checkIndex_8e157 prog_14_method_11_code 3 (Option.some Jvm.ClassFile.FieldType.int) (rmk 0 0) ev 0 ad w00 w00 [.int i, .int n, (.ref z)] (some (.int i)) := by
  refine Ct.of (by decide +kernel) (Nat.le_of_ble_eq_true rfl) ?_
  intro p e s m args below meth c Qc C hap hP hend ls hl
  have hAA : ∀ j, j < 0 → inA ad 0 (ad j) := fun j hj => absurd hj (Nat.not_lt_zero j)
  have hx := C.1
  have hb := C.2.1
  have hl : lv_has ls 3 [(0, .int i), (1, .int n), (2, (.ref z))] := hl
  refine lv_iload_n hx hb dJ3_checkIndex_8e157_0 rfl (lv_at hl 0 rfl) ?_
  refine lv_if_lt (tgt := 9) hx hb dJ3_checkIndex_8e157_1 (by decide) (fun c => absurd c h0) (fun _ => ?_)
  refine lv_iload_n hx hb dJ3_checkIndex_8e157_4 rfl (lv_at hl 0 rfl) ?_
  refine lv_iload_n hx hb dJ3_checkIndex_8e157_5 rfl (lv_at hl 1 rfl) ?_
  refine lv_icmp_lt (tgt := 16) hx hb dJ3_checkIndex_8e157_6 (by decide) (fun _ => ?_) (fun c => absurd h1 c)
  refine lv_iload_n hx hb dJ3_checkIndex_8e157_16 rfl (lv_at hl 0 rfl) ?_
  exact e_nret C hend hP rfl dJ3_checkIndex_8e157_17
set_option maxHeartbeats 4000000 in
set_option maxRecDepth 100000 in
theorem c_J0_checkIndex (l : Launch) (ev : EV) (ad : Nat → Nat) {i n : Int32} (h0 : ¬ i < 0) (h1 : i < n) : Ct l yJ0_checkIndex_df160 prog_10_method_155_code 2 none (rmk 1 22) ev 0 ad w00 w00 [.int i, .int n] none := by
  refine Ct.of (by decide +kernel) (Nat.le_of_ble_eq_true rfl) ?_
  intro p e s m args below meth c Qc C hap hP hend ls hl
  have hAA : ∀ j, j < 0 → inA ad 0 (ad j) := fun j hj => absurd hj (Nat.not_lt_zero j)
  have hx := C.1
  have hb := C.2.1
  have hl : lv_has ls 2 [(0, .int i), (1, .int n)] := hl
  refine lv_iload_n hx hb dJ0_checkIndex_df160_0 rfl (lv_at hl 0 rfl) ?_
  refine lv_iload_n hx hb dJ0_checkIndex_df160_1 rfl (lv_at hl 1 rfl) ?_
  refine r_sio C hP qFL_RJ0_1053 dJ0_checkIndex_df160_2 (fun v hv => ?_)
  rcases hv with rfl | ⟨z, rfl⟩
  · refine k_callSi C hP hap hAA (c_J3_checkIndex_n l ev ad h0 h1) Emb.none (apart_0 _) gz_J3_checkIndex_8e157 qML_RJ0_1059 qSM_yJ3_checkIndex_8e157 ⟨(Nat.le_of_ble_eq_true rfl), (Nat.le_of_ble_eq_true rfl)⟩ rfl hl.1 rfl (Nat.le_of_ble_eq_true rfl) dJ0_checkIndex_df160_5 ⟨Nat.le_refl _, Nat.le_refl _⟩ (fun H locs hP => ?_)
    refine lv_pop hx hb dJ0_checkIndex_df160_8 rfl ?_
    exact e_vret C hend hP rfl dJ0_checkIndex_df160_9
  · refine k_callSi C hP hap hAA (c_J3_checkIndex_r l ev ad z h0 h1) Emb.none (apart_0 _) gz_J3_checkIndex_8e157 qML_RJ0_1059 qSM_yJ3_checkIndex_8e157 ⟨(Nat.le_of_ble_eq_true rfl), (Nat.le_of_ble_eq_true rfl)⟩ rfl hl.1 rfl (Nat.le_of_ble_eq_true rfl) dJ0_checkIndex_df160_5 ⟨Nat.le_refl _, Nat.le_refl _⟩ (fun H locs hP => ?_)
    refine lv_pop hx hb dJ0_checkIndex_df160_8 rfl ?_
    exact e_vret C hend hP rfl dJ0_checkIndex_df160_9
set_option maxHeartbeats 4000000 in
set_option maxRecDepth 100000 in
theorem c_J1_charAt (l : Launch) (ev : EV) (ad : Nat → Nat) {q : Nat} (hq : q < 5) {i : Int32} (hi : inb i (lenJS.getD q 0) = true) : Ct l yJ1_charAt_3b067 prog_11_method_2_code 2 (Option.some Jvm.ClassFile.FieldType.char) (rmk 2 43) ev 0 ad w00 w00 [.ref (ev.2.2.2.2 q), .int i] (some (.int (sch q i))) := by
  refine Ct.of (by decide +kernel) (Nat.le_of_ble_eq_true rfl) ?_
  intro p e s m args below meth c Qc C hap hP hend ls hl
  have hAA : ∀ j, j < 0 → inA ad 0 (ad j) := fun j hj => absurd hj (Nat.not_lt_zero j)
  have hx := C.1
  have hb := C.2.1
  have hl : lv_has ls 2 [(0, .ref (ev.2.2.2.2 q)), (1, .int i)] := hl
  refine lv_iload_n hx hb dJ1_charAt_3b067_0 rfl (lv_at hl 1 rfl) ?_
  refine lv_aload_n hx hb dJ1_charAt_3b067_1 rfl (lv_at hl 0 rfl) ?_
  refine r_svlen C hP q hq dJ1_charAt_3b067_2 ?_
  refine k_callSv C hP hap hAA (c_J0_checkIndex l ev ad (sch_rng hq hi).1 (sch_rng hq hi).2) Emb.none (apart_0 _) gz_J0_checkIndex_df160 qML_RJ1_9 qSM_yJ0_checkIndex_df160 ⟨(Nat.le_of_ble_eq_true rfl), (Nat.le_of_ble_eq_true rfl)⟩ rfl hl.1 rfl (Nat.le_of_ble_eq_true rfl) dJ1_charAt_3b067_3 ⟨Nat.le_refl _, Nat.le_refl _⟩ (fun H locs hP => ?_)
  refine lv_aload_n hx hb dJ1_charAt_3b067_6 rfl (lv_at hl 0 rfl) ?_
  refine lv_iload_n hx hb dJ1_charAt_3b067_7 rfl (lv_at hl 1 rfl) ?_
  refine r_svld C hP q hq hi dJ1_charAt_3b067_8 ?_
  refine lv_sipush (v := 255) hx hb dJ1_charAt_3b067_9 (by decide) ?_
  refine lv_iand hx hb dJ1_charAt_3b067_12 ?_
  refine lv_i2c hx hb dJ1_charAt_3b067_13 (sc_c2 _) ?_
  rw [sch_i hq hi]
  exact e_nret C hend hP (by rw [← sch_i hq hi]; exact sc_nar _) dJ1_charAt_3b067_14
set_option maxHeartbeats 4000000 in
set_option maxRecDepth 100000 in
theorem c_J0_charAt (l : Launch) (ev : EV) (ad : Nat → Nat) {q : Nat} (hq : q < 5) {i : Int32} (hi : inb i (lenJS.getD q 0) = true) : Ct l yJ0_charAt_5068e prog_10_method_56_code 2 (Option.some Jvm.ClassFile.FieldType.char) (rmk 3 64) ev 0 ad w00 w00 [.ref (ev.2.2.2.1 q), .int i] (some (.int (sch q i))) := by
  refine Ct.of (by decide +kernel) (Nat.le_of_ble_eq_true rfl) ?_
  intro p e s m args below meth c Qc C hap hP hend ls hl
  have hAA : ∀ j, j < 0 → inA ad 0 (ad j) := fun j hj => absurd hj (Nat.not_lt_zero j)
  have hx := C.1
  have hb := C.2.1
  have hl : lv_has ls 2 [(0, .ref (ev.2.2.2.1 q)), (1, .int i)] := hl
  refine lv_aload_n hx hb dJ0_charAt_5068e_0 rfl (lv_at hl 0 rfl) ?_
  refine k_callQi C hP hap hAA q hq (c_J0_isLatin1 l ev ad hq) gz_J0_isLatin1_aae02 qML_RJ0_492 qIM_yJ0_isLatin1_aae02 qSE_yJ0_isLatin1_aae02 ⟨(Nat.le_of_ble_eq_true rfl), (Nat.le_of_ble_eq_true rfl)⟩ rfl rfl hl.1 rfl (Nat.le_of_ble_eq_true rfl) dJ0_charAt_5068e_1 ⟨Nat.le_refl _, Nat.le_refl _⟩ (fun H locs hP => ?_)
  refine lv_if_eq (tgt := 16) hx hb dJ0_charAt_5068e_4 (by decide) (fun c => absurd c (by decide)) (fun _ => ?_)
  refine lv_aload_n hx hb dJ0_charAt_5068e_7 rfl (lv_at hl 0 rfl) ?_
  refine r_sval C hP q hq qFL_RJ0_9 dJ0_charAt_5068e_8 ?_
  refine lv_iload_n hx hb dJ0_charAt_5068e_11 rfl (lv_at hl 1 rfl) ?_
  refine k_callSi C hP hap hAA (c_J1_charAt l ev ad hq hi) Emb.none (apart_0 _) gz_J1_charAt_3b067 qML_RJ0_495 qSM_yJ1_charAt_3b067 ⟨(Nat.le_of_ble_eq_true rfl), (Nat.le_of_ble_eq_true rfl)⟩ rfl hl.1 rfl (Nat.le_of_ble_eq_true rfl) dJ0_charAt_5068e_12 ⟨Nat.le_refl _, Nat.le_refl _⟩ (fun H locs hP => ?_)
  exact e_nret C hend hP (by rw [← sch_i hq hi]; exact sc_nar _) dJ0_charAt_5068e_15
section NAT2
variable {p : Program} {l : Launch} {e : Env} {R : Room} {s : State} {m : MethodId} {args : Array Value} {below : List Frame} {meth : Method} {c : Code} {H : Heap} {locs : List Loc} {cells slots : Nat} {Q : State → Prop}
variable {cc : ByteArray} {nL : Nat} {ret : Option FieldType} {own : String} {A : Nat → Prop} {pc : Nat} {ls : Array Slot} {rest st0 : List Value} {ev : EV} {n n' : Nat} {ad ad' : Nat → Nat} {w w' w2 w0 w0' : Nat → va_E} {index tgt : Nat}
theorem r_slen (C : CX ev p s m args meth c cc nL ret own A) (hP : PS ev n ad w A s H locs) (hap : apart ad n) (hAA : ∀ j, j < n → A (ad j)) (q : Nat) (hq : q < 5) (hl : Cond.methodLink own index yJ0_length_8abf5 ∈ gw) (hR : 4 ≤ R.frames ∧ 150 ≤ R.locals) (hsize : ls.size = nL) (hW8 : (rest.map fun v => v.category).sum ≤ 8) (hdg : decode cc pc = .ok (.invokevirtual index, 3)) (hf : cells ≤ R.cells ∧ slots ≤ R.slots) {v : Int32}
    (hv : v = nI (lenJS.getD q 0))
    (kk : ∀ (H1 : Heap) (locs1 : List Loc), PS ev n ad w A s H1 locs1 → W p l e R s m args below meth c H1 locs1 cells slots Q (F0 m (pc + 3) ls (.int v :: rest))) : W p l e R s m args below meth c H locs cells slots Q (F0 m pc ls (.ref (ev.2.2.2.1 q) :: rest)) := by
  subst hv
  exact k_callQi C hP hap hAA q hq (c_J0_length l ev ad hq) gz_J0_length_8abf5 hl qIM_yJ0_length_8abf5 qSE_yJ0_length_8abf5 ⟨by have := hR.1; omega, by have := hR.2; omega⟩ rfl rfl hsize rfl hW8 hdg hf kk
theorem r_schar (C : CX ev p s m args meth c cc nL ret own A) (hP : PS ev n ad w A s H locs) (hap : apart ad n) (hAA : ∀ j, j < n → A (ad j)) (q : Nat) (hq : q < 5) {N : Nat} {i : Int32} (hi : inb i N = true) (hl : Cond.methodLink own index yJ0_charAt_5068e ∈ gw) (hR : 8 ≤ R.frames ∧ 300 ≤ R.locals) (hsize : ls.size = nL) (hW8 : (rest.map fun v => v.category).sum ≤ 8) (hdg : decode cc pc = .ok (.invokevirtual index, 3)) (hf : cells ≤ R.cells ∧ slots ≤ R.slots)
    (hN : N = lenJS.getD q 0)
    (kk : ∀ (H1 : Heap) (locs1 : List Loc), PS ev n ad w A s H1 locs1 → W p l e R s m args below meth c H1 locs1 cells slots Q (F0 m (pc + 3) ls (.int (sch q i) :: rest))) : W p l e R s m args below meth c H locs cells slots Q (F0 m pc ls (.int i :: .ref (ev.2.2.2.1 q) :: rest)) := by
  subst hN
  exact k_callQi C hP hap hAA q hq (c_J0_charAt l ev ad hq hi) gz_J0_charAt_5068e hl qIM_yJ0_charAt_5068e qSE_yJ0_charAt_5068e ⟨by have := hR.1; omega, by have := hR.2; omega⟩ rfl rfl hsize rfl hW8 hdg hf kk
/-- System.arraycopy between two shelves' rows -/
def acp (sp dp n : Int32) : Bool := decide (¬ sp < 0 ∧ ¬ dp < 0 ∧ ¬ n < 0 ∧ sp.toNatClampNeg + n.toNatClampNeg ≤ 40 ∧ dp.toNatClampNeg + n.toNatClampNeg ≤ 40)
theorem xw_setel {σ : XX} {k2 : Nat} (h2 : k2 < 8) (f : Nat → Int64) : ∀ k, k < 26 → updW (xw ev ad σ) (k2 + 18) (.inl (ev.2.1 2, 40, .inr (.inl f))) k = xw ev ad (x_shelf' σ k2 (s_elements' (x_shelf σ k2) f)) k := by
  intro k hk
  by_cases h10 : k < 10
  · have hne : k ≠ k2 + 18 := by omega
    have e1 : updW (xw ev ad σ) (k2 + 18) (.inl (ev.2.1 2, 40, .inr (.inl f))) k = xw ev ad σ k := if_neg hne
    rw [e1]
    exact match k, h10 with | 0, _ => rfl | 1, _ => rfl | 2, _ => rfl | 3, _ => rfl | 4, _ => rfl | 5, _ => rfl | 6, _ => rfl | 7, _ => rfl | 8, _ => rfl | 9, _ => rfl | k + 10, hk => absurd hk (by omega)
  · obtain ⟨j, rfl⟩ : ∃ j, k = j + 10 := ⟨k - 10, by omega⟩
    by_cases h8 : j < 8
    · have hne : j + 10 ≠ k2 + 18 := by omega
      have e1 : updW (xw ev ad σ) (k2 + 18) (.inl (ev.2.1 2, 40, .inr (.inl f))) (j + 10) = xw ev ad σ (j + 10) := if_neg hne
      rw [e1, xw_shelf h8, xw_shelf h8]
      by_cases hj : j = k2
      · subst hj
        rw [x_shelf_s]
        rfl
      · rw [x_shelf_n hj]
    · obtain ⟨i, rfl⟩ : ∃ i, j = i + 8 := ⟨j - 8, by omega⟩
      rw [show i + 8 + 10 = i + 18 from rfl, xw_elem (z := x_shelf' σ k2 (s_elements' (x_shelf σ k2) f)) (by omega)]
      by_cases hi : i = k2
      · subst hi
        rw [x_shelf_s]
        exact if_pos rfl
      · have hne : i + 18 ≠ k2 + 18 := by omega
        have e1 : updW (xw ev ad σ) (k2 + 18) (.inl (ev.2.1 2, 40, .inr (.inl f))) (i + 18) = xw ev ad σ (i + 18) := if_neg hne
        rw [e1, xw_elem (by omega), x_shelf_n hi]
theorem r_acopy {σ σ1 : XX} {k1 k2 : Nat} (hk1 : k1 < 8) (hk2 : k2 < 8) (C : CX ev p s m args meth c cc nL ret own A) (hP : PS ev 26 ad (xw ev ad σ) A s H locs) (hap : apart ad 26) (hAA : ∀ j, j < 26 → A (ad j)) {sp dp n : Int32} (hg : acp sp dp n = true)
    (e1 : σ1 = x_shelf' σ k2 (s_elements' (x_shelf σ k2) (va_cpy (s_elements (x_shelf σ k1)) (s_elements (x_shelf σ k2)) sp.toNatClampNeg dp.toNatClampNeg n.toNatClampNeg)))
    (hl : Cond.methodLink own index arraycopyName ∈ gw) (hna : Cond.native arraycopyName ∈ gw) (hst : Cond.static arraycopyName ∈ gw) (hin : Cond.initialized "java/lang/System" ∈ gw) (hsize : ls.size = nL) (hR : 1 ≤ R.frames ∧ 100 ≤ R.locals) (hW8 : (rest.map fun v => v.category).sum ≤ 8) (hdg : decode cc pc = .ok (.invokestatic index, 3))
    (kk : ∀ (H1 : Heap) (locs1 : List Loc), PS ev 26 ad (xw ev ad σ1) A s H1 locs1 → W p l e R s m args below meth c H1 locs1 cells slots Q (F0 m (pc + 3) ls rest)) : W p l e R s m args below meth c H locs cells slots Q (F0 m pc ls (.int n :: .int dp :: .ref (ad (k2 + 18)) :: .int sp :: .ref (ad (k1 + 18)) :: rest)) := by
  subst e1
  have hg := of_decide_eq_true (p := ¬ sp < 0 ∧ ¬ dp < 0 ∧ ¬ n < 0 ∧ sp.toNatClampNeg + n.toNatClampNeg ≤ 40 ∧ dp.toNatClampNeg + n.toNatClampNeg ≤ 40) hg
  obtain ⟨h1, h2, h3, h4, h5⟩ := hg
  have hw : nativeFrameWords "java/lang/System" "arraycopy" 5 ≤ 60 := by decide +kernel
  refine va_copyl C.1 C.2.1 (C.2.2.1.trans hsize.symm) C.2.2.2.2.2.1 (C.2.2.2.2.1 _ hl) (C.2.2.2.2.1 _ hna) (C.2.2.2.2.1 _ hst) (C.2.2.2.2.1 _ hin) C.2.2.2.2.2.2.2.1 hP.1 (wl_D hap hAA) hP.2 (k1 + 18) (k2 + 18) 2 2 (by rw [wl_get (by omega), xw_elem hk1]) (by rw [wl_get (by omega), xw_elem hk2]) rfl rfl rfl h1 h2 h3 h4 h5 (fun i _ => rfl) hR.1 (by have := hR.2; omega) hdg (fun H1 locs1 q1 q2 q3 => kk H1 locs1 ?_)
  rw [wl_set] at q1
  exact PS.cong ⟨q1, q3⟩ (xw_setel hk2 _)
end NAT2
