/-! Rows for a static array, String constants: at first as statements -/
section NAT
variable {p : Program} {l : Launch} {e : Env} {R : Room} {s : State} {m : MethodId} {args : Array Value} {below : List Frame} {meth : Method} {c : Code} {H : Heap} {locs : List Loc} {cells slots : Nat} {Q : State → Prop}
variable {cc : ByteArray} {nL : Nat} {ret : Option FieldType} {own : String} {A : Nat → Prop} {pc : Nat} {ls : Array Slot} {rest st0 : List Value} {ev : EV} {n n' : Nat} {ad ad' : Nat → Nat} {w w' w2 w0 w0' : Nat → va_E} {index tgt : Nat}
theorem r_kind (C : CX ev p s m args meth c cc nL ret own A) (hP : PS ev n ad w A s H locs) (hlink : Cond.fieldLink own index "HedgesAndDitches" "KIND_ABOVE" "[I" ∈ gw) (hdg : decode cc pc = .ok (.getstatic index, 3))
    (kk : W p l e R s m args below meth c H locs cells slots Q (F0 m (pc + 3) ls (.ref ev.2.2.1 :: rest))) : W p l e R s m args below meth c H locs cells slots Q (F0 m pc ls rest) := by
  obtain ⟨hx, hb, -, -, hts, hown, -, -, hE⟩ := C
  exact va_gets hx hb hE.1 hP.2 hown (hts _ hlink) (fun _ h => h) hdg kk
theorem r_kald (C : CX ev p s m args meth c cc nL ret own A) (hP : PS ev n ad w A s H locs) {i : Int32} (hin : inb i 6 = true) (hdg : decode cc pc = .ok (.iaload, 1))
    (kk : W p l e R s m args below meth c H locs cells slots Q (F0 m (pc + 1) ls (.int (kaF i.toNatClampNeg) :: rest))) : W p l e R s m args below meth c H locs cells slots Q (F0 m pc ls (.int i :: .ref ev.2.2.1 :: rest)) :=
  va_ti C.1 C.2.1 C.2.2.2.2.2.2.2.2.2.1 hP.2 (inb_in hin) rfl hdg kk
theorem r_kalen (C : CX ev p s m args meth c cc nL ret own A) (hP : PS ev n ad w A s H locs) (hdg : decode cc pc = .ok (.arraylength, 1))
    (kk : W p l e R s m args below meth c H locs cells slots Q (F0 m (pc + 1) ls (.int 6 :: rest))) : W p l e R s m args below meth c H locs cells slots Q (F0 m pc ls (.ref ev.2.2.1 :: rest)) :=
  va_tlen C.1 C.2.1 C.2.2.2.2.2.2.2.2.2.1 hP.2 rfl hdg kk
theorem look_out {x : Int32} : ∀ (l : List (Int × Int)) (d : Int), (∀ q ∈ l, ¬ x = Int32.ofInt q.1) → Op.lookupswitch.offset l d x.toInt = d
  | [], _, _ => rfl
  | (a, o) :: r, d, h => by
    rw [Op.lookupswitch.offset_cons, if_neg (fun ha => h (a, o) List.mem_cons_self (by rw [ha]; exact (Int32.ofInt_toInt x).symm))]
    exact look_out r d (fun q hq => h q (List.mem_cons_of_mem _ hq))
theorem r_lookOut (hx : p.tables.exec = Jvm.exec) (hb : c.code = cc) {dflt : Int} {ps : Array (Int × Int)} {len : Nat} {x : Int32} (hdg : decode cc pc = .ok (.lookupswitch dflt ps, len)) (hp : (ps.toList.zip (ps.toList.drop 1)).all (fun (a, next) => a.1 < next.1) = true) (h : ∀ q ∈ ps.toList, ¬ x = Int32.ofInt q.1) (ht : (pc : Int) + dflt = (tgt : Int)) (k : W p l e R s m args below meth c H locs cells slots Q (F0 m tgt ls rest)) : W p l e R s m args below meth c H locs cells slots Q (F0 m pc ls (.int x :: rest)) := lv_lookup hx hb hdg hp (look_out _ _ h) ht k
theorem va_ldcSw (hexec : p.tables.exec = Jvm.exec) (hb : c.code = cc) {own tx : String} {index q : Nat} (hown : s.vm.findClass own = some m.cls) (hZ : vk_R own index tx q s) (hdg : decode cc pc = .ok (.ldc_w index, 3))
    (k : W p l e R s m args below meth c H locs cells slots Q (F0 m (pc + 3) ls (.ref q :: rest))) : W p l e R s m args below meth c H locs cells slots Q (F0 m pc ls rest) := by
  intro T hT X
  obtain ⟨t, a1, b1⟩ := k T hT X
  obtain ⟨kk, cf, i, a', hk, hcf, hcp, -, hr, hev'⟩ := Cond.stringRef_spec hown hZ.1
  have hq : q = a' := Value.ref.inj (Option.some.inj (hZ.2.symm.trans hev'))
  obtain ⟨k', hk', he⟩ := X.warmed.alike.2.2 _ _ hk
  have hr' : k'.resolved[index]? = some (some (.string q)) := by
    rw [hq]
    rcases X.warmed.entry hk hk' index with h | ⟨h, -⟩
    · rw [h]; exact hr
    · rw [hr] at h; cases h
  have hdg' : decode c.code pc = .ok (.ldc_w index, 3) := by rw [hb]; exact hdg
  refine ⟨t, ?_, b1⟩
  jvm_step X.here [hexec, hdg', ldc_w.wp_string (e := e) (s := T) (f := F0 m pc ls rest) X.here.top hk' (by rw [he]; exact hcf) hcp hr']
  exact a1
theorem r_slen (C : CX ev p s m args meth c cc nL ret own A) (hP : PS ev n ad w A s H locs) (hap : apart ad n) (hAA : ∀ j, j < n → A (ad j)) (q : Nat) (hq : q < 5) (hl : Cond.methodLink own index yJ0_length_8abf5 ∈ gw) (hR : 4 ≤ R.frames ∧ 150 ≤ R.locals) (hsize : ls.size = nL) (hW8 : (rest.map fun v => v.category).sum ≤ 8) (hdg : decode cc pc = .ok (.invokevirtual index, 3)) (hf : cells ≤ R.cells ∧ slots ≤ R.slots) {v : Int32}
    (hv : v = nI (lenJS.getD q 0))
    (kk : ∀ (H1 : Heap) (locs1 : List Loc), PS ev n ad w A s H1 locs1 → W p l e R s m args below meth c H1 locs1 cells slots Q (F0 m (pc + 3) ls (.int v :: rest))) : W p l e R s m args below meth c H locs cells slots Q (F0 m pc ls (.ref (ev.2.2.2.1 q) :: rest)) := by
  sorry
theorem r_schar (C : CX ev p s m args meth c cc nL ret own A) (hP : PS ev n ad w A s H locs) (hap : apart ad n) (hAA : ∀ j, j < n → A (ad j)) (q : Nat) (hq : q < 5) {N : Nat} {i : Int32} (hi : inb i N = true) (hl : Cond.methodLink own index yJ0_charAt_5068e ∈ gw) (hR : 8 ≤ R.frames ∧ 300 ≤ R.locals) (hsize : ls.size = nL) (hW8 : (rest.map fun v => v.category).sum ≤ 8) (hdg : decode cc pc = .ok (.invokevirtual index, 3)) (hf : cells ≤ R.cells ∧ slots ≤ R.slots)
    (hN : N = lenJS.getD q 0)
    (kk : ∀ (H1 : Heap) (locs1 : List Loc), PS ev n ad w A s H1 locs1 → W p l e R s m args below meth c H1 locs1 cells slots Q (F0 m (pc + 3) ls (.int (sch q i) :: rest))) : W p l e R s m args below meth c H locs cells slots Q (F0 m pc ls (.int i :: .ref (ev.2.2.2.1 q) :: rest)) := by
  sorry
end NAT
