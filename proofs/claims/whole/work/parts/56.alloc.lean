/-! Constructors: worlds as lists that grow -/
def la (l : List Nat) : Nat → Nat := fun k => l.getD k 0
def lw (l : List va_E) : Nat → va_E := fun k => l.getD k (.inr (0, []))
theorem la_left {l l2 : List Nat} {k : Nat} (h : k < l.length) : la (l ++ l2) k = la l k := by
  simp [la, List.getD_eq_getElem?_getD, List.getElem?_append_left h]
theorem la_right {l l2 : List Nat} {k : Nat} (h : l.length ≤ k) : la (l ++ l2) k = la l2 (k - l.length) := by
  simp [la, List.getD_eq_getElem?_getD, List.getElem?_append_right h]
theorem lw_left {l l2 : List va_E} {k : Nat} (h : k < l.length) : lw (l ++ l2) k = lw l k := by
  simp [lw, List.getD_eq_getElem?_getD, List.getElem?_append_left h]
theorem lw_right {l l2 : List va_E} {k : Nat} (h : l.length ≤ k) : lw (l ++ l2) k = lw l2 (k - l.length) := by
  simp [lw, List.getD_eq_getElem?_getD, List.getElem?_append_right h]
theorem lw_set {l : List va_E} {q k : Nat} {e : va_E} (h : q < l.length) : lw (l.set q e) k = updW (lw l) q e k := by
  unfold updW
  by_cases hk : k = q
  · subst hk
    rw [if_pos rfl]
    simp [lw, List.getD_eq_getElem?_getD, List.getElem?_set_self h]
  · rw [if_neg hk]
    simp [lw, List.getD_eq_getElem?_getD, List.getElem?_set_ne (Ne.symm hk)]
theorem wl_push {as : List Nat} {es : List va_E} {n q : Nat} {e : va_E} (h1 : as.length = n) (h2 : es.length = n) : wl (la as) (lw es) n ++ [(q, e)] = wl (la (as ++ [q])) (lw (es ++ [e])) (n + 1) := by
  have hlen : (wl (la as) (lw es) n).length = n := by simp [wl]
  apply List.ext_getElem?
  intro k
  by_cases hk : k < n
  · rw [List.getElem?_append_left (by rw [hlen]; exact hk), wl_get hk, wl_get (by omega), la_left (by omega), lw_left (by omega)]
  · by_cases hkn : k = n
    · subst hkn
      rw [List.getElem?_append_right (by rw [hlen]; exact Nat.le_refl _), hlen, wl_get (by omega), la_right (by omega), lw_right (by omega), h1, h2, Nat.sub_self]
      rfl
    · rw [List.getElem?_eq_none (by simp [wl]; omega), List.getElem?_eq_none (by simp [wl]; omega)]
theorem wl_Dap {A : Nat → Prop} {ad : Nat → Nat} {w : Nat → va_E} {n : Nat} (h : va_D A (wl ad w n)) : apart ad n ∧ ∀ j, j < n → A (ad j) :=
  ⟨fun i j hi hj e => h.1 i j _ _ (wl_get hi) (wl_get hj) e, fun j hj => h.2 j _ (wl_get hj)⟩
/-- a constructor that makes cells -/
def NewA (h0 sz : Nat) : Nat → Prop := fun q => q = h0 ∨ sz ≤ q
def PreN (ev : EV) (h0 sz : Nat) (e0 : va_E) (av : List Value) : Array Value → State → Prop := fun v U => v = av.toArray ∧ U.heap.size = sz ∧ va_P ev.1 vwCl (wl (la [h0]) (lw [e0]) 1) U.heap ∧ va_K ev.1 vwCl (TY ev) U ∧ EVs ev (NewA h0 sz) U U.heap
def PostN (ev : EV) (h0 sz k : Nat) (E : List Nat → List va_E) : Array Value → State → Outcome → State → Prop := fun _ st oc t => oc = .returned none ∧ (∃ qs : List Nat, qs.length = k ∧ va_P ev.1 vwCl (wl (la (h0 :: qs)) (lw (E (h0 :: qs))) (k + 1)) t.heap ∧ va_D (NewA h0 sz) (wl (la (h0 :: qs)) (lw (E (h0 :: qs))) (k + 1))) ∧ va_F (NewA h0 sz) st t
def CtN (l : Launch) (y : MethodName) (cc : ByteArray) (maxL : Nat) (rm : Room) (ev : EV) (h0 sz : Nat) (e0 : va_E) (av : List Value) (mc ms k : Nat) (E : List Nat → List va_E) : Prop :=
  Met l y (.code y cc maxL none :: gw) rm (PreN ev h0 sz e0 av) (PostN ev h0 sz k E) mc ms (NewA h0 sz)
theorem PreN.blind {ev : EV} {h0 sz : Nat} {e0 : va_E} {av : List Value} : FrameBlind (PreN ev h0 sz e0 av) := fun a U g mk q => by
  obtain ⟨q0, q1, q2, q3, q4⟩ := q
  exact ⟨q0, q1, q2, va_K.moved (u := U) (U := U.calling g mk a) (Vm.Alike.refl U.vm) q3, EVs.same (u := U) (U := U.calling g mk a) rfl q4⟩
set_option maxHeartbeats 1000000 in
theorem CtN.of {l : Launch} {y : MethodName} {cc : ByteArray} {maxL : Nat} {rm : Room} {ev : EV} {h0 sz : Nat} {e0 : va_E} {av : List Value} {mc ms k : Nat} {E : List Nat → List va_E} (hy : plainName y.cls = true) (hyi : y.name = "<init>") (hlen : (lg_sl av).length ≤ maxL)
    (body : ∀ (p : Program) (e : Env) (s : State) (m : MethodId) (args : Array Value) (below : List Frame) (meth : Method) (c : Code) (Qc : Array Value → State → Outcome → State → Prop), CX ev p s m args meth c cc maxL none y.cls (NewA h0 sz) → meth.name = "<init>" → s.heap.size = sz → PS ev 1 (la [h0]) (lw [e0]) (NewA h0 sz) s s.heap [] →
      (∀ (t : State) (H : Heap) (locs : List Loc) (qs : List Nat), qs.length = k → PS ev (k + 1) (la (h0 :: qs)) (lw (E (h0 :: qs))) (NewA h0 sz) s H locs → apart (la (h0 :: qs)) (k + 1) → (∀ j, j < k + 1 → NewA h0 sz (la (h0 :: qs) j)) → t.heap = H → s.WarmedH t.vm → Qc args s (.returned none) t) → ∀ ls : Array Slot, lv_has ls maxL (lv_args 0 av) → W p l e rm s m args below meth c s.heap [] 0 0 (MQ below Qc args s mc ms (NewA h0 sz)) (F0 m 0 ls [])) :
    CtN l y cc maxL rm ev h0 sz e0 av mc ms k E := by
  unfold CtN
  refine Met.ofW (cc := cc) (maxL := maxL) (ret := none) hy rfl ?_
  intro p e s m args below meth c s₁ B hml hv
  obtain ⟨rfl, hsz, hP, hK, hE⟩ := hv
  have hts := atoms_spec (ws := .code y cc maxL none :: gw) B.pre
  have hown : s.vm.findClass y.cls = some m.cls := findClass_of_methodNamed B.named
  have hin : meth.name = "<init>" := by rw [← hyi]; exact (name_of_methodNamed B.named B.method).1
  have hl := lv_entry av (n := maxL) hlen
  rw [lg_entry_eq]
  refine body p e s m av.toArray below meth c _ ⟨B.exec, B.bytes, hml, B.returns, fun w hw => hts w (List.mem_cons_of_mem _ hw), hown, B.notSynchronized, hK, hE⟩ hin hsz ⟨hP, va_S.rf⟩ (fun t H locs qs hk h hap hq ht hW => ⟨rfl, ⟨qs, hk, by rw [ht]; exact h.1, wl_D hap hq⟩, h.2.F ht⟩) _ hl
section ALLOC
variable {p : Program} {l : Launch} {e : Env} {R : Room} {s : State} {m : MethodId} {args : Array Value} {below : List Frame} {meth : Method} {c : Code} {H : Heap} {locs : List Loc} {cells slots : Nat} {Q : State → Prop}
variable {cc : ByteArray} {nL : Nat} {ret : Option FieldType} {own : String} {A : Nat → Prop} {pc : Nat} {ls : Array Slot} {rest st0 : List Value} {ev : EV} {n : Nat} {as : List Nat} {es : List va_E} {index : Nat}
theorem r_newL (C : CX ev p s m args meth c cc nL ret own A) (hP : PS ev n (la as) (lw es) A s H locs) (hap : apart (la as) n) (hAA : ∀ j, j < n → A (la as j)) (hA : ∀ q, s.heap.size ≤ q → A q) (h1 : as.length = n) (h2 : es.length = n) {Cn : String} {T : u_T} {N ci : Nat} (hc : vwCl[ci]? = some (Cn, T, N)) (hin : ∀ x ∈ u_ws Cn T N, x ∈ gw) (ty : Nat → FieldType) (hty : ∀ k, k < N → parseFieldDescriptor (T k).2.2.1 = some (ty k)) (hcl : Cond.classLink own index Cn ∈ gw) (hinst : Cond.instantiable Cn N ∈ gw) (hini : Cond.initialized Cn ∈ gw) {fs : List Value} (hfs : ∀ j, j < N → defaultValue (ty j) = vp_V fs j) (hcells : cells + 1 ≤ R.cells) (hslots : slots + N ≤ R.slots) (hdg : decode cc pc = .ok (.new index, 3))
    (kk : ∀ (q : Nat) (H1 : Heap), PS ev (n + 1) (la (as ++ [q])) (lw (es ++ [.inr (ci, fs)])) A s H1 locs → apart (la (as ++ [q])) (n + 1) → (∀ j, j < n + 1 → A (la (as ++ [q]) j)) → W p l e R s m args below meth c H1 locs (cells + 1) (slots + N) Q (F0 m (pc + 3) ls (.ref q :: rest))) : W p l e R s m args below meth c H locs cells slots Q (F0 m pc ls rest) := by
  obtain ⟨hx, hb, -, -, hts, hown, -, hK, -⟩ := C
  refine va_new hx hb hts hin ty hty hown (hts _ hcl) (hts _ hinst) (hts _ hini) hK hP.1 (wl_D hap hAA) hP.2 hA hc hfs hcells hslots hdg (fun q H1 q1 q2 q3 => ?_)
  rw [wl_push h1 h2] at q1 q2
  exact kk q H1 ⟨q1, q3⟩ (wl_Dap q2).1 (wl_Dap q2).2
theorem ra_uniq {U : State} {a b : ClassId} {ty : FieldType} (h1 : va_RA U a ty) (h2 : va_RA U b ty) : a = b := by
  cases ty with
  | object C =>
    obtain ⟨k1, c1, -, -, -, e1⟩ := h1
    obtain ⟨k2, c2, -, -, -, e2⟩ := h2
    exact Option.some.inj (e1.symm.trans e2)
  | _ => exact Option.some.inj (Eq.trans (Eq.symm h1) h2)
theorem r_newaL (C : CX ev p s m args meth c cc nL ret own A) (hP : PS ev n (la as) (lw es) A s H locs) (hap : apart (la as) n) (hAA : ∀ j, j < n → A (la as j)) (hA : ∀ q, s.heap.size ≤ q → A q) (h1 : as.length = n) (h2 : es.length = n) {atype : ArrayType} {ty : FieldType} (hty : newarray.typeOf atype = ty) (t0 : Nat) {c0 : ClassId} (ht : (TY ev)[t0]? = some (c0, ty)) (harr : Cond.arrayClass (newarray.typeOf atype) ∈ gw) {n0 : Int32} {N' : Nat} {a0 : vp_A} (ha : ∀ cA : ClassId, vp_cell cA a0 = arrV cA N' (fun _ => defaultValue ty)) (hn : ¬ n0 < 0) (hN : n0.toNatClampNeg = N') (hbytes : N' * componentBytes ty ≤ 536870912) (hcells : cells + 1 ≤ R.cells) (hslots : slots + N' ≤ R.slots) (hdg : decode cc pc = .ok (.newarray atype, 2))
    (kk : ∀ (q : Nat) (H1 : Heap), PS ev (n + 1) (la (as ++ [q])) (lw (es ++ [.inl (c0, a0)])) A s H1 locs → apart (la (as ++ [q])) (n + 1) → (∀ j, j < n + 1 → A (la (as ++ [q]) j)) → W p l e R s m args below meth c H1 locs (cells + 1) (slots + N') Q (F0 m (pc + 2) ls (.ref q :: rest))) : W p l e R s m args below meth c H locs cells slots Q (F0 m pc ls (.int n0 :: rest)) := by
  obtain ⟨hx, hb, -, -, hts, hown, -, hK, -⟩ := C
  refine va_newa hx hb (hts _ harr) hty hK hP.1 (wl_D hap hAA) hP.2 hA ha hn hN hbytes hcells hslots hdg (fun q cA H1 qK q1 q2 q3 => ?_)
  have hc : cA = c0 := ra_uniq (qK.2 (TY ev).length (cA, ty) (by simp)).2 (hK.2 t0 _ ht).2
  subst hc
  rw [wl_push h1 h2] at q1 q2
  exact kk q H1 ⟨q1, q3⟩ (wl_Dap q2).1 (wl_Dap q2).2
theorem r_newqL (C : CX ev p s m args meth c cc nL ret own A) (hP : PS ev n (la as) (lw es) A s H locs) (hap : apart (la as) n) (hAA : ∀ j, j < n → A (la as j)) (hA : ∀ q, s.heap.size ≤ q → A q) (h1 : as.length = n) (h2 : es.length = n) (hcl : Cond.classLink own index "HedgesAndDitches$Shelf" ∈ gw) (hover : va_AO "HedgesAndDitches$Shelf" s) {n0 : Int32} {N' : Nat} (hn : ¬ n0 < 0) (hN : n0.toNatClampNeg = N') (hbytes : N' * 4 ≤ 536870912) (hcells : cells + 1 ≤ R.cells) (hslots : slots + N' ≤ R.slots) (hdg : decode cc pc = .ok (.anewarray index, 3))
    (kk : ∀ (q : Nat) (H1 : Heap), PS ev (n + 1) (la (as ++ [q])) (lw (es ++ [.inl (ev.2.1 4, N', .inr (.inr (.inr (.inr (fun _ => none)))))])) A s H1 locs → apart (la (as ++ [q])) (n + 1) → (∀ j, j < n + 1 → A (la (as ++ [q]) j)) → W p l e R s m args below meth c H1 locs (cells + 1) (slots + N') Q (F0 m (pc + 3) ls (.ref q :: rest))) : W p l e R s m args below meth c H locs cells slots Q (F0 m pc ls (.int n0 :: rest)) := by
  obtain ⟨hx, hb, -, -, hts, hown, -, hK, -⟩ := C
  refine va_newq hx hb hown (hts _ hcl) hover hK hP.1 (wl_D hap hAA) hP.2 hA hn hN hbytes hcells hslots hdg (fun q cA H1 qK q1 q2 q3 => ?_)
  have hc : cA = ev.2.1 4 := ra_uniq (qK.2 (TY ev).length (cA, .object "HedgesAndDitches$Shelf") (by simp)).2 (hK.2 4 _ rfl).2
  subst hc
  rw [wl_push h1 h2] at q1 q2
  exact kk q H1 ⟨q1, q3⟩ (wl_Dap q2).1 (wl_Dap q2).2
theorem r_putL (C : CX ev p s m args meth c cc nL ret own A) (hP : PS ev n (la as) (lw es) A s H locs) (hap : apart (la as) n) (hAA : ∀ j, j < n → A (la as j)) (h2 : es.length = n) {Cn ref : String} {T : u_T} {N ci : Nat} (hc : vwCl[ci]? = some (Cn, T, N)) (hin : ∀ x ∈ u_ws Cn T N, x ∈ gw) (ty0 : Nat → FieldType) (hty : ∀ k, k < N → parseFieldDescriptor (T k).2.2.1 = some (ty0 k)) (hnm : ∀ a, a < N → ∀ b, b < N → a ≠ b → (T a).2.1 ≠ (T b).2.1) (k : Nat) (hk : k < N) (q0 : Nat) (hq : q0 < n) {fs : List Value} (he : lw es q0 = .inr (ci, fs)) (hlink : Cond.fieldLink own index ref (T k).2.1 (T k).2.2.1 ∈ gw) (hrf : (T k).1 = ref) (hfin : (T k).2.2.2 = false) {v : Value} (hn : narrow (ty0 k) v = v) (hfit : fits (ty0 k) v = true) (hl : k < fs.length) {es2 : List va_E} (he2 : es.set q0 (.inr (ci, fs.set k v)) = es2) {a : Nat} (ha : a = la as q0) (hdg : decode cc pc = .ok (.putfield index, 3))
    (kk : ∀ (H1 : Heap) (locs1 : List Loc), PS ev n (la as) (lw es2) A s H1 locs1 → W p l e R s m args below meth c H1 locs1 cells slots Q (F0 m (pc + 3) ls rest)) : W p l e R s m args below meth c H locs cells slots Q (F0 m pc ls (v :: .ref a :: rest)) := by
  subst he2
  subst ha
  exact r_put C hP hap hAA hc hin ty0 hty hnm k hk q0 hq he hlink hrf hfin hn hfit hl rfl hdg (fun H1 locs1 h => kk H1 locs1 (h.cong (fun j hj => (lw_set (by omega)).symm)))
theorem r_putFL (C : CX ev p s m args meth c cc nL ret own A) (hname : meth.name = "<init>") (hP : PS ev n (la as) (lw es) A s H locs) (hap : apart (la as) n) (hAA : ∀ j, j < n → A (la as j)) (h2 : es.length = n) {Cn ref : String} {T : u_T} {N ci : Nat} (hc : vwCl[ci]? = some (Cn, T, N)) (hin : ∀ x ∈ u_ws Cn T N, x ∈ gw) (ty0 : Nat → FieldType) (hty : ∀ k, k < N → parseFieldDescriptor (T k).2.2.1 = some (ty0 k)) (hnm : ∀ a, a < N → ∀ b, b < N → a ≠ b → (T a).2.1 ≠ (T b).2.1) (k : Nat) (hk : k < N) (q0 : Nat) (hq : q0 < n) {fs : List Value} (he : lw es q0 = .inr (ci, fs)) (hlink : Cond.fieldLink own index ref (T k).2.1 (T k).2.2.1 ∈ gw) (hrf : (T k).1 = ref) (hfin : (T k).2.2.2 = true) (hdecl : (T k).1 = own) {v : Value} (hn : narrow (ty0 k) v = v) (hfit : fits (ty0 k) v = true) (hl : k < fs.length) {es2 : List va_E} (he2 : es.set q0 (.inr (ci, fs.set k v)) = es2) {a : Nat} (ha : a = la as q0) (hdg : decode cc pc = .ok (.putfield index, 3))
    (kk : ∀ (H1 : Heap) (locs1 : List Loc), PS ev n (la as) (lw es2) A s H1 locs1 → W p l e R s m args below meth c H1 locs1 cells slots Q (F0 m (pc + 3) ls rest)) : W p l e R s m args below meth c H locs cells slots Q (F0 m pc ls (v :: .ref a :: rest)) := by
  subst he2
  subst ha
  obtain ⟨hx, hb, -, -, hts, hown, -, hK, -⟩ := C
  subst hrf
  refine va_putF hx hb hts hin ty0 hty hnm hown hK hP.1 (wl_D hap hAA) hP.2 q0 (by rw [wl_get hq, he]) hc k hk (hts _ hlink) (fun _ h => h) hfin hname hdecl (hty k hk) hn hfit hl hdg (fun H1 locs1 q1 q2 q3 => kk H1 locs1 (PS.cong ⟨?_, q3⟩ (fun j hj => (lw_set (by omega)).symm)))
  rw [wl_set] at q1
  exact q1
theorem r_astqL (C : CX ev p s m args meth c cc nL ret own A) (hP : PS ev n (la as) (lw es) A s H locs) (hap : apart (la as) n) (hAA : ∀ j, j < n → A (la as j)) (h2 : es.length = n) (q0 qk : Nat) (hq : q0 < n) (hqk : qk < n) {N : Nat} {f : Nat → Option Nat} {vs : List Value} (he : lw es q0 = .inl (ev.2.1 4, N, .inr (.inr (.inr (.inr f))))) (hv : lw es qk = .inr (1, vs)) {i : Int32} (hin : inb i N = true) {es2 : List va_E} (he2 : es.set q0 (.inl (ev.2.1 4, N, .inr (.inr (.inr (.inr (va_up f i.toNatClampNeg (some (la as qk)))))))) = es2) {a v : Nat} (ha : a = la as q0) (hva : v = la as qk) (hdg : decode cc pc = .ok (.aastore, 1))
    (kk : ∀ (H1 : Heap) (locs1 : List Loc), PS ev n (la as) (lw es2) A s H1 locs1 → W p l e R s m args below meth c H1 locs1 cells slots Q (F0 m (pc + 1) ls rest)) : W p l e R s m args below meth c H locs cells slots Q (F0 m pc ls (.ref v :: .int i :: .ref a :: rest)) := by
  subst he2
  subst ha
  subst hva
  refine va_astq (r := (RX1, TX1, 3)) C.1 C.2.1 C.2.2.2.2.2.2.2.1 hP.1 (wl_D hap hAA) hP.2 q0 4 qk 1 (by rw [wl_get hq, he]) rfl (by rw [wl_get hqk, hv]) rfl (inb_in hin) hdg (fun H1 locs1 q1 q2 q3 => kk H1 locs1 (PS.cong ⟨?_, q3⟩ (fun j hj => (lw_set (by omega)).symm)))
  rw [wl_set] at q1
  exact q1
variable {y : MethodName} {bytes : ByteArray} {maxL nA mc ms k : Nat} {rm : Room} {As : List Value} {b : Nat} {host : String}
/-- a constructor that makes no cell -/
theorem k_callI {fr lc : Nat} {n' : Nat} {ad ad' : Nat → Nat} {w w2 w0 w0' : Nat → va_E} (C : CX ev p s m args meth c cc nL ret own A) (hP : PS ev n ad w A s H locs) (hap : apart ad n) (hAA : ∀ j, j < n → A (ad j)) (hM : Ct l y bytes maxL none (rmk fr lc) ev n' ad' w0 w0' (.ref b :: As) none) (em : Emb ad n w w2 ad' n' w0 w0') (hap' : apart ad' n') (hg : GZ y bytes maxL none nA) (hl : Cond.methodLink own index y ∈ gw) (hi : Cond.instanceMethod y ∈ gw) (hyi : y.name = "<init>") (hR : fr + 1 ≤ R.frames ∧ 8 + (maxL + 11) + lc ≤ R.locals)
    (hn : As.length = nA) (hsize : ls.size = nL) (hst : st0 = As.reverse ++ .ref b :: rest) (hW8 : (rest.map fun v => v.category).sum ≤ 8) (hdg : decode cc pc = .ok (.invokespecial index, 3)) (hf : cells ≤ R.cells ∧ slots ≤ R.slots)
    (kk : ∀ (H1 : Heap) (locs1 : List Loc), PS ev n ad w2 A s H1 locs1 → W p l e R s m args below meth c H1 locs1 cells slots Q (F0 m (pc + 3) ls rest)) : W p l e R s m args below meth c H locs cells slots Q (F0 m pc ls st0) := by
  have hr := va_runI (p := p) (l := l) (e := e) (R := R) (s := s) (m := m) (args := args) (below := below) (meth := meth) (c := c) (H := H) (locs := locs) (cells := cells) (slots := slots) (mc := 0) (ms := 0) (g := F0 m pc ls st0) (b := b) (As := As) (rest := rest) (Ts := gw) (own := own) (index := index) (n := nA) (bytes := bytes) (maxL := maxL) (nL := nL) (cc := cc)
    ⟨C.1, C.2.1, C.2.2.1, C.2.2.2.2.2.1, C.2.2.2.2.1⟩ hM (cwI nA C.2.2.2.2.1 hg.good rfl rfl rfl (C.2.2.2.2.1 _ hg.1) (C.2.2.2.2.1 _ hl) (C.2.2.2.2.1 _ hi) hyi ⟨hg.2.2.1, hg.2.2.2.1, hg.2.2.2.2⟩ hR)
    ⟨PreC.blind, fun U hU hW => k_pre C hP hap' hAA em U hU hW⟩ rfl hn hsize hst (by simpa using hW8) hdg hf
  exact k_back hr hP hap hAA em kk
theorem k_backN {h0 : Nat} {E : List Nat → List va_E} {a : Array Value} {pc2 : Nat} (hr : va_Run p l e R s m args below meth c H locs cells slots mc ms (F0 m pc ls st0) rest (PostN ev h0 H.size k E a) (NewA h0 H.size)) (hP : PS ev n (la as) (lw es) A s H locs) (hap : apart (la as) n) (hAA : ∀ j, j < n → A (la as j)) (hA : ∀ q, s.heap.size ≤ q → A q) (h1 : as.length = n) (h2 : es.length = n) (j0 : Nat) (hj0 : j0 < n) (hh0 : h0 = la as j0) (hE : ∀ qs, qs.length = k → (E (h0 :: qs)).length = k + 1)
    (kk : ∀ (qs : List Nat) (H1 : Heap) (locs1 : List Loc), qs.length = k → PS ev (n + k) (la (as ++ qs)) (lw (es.set j0 ((E (h0 :: qs)).headD (.inr (0, []))) ++ (E (h0 :: qs)).tail)) A s H1 locs1 → apart (la (as ++ qs)) (n + k) → (∀ j, j < n + k → A (la (as ++ qs) j)) → W p l e R s m args below meth c H1 locs1 (cells + mc) (slots + ms) Q (F0 m (pc + 3) ls rest)) : W p l e R s m args below meth c H locs cells slots Q (F0 m pc ls st0) := by
  intro T hT X
  obtain ⟨v, st₀, t, T', L, g0, X', hL, e1, e2, ⟨hv, ⟨qs, hqk, hp, hd⟩, hz, hk⟩, st⟩ := hr T hT X
  cases hv
  rw [g0] at hz hk
  obtain ⟨hapq, hAq⟩ := wl_Dap hd
  have hEl := hE qs hqk
  -- the new addresses are new
  have hnew : ∀ i, i < k → H.size ≤ la qs i := by
    intro i hi
    have h3 := hAq (i + 1) (by omega)
    rcases h3 with h3 | h3
    · have h4 := hapq (i + 1) 0 (by omega) (by omega) h3
      omega
    · exact h3
  have hin : ∀ q, NewA h0 H.size q → A q := by
    rintro q (rfl | hq)
    · rw [hh0]; exact hAA j0 hj0
    · exact hA q (Nat.le_trans hP.2.1 hq)
  have hold : ∀ j, j < n → la as j < H.size := fun j hj => (wl_P.mp hP.1 j hj).lt
  have hapN : apart (la (as ++ qs)) (n + k) := by
    intro i j hi hj hij
    by_cases hi1 : i < n <;> by_cases hj1 : j < n
    · rw [la_left (by omega), la_left (by omega)] at hij
      exact hap i j hi1 hj1 hij
    · rw [la_left (by omega), la_right (by omega)] at hij
      have h5 := hold i hi1
      have h6 := hnew (j - as.length) (by omega)
      omega
    · rw [la_right (by omega), la_left (by omega)] at hij
      have h5 := hold j hj1
      have h6 := hnew (i - as.length) (by omega)
      omega
    · rw [la_right (by omega), la_right (by omega)] at hij
      have h7 := hapq (i - as.length + 1) (j - as.length + 1) (by omega) (by omega) hij
      omega
  have hAN : ∀ j, j < n + k → A (la (as ++ qs) j) := by
    intro j hj
    by_cases hj1 : j < n
    · rw [la_left (by omega)]; exact hAA j hj1
    · rw [la_right (by omega)]
      exact hA _ (Nat.le_trans hP.2.1 (hnew _ (by omega)))
  have hsetl : (es.set j0 ((E (h0 :: qs)).headD (.inr (0, [])))).length = n := by simp [h2]
  have hPS : PS ev (n + k) (la (as ++ qs)) (lw (es.set j0 ((E (h0 :: qs)).headD (.inr (0, []))) ++ (E (h0 :: qs)).tail)) A s T'.heap (locs ++ L) := by
    refine ⟨wl_P.mpr fun j hj => ?_, Nat.le_trans hP.2.1 (by rw [e1]; exact hz), fun q q1 q2 => ?_, fun q hq => ?_⟩
    · rw [e1]
      by_cases hj1 : j < n
      · rw [la_left (by omega), lw_left (by omega), lw_set (by omega)]
        unfold updW
        by_cases hjj : j = j0
        · subst hjj
          rw [if_pos rfl]
          have h8 := wl_P.mp hp 0 (by omega)
          rw [← hh0]
          have h9 : lw (E (h0 :: qs)) 0 = (E (h0 :: qs)).headD (.inr (0, [])) := by
            cases hEq : E (h0 :: qs) with
            | nil => rfl
            | cons x xs => rfl
          rw [← h9]
          exact h8
        · rw [if_neg hjj]
          have h9 := wl_P.mp hP.1 j hj1
          refine h9.kept (hk _ h9.lt ?_)
          rintro (hq | hq)
          · exact hjj (hap j j0 hj1 hj0 (hq.trans hh0))
          · have := h9.lt
            show False
            have h10 : la as j < H.size := this
            omega
      · rw [la_right (by omega), lw_right (by omega), hsetl, h1]
        have h8 := wl_P.mp hp (j - n + 1) (by omega)
        have h9 : lw (E (h0 :: qs)).tail (j - n) = lw (E (h0 :: qs)) (j - n + 1) := by
          cases hEq : E (h0 :: qs) with
          | nil => rfl
          | cons x xs => rfl
        rw [h9]
        exact h8
    · rw [e1, hk q (Nat.lt_of_lt_of_le q1 hP.2.1) (fun z => q2 (hin q z))]
      exact hP.2.2.1 q q1 q2
    · rcases List.mem_append.mp hq with h | h
      · exact hP.2.2.2 q h
      · exact hin _ (hL q h)
  obtain ⟨t2, a1, b1⟩ := kk qs T'.heap (locs ++ L) hqk hPS hapN hAN T' rfl X'
  exact ⟨t2, st t2 a1, b1⟩
/-- the start of a constructor that makes cells -/
theorem k_preN {h0 : Nat} {e0 : va_E} {av : List Value} (C : CX ev p s m args meth c cc nL ret own A) (hP : PS ev n (la as) (lw es) A s H locs) (hAA : ∀ j, j < n → A (la as j)) (hA : ∀ q, s.heap.size ≤ q → A q) (j0 : Nat) (hj0 : j0 < n) (hh0 : h0 = la as j0) (he0 : lw es j0 = e0) (U : State) (hU : U.heap = H) (hW : s.WarmedH U.vm) : PreN ev h0 H.size e0 av av.toArray U := by
  obtain ⟨-, -, -, -, -, -, -, hK, hE⟩ := C
  have hin : ∀ q, NewA h0 H.size q → A q := by
    rintro q (rfl | hq)
    · rw [hh0]; exact hAA j0 hj0
    · exact hA q (Nat.le_trans hP.2.1 hq)
  refine ⟨rfl, by rw [hU], ?_, va_K.moved hW.alike hK, ?_⟩
  · rw [hU]
    refine wl_P.mpr fun j hj => ?_
    obtain rfl : j = 0 := by omega
    have h9 := wl_P.mp hP.1 j0 hj0
    rw [← hh0, he0] at h9
    exact h9
  · rw [hU]
    exact ((hE.kept (H1 := H) hP.2.2.1).narrow hin).warm hW
/-- 'new C(..)' whose constructor makes cells -/
theorem k_newN {fr lc : Nat} {h0 : Nat} {e0 : va_E} {E : List Nat → List va_E} (C : CX ev p s m args meth c cc nL ret own A) (hP : PS ev n (la as) (lw es) A s H locs) (hap : apart (la as) n) (hAA : ∀ j, j < n → A (la as j)) (hA : ∀ q, s.heap.size ≤ q → A q) (h1 : as.length = n) (h2 : es.length = n) (hM : CtN l y bytes maxL ({ frames := fr, cells := mc, slots := ms, locals := lc } : Room) ev h0 H.size e0 (.ref h0 :: As) mc ms k E) (j0 : Nat) (hj0 : j0 < n) (hh0 : h0 = la as j0) (he0 : lw es j0 = e0) (hE : ∀ qs, qs.length = k → (E (h0 :: qs)).length = k + 1)
    (hg : GZ y bytes maxL none nA) (hl : Cond.methodLink own index y ∈ gw) (hi : Cond.instanceMethod y ∈ gw) (hyi : y.name = "<init>") (hR : fr + 1 ≤ R.frames ∧ 8 + (maxL + 11) + lc ≤ R.locals) (hn : As.length = nA) (hsize : ls.size = nL) (hst : st0 = As.reverse ++ .ref h0 :: rest) (hW8 : (rest.map fun v => v.category).sum ≤ 8) (hdg : decode cc pc = .ok (.invokespecial index, 3)) (hf : cells + mc ≤ R.cells ∧ slots + ms ≤ R.slots)
    (kk : ∀ (qs : List Nat) (H1 : Heap) (locs1 : List Loc), qs.length = k → PS ev (n + k) (la (as ++ qs)) (lw (es.set j0 ((E (h0 :: qs)).headD (.inr (0, []))) ++ (E (h0 :: qs)).tail)) A s H1 locs1 → apart (la (as ++ qs)) (n + k) → (∀ j, j < n + k → A (la (as ++ qs) j)) → W p l e R s m args below meth c H1 locs1 (cells + mc) (slots + ms) Q (F0 m (pc + 3) ls rest)) : W p l e R s m args below meth c H locs cells slots Q (F0 m pc ls st0) := by
  have hr := va_runI (p := p) (l := l) (e := e) (R := R) (s := s) (m := m) (args := args) (below := below) (meth := meth) (c := c) (H := H) (locs := locs) (cells := cells) (slots := slots) (mc := mc) (ms := ms) (g := F0 m pc ls st0) (b := h0) (As := As) (rest := rest) (Ts := gw) (own := own) (index := index) (n := nA) (bytes := bytes) (maxL := maxL) (nL := nL) (cc := cc)
    ⟨C.1, C.2.1, C.2.2.1, C.2.2.2.2.2.1, C.2.2.2.2.1⟩ hM (cwI nA C.2.2.2.2.1 hg.good rfl rfl rfl (C.2.2.2.2.1 _ hg.1) (C.2.2.2.2.1 _ hl) (C.2.2.2.2.1 _ hi) hyi ⟨hg.2.2.1, hg.2.2.2.1, hg.2.2.2.2⟩ hR)
    ⟨PreN.blind, fun U hU hW => k_preN C hP hAA hA j0 hj0 hh0 he0 U hU hW⟩ rfl hn hsize hst (by simpa using hW8) hdg hf
  exact k_backN (pc2 := pc) hr hP hap hAA hA h1 h2 j0 hj0 hh0 hE kk
/-- the same of a private constructor across the nest -/
theorem k_newNN {fr lc : Nat} {h0 : Nat} {e0 : va_E} {E : List Nat → List va_E} (C : CX ev p s m args meth c cc nL ret own A) (hP : PS ev n (la as) (lw es) A s H locs) (hap : apart (la as) n) (hAA : ∀ j, j < n → A (la as j)) (hA : ∀ q, s.heap.size ≤ q → A q) (h1 : as.length = n) (h2 : es.length = n) (hM : CtN l y bytes maxL ({ frames := fr, cells := mc, slots := ms, locals := lc } : Room) ev h0 H.size e0 (.ref h0 :: As) mc ms k E) (j0 : Nat) (hj0 : j0 < n) (hh0 : h0 = la as j0) (he0 : lw es j0 = e0) (hE : ∀ qs, qs.length = k → (E (h0 :: qs)).length = k + 1)
    (hg : GZ y bytes maxL none nA) (hl : (own, index, y, host) ∈ nestL) (hi : Cond.instanceMethod y ∈ gw) (hyi : y.name = "<init>") (hR : fr + 1 ≤ R.frames ∧ 8 + (maxL + 11) + lc ≤ R.locals) (hn : As.length = nA) (hsize : ls.size = nL) (hst : st0 = As.reverse ++ .ref h0 :: rest) (hW8 : (rest.map fun v => v.category).sum ≤ 8) (hdg : decode cc pc = .ok (.invokespecial index, 3)) (hf : cells + mc ≤ R.cells ∧ slots + ms ≤ R.slots)
    (kk : ∀ (qs : List Nat) (H1 : Heap) (locs1 : List Loc), qs.length = k → PS ev (n + k) (la (as ++ qs)) (lw (es.set j0 ((E (h0 :: qs)).headD (.inr (0, []))) ++ (E (h0 :: qs)).tail)) A s H1 locs1 → apart (la (as ++ qs)) (n + k) → (∀ j, j < n + k → A (la (as ++ qs) j)) → W p l e R s m args below meth c H1 locs1 (cells + mc) (slots + ms) Q (F0 m (pc + 3) ls rest)) : W p l e R s m args below meth c H locs cells slots Q (F0 m pc ls st0) := by
  have hnw : va_Nw (.methodLinkNest own index y host) s := C.2.2.2.2.2.2.2.2.2.2.2.2.2.2.2.1 _ hl
  have hr := va_runIN (p := p) (l := l) (e := e) (R := R) (s := s) (m := m) (args := args) (below := below) (meth := meth) (c := c) (H := H) (locs := locs) (cells := cells) (slots := slots) (mc := mc) (ms := ms) (g := F0 m pc ls st0) (b := h0) (As := As) (rest := rest) (Ts := gw) (own := own) (host := host) (index := index) (n := nA) (bytes := bytes) (maxL := maxL) (nL := nL) (cc := cc)
    ⟨C.1, C.2.1, C.2.2.1, C.2.2.2.2.2.1, C.2.2.2.2.1⟩ hM ⟨va_cnB nA C.2.2.2.2.1 hg.good rfl rfl rfl hnw (C.2.2.2.2.1 _ hg.1) ⟨hg.2.2.1, hg.2.2.2.1, hg.2.2.2.2⟩ hR, hyi, C.2.2.2.2.1 _ hi⟩
    ⟨PreN.blind, fun U hU hW => k_preN C hP hAA hA j0 hj0 hh0 he0 U hU hW⟩ rfl hn hsize hst (by simpa using hW8) hdg hf
  exact k_backN (pc2 := pc) hr hP hap hAA hA h1 h2 j0 hj0 hh0 hE kk
/-- an embedding of one cell of a list -/
theorem em_L {w0 w0' : Nat → va_E} (j : Nat) (hj : j < n) (h2 : es.length = n) (he : lw es j = w0 0) : Emb (la as) n (lw es) (lw (es.set j (w0' 0))) (fun _ => la as j) 1 w0 w0' := by
  refine ⟨fun _ => j, fun i hi => ?_, fun k hk h => ?_⟩
  · obtain rfl : i = 0 := by omega
    refine ⟨hj, rfl, he.symm, ?_⟩
    rw [lw_set (by omega)]
    exact if_pos rfl
  · rw [lw_set (by omega)]
    exact if_neg (fun e => h 0 (by decide) e.symm)
theorem e_vretN {h0 sz : Nat} {E : List Nat → List va_E} {Qc : Array Value → State → Outcome → State → Prop} {mc ms k : Nat} {qs : List Nat} {w : Nat → va_E} (C : CX ev p s m args meth c cc nL none own A) (hend : ∀ (t : State) (H : Heap) (locs : List Loc) (qs : List Nat), qs.length = k → PS ev (k + 1) (la (h0 :: qs)) (lw (E (h0 :: qs))) (NewA h0 sz) s H locs → apart (la (h0 :: qs)) (k + 1) → (∀ j, j < k + 1 → NewA h0 sz (la (h0 :: qs) j)) → t.heap = H → s.WarmedH t.vm → Qc args s (.returned none) t) (hk : qs.length = k) (hP : PS ev (k + 1) (la (h0 :: qs)) w (NewA h0 sz) s H locs) (hw : ∀ j, j < k + 1 → w j = lw (E (h0 :: qs)) j) (hap : apart (la (h0 :: qs)) (k + 1)) (hAA : ∀ j, j < k + 1 → NewA h0 sz (la (h0 :: qs) j)) (hdg : decode cc pc = .ok (.return_, 1)) (hc : cells ≤ mc) (hs : slots ≤ ms) : W p l e R s m args below meth c H locs cells slots (MQ below Qc args s mc ms (NewA h0 sz)) (F0 m pc ls []) := by
  have hlocks := C.2.2.2.2.2.2.1
  refine W.widen (k := mc) (n := ms) hc hs ?_
  exact W.vret C.1 C.2.1 C.2.2.2.1 (fun t ht hW => hend t _ _ qs hk (hP.cong hw) hap hAA ht hW) hP.2.2.2 hdg
end ALLOC
