/-! The base: combinators of the read-off functions, worlds as functions of a place, contracts 'Ct', rows in these words -/
-- combinators
def lt {α β : Type} (e : α) (f : α → β) : β := f e
def gd {β : Type} (b : Bool) (x : Option β) : Option β := if b = true then x else none
def ob {α β : Type} (o : Option α) (f : α → Option β) : Option β := match o with
  | none => none
  | some x => f x
def ob2 {α γ β : Type} (o : Option (α × γ)) (f : α → γ → Option β) : Option β := match o with
  | none => none
  | some x => f x.1 x.2
def om {β : Type} (o : Option Nat) (a : β) (f : Nat → β) : β := match o with
  | none => a
  | some k => f k
def lp {α : Type} (z : α) (step : α → α) : Nat → α
  | 0 => z
  | n + 1 => step (lp z step n)
def FU : Nat := 600
def inb (i : Int32) (n : Nat) : Bool := decide (¬ (i < 0 ∨ n ≤ i.toNatClampNeg))
def nz (d : Int32) : Bool := decide (¬ d = 0)
theorem k_lt {α β : Type} {x e : α} {f : α → β} {r : β} (ex : x = e) (h : lt e f = r) : f x = r := by subst ex; exact h
theorem k_ltx {α β : Type} {e : α} {f : α → β} {r : β} (h : lt e f = r) : ∃ x, x = e ∧ f x = r := ⟨e, rfl, h⟩
theorem k_gd {β : Type} {b : Bool} {x : Option β} {r : β} (h : gd b x = some r) : b = true ∧ x = some r := by
  cases b with
  | false => exact absurd h (by simp [gd])
  | true => exact ⟨rfl, by simpa [gd] using h⟩
theorem k_ob {α β : Type} {o : Option α} {f : α → Option β} {r : β} (h : ob o f = some r) : ∃ x, o = some x ∧ f x = some r := by
  cases o with
  | none => cases h
  | some x => exact ⟨x, rfl, h⟩
theorem k_ob2 {α γ β : Type} {o : Option (α × γ)} {f : α → γ → Option β} {r : β} (h : ob2 o f = some r) : ∃ x s, o = some (x, s) ∧ f x s = some r := by
  cases o with
  | none => cases h
  | some x => exact ⟨x.1, x.2, rfl, h⟩
theorem k_if {β : Type} {c : Prop} [Decidable c] {A B r : β} (hc : c) (h : (if c then A else B) = r) : A = r := (if_pos hc).symm.trans h
theorem k_nf {β : Type} {c : Prop} [Decidable c] {A B r : β} (hc : ¬ c) (h : (if c then A else B) = r) : B = r := (if_neg hc).symm.trans h
theorem k_some {β : Type} {a b : β} (h : some a = some b) : a = b := Option.some.inj h
theorem k_some2 {α β : Type} {a b : α} {x y : β} (h : some (a, x) = some (b, y)) : a = b ∧ x = y := Prod.mk.inj (Option.some.inj h)
theorem k_none {β : Type} {P : Prop} {r : β} (h : none = some r) : P := by cases h
theorem inb_in {i : Int32} {n : Nat} (h : inb i n = true) : vp_in i n := of_decide_eq_true (p := ¬ (i < 0 ∨ n ≤ i.toNatClampNeg)) h
theorem nz_ne {d : Int32} (h : nz d = true) : ¬ d = 0 := of_decide_eq_true h
theorem lp_s {α : Type} (z : α) (step : α → α) (n : Nat) : lp z step (n + 1) = step (lp z step n) := rfl
-- surroundings that nobody changes
abbrev EV : Type := va_G × (Nat → ClassId) × Nat × (Nat → Nat) × (Nat → Nat)
abbrev TY (ev : EV) : List (ClassId × FieldType) := [(ev.2.1 0, .int), (ev.2.1 1, .boolean), (ev.2.1 2, .long), (ev.2.1 3, .char), (ev.2.1 4, .object "HedgesAndDitches$Shelf")]
def nJS : Nat := 5
def lenJS : List Nat := [4, 5, 3, 4, 6]
def bytJS : List (List Int32) := [[115, 105, 122, 101], [104, 101, 100, 103, 101], [100, 105, 103], [116, 117, 114, 110], [112, 108, 97, 121, 101, 114]]
def kaF : Nat → Int32 := fun k => match k with
  | 0 => -1
  | 1 => 0
  | 2 => 0
  | 3 => 1
  | 4 => 2
  | _ => 0
/-- links of private methods across the nest -/
def nestL : List (String × Nat × MethodName × String) := [("HedgesAndDitches", 47, yX2_init, "HedgesAndDitches"), ("HedgesAndDitches", 55, yX1_init, "HedgesAndDitches"), ("HedgesAndDitches$Shelf", 30, yX3_truth, "HedgesAndDitches"), ("HedgesAndDitches$Game", 170, yX3_slotAt, "HedgesAndDitches"), ("HedgesAndDitches$Game", 173, yX3_firstSlot, "HedgesAndDitches")]
def EVs (ev : EV) (A : Nat → Prop) (U : State) (H : Heap) : Prop :=
  va_Z "HedgesAndDitches" "KIND_ABOVE" "[I" (.ref ev.2.2.1) A U H ∧ va_T .int ev.2.2.1 6 (fun j => .int (kaF j)) A U H ∧ va_Z "java/lang/String" "COMPACT_STRINGS" "Z" (.int 1) A U H ∧ (∃ v, (v = .null ∨ ∃ q, v = .ref q) ∧ va_Z "jdk/internal/util/Preconditions" "SIOOBE_FORMATTER" "Ljava/util/function/BiFunction;" v A U H) ∧ vk_S nJS lenJS bytJS ev.2.2.2.1 ev.2.2.2.2 A U H ∧
  (vk_R "HedgesAndDitches" 411 "size" (ev.2.2.2.1 0) U ∧ vk_R "HedgesAndDitches" 420 "hedge" (ev.2.2.2.1 1) U ∧ vk_R "HedgesAndDitches" 425 "dig" (ev.2.2.2.1 2) U ∧ vk_R "HedgesAndDitches" 427 "turn" (ev.2.2.2.1 3) U ∧ vk_R "HedgesAndDitches" 431 "player" (ev.2.2.2.1 4) U) ∧
  (vk_R "HedgesAndDitchesModel" 161 "size" (ev.2.2.2.1 0) U ∧ vk_R "HedgesAndDitchesModel" 170 "hedge" (ev.2.2.2.1 1) U ∧ vk_R "HedgesAndDitchesModel" 171 "dig" (ev.2.2.2.1 2) U ∧ vk_R "HedgesAndDitchesModel" 182 "turn" (ev.2.2.2.1 3) U ∧ vk_R "HedgesAndDitchesModel" 183 "player" (ev.2.2.2.1 4) U) ∧ (∀ q ∈ nestL, va_Nw (.methodLinkNest q.1 q.2.1 q.2.2.1 q.2.2.2) U) ∧ va_AO "HedgesAndDitches$Shelf" U
theorem EVs.same {ev : EV} {A : Nat → Prop} {u U : State} {H : Heap} (hv : U.vm = u.vm) (h : EVs ev A u H) : EVs ev A U H := by
  obtain ⟨h1, h9, h2, ⟨v, hv3, h3⟩, h4, ⟨a0, a1, a2, a3, a4⟩, ⟨b0, b1, b2, b3, b4⟩, hn, ho⟩ := h
  have hm : u.vm.Alike U.vm := by rw [hv]; exact Vm.Alike.refl _
  exact ⟨h1.moved hm, h9.moved hm, h2.moved hm, ⟨v, hv3, h3.moved hm⟩, h4.moved hm, ⟨a0.same hv, a1.same hv, a2.same hv, a3.same hv, a4.same hv⟩, ⟨b0.same hv, b1.same hv, b2.same hv, b3.same hv, b4.same hv⟩, fun q hq => va_Nw.same rfl hv.symm (hn q hq), ho.moved hm⟩
theorem EVs.warm {ev : EV} {A : Nat → Prop} {s U : State} {H : Heap} (hW : s.WarmedH U.vm) (h : EVs ev A s H) : EVs ev A U H := by
  obtain ⟨h1, h9, h2, ⟨v, hv3, h3⟩, h4, ⟨a0, a1, a2, a3, a4⟩, ⟨b0, b1, b2, b3, b4⟩, hn, ho⟩ := h
  have hm : s.vm.Alike U.vm := hW.alike
  exact ⟨h1.moved hm, h9.moved hm, h2.moved hm, ⟨v, hv3, h3.moved hm⟩, h4.moved hm, ⟨a0.warm hW, a1.warm hW, a2.warm hW, a3.warm hW, a4.warm hW⟩, ⟨b0.warm hW, b1.warm hW, b2.warm hW, b3.warm hW, b4.warm hW⟩, fun q hq => va_Nw.warmM hW (hn q hq), ho.moved hm⟩
theorem EVs.kept {ev : EV} {A : Nat → Prop} {U : State} {H H1 : Heap} (hq : ∀ a : Nat, a < H.size → ¬ A a → H1[a]? = H[a]?) (h : EVs ev A U H) : EVs ev A U H1 := by
  obtain ⟨h1, h9, h2, ⟨v, hv3, h3⟩, h4, h5⟩ := h
  exact ⟨h1.kept hq, h9.kept hq, h2.kept hq, ⟨v, hv3, h3.kept hq⟩, h4.kept hq, h5⟩
theorem EVs.narrow {ev : EV} {A B : Nat → Prop} {U : State} {H : Heap} (hAB : ∀ q, B q → A q) (h : EVs ev A U H) : EVs ev B U H := by
  obtain ⟨h1, h9, h2, ⟨v, hv3, h3⟩, h4, h5⟩ := h
  exact ⟨h1.narrow hAB, h9.narrow hAB, h2.narrow hAB, ⟨v, hv3, h3.narrow hAB⟩, h4.narrow hAB, h5⟩
-- worlds
def inA (ad : Nat → Nat) (n : Nat) : Nat → Prop := fun q => ∃ j, j < n ∧ q = ad j
def wl (ad : Nat → Nat) (w : Nat → va_E) (n : Nat) : va_W := (List.range n).map (fun k => (ad k, w k))
def apart (ad : Nat → Nat) (n : Nat) : Prop := ∀ i j, i < n → j < n → ad i = ad j → i = j
def updW (w : Nat → va_E) (k : Nat) (e : va_E) : Nat → va_E := fun j => if j = k then e else w j
theorem wl_get {ad : Nat → Nat} {w : Nat → va_E} {n k : Nat} (h : k < n) : (wl ad w n)[k]? = some (ad k, w k) := by
  simp [wl, h]
theorem wl_lt {ad : Nat → Nat} {w : Nat → va_E} {n k : Nat} {q : Nat × va_E} (h : (wl ad w n)[k]? = some q) : k < n ∧ q = (ad k, w k) := by
  have hk : k < n := by
    have := (List.getElem?_eq_some_iff.mp h).1
    simpa [wl] using this
  rw [wl_get hk] at h
  exact ⟨hk, (Option.some.inj h).symm⟩
theorem wl_P {D : va_G} {cl : List vw_C} {ad : Nat → Nat} {w : Nat → va_E} {n : Nat} {H : Heap} : va_P D cl (wl ad w n) H ↔ ∀ k, k < n → va_at D cl (ad k, w k) H :=
  ⟨fun h k hk => h k _ (wl_get hk), fun h k q hq => by obtain ⟨hk, rfl⟩ := wl_lt hq; exact h k hk⟩
theorem wl_D {A : Nat → Prop} {ad : Nat → Nat} {w : Nat → va_E} {n : Nat} (hap : apart ad n) (hA : ∀ j, j < n → A (ad j)) : va_D A (wl ad w n) :=
  ⟨fun i j p q hi hj hpq => by obtain ⟨h1, rfl⟩ := wl_lt hi; obtain ⟨h2, rfl⟩ := wl_lt hj; exact hap i j h1 h2 hpq, fun k q hk => by obtain ⟨h1, rfl⟩ := wl_lt hk; exact hA k h1⟩
theorem wl_set {ad : Nat → Nat} {w : Nat → va_E} {n k : Nat} {e : va_E} : (wl ad w n).set k (ad k, e) = wl ad (updW w k e) n := by
  apply List.ext_getElem?
  intro i
  by_cases hi : i < n
  · by_cases hik : k = i
    · subst hik
      rw [List.getElem?_set_self (by simpa [wl] using hi), wl_get hi]
      simp [updW]
    · rw [List.getElem?_set_ne hik, wl_get hi, wl_get hi]
      simp [updW, Ne.symm hik]
  · rw [List.getElem?_eq_none (by simpa [wl] using hi), List.getElem?_eq_none (by simpa [wl] using hi)]
def PS (ev : EV) (n : Nat) (ad : Nat → Nat) (w : Nat → va_E) (A : Nat → Prop) (s : State) (H : Heap) (locs : List Loc) : Prop := va_P ev.1 vwCl (wl ad w n) H ∧ va_S A s.heap H locs
theorem PS.cong {ev : EV} {n : Nat} {ad : Nat → Nat} {w w2 : Nat → va_E} {A : Nat → Prop} {s : State} {H : Heap} {locs : List Loc} (h : PS ev n ad w A s H locs) (e : ∀ k, k < n → w k = w2 k) : PS ev n ad w2 A s H locs :=
  ⟨wl_P.mpr fun k hk => by rw [← e k hk]; exact wl_P.mp h.1 k hk, h.2⟩
-- contracts
abbrev rmk (f l : Nat) : Room := { frames := f, cells := 0, slots := 0, locals := l }
def PreC (ev : EV) (n : Nat) (ad : Nat → Nat) (w : Nat → va_E) (av : List Value) : Array Value → State → Prop := va_Pc av (fun U => va_P ev.1 vwCl (wl ad w n) U.heap ∧ va_K ev.1 vwCl (TY ev) U ∧ apart ad n ∧ EVs ev (inA ad n) U U.heap)
def PostC (ev : EV) (n : Nat) (ad : Nat → Nat) (w' : Nat → va_E) (ov : Option Value) : Array Value → State → Outcome → State → Prop := fun _ st oc t => oc = .returned ov ∧ va_P ev.1 vwCl (wl ad w' n) t.heap ∧ va_F (inA ad n) st t
def Ct (l : Launch) (y : MethodName) (cc : ByteArray) (maxL : Nat) (ret : Option FieldType) (rm : Room) (ev : EV) (n : Nat) (ad : Nat → Nat) (w w' : Nat → va_E) (av : List Value) (ov : Option Value) : Prop :=
  Met l y (.code y cc maxL ret :: gw) rm (PreC ev n ad w av) (PostC ev n ad w' ov) 0 0 (inA ad n)
theorem PreC.blind {ev : EV} {n : Nat} {ad : Nat → Nat} {w : Nat → va_E} {av : List Value} : FrameBlind (PreC ev n ad w av) := fun a U g mk q => by
  obtain ⟨q0, q1, q2, q3, q4⟩ := q
  exact ⟨q0, q1, va_K.moved (u := U) (U := U.calling g mk a) (Vm.Alike.refl U.vm) q2, q3, EVs.same (u := U) (U := U.calling g mk a) rfl q4⟩
def CX (ev : EV) (p : Program) (s : State) (m : MethodId) (args : Array Value) (meth : Method) (c : Code) (cc : ByteArray) (nL : Nat) (ret : Option FieldType) (own : String) (A : Nat → Prop) : Prop :=
  p.tables.exec = Jvm.exec ∧ c.code = cc ∧ c.maxLocals = nL ∧ meth.sig.returnType = ret ∧ (∀ w ∈ gw, w.before args s = true) ∧ s.vm.findClass own = some m.cls ∧ meth.locks = false ∧ va_K ev.1 vwCl (TY ev) s ∧ EVs ev A s s.heap
set_option maxHeartbeats 1000000 in
theorem Ct.of {l : Launch} {y : MethodName} {cc : ByteArray} {maxL : Nat} {ret : Option FieldType} {rm : Room} {ev : EV} {n : Nat} {ad : Nat → Nat} {w w' : Nat → va_E} {av : List Value} {ov : Option Value} (hy : plainName y.cls = true) (hlen : (lg_sl av).length ≤ maxL)
    (body : ∀ (p : Program) (e : Env) (s : State) (m : MethodId) (args : Array Value) (below : List Frame) (meth : Method) (c : Code) (Qc : Array Value → State → Outcome → State → Prop), CX ev p s m args meth c cc maxL ret y.cls (inA ad n) → apart ad n → PS ev n ad w (inA ad n) s s.heap [] → (∀ (t : State) (H : Heap) (locs : List Loc), PS ev n ad w' (inA ad n) s H locs → t.heap = H → s.WarmedH t.vm → Qc args s (.returned ov) t) → ∀ ls : Array Slot, lv_has ls maxL (lv_args 0 av) → W p l e rm s m args below meth c s.heap [] 0 0 (MQ below Qc args s 0 0 (inA ad n)) (F0 m 0 ls [])) :
    Ct l y cc maxL ret rm ev n ad w w' av ov := by
  unfold Ct
  refine Met.ofW (cc := cc) (maxL := maxL) (ret := ret) hy rfl ?_
  intro p e s m args below meth c s₁ B hml hv
  obtain ⟨rfl, hP, hK, hap, hE⟩ := hv
  have hts := atoms_spec (ws := .code y cc maxL ret :: gw) B.pre
  have hown : s.vm.findClass y.cls = some m.cls := findClass_of_methodNamed B.named
  have hl := lv_entry av (n := maxL) hlen
  rw [lg_entry_eq]
  exact body p e s m av.toArray below meth c _ ⟨B.exec, B.bytes, hml, B.returns, fun w hw => hts w (List.mem_cons_of_mem _ hw), hown, B.notSynchronized, hK, hE⟩ hap ⟨hP, va_S.rf⟩ (fun t H locs h ht hW => ⟨rfl, by rw [ht]; exact h.1, h.2.F ht⟩) _ hl
/-- how a callee's world lies in the caller's, ahead and behind -/
def Emb (ad : Nat → Nat) (n : Nat) (w w2 : Nat → va_E) (ad' : Nat → Nat) (n' : Nat) (w0 w0' : Nat → va_E) : Prop :=
  ∃ e : Nat → Nat, (∀ j, j < n' → e j < n ∧ ad' j = ad (e j) ∧ w0 j = w (e j) ∧ w2 (e j) = w0' j) ∧ ∀ k, k < n → (∀ j, j < n' → e j ≠ k) → w2 k = w k
theorem Emb.same {ad : Nat → Nat} {n : Nat} {w w2 : Nat → va_E} : Emb ad n w w2 ad n w w2 := ⟨id, fun j hj => ⟨hj, rfl, rfl, rfl⟩, fun k hk h => absurd rfl (h k hk)⟩
theorem Emb.none {ad ad' : Nat → Nat} {n : Nat} {w w0 w0' : Nat → va_E} : Emb ad n w w ad' 0 w0 w0' := ⟨id, fun j hj => absurd hj (Nat.not_lt_zero j), fun _ _ _ => rfl⟩
theorem Emb.inA {ad ad' : Nat → Nat} {n n' : Nat} {w w2 w0 w0' : Nat → va_E} (em : Emb ad n w w2 ad' n' w0 w0') {q : Nat} (h : inA ad' n' q) : inA ad n q := by
  obtain ⟨e, h1, -⟩ := em
  obtain ⟨j, hj, rfl⟩ := h
  exact ⟨e j, (h1 j hj).1, (h1 j hj).2.1⟩
section CALL
variable {p : Program} {l : Launch} {e : Env} {R : Room} {s : State} {m : MethodId} {args : Array Value} {below : List Frame} {meth : Method} {c : Code} {H : Heap} {locs : List Loc} {cells slots : Nat} {Q : State → Prop}
variable {cc : ByteArray} {nL : Nat} {ret : Option FieldType} {own : String} {A : Nat → Prop} {pc : Nat} {ls : Array Slot} {rest st0 : List Value} {a : Array Value}
variable {ev : EV} {n n' : Nat} {ad ad' : Nat → Nat} {w w2 w0 w0' : Nat → va_E} {ov : Option Value}
theorem k_back (hr : va_Run p l e R s m args below meth c H locs cells slots 0 0 (F0 m pc ls st0) rest (PostC ev n' ad' w0' ov a) (inA ad' n')) (hP : PS ev n ad w A s H locs) (hap : apart ad n) (hAA : ∀ j, j < n → A (ad j)) (em : Emb ad n w w2 ad' n' w0 w0')
    (kk : ∀ (H1 : Heap) (locs1 : List Loc), PS ev n ad w2 A s H1 locs1 → W p l e R s m args below meth c H1 locs1 cells slots Q (F0 m (pc + 3) ls (ov.toList ++ rest))) : W p l e R s m args below meth c H locs cells slots Q (F0 m pc ls st0) := by
  intro T hT X
  obtain ⟨v, st₀, t, T', L, h0, X', hL, e1, e2, ⟨hv, hp, hz, hk⟩, st⟩ := hr T hT X
  cases hv
  rw [h0] at hz hk
  have hin : ∀ q, inA ad' n' q → A q := fun q hq => by
    obtain ⟨j, hj, rfl⟩ := em.inA hq
    exact hAA j hj
  have hPS : PS ev n ad w2 A s T'.heap (locs ++ L) := by
    refine ⟨wl_P.mpr fun k hk1 => ?_, Nat.le_trans hP.2.1 (by rw [e1]; exact hz), fun q h1 h2 => ?_, fun q hq => ?_⟩
    · obtain ⟨f, hf, hf2⟩ := em
      by_cases hex : ∃ j, j < n' ∧ f j = k
      · obtain ⟨j, hj, rfl⟩ := hex
        obtain ⟨g1, g2, g3, g4⟩ := hf j hj
        rw [g4, ← g2, e1]
        exact wl_P.mp hp j hj
      · have hne : ∀ j, j < n' → f j ≠ k := fun j hj hh => hex ⟨j, hj, hh⟩
        rw [hf2 k hk1 hne]
        have h9 := wl_P.mp hP.1 k hk1
        refine h9.kept ?_
        rw [e1]
        refine hk _ h9.lt ?_
        rintro ⟨j, hj, hq⟩
        obtain ⟨g1, g2, g3, g4⟩ := hf j hj
        exact hne j hj (hap _ _ g1 hk1 (g2.symm.trans hq.symm))
    · rw [e1, hk q (Nat.lt_of_lt_of_le h1 hP.2.1) (fun z => h2 (hin q z))]
      exact hP.2.2.1 q h1 h2
    · rcases List.mem_append.mp hq with h | h
      · exact hP.2.2.2 q h
      · exact hin _ (hL q h)
  obtain ⟨t2, a1, b1⟩ := kk T'.heap (locs ++ L) hPS T' rfl X'
  exact ⟨t2, st t2 a1, b1⟩
/-- the callee's start out of the caller's state -/
theorem k_pre {av : List Value} (C : CX ev p s m args meth c cc nL ret own A) (hP : PS ev n ad w A s H locs) (hap' : apart ad' n') (hAA : ∀ j, j < n → A (ad j)) (em : Emb ad n w w2 ad' n' w0 w0') (U : State) (hU : U.heap = H) (hW : s.WarmedH U.vm) : PreC ev n' ad' w0 av av.toArray U := by
  obtain ⟨-, -, -, -, -, -, -, hK, hE⟩ := C
  have hin : ∀ q, inA ad' n' q → A q := fun q hq => by
    obtain ⟨j, hj, rfl⟩ := em.inA hq
    exact hAA j hj
  refine ⟨rfl, ?_, va_K.moved hW.alike hK, hap', ?_⟩
  · rw [hU]
    obtain ⟨f, hf, hf2⟩ := em
    refine wl_P.mpr fun j hj => ?_
    obtain ⟨g1, g2, g3, g4⟩ := hf j hj
    rw [g2, g3]
    exact wl_P.mp hP.1 _ g1
  · rw [hU]
    exact ((hE.kept (H1 := H) hP.2.2.1).narrow hin).warm hW
/-- what the tables say of a method; of a call -/
def GZ (y : MethodName) (bytes : ByteArray) (maxL : Nat) (ret : Option FieldType) (nA : Nat) : Prop :=
  Cond.initialized y.cls ∈ gw ∧ Cond.code y bytes maxL ret ∈ gw ∧ y.cls ≠ "java/lang/invoke/MethodHandle" ∧ y.cls ≠ "java/lang/invoke/VarHandle" ∧ (parseMethodDescriptor y.desc).map (fun d => d.parameters.length) = some nA
theorem GZ.good {y : MethodName} {bytes : ByteArray} {maxL : Nat} {ret : Option FieldType} {nA : Nat} (h : GZ y bytes maxL ret nA) : GoodIn gw (Cond.code y bytes maxL ret :: gw) := fun w hw => by
  have hm : w ∈ gw := by
    rcases List.mem_cons.mp hw with rfl | h2
    · exact h.2.1
    · exact h2
  exact ⟨hm, gw_good w hm⟩
theorem GZ.goodV {y : MethodName} {bytes : ByteArray} {maxL : Nat} {ret : Option FieldType} {nA index : Nat} (h : GZ y bytes maxL ret nA) (hl : Cond.methodLink own index y ∈ gw) (hi : Cond.instanceMethod y ∈ gw) (hs : Cond.selects y.cls y y ∈ gw) : GoodIn gw (wsV own index y.cls y (Cond.code y bytes maxL ret :: gw)) := fun w hw => by
  unfold wsV at hw
  rcases List.mem_append.mp hw with h1 | h1
  · simp only [List.mem_cons, List.not_mem_nil, or_false] at h1
    rcases h1 with rfl | rfl | rfl | rfl
    · exact ⟨hl, gw_good _ hl⟩
    · exact ⟨hi, gw_good _ hi⟩
    · exact ⟨hs, gw_good _ hs⟩
    · exact ⟨h.1, gw_good _ h.1⟩
  · exact h.good w h1
theorem GZ.goodS {y : MethodName} {bytes : ByteArray} {maxL : Nat} {ret : Option FieldType} {nA index : Nat} (h : GZ y bytes maxL ret nA) (hl : Cond.methodLink own index y ∈ gw) (hi : Cond.static y ∈ gw) : GoodIn gw (va_wsS own index y (Cond.code y bytes maxL ret :: gw)) := fun w hw => by
  unfold va_wsS at hw
  rcases List.mem_append.mp hw with h1 | h1
  · simp only [List.mem_cons, List.not_mem_nil, or_false] at h1
    rcases h1 with rfl | rfl | rfl
    · exact ⟨hl, gw_good _ hl⟩
    · exact ⟨hi, gw_good _ hi⟩
    · exact ⟨h.1, gw_good _ h.1⟩
  · exact h.good w h1
variable {y : MethodName} {bytes : ByteArray} {maxL nA index : Nat} {rty : Option FieldType} {fr lc : Nat} {As : List Value} {b : Nat}
/-- a call of a method of an object -/
theorem k_callV (C : CX ev p s m args meth c cc nL ret own A) (hP : PS ev n ad w A s H locs) (hap : apart ad n) (hAA : ∀ j, j < n → A (ad j)) (hM : Ct l y bytes maxL rty (rmk fr lc) ev n' ad' w0 w0' (.ref b :: As) ov) (em : Emb ad n w w2 ad' n' w0 w0') (hap' : apart ad' n')
    (hg : GZ y bytes maxL rty nA) (hl : Cond.methodLink own index y ∈ gw) (hi : Cond.instanceMethod y ∈ gw) (hse : Cond.selects y.cls y y ∈ gw) (hR : fr + 1 ≤ R.frames ∧ 8 + (maxL + 11) + lc ≤ R.locals)
    {q0 ci : Nat} {fs : List Value} {qc : vw_C} (hb0 : b = ad q0) (hq0 : q0 < n) (hw0 : w q0 = .inr (ci, fs)) (hci : vwCl[ci]? = some qc) (hqc : qc.1 = y.cls)
    (hn : As.length = nA) (hsize : ls.size = nL) (hst : st0 = As.reverse ++ .ref b :: rest) (hW8 : (rest.map fun v => v.category).sum ≤ 8) (hdg : decode cc pc = .ok (.invokevirtual index, 3)) (hf : cells ≤ R.cells ∧ slots ≤ R.slots)
    (kk : ∀ (H1 : Heap) (locs1 : List Loc), PS ev n ad w2 A s H1 locs1 → W p l e R s m args below meth c H1 locs1 cells slots Q (F0 m (pc + 3) ls (ov.toList ++ rest))) : W p l e R s m args below meth c H locs cells slots Q (F0 m pc ls st0) := by
  have hr := va_runV (p := p) (l := l) (e := e) (R := R) (s := s) (m := m) (args := args) (below := below) (meth := meth) (c := c) (H := H) (locs := locs) (cells := cells) (slots := slots) (mc := 0) (ms := 0) (g := F0 m pc ls st0) (b := b) (As := As) (rest := rest) (Ts := gw) (own := own) (C := y.cls) (index := index) (n := nA) (bytes := bytes) (maxL := maxL) (ret := rty) (nL := nL) (cc := cc)
    ⟨C.1, C.2.1, C.2.2.1, C.2.2.2.2.2.1, C.2.2.2.2.1⟩ hM (cwV nA C.2.2.2.2.1 (hg.goodV hl hi hse) rfl rfl rfl ⟨rfl, hg.2.2.1, hg.2.2.2.1, hg.2.2.2.2⟩ hR)
    ⟨PreC.blind, by
      have h := va_recv (q0 := q0) C.2.2.2.2.2.2.2.1 hP.1 hci (by rw [wl_get hq0, hw0])
      rw [hqc, ← hb0] at h
      exact h, fun U hU hW => k_pre C hP hap' hAA em U hU hW⟩ rfl hn hsize hst (by simpa using hW8) hdg hf
  exact k_back hr hP hap hAA em kk
/-- a call of a static method -/
theorem k_callS (C : CX ev p s m args meth c cc nL ret own A) (hP : PS ev n ad w A s H locs) (hap : apart ad n) (hAA : ∀ j, j < n → A (ad j)) (hM : Ct l y bytes maxL rty (rmk fr lc) ev n' ad' w0 w0' As ov) (em : Emb ad n w w2 ad' n' w0 w0') (hap' : apart ad' n')
    (hg : GZ y bytes maxL rty nA) (hl : Cond.methodLink own index y ∈ gw) (hi : Cond.static y ∈ gw) (hR : fr + 1 ≤ R.frames ∧ 8 + (maxL + 11) + lc ≤ R.locals)
    (hn : As.length = nA) (hsize : ls.size = nL) (hst : st0 = As.reverse ++ rest) (hW8 : (rest.map fun v => v.category).sum ≤ 8) (hdg : decode cc pc = .ok (.invokestatic index, 3)) (hf : cells ≤ R.cells ∧ slots ≤ R.slots)
    (kk : ∀ (H1 : Heap) (locs1 : List Loc), PS ev n ad w2 A s H1 locs1 → W p l e R s m args below meth c H1 locs1 cells slots Q (F0 m (pc + 3) ls (ov.toList ++ rest))) : W p l e R s m args below meth c H locs cells slots Q (F0 m pc ls st0) := by
  have hr := va_runS (p := p) (l := l) (e := e) (R := R) (s := s) (m := m) (args := args) (below := below) (meth := meth) (c := c) (H := H) (locs := locs) (cells := cells) (slots := slots) (mc := 0) (ms := 0) (g := F0 m pc ls st0) (As := As) (rest := rest) (Ts := gw) (own := own) (index := index) (n := nA) (bytes := bytes) (maxL := maxL) (ret := rty) (nL := nL) (cc := cc)
    ⟨C.1, C.2.1, C.2.2.1, C.2.2.2.2.2.1, C.2.2.2.2.1⟩ hM (va_cwS nA C.2.2.2.2.1 (hg.goodS hl hi) rfl rfl rfl ⟨hg.2.2.1, hg.2.2.2.1, hg.2.2.2.2⟩ hR)
    ⟨PreC.blind, fun U hU hW => k_pre C hP hap' hAA em U hU hW⟩ rfl hn hsize hst (by simpa using hW8) hdg hf
  exact k_back hr hP hap hAA em kk
/-- a call of a private static method across the nest -/
theorem k_callN {host : String} (C : CX ev p s m args meth c cc nL ret own A) (hP : PS ev n ad w A s H locs) (hap : apart ad n) (hAA : ∀ j, j < n → A (ad j)) (hM : Ct l y bytes maxL rty (rmk fr lc) ev n' ad' w0 w0' As ov) (em : Emb ad n w w2 ad' n' w0 w0') (hap' : apart ad' n')
    (hg : GZ y bytes maxL rty nA) (hl : (own, index, y, host) ∈ nestL) (hi : Cond.static y ∈ gw) (hR : fr + 1 ≤ R.frames ∧ 8 + (maxL + 11) + lc ≤ R.locals)
    (hn : As.length = nA) (hsize : ls.size = nL) (hst : st0 = As.reverse ++ rest) (hW8 : (rest.map fun v => v.category).sum ≤ 8) (hdg : decode cc pc = .ok (.invokestatic index, 3)) (hf : cells ≤ R.cells ∧ slots ≤ R.slots)
    (kk : ∀ (H1 : Heap) (locs1 : List Loc), PS ev n ad w2 A s H1 locs1 → W p l e R s m args below meth c H1 locs1 cells slots Q (F0 m (pc + 3) ls (ov.toList ++ rest))) : W p l e R s m args below meth c H locs cells slots Q (F0 m pc ls st0) := by
  have hnw : va_Nw (.methodLinkNest own index y host) s := C.2.2.2.2.2.2.2.2.2.2.2.2.2.2.2.1 _ hl
  have hr := va_runSN (p := p) (l := l) (e := e) (R := R) (s := s) (m := m) (args := args) (below := below) (meth := meth) (c := c) (H := H) (locs := locs) (cells := cells) (slots := slots) (mc := 0) (ms := 0) (g := F0 m pc ls st0) (As := As) (rest := rest) (Ts := gw) (own := own) (host := host) (index := index) (n := nA) (bytes := bytes) (maxL := maxL) (ret := rty) (nL := nL) (cc := cc)
    ⟨C.1, C.2.1, C.2.2.1, C.2.2.2.2.2.1, C.2.2.2.2.1⟩ hM ⟨va_cnB nA C.2.2.2.2.1 hg.good rfl rfl rfl hnw (C.2.2.2.2.1 _ hg.1) ⟨hg.2.2.1, hg.2.2.2.1, hg.2.2.2.2⟩ hR, C.2.2.2.2.1 _ hi, trivial⟩
    ⟨PreC.blind, fun U hU hW => k_pre C hP hap' hAA em U hU hW⟩ rfl hn hsize hst (by simpa using hW8) hdg hf
  exact k_back hr hP hap hAA em kk
/-- a field is read, written -/
theorem r_get (C : CX ev p s m args meth c cc nL ret own A) (hP : PS ev n ad w A s H locs) {Cn ref : String} {T : u_T} {N ci index : Nat} (hc : vwCl[ci]? = some (Cn, T, N)) (hin : ∀ x ∈ u_ws Cn T N, x ∈ gw) (k : Nat) (hk : k < N) (q0 : Nat) (hq : q0 < n) {fs : List Value} (he : w q0 = .inr (ci, fs)) (hlink : Cond.fieldLink own index ref (T k).2.1 (T k).2.2.1 ∈ gw) (hrf : (T k).1 = ref) {v : Value} (hv : fs[k]? = some v) (hdg : decode cc pc = .ok (.getfield index, 3))
    (kk : W p l e R s m args below meth c H locs cells slots Q (F0 m (pc + 3) ls (v :: rest))) : W p l e R s m args below meth c H locs cells slots Q (F0 m pc ls (.ref (ad q0) :: rest)) := by
  obtain ⟨hx, hb, -, -, hts, hown, -, hK, -⟩ := C
  subst hrf
  exact va_get hx hb hts hin hown hK hP.1 q0 (by rw [wl_get hq, he]) hc k hk (hts _ hlink) (fun _ h => h) hv hdg kk
theorem r_put (C : CX ev p s m args meth c cc nL ret own A) (hP : PS ev n ad w A s H locs) (hap : apart ad n) (hAA : ∀ j, j < n → A (ad j)) {Cn ref : String} {T : u_T} {N ci index : Nat} (hc : vwCl[ci]? = some (Cn, T, N)) (hin : ∀ x ∈ u_ws Cn T N, x ∈ gw) (ty0 : Nat → FieldType) (hty : ∀ k, k < N → parseFieldDescriptor (T k).2.2.1 = some (ty0 k)) (hnm : ∀ a, a < N → ∀ b, b < N → a ≠ b → (T a).2.1 ≠ (T b).2.1) (k : Nat) (hk : k < N) (q0 : Nat) (hq : q0 < n) {fs : List Value} (he : w q0 = .inr (ci, fs)) (hlink : Cond.fieldLink own index ref (T k).2.1 (T k).2.2.1 ∈ gw) (hrf : (T k).1 = ref) (hfin : (T k).2.2.2 = false) {v : Value} (hn : narrow (ty0 k) v = v) (hfit : fits (ty0 k) v = true) (hl : k < fs.length) {e2 : va_E} (he2 : .inr (ci, fs.set k v) = e2) (hdg : decode cc pc = .ok (.putfield index, 3))
    (kk : ∀ (H1 : Heap) (locs1 : List Loc), PS ev n ad (updW w q0 e2) A s H1 locs1 → W p l e R s m args below meth c H1 locs1 cells slots Q (F0 m (pc + 3) ls rest)) : W p l e R s m args below meth c H locs cells slots Q (F0 m pc ls (v :: .ref (ad q0) :: rest)) := by
  obtain ⟨hx, hb, -, -, hts, hown, -, hK, -⟩ := C
  subst hrf
  subst he2
  refine va_put hx hb hts hin ty0 hty hnm hown hK hP.1 (wl_D hap hAA) hP.2 q0 (by rw [wl_get hq, he]) hc k hk (hts _ hlink) (fun _ h => h) hfin (hty k hk) hn hfit hl hdg (fun H1 locs1 h1 h2 h3 => kk H1 locs1 ⟨?_, h3⟩)
  rw [wl_set] at h1
  exact h1
/-- an element is read, written -/
theorem r_iald (C : CX ev p s m args meth c cc nL ret own A) (hP : PS ev n ad w A s H locs) (q0 : Nat) (hq : q0 < n) {N : Nat} {f : Nat → Int32} (he : w q0 = .inl (ev.2.1 0, N, .inl f)) {i : Int32} (hin : inb i N = true) (hdg : decode cc pc = .ok (.iaload, 1))
    (kk : W p l e R s m args below meth c H locs cells slots Q (F0 m (pc + 1) ls (.int (f i.toNatClampNeg) :: rest))) : W p l e R s m args below meth c H locs cells slots Q (F0 m pc ls (.int i :: .ref (ad q0) :: rest)) :=
  va_iald C.1 C.2.1 C.2.2.2.2.2.2.2.1 hP.1 q0 0 (by rw [wl_get hq, he]) rfl (inb_in hin) hdg kk
theorem r_zald (C : CX ev p s m args meth c cc nL ret own A) (hP : PS ev n ad w A s H locs) (q0 : Nat) (hq : q0 < n) {N : Nat} {f : Nat → Int32} (he : w q0 = .inl (ev.2.1 1, N, .inl f)) {i : Int32} (hin : inb i N = true) (hdg : decode cc pc = .ok (.baload, 1))
    (kk : W p l e R s m args below meth c H locs cells slots Q (F0 m (pc + 1) ls (.int (f i.toNatClampNeg) :: rest))) : W p l e R s m args below meth c H locs cells slots Q (F0 m pc ls (.int i :: .ref (ad q0) :: rest)) :=
  va_zald C.1 C.2.1 C.2.2.2.2.2.2.2.1 hP.1 q0 1 (by rw [wl_get hq, he]) rfl (inb_in hin) hdg kk
theorem r_lald (C : CX ev p s m args meth c cc nL ret own A) (hP : PS ev n ad w A s H locs) (q0 : Nat) (hq : q0 < n) {N : Nat} {f : Nat → Int64} (he : w q0 = .inl (ev.2.1 2, N, .inr (.inl f))) {i : Int32} (hin : inb i N = true) (hdg : decode cc pc = .ok (.laload, 1))
    (kk : W p l e R s m args below meth c H locs cells slots Q (F0 m (pc + 1) ls (.long (f i.toNatClampNeg) :: rest))) : W p l e R s m args below meth c H locs cells slots Q (F0 m pc ls (.int i :: .ref (ad q0) :: rest)) :=
  va_lald C.1 C.2.1 C.2.2.2.2.2.2.2.1 hP.1 q0 2 (by rw [wl_get hq, he]) rfl (inb_in hin) hdg kk
theorem r_cald (C : CX ev p s m args meth c cc nL ret own A) (hP : PS ev n ad w A s H locs) (q0 : Nat) (hq : q0 < n) {N : Nat} {f : Nat → Int32} (he : w q0 = .inl (ev.2.1 3, N, .inl f)) {i : Int32} (hin : inb i N = true) (hdg : decode cc pc = .ok (.caload, 1))
    (kk : W p l e R s m args below meth c H locs cells slots Q (F0 m (pc + 1) ls (.int (f i.toNatClampNeg) :: rest))) : W p l e R s m args below meth c H locs cells slots Q (F0 m pc ls (.int i :: .ref (ad q0) :: rest)) :=
  va_cald C.1 C.2.1 C.2.2.2.2.2.2.2.1 hP.1 q0 3 (by rw [wl_get hq, he]) rfl (inb_in hin) hdg kk
theorem r_iast (C : CX ev p s m args meth c cc nL ret own A) (hP : PS ev n ad w A s H locs) (hap : apart ad n) (hAA : ∀ j, j < n → A (ad j)) (q0 : Nat) (hq : q0 < n) {N : Nat} {f : Nat → Int32} (he : w q0 = .inl (ev.2.1 0, N, .inl f)) {i x : Int32} (hin : inb i N = true) (hdg : decode cc pc = .ok (.iastore, 1))
    (kk : ∀ (H1 : Heap) (locs1 : List Loc), PS ev n ad (updW w q0 (.inl (ev.2.1 0, N, .inl (upd f i.toNatClampNeg x)))) A s H1 locs1 → W p l e R s m args below meth c H1 locs1 cells slots Q (F0 m (pc + 1) ls rest)) : W p l e R s m args below meth c H locs cells slots Q (F0 m pc ls (.int x :: .int i :: .ref (ad q0) :: rest)) := by
  refine va_iast C.1 C.2.1 C.2.2.2.2.2.2.2.1 hP.1 (wl_D hap hAA) hP.2 q0 0 (by rw [wl_get hq, he]) rfl (inb_in hin) hdg (fun H1 locs1 h1 h2 h3 => kk H1 locs1 ⟨?_, h3⟩)
  rw [wl_set] at h1
  first | exact h1 | simpa using h1
theorem r_zast (C : CX ev p s m args meth c cc nL ret own A) (hP : PS ev n ad w A s H locs) (hap : apart ad n) (hAA : ∀ j, j < n → A (ad j)) (q0 : Nat) (hq : q0 < n) {N : Nat} {f : Nat → Int32} (he : w q0 = .inl (ev.2.1 1, N, .inl f)) {i x : Int32} (hin : inb i N = true) (hdg : decode cc pc = .ok (.bastore, 1))
    (kk : ∀ (H1 : Heap) (locs1 : List Loc), PS ev n ad (updW w q0 (.inl (ev.2.1 1, N, .inl (upd f i.toNatClampNeg (vp_nar .boolean x))))) A s H1 locs1 → W p l e R s m args below meth c H1 locs1 cells slots Q (F0 m (pc + 1) ls rest)) : W p l e R s m args below meth c H locs cells slots Q (F0 m pc ls (.int x :: .int i :: .ref (ad q0) :: rest)) := by
  refine va_zast C.1 C.2.1 C.2.2.2.2.2.2.2.1 hP.1 (wl_D hap hAA) hP.2 q0 1 (by rw [wl_get hq, he]) rfl (inb_in hin) hdg (fun H1 locs1 h1 h2 h3 => kk H1 locs1 ⟨?_, h3⟩)
  rw [wl_set] at h1
  exact h1
theorem r_last (C : CX ev p s m args meth c cc nL ret own A) (hP : PS ev n ad w A s H locs) (hap : apart ad n) (hAA : ∀ j, j < n → A (ad j)) (q0 : Nat) (hq : q0 < n) {N : Nat} {f : Nat → Int64} (he : w q0 = .inl (ev.2.1 2, N, .inr (.inl f))) {i : Int32} {x : Int64} (hin : inb i N = true) (hdg : decode cc pc = .ok (.lastore, 1))
    (kk : ∀ (H1 : Heap) (locs1 : List Loc), PS ev n ad (updW w q0 (.inl (ev.2.1 2, N, .inr (.inl (vp_updL f i.toNatClampNeg x))))) A s H1 locs1 → W p l e R s m args below meth c H1 locs1 cells slots Q (F0 m (pc + 1) ls rest)) : W p l e R s m args below meth c H locs cells slots Q (F0 m pc ls (.long x :: .int i :: .ref (ad q0) :: rest)) := by
  refine va_last C.1 C.2.1 C.2.2.2.2.2.2.2.1 hP.1 (wl_D hap hAA) hP.2 q0 2 (by rw [wl_get hq, he]) rfl (inb_in hin) hdg (fun H1 locs1 h1 h2 h3 => kk H1 locs1 ⟨?_, h3⟩)
  rw [wl_set] at h1
  exact h1
theorem r_cast (C : CX ev p s m args meth c cc nL ret own A) (hP : PS ev n ad w A s H locs) (hap : apart ad n) (hAA : ∀ j, j < n → A (ad j)) (q0 : Nat) (hq : q0 < n) {N : Nat} {f : Nat → Int32} (he : w q0 = .inl (ev.2.1 3, N, .inl f)) {i x : Int32} (hin : inb i N = true) (hdg : decode cc pc = .ok (.castore, 1))
    (kk : ∀ (H1 : Heap) (locs1 : List Loc), PS ev n ad (updW w q0 (.inl (ev.2.1 3, N, .inl (upd f i.toNatClampNeg (vp_nar .char x))))) A s H1 locs1 → W p l e R s m args below meth c H1 locs1 cells slots Q (F0 m (pc + 1) ls rest)) : W p l e R s m args below meth c H locs cells slots Q (F0 m pc ls (.int x :: .int i :: .ref (ad q0) :: rest)) := by
  refine va_cast C.1 C.2.1 C.2.2.2.2.2.2.2.1 hP.1 (wl_D hap hAA) hP.2 q0 3 (by rw [wl_get hq, he]) rfl (inb_in hin) hdg (fun H1 locs1 h1 h2 h3 => kk H1 locs1 ⟨?_, h3⟩)
  rw [wl_set] at h1
  exact h1
theorem r_alen (C : CX ev p s m args meth c cc nL ret own A) (hP : PS ev n ad w A s H locs) (q0 : Nat) (hq : q0 < n) (t0 : Nat) {cA : ClassId} {x : vp_A} (he : w q0 = .inl (cA, x)) {ty : FieldType} (ht : (TY ev)[t0]? = some (cA, ty)) {v : Int32} (hv : Int32.ofNat x.1 = v) (hdg : decode cc pc = .ok (.arraylength, 1))
    (kk : W p l e R s m args below meth c H locs cells slots Q (F0 m (pc + 1) ls (.int v :: rest))) : W p l e R s m args below meth c H locs cells slots Q (F0 m pc ls (.ref (ad q0) :: rest)) :=
  va_alen C.1 C.2.1 C.2.2.2.2.2.2.2.1 hP.1 q0 t0 (by rw [wl_get hq, he]) ht hv hdg kk
end CALL
