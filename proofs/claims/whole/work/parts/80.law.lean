/-! the law: its cases, its loop -/
def LWf (ev : EV) (ad : Nat → Nat) (x : XX) (σ : MM) : Nat → va_E := fun k => if k < 26 then xw ev ad x k else mw ev (fun j => ad (j + 26)) σ (k - 26)
theorem em_LX {ev : EV} {ad : Nat → Nat} {x x' : XX} {σ : MM} : Emb ad 39 (LWf ev ad x σ) (LWf ev ad x' σ) ad 26 (xw ev ad x) (xw ev ad x') := by
  refine ⟨id, fun j hj => ⟨Nat.lt_trans hj (by decide), rfl, (if_pos hj).symm, if_pos hj⟩, fun k hk h => ?_⟩
  have h26 : ¬ k < 26 := fun q => h k q rfl
  show (if k < 26 then _ else _) = (if k < 26 then _ else _)
  rw [if_neg h26, if_neg h26]
theorem em_LM {ev : EV} {ad : Nat → Nat} {x : XX} {σ σ' : MM} : Emb ad 39 (LWf ev ad x σ) (LWf ev ad x σ') (fun j => ad (j + 26)) 13 (mw ev (fun j => ad (j + 26)) σ) (mw ev (fun j => ad (j + 26)) σ') := by
  refine ⟨fun j => j + 26, fun j hj => ⟨by show j + 26 < 39; omega, rfl, ?_, ?_⟩, fun k hk h => ?_⟩
  · show _ = (if j + 26 < 26 then _ else _)
    rw [if_neg (by omega), Nat.add_sub_cancel]
  · show (if j + 26 < 26 then _ else _) = _
    rw [if_neg (by omega), Nat.add_sub_cancel]
  · have h26 : k < 26 := by
      rcases Nat.lt_or_ge k 26 with q | q
      · exact q
      · exact absurd (Nat.sub_add_cancel q) (h (k - 26) (by omega))
    show (if k < 26 then _ else _) = (if k < 26 then _ else _)
    rw [if_pos h26, if_pos h26]
theorem apart_LX {ad : Nat → Nat} (h : apart ad 39) : apart ad 26 := fun i j hi hj q => h i j (Nat.lt_trans hi (by decide)) (Nat.lt_trans hj (by decide)) q
theorem apart_LM {ad : Nat → Nat} (h : apart ad 39) : apart (fun j => ad (j + 26)) 13 := fun i j hi hj q => by
  have := h (i + 26) (j + 26) (by omega) (by omega) q
  omega
theorem pow6 {i L c : Nat} (h : i + 6 ≤ L) (hL : L ≤ 3072) (hc : c < 6) : vp_in (nI i + nI c) L := by
  rw [nI_add]
  exact vp_in_nI (by omega) (by omega)
abbrev LQ (b : Nat) (below : List Frame) (s : State) : State → Prop := lw_Z below #[Value.ref b] s
abbrev WL (p : Program) (l : Launch) (e : Env) (s : State) (m : MethodId) (b : Nat) (below : List Frame) (meth : Method) (c : Code) (H : Heap) (locs : List Loc) (pc : Nat) (ls : Array Slot) (st : List Value) : Prop := W p l e room_1 s m #[Value.ref b] below meth c H locs 600000 7302250 (LQ b below s) (F0 m pc ls st)
theorem lg_cmp_self (r : Int64) : lg_cmp r r = 0 := by
  unfold lg_cmp
  rw [if_neg (show ¬ r > r from Int64.lt_irrefl), if_pos rfl]
set_option maxHeartbeats 4000000 in
set_option maxRecDepth 100000 in
theorem law_c0 {p : Program} {l : Launch} {e : Env} {s : State} {m : MethodId} {below : List Frame} {meth : Method} {c : Code} {ev : EV} {ad : Nat → Nat} {b L i : Nat} {xs : Nat → Int32} (C : CX ev p s m #[Value.ref b] meth c code 4 ret R_law (fun q => s.heap.size ≤ q)) (hL : L ≤ 3072) (hX : va_X b L xs s s.heap) (hbl : b < s.heap.size) (hap : apart ad 39) (hAA : ∀ j, j < 39 → s.heap.size ≤ ad j) (hi : i + 6 ≤ L)
    (hn : ∀ (x : XX) (σ : MM) (H : Heap) (locs : List Loc) (ls : Array Slot), Rel x σ → PS ev 39 ad (LWf ev ad x σ) (fun q => s.heap.size ≤ q) s H locs → lv_has ls 4 [(0, .ref b), (1, .ref (ad 0)), (2, .ref (ad 26)), (3, .int (nI i))] → WL p l e s m b below meth c H locs 1675 ls [])
    {x : XX} {σ : MM} {H : Heap} {locs : List Loc} {ls : Array Slot} (hR : Rel x σ) (hP : PS ev 39 ad (LWf ev ad x σ) (fun q => s.heap.size ≤ q) s H locs) (hl : lv_has ls 4 [(0, .ref b), (1, .ref (ad 0)), (2, .ref (ad 26)), (3, .int (nI i))]) : WL p l e s m b below meth c H locs 280 ls [] := by
  have hx := C.1
  have hb := C.2.1
  have hbA : ¬ (fun q : Nat => s.heap.size ≤ q) b := Nat.not_le.mpr hbl
  obtain ⟨r, x1, σ1, h1, h2, hR⟩ := B_row hR (xs (nI i + nI 1).toNatClampNeg) (xs (nI i + nI 2).toNatClampNeg) (xs (nI i + nI 3).toNatClampNeg)
  refine lv_aload_n hx hb dL_law_280 rfl (lv_at hl 1 rfl) ?_
  refine lv_aload_n hx hb dL_law_281 rfl (lv_at hl 0 rfl) ?_
  refine lv_iload_n hx hb dL_law_282 rfl (lv_at hl 3 rfl) ?_
  refine lv_iconst (v := nI 1) hx hb dL_law_283 (by decide) ?_
  refine lv_iadd hx hb dL_law_284 ?_
  refine va_sld hx hb hX hbl hbA hP.2 (pow6 (c := 1) hi hL (by decide)) dL_law_285 ?_
  refine lv_aload_n hx hb dL_law_286 rfl (lv_at hl 0 rfl) ?_
  refine lv_iload_n hx hb dL_law_287 rfl (lv_at hl 3 rfl) ?_
  refine lv_iconst (v := nI 2) hx hb dL_law_288 (by decide) ?_
  refine lv_iadd hx hb dL_law_289 ?_
  refine va_sld hx hb hX hbl hbA hP.2 (pow6 (c := 2) hi hL (by decide)) dL_law_290 ?_
  refine lv_aload_n hx hb dL_law_291 rfl (lv_at hl 0 rfl) ?_
  refine lv_iload_n hx hb dL_law_292 rfl (lv_at hl 3 rfl) ?_
  refine lv_iconst (v := nI 3) hx hb dL_law_293 (by decide) ?_
  refine lv_iadd hx hb dL_law_294 ?_
  refine va_sld hx hb hX hbl hbA hP.2 (pow6 (c := 3) hi hL (by decide)) dL_law_295 ?_
  refine k_callVi C hP hap hAA (c_X3_row l ev ad x (xs (nI i + nI 1).toNatClampNeg) (xs (nI i + nI 2).toNatClampNeg) (xs (nI i + nI 3).toNatClampNeg) _ _ h1) em_LX (apart_LX hap) gz_X3_row qML_RL_13 qIM_yX3_row qSE_yX3_row ⟨(Nat.le_of_ble_eq_true rfl), (Nat.le_of_ble_eq_true rfl)⟩ (q0 := 0) rfl (by decide) rfl rfl rfl rfl hl.1 rfl (Nat.le_of_ble_eq_true rfl) dL_law_296 ⟨Nat.le_refl _, Nat.le_refl _⟩ (fun H locs hP => ?_)
  refine lv_aload_n hx hb dL_law_299 rfl (lv_at hl 2 rfl) ?_
  refine lv_aload_n hx hb dL_law_300 rfl (lv_at hl 0 rfl) ?_
  refine lv_iload_n hx hb dL_law_301 rfl (lv_at hl 3 rfl) ?_
  refine lv_iconst (v := nI 1) hx hb dL_law_302 (by decide) ?_
  refine lv_iadd hx hb dL_law_303 ?_
  refine va_sld hx hb hX hbl hbA hP.2 (pow6 (c := 1) hi hL (by decide)) dL_law_304 ?_
  refine lv_aload_n hx hb dL_law_305 rfl (lv_at hl 0 rfl) ?_
  refine lv_iload_n hx hb dL_law_306 rfl (lv_at hl 3 rfl) ?_
  refine lv_iconst (v := nI 2) hx hb dL_law_307 (by decide) ?_
  refine lv_iadd hx hb dL_law_308 ?_
  refine va_sld hx hb hX hbl hbA hP.2 (pow6 (c := 2) hi hL (by decide)) dL_law_309 ?_
  refine lv_aload_n hx hb dL_law_310 rfl (lv_at hl 0 rfl) ?_
  refine lv_iload_n hx hb dL_law_311 rfl (lv_at hl 3 rfl) ?_
  refine lv_iconst (v := nI 3) hx hb dL_law_312 (by decide) ?_
  refine lv_iadd hx hb dL_law_313 ?_
  refine va_sld hx hb hX hbl hbA hP.2 (pow6 (c := 3) hi hL (by decide)) dL_law_314 ?_
  refine k_callVi C hP hap hAA (c_X4_row l ev (fun j => ad (j + 26)) σ (xs (nI i + nI 1).toNatClampNeg) (xs (nI i + nI 2).toNatClampNeg) (xs (nI i + nI 3).toNatClampNeg) _ _ h2) em_LM (apart_LM hap) gz_X4_row qML_RL_17 qIM_yX4_row qSE_yX4_row ⟨(Nat.le_of_ble_eq_true rfl), (Nat.le_of_ble_eq_true rfl)⟩ (q0 := 26) rfl (by decide) rfl rfl rfl rfl hl.1 rfl (Nat.le_of_ble_eq_true rfl) dL_law_315 ⟨Nat.le_refl _, Nat.le_refl _⟩ (fun H locs hP => ?_)
  refine lv_icmp_eq (tgt := 1675) hx hb dL_law_318 (by decide) (fun _ => ?_) (fun c => absurd rfl c)
  exact hn _ _ H locs _ hR hP hl
set_option maxHeartbeats 4000000 in
set_option maxRecDepth 100000 in
theorem law_c1 {p : Program} {l : Launch} {e : Env} {s : State} {m : MethodId} {below : List Frame} {meth : Method} {c : Code} {ev : EV} {ad : Nat → Nat} {b L i : Nat} {xs : Nat → Int32} (C : CX ev p s m #[Value.ref b] meth c code 4 ret R_law (fun q => s.heap.size ≤ q)) (hL : L ≤ 3072) (hX : va_X b L xs s s.heap) (hbl : b < s.heap.size) (hap : apart ad 39) (hAA : ∀ j, j < 39 → s.heap.size ≤ ad j) (hi : i + 6 ≤ L)
    (hn : ∀ (x : XX) (σ : MM) (H : Heap) (locs : List Loc) (ls : Array Slot), Rel x σ → PS ev 39 ad (LWf ev ad x σ) (fun q => s.heap.size ≤ q) s H locs → lv_has ls 4 [(0, .ref b), (1, .ref (ad 0)), (2, .ref (ad 26)), (3, .int (nI i))] → WL p l e s m b below meth c H locs 1675 ls [])
    {x : XX} {σ : MM} {H : Heap} {locs : List Loc} {ls : Array Slot} (hR : Rel x σ) (hP : PS ev 39 ad (LWf ev ad x σ) (fun q => s.heap.size ≤ q) s H locs) (hl : lv_has ls 4 [(0, .ref b), (1, .ref (ad 0)), (2, .ref (ad 26)), (3, .int (nI i))]) : WL p l e s m b below meth c H locs 323 ls [] := by
  have hx := C.1
  have hb := C.2.1
  have hbA : ¬ (fun q : Nat => s.heap.size ≤ q) b := Nat.not_le.mpr hbl
  obtain ⟨r, x1, σ1, h1, h2, hR⟩ := B_set hR (xs (nI i + nI 1).toNatClampNeg) (xs (nI i + nI 2).toNatClampNeg) ((lshl (Int32.toInt64 (xs (nI i + nI 3).toNatClampNeg)) 32) ||| ((Int32.toInt64 (xs (nI i + nI 4).toNatClampNeg)) &&& (4294967295 : Int64)))
  refine lv_aload_n hx hb dL_law_323 rfl (lv_at hl 1 rfl) ?_
  refine lv_aload_n hx hb dL_law_324 rfl (lv_at hl 0 rfl) ?_
  refine lv_iload_n hx hb dL_law_325 rfl (lv_at hl 3 rfl) ?_
  refine lv_iconst (v := nI 1) hx hb dL_law_326 (by decide) ?_
  refine lv_iadd hx hb dL_law_327 ?_
  refine va_sld hx hb hX hbl hbA hP.2 (pow6 (c := 1) hi hL (by decide)) dL_law_328 ?_
  refine lv_aload_n hx hb dL_law_329 rfl (lv_at hl 0 rfl) ?_
  refine lv_iload_n hx hb dL_law_330 rfl (lv_at hl 3 rfl) ?_
  refine lv_iconst (v := nI 2) hx hb dL_law_331 (by decide) ?_
  refine lv_iadd hx hb dL_law_332 ?_
  refine va_sld hx hb hX hbl hbA hP.2 (pow6 (c := 2) hi hL (by decide)) dL_law_333 ?_
  refine lv_aload_n hx hb dL_law_334 rfl (lv_at hl 0 rfl) ?_
  refine lv_iload_n hx hb dL_law_335 rfl (lv_at hl 3 rfl) ?_
  refine lv_iconst (v := nI 3) hx hb dL_law_336 (by decide) ?_
  refine lv_iadd hx hb dL_law_337 ?_
  refine va_sld hx hb hX hbl hbA hP.2 (pow6 (c := 3) hi hL (by decide)) dL_law_338 ?_
  refine lv_i2l hx hb dL_law_339 rfl ?_
  refine lv_bipush (v := 32) hx hb dL_law_340 (by decide) ?_
  refine r_lshl hx hb dL_law_342 ?_
  refine lv_aload_n hx hb dL_law_343 rfl (lv_at hl 0 rfl) ?_
  refine lv_iload_n hx hb dL_law_344 rfl (lv_at hl 3 rfl) ?_
  refine lv_iconst (v := nI 4) hx hb dL_law_345 (by decide) ?_
  refine lv_iadd hx hb dL_law_346 ?_
  refine va_sld hx hb hX hbl hbA hP.2 (pow6 (c := 4) hi hL (by decide)) dL_law_347 ?_
  refine lv_i2l hx hb dL_law_348 rfl ?_
  refine lv_ldc2 (v := 4294967295) hx hb C.2.2.2.2.2.1 (C.2.2.2.2.1 _ qCL_RL_18) dL_law_349 ?_
  refine lv_land hx hb dL_law_352 ?_
  refine lv_lor hx hb dL_law_353 ?_
  refine k_callVi C hP hap hAA (c_X3_set l ev ad x (xs (nI i + nI 1).toNatClampNeg) (xs (nI i + nI 2).toNatClampNeg) ((lshl (Int32.toInt64 (xs (nI i + nI 3).toNatClampNeg)) 32) ||| ((Int32.toInt64 (xs (nI i + nI 4).toNatClampNeg)) &&& (4294967295 : Int64))) _ _ h1) em_LX (apart_LX hap) gz_X3_set qML_RL_20 qIM_yX3_set qSE_yX3_set ⟨(Nat.le_of_ble_eq_true rfl), (Nat.le_of_ble_eq_true rfl)⟩ (q0 := 0) rfl (by decide) rfl rfl rfl rfl hl.1 rfl (Nat.le_of_ble_eq_true rfl) dL_law_354 ⟨Nat.le_refl _, Nat.le_refl _⟩ (fun H locs hP => ?_)
  refine lv_aload_n hx hb dL_law_357 rfl (lv_at hl 2 rfl) ?_
  refine lv_aload_n hx hb dL_law_358 rfl (lv_at hl 0 rfl) ?_
  refine lv_iload_n hx hb dL_law_359 rfl (lv_at hl 3 rfl) ?_
  refine lv_iconst (v := nI 1) hx hb dL_law_360 (by decide) ?_
  refine lv_iadd hx hb dL_law_361 ?_
  refine va_sld hx hb hX hbl hbA hP.2 (pow6 (c := 1) hi hL (by decide)) dL_law_362 ?_
  refine lv_aload_n hx hb dL_law_363 rfl (lv_at hl 0 rfl) ?_
  refine lv_iload_n hx hb dL_law_364 rfl (lv_at hl 3 rfl) ?_
  refine lv_iconst (v := nI 2) hx hb dL_law_365 (by decide) ?_
  refine lv_iadd hx hb dL_law_366 ?_
  refine va_sld hx hb hX hbl hbA hP.2 (pow6 (c := 2) hi hL (by decide)) dL_law_367 ?_
  refine lv_aload_n hx hb dL_law_368 rfl (lv_at hl 0 rfl) ?_
  refine lv_iload_n hx hb dL_law_369 rfl (lv_at hl 3 rfl) ?_
  refine lv_iconst (v := nI 3) hx hb dL_law_370 (by decide) ?_
  refine lv_iadd hx hb dL_law_371 ?_
  refine va_sld hx hb hX hbl hbA hP.2 (pow6 (c := 3) hi hL (by decide)) dL_law_372 ?_
  refine lv_i2l hx hb dL_law_373 rfl ?_
  refine lv_bipush (v := 32) hx hb dL_law_374 (by decide) ?_
  refine r_lshl hx hb dL_law_376 ?_
  refine lv_aload_n hx hb dL_law_377 rfl (lv_at hl 0 rfl) ?_
  refine lv_iload_n hx hb dL_law_378 rfl (lv_at hl 3 rfl) ?_
  refine lv_iconst (v := nI 4) hx hb dL_law_379 (by decide) ?_
  refine lv_iadd hx hb dL_law_380 ?_
  refine va_sld hx hb hX hbl hbA hP.2 (pow6 (c := 4) hi hL (by decide)) dL_law_381 ?_
  refine lv_i2l hx hb dL_law_382 rfl ?_
  refine lv_ldc2 (v := 4294967295) hx hb C.2.2.2.2.2.1 (C.2.2.2.2.1 _ qCL_RL_18) dL_law_383 ?_
  refine lv_land hx hb dL_law_386 ?_
  refine lv_lor hx hb dL_law_387 ?_
  refine k_callVi C hP hap hAA (c_X4_set l ev (fun j => ad (j + 26)) σ (xs (nI i + nI 1).toNatClampNeg) (xs (nI i + nI 2).toNatClampNeg) ((lshl (Int32.toInt64 (xs (nI i + nI 3).toNatClampNeg)) 32) ||| ((Int32.toInt64 (xs (nI i + nI 4).toNatClampNeg)) &&& (4294967295 : Int64))) _ _ h2) em_LM (apart_LM hap) gz_X4_set qML_RL_24 qIM_yX4_set qSE_yX4_set ⟨(Nat.le_of_ble_eq_true rfl), (Nat.le_of_ble_eq_true rfl)⟩ (q0 := 26) rfl (by decide) rfl rfl rfl rfl hl.1 rfl (Nat.le_of_ble_eq_true rfl) dL_law_388 ⟨Nat.le_refl _, Nat.le_refl _⟩ (fun H locs hP => ?_)
  refine lv_icmp_eq (tgt := 1675) hx hb dL_law_391 (by decide) (fun _ => ?_) (fun c => absurd rfl c)
  exact hn _ _ H locs _ hR hP hl
set_option maxHeartbeats 4000000 in
set_option maxRecDepth 100000 in
theorem law_c2 {p : Program} {l : Launch} {e : Env} {s : State} {m : MethodId} {below : List Frame} {meth : Method} {c : Code} {ev : EV} {ad : Nat → Nat} {b L i : Nat} {xs : Nat → Int32} (C : CX ev p s m #[Value.ref b] meth c code 4 ret R_law (fun q => s.heap.size ≤ q)) (hL : L ≤ 3072) (hX : va_X b L xs s s.heap) (hbl : b < s.heap.size) (hap : apart ad 39) (hAA : ∀ j, j < 39 → s.heap.size ≤ ad j) (hi : i + 6 ≤ L)
    (hn : ∀ (x : XX) (σ : MM) (H : Heap) (locs : List Loc) (ls : Array Slot), Rel x σ → PS ev 39 ad (LWf ev ad x σ) (fun q => s.heap.size ≤ q) s H locs → lv_has ls 4 [(0, .ref b), (1, .ref (ad 0)), (2, .ref (ad 26)), (3, .int (nI i))] → WL p l e s m b below meth c H locs 1675 ls [])
    {x : XX} {σ : MM} {H : Heap} {locs : List Loc} {ls : Array Slot} (hR : Rel x σ) (hP : PS ev 39 ad (LWf ev ad x σ) (fun q => s.heap.size ≤ q) s H locs) (hl : lv_has ls 4 [(0, .ref b), (1, .ref (ad 0)), (2, .ref (ad 26)), (3, .int (nI i))]) : WL p l e s m b below meth c H locs 396 ls [] := by
  have hx := C.1
  have hb := C.2.1
  have hbA : ¬ (fun q : Nat => s.heap.size ≤ q) b := Nat.not_le.mpr hbl
  obtain ⟨r, x1, σ1, h1, h2, hR⟩ := B_copy hR (xs (nI i + nI 1).toNatClampNeg) (xs (nI i + nI 2).toNatClampNeg) (xs (nI i + nI 3).toNatClampNeg) (xs (nI i + nI 4).toNatClampNeg) (xs (nI i + nI 5).toNatClampNeg)
  refine lv_aload_n hx hb dL_law_396 rfl (lv_at hl 1 rfl) ?_
  refine lv_aload_n hx hb dL_law_397 rfl (lv_at hl 0 rfl) ?_
  refine lv_iload_n hx hb dL_law_398 rfl (lv_at hl 3 rfl) ?_
  refine lv_iconst (v := nI 1) hx hb dL_law_399 (by decide) ?_
  refine lv_iadd hx hb dL_law_400 ?_
  refine va_sld hx hb hX hbl hbA hP.2 (pow6 (c := 1) hi hL (by decide)) dL_law_401 ?_
  refine lv_aload_n hx hb dL_law_402 rfl (lv_at hl 0 rfl) ?_
  refine lv_iload_n hx hb dL_law_403 rfl (lv_at hl 3 rfl) ?_
  refine lv_iconst (v := nI 2) hx hb dL_law_404 (by decide) ?_
  refine lv_iadd hx hb dL_law_405 ?_
  refine va_sld hx hb hX hbl hbA hP.2 (pow6 (c := 2) hi hL (by decide)) dL_law_406 ?_
  refine lv_aload_n hx hb dL_law_407 rfl (lv_at hl 0 rfl) ?_
  refine lv_iload_n hx hb dL_law_408 rfl (lv_at hl 3 rfl) ?_
  refine lv_iconst (v := nI 3) hx hb dL_law_409 (by decide) ?_
  refine lv_iadd hx hb dL_law_410 ?_
  refine va_sld hx hb hX hbl hbA hP.2 (pow6 (c := 3) hi hL (by decide)) dL_law_411 ?_
  refine lv_aload_n hx hb dL_law_412 rfl (lv_at hl 0 rfl) ?_
  refine lv_iload_n hx hb dL_law_413 rfl (lv_at hl 3 rfl) ?_
  refine lv_iconst (v := nI 4) hx hb dL_law_414 (by decide) ?_
  refine lv_iadd hx hb dL_law_415 ?_
  refine va_sld hx hb hX hbl hbA hP.2 (pow6 (c := 4) hi hL (by decide)) dL_law_416 ?_
  refine lv_aload_n hx hb dL_law_417 rfl (lv_at hl 0 rfl) ?_
  refine lv_iload_n hx hb dL_law_418 rfl (lv_at hl 3 rfl) ?_
  refine lv_iconst (v := nI 5) hx hb dL_law_419 (by decide) ?_
  refine lv_iadd hx hb dL_law_420 ?_
  refine va_sld hx hb hX hbl hbA hP.2 (pow6 (c := 5) hi hL (by decide)) dL_law_421 ?_
  refine k_callVi C hP hap hAA (c_X3_copy l ev ad x (xs (nI i + nI 1).toNatClampNeg) (xs (nI i + nI 2).toNatClampNeg) (xs (nI i + nI 3).toNatClampNeg) (xs (nI i + nI 4).toNatClampNeg) (xs (nI i + nI 5).toNatClampNeg) _ _ h1) em_LX (apart_LX hap) gz_X3_copy qML_RL_25 qIM_yX3_copy qSE_yX3_copy ⟨(Nat.le_of_ble_eq_true rfl), (Nat.le_of_ble_eq_true rfl)⟩ (q0 := 0) rfl (by decide) rfl rfl rfl rfl hl.1 rfl (Nat.le_of_ble_eq_true rfl) dL_law_422 ⟨Nat.le_refl _, Nat.le_refl _⟩ (fun H locs hP => ?_)
  refine lv_aload_n hx hb dL_law_425 rfl (lv_at hl 2 rfl) ?_
  refine lv_aload_n hx hb dL_law_426 rfl (lv_at hl 0 rfl) ?_
  refine lv_iload_n hx hb dL_law_427 rfl (lv_at hl 3 rfl) ?_
  refine lv_iconst (v := nI 1) hx hb dL_law_428 (by decide) ?_
  refine lv_iadd hx hb dL_law_429 ?_
  refine va_sld hx hb hX hbl hbA hP.2 (pow6 (c := 1) hi hL (by decide)) dL_law_430 ?_
  refine lv_aload_n hx hb dL_law_431 rfl (lv_at hl 0 rfl) ?_
  refine lv_iload_n hx hb dL_law_432 rfl (lv_at hl 3 rfl) ?_
  refine lv_iconst (v := nI 2) hx hb dL_law_433 (by decide) ?_
  refine lv_iadd hx hb dL_law_434 ?_
  refine va_sld hx hb hX hbl hbA hP.2 (pow6 (c := 2) hi hL (by decide)) dL_law_435 ?_
  refine lv_aload_n hx hb dL_law_436 rfl (lv_at hl 0 rfl) ?_
  refine lv_iload_n hx hb dL_law_437 rfl (lv_at hl 3 rfl) ?_
  refine lv_iconst (v := nI 3) hx hb dL_law_438 (by decide) ?_
  refine lv_iadd hx hb dL_law_439 ?_
  refine va_sld hx hb hX hbl hbA hP.2 (pow6 (c := 3) hi hL (by decide)) dL_law_440 ?_
  refine lv_aload_n hx hb dL_law_441 rfl (lv_at hl 0 rfl) ?_
  refine lv_iload_n hx hb dL_law_442 rfl (lv_at hl 3 rfl) ?_
  refine lv_iconst (v := nI 4) hx hb dL_law_443 (by decide) ?_
  refine lv_iadd hx hb dL_law_444 ?_
  refine va_sld hx hb hX hbl hbA hP.2 (pow6 (c := 4) hi hL (by decide)) dL_law_445 ?_
  refine lv_aload_n hx hb dL_law_446 rfl (lv_at hl 0 rfl) ?_
  refine lv_iload_n hx hb dL_law_447 rfl (lv_at hl 3 rfl) ?_
  refine lv_iconst (v := nI 5) hx hb dL_law_448 (by decide) ?_
  refine lv_iadd hx hb dL_law_449 ?_
  refine va_sld hx hb hX hbl hbA hP.2 (pow6 (c := 5) hi hL (by decide)) dL_law_450 ?_
  refine k_callVi C hP hap hAA (c_X4_copy l ev (fun j => ad (j + 26)) σ (xs (nI i + nI 1).toNatClampNeg) (xs (nI i + nI 2).toNatClampNeg) (xs (nI i + nI 3).toNatClampNeg) (xs (nI i + nI 4).toNatClampNeg) (xs (nI i + nI 5).toNatClampNeg) _ _ h2) em_LM (apart_LM hap) gz_X4_copy qML_RL_29 qIM_yX4_copy qSE_yX4_copy ⟨(Nat.le_of_ble_eq_true rfl), (Nat.le_of_ble_eq_true rfl)⟩ (q0 := 26) rfl (by decide) rfl rfl rfl rfl hl.1 rfl (Nat.le_of_ble_eq_true rfl) dL_law_451 ⟨Nat.le_refl _, Nat.le_refl _⟩ (fun H locs hP => ?_)
  refine lv_icmp_eq (tgt := 1675) hx hb dL_law_454 (by decide) (fun _ => ?_) (fun c => absurd rfl c)
  exact hn _ _ H locs _ hR hP hl
set_option maxHeartbeats 4000000 in
set_option maxRecDepth 100000 in
theorem law_c3 {p : Program} {l : Launch} {e : Env} {s : State} {m : MethodId} {below : List Frame} {meth : Method} {c : Code} {ev : EV} {ad : Nat → Nat} {b L i : Nat} {xs : Nat → Int32} (C : CX ev p s m #[Value.ref b] meth c code 4 ret R_law (fun q => s.heap.size ≤ q)) (hL : L ≤ 3072) (hX : va_X b L xs s s.heap) (hbl : b < s.heap.size) (hap : apart ad 39) (hAA : ∀ j, j < 39 → s.heap.size ≤ ad j) (hi : i + 6 ≤ L)
    (hn : ∀ (x : XX) (σ : MM) (H : Heap) (locs : List Loc) (ls : Array Slot), Rel x σ → PS ev 39 ad (LWf ev ad x σ) (fun q => s.heap.size ≤ q) s H locs → lv_has ls 4 [(0, .ref b), (1, .ref (ad 0)), (2, .ref (ad 26)), (3, .int (nI i))] → WL p l e s m b below meth c H locs 1675 ls [])
    {x : XX} {σ : MM} {H : Heap} {locs : List Loc} {ls : Array Slot} (hR : Rel x σ) (hP : PS ev 39 ad (LWf ev ad x σ) (fun q => s.heap.size ≤ q) s H locs) (hl : lv_has ls 4 [(0, .ref b), (1, .ref (ad 0)), (2, .ref (ad 26)), (3, .int (nI i))]) : WL p l e s m b below meth c H locs 459 ls [] := by
  have hx := C.1
  have hb := C.2.1
  have hbA : ¬ (fun q : Nat => s.heap.size ≤ q) b := Nat.not_le.mpr hbl
  obtain ⟨r, h1, h2, hR⟩ := B_element hR (xs (nI i + nI 1).toNatClampNeg) (xs (nI i + nI 2).toNatClampNeg)
  refine lv_aload_n hx hb dL_law_459 rfl (lv_at hl 1 rfl) ?_
  refine lv_aload_n hx hb dL_law_460 rfl (lv_at hl 0 rfl) ?_
  refine lv_iload_n hx hb dL_law_461 rfl (lv_at hl 3 rfl) ?_
  refine lv_iconst (v := nI 1) hx hb dL_law_462 (by decide) ?_
  refine lv_iadd hx hb dL_law_463 ?_
  refine va_sld hx hb hX hbl hbA hP.2 (pow6 (c := 1) hi hL (by decide)) dL_law_464 ?_
  refine lv_aload_n hx hb dL_law_465 rfl (lv_at hl 0 rfl) ?_
  refine lv_iload_n hx hb dL_law_466 rfl (lv_at hl 3 rfl) ?_
  refine lv_iconst (v := nI 2) hx hb dL_law_467 (by decide) ?_
  refine lv_iadd hx hb dL_law_468 ?_
  refine va_sld hx hb hX hbl hbA hP.2 (pow6 (c := 2) hi hL (by decide)) dL_law_469 ?_
  refine k_callVl C hP hap hAA (c_X3_element l ev ad x (xs (nI i + nI 1).toNatClampNeg) (xs (nI i + nI 2).toNatClampNeg) _ h1) em_LX (apart_LX hap) gz_X3_element qML_RL_30 qIM_yX3_element qSE_yX3_element ⟨(Nat.le_of_ble_eq_true rfl), (Nat.le_of_ble_eq_true rfl)⟩ (q0 := 0) rfl (by decide) rfl rfl rfl rfl hl.1 rfl (Nat.le_of_ble_eq_true rfl) dL_law_470 ⟨Nat.le_refl _, Nat.le_refl _⟩ (fun H locs hP => ?_)
  refine lv_aload_n hx hb dL_law_473 rfl (lv_at hl 2 rfl) ?_
  refine lv_aload_n hx hb dL_law_474 rfl (lv_at hl 0 rfl) ?_
  refine lv_iload_n hx hb dL_law_475 rfl (lv_at hl 3 rfl) ?_
  refine lv_iconst (v := nI 1) hx hb dL_law_476 (by decide) ?_
  refine lv_iadd hx hb dL_law_477 ?_
  refine va_sld hx hb hX hbl hbA hP.2 (pow6 (c := 1) hi hL (by decide)) dL_law_478 ?_
  refine lv_aload_n hx hb dL_law_479 rfl (lv_at hl 0 rfl) ?_
  refine lv_iload_n hx hb dL_law_480 rfl (lv_at hl 3 rfl) ?_
  refine lv_iconst (v := nI 2) hx hb dL_law_481 (by decide) ?_
  refine lv_iadd hx hb dL_law_482 ?_
  refine va_sld hx hb hX hbl hbA hP.2 (pow6 (c := 2) hi hL (by decide)) dL_law_483 ?_
  refine k_callVl C hP hap hAA (c_X4_element l ev (fun j => ad (j + 26)) σ (xs (nI i + nI 1).toNatClampNeg) (xs (nI i + nI 2).toNatClampNeg) _ h2) em_LM (apart_LM hap) gz_X4_element qML_RL_34 qIM_yX4_element qSE_yX4_element ⟨(Nat.le_of_ble_eq_true rfl), (Nat.le_of_ble_eq_true rfl)⟩ (q0 := 26) rfl (by decide) rfl rfl rfl rfl hl.1 rfl (Nat.le_of_ble_eq_true rfl) dL_law_484 ⟨Nat.le_refl _, Nat.le_refl _⟩ (fun H locs hP => ?_)
  refine W.lcmp hx hb dL_law_487 ?_
  refine lv_if_eq (tgt := 1675) hx hb dL_law_488 (by decide) (fun _ => ?_) (fun c => absurd (lg_cmp_self r) c)
  exact hn _ _ H locs _ hR hP hl
set_option maxHeartbeats 4000000 in
set_option maxRecDepth 100000 in
theorem law_c4 {p : Program} {l : Launch} {e : Env} {s : State} {m : MethodId} {below : List Frame} {meth : Method} {c : Code} {ev : EV} {ad : Nat → Nat} {b L i : Nat} {xs : Nat → Int32} (C : CX ev p s m #[Value.ref b] meth c code 4 ret R_law (fun q => s.heap.size ≤ q)) (hL : L ≤ 3072) (hX : va_X b L xs s s.heap) (hbl : b < s.heap.size) (hap : apart ad 39) (hAA : ∀ j, j < 39 → s.heap.size ≤ ad j) (hi : i + 6 ≤ L)
    (hn : ∀ (x : XX) (σ : MM) (H : Heap) (locs : List Loc) (ls : Array Slot), Rel x σ → PS ev 39 ad (LWf ev ad x σ) (fun q => s.heap.size ≤ q) s H locs → lv_has ls 4 [(0, .ref b), (1, .ref (ad 0)), (2, .ref (ad 26)), (3, .int (nI i))] → WL p l e s m b below meth c H locs 1675 ls [])
    {x : XX} {σ : MM} {H : Heap} {locs : List Loc} {ls : Array Slot} (hR : Rel x σ) (hP : PS ev 39 ad (LWf ev ad x σ) (fun q => s.heap.size ≤ q) s H locs) (hl : lv_has ls 4 [(0, .ref b), (1, .ref (ad 0)), (2, .ref (ad 26)), (3, .int (nI i))]) : WL p l e s m b below meth c H locs 493 ls [] := by
  have hx := C.1
  have hb := C.2.1
  have hbA : ¬ (fun q : Nat => s.heap.size ≤ q) b := Nat.not_le.mpr hbl
  obtain ⟨r, h1, h2, hR⟩ := B_holds hR (xs (nI i + nI 1).toNatClampNeg)
  refine lv_aload_n hx hb dL_law_493 rfl (lv_at hl 1 rfl) ?_
  refine lv_aload_n hx hb dL_law_494 rfl (lv_at hl 0 rfl) ?_
  refine lv_iload_n hx hb dL_law_495 rfl (lv_at hl 3 rfl) ?_
  refine lv_iconst (v := nI 1) hx hb dL_law_496 (by decide) ?_
  refine lv_iadd hx hb dL_law_497 ?_
  refine va_sld hx hb hX hbl hbA hP.2 (pow6 (c := 1) hi hL (by decide)) dL_law_498 ?_
  refine k_callVi C hP hap hAA (c_X3_holds l ev ad x (xs (nI i + nI 1).toNatClampNeg) _ h1) em_LX (apart_LX hap) gz_X3_holds qML_RL_35 qIM_yX3_holds qSE_yX3_holds ⟨(Nat.le_of_ble_eq_true rfl), (Nat.le_of_ble_eq_true rfl)⟩ (q0 := 0) rfl (by decide) rfl rfl rfl rfl hl.1 rfl (Nat.le_of_ble_eq_true rfl) dL_law_499 ⟨Nat.le_refl _, Nat.le_refl _⟩ (fun H locs hP => ?_)
  refine lv_aload_n hx hb dL_law_502 rfl (lv_at hl 2 rfl) ?_
  refine lv_aload_n hx hb dL_law_503 rfl (lv_at hl 0 rfl) ?_
  refine lv_iload_n hx hb dL_law_504 rfl (lv_at hl 3 rfl) ?_
  refine lv_iconst (v := nI 1) hx hb dL_law_505 (by decide) ?_
  refine lv_iadd hx hb dL_law_506 ?_
  refine va_sld hx hb hX hbl hbA hP.2 (pow6 (c := 1) hi hL (by decide)) dL_law_507 ?_
  refine k_callVi C hP hap hAA (c_X4_holds l ev (fun j => ad (j + 26)) σ (xs (nI i + nI 1).toNatClampNeg) _ h2) em_LM (apart_LM hap) gz_X4_holds qML_RL_39 qIM_yX4_holds qSE_yX4_holds ⟨(Nat.le_of_ble_eq_true rfl), (Nat.le_of_ble_eq_true rfl)⟩ (q0 := 26) rfl (by decide) rfl rfl rfl rfl hl.1 rfl (Nat.le_of_ble_eq_true rfl) dL_law_508 ⟨Nat.le_refl _, Nat.le_refl _⟩ (fun H locs hP => ?_)
  refine lv_icmp_eq (tgt := 1675) hx hb dL_law_511 (by decide) (fun _ => ?_) (fun c => absurd rfl c)
  exact hn _ _ H locs _ hR hP hl
set_option maxHeartbeats 4000000 in
set_option maxRecDepth 100000 in
theorem law_c5 {p : Program} {l : Launch} {e : Env} {s : State} {m : MethodId} {below : List Frame} {meth : Method} {c : Code} {ev : EV} {ad : Nat → Nat} {b L i : Nat} {xs : Nat → Int32} (C : CX ev p s m #[Value.ref b] meth c code 4 ret R_law (fun q => s.heap.size ≤ q)) (hL : L ≤ 3072) (hX : va_X b L xs s s.heap) (hbl : b < s.heap.size) (hap : apart ad 39) (hAA : ∀ j, j < 39 → s.heap.size ≤ ad j) (hi : i + 6 ≤ L)
    (hn : ∀ (x : XX) (σ : MM) (H : Heap) (locs : List Loc) (ls : Array Slot), Rel x σ → PS ev 39 ad (LWf ev ad x σ) (fun q => s.heap.size ≤ q) s H locs → lv_has ls 4 [(0, .ref b), (1, .ref (ad 0)), (2, .ref (ad 26)), (3, .int (nI i))] → WL p l e s m b below meth c H locs 1675 ls [])
    {x : XX} {σ : MM} {H : Heap} {locs : List Loc} {ls : Array Slot} (hR : Rel x σ) (hP : PS ev 39 ad (LWf ev ad x σ) (fun q => s.heap.size ≤ q) s H locs) (hl : lv_has ls 4 [(0, .ref b), (1, .ref (ad 0)), (2, .ref (ad 26)), (3, .int (nI i))]) : WL p l e s m b below meth c H locs 516 ls [] := by
  have hx := C.1
  have hb := C.2.1
  have hbA : ¬ (fun q : Nat => s.heap.size ≤ q) b := Nat.not_le.mpr hbl
  obtain ⟨r, x1, σ1, h1, h2, hR⟩ := B_show hR (xs (nI i + nI 1).toNatClampNeg) (xs (nI i + nI 2).toNatClampNeg)
  refine lv_aload_n hx hb dL_law_516 rfl (lv_at hl 1 rfl) ?_
  refine lv_aload_n hx hb dL_law_517 rfl (lv_at hl 0 rfl) ?_
  refine lv_iload_n hx hb dL_law_518 rfl (lv_at hl 3 rfl) ?_
  refine lv_iconst (v := nI 1) hx hb dL_law_519 (by decide) ?_
  refine lv_iadd hx hb dL_law_520 ?_
  refine va_sld hx hb hX hbl hbA hP.2 (pow6 (c := 1) hi hL (by decide)) dL_law_521 ?_
  refine lv_aload_n hx hb dL_law_522 rfl (lv_at hl 0 rfl) ?_
  refine lv_iload_n hx hb dL_law_523 rfl (lv_at hl 3 rfl) ?_
  refine lv_iconst (v := nI 2) hx hb dL_law_524 (by decide) ?_
  refine lv_iadd hx hb dL_law_525 ?_
  refine va_sld hx hb hX hbl hbA hP.2 (pow6 (c := 2) hi hL (by decide)) dL_law_526 ?_
  refine k_callVi C hP hap hAA (c_X3_show l ev ad x (xs (nI i + nI 1).toNatClampNeg) (xs (nI i + nI 2).toNatClampNeg) _ _ h1) em_LX (apart_LX hap) gz_X3_show qML_RL_40 qIM_yX3_show qSE_yX3_show ⟨(Nat.le_of_ble_eq_true rfl), (Nat.le_of_ble_eq_true rfl)⟩ (q0 := 0) rfl (by decide) rfl rfl rfl rfl hl.1 rfl (Nat.le_of_ble_eq_true rfl) dL_law_527 ⟨Nat.le_refl _, Nat.le_refl _⟩ (fun H locs hP => ?_)
  refine lv_aload_n hx hb dL_law_530 rfl (lv_at hl 2 rfl) ?_
  refine lv_aload_n hx hb dL_law_531 rfl (lv_at hl 0 rfl) ?_
  refine lv_iload_n hx hb dL_law_532 rfl (lv_at hl 3 rfl) ?_
  refine lv_iconst (v := nI 1) hx hb dL_law_533 (by decide) ?_
  refine lv_iadd hx hb dL_law_534 ?_
  refine va_sld hx hb hX hbl hbA hP.2 (pow6 (c := 1) hi hL (by decide)) dL_law_535 ?_
  refine lv_aload_n hx hb dL_law_536 rfl (lv_at hl 0 rfl) ?_
  refine lv_iload_n hx hb dL_law_537 rfl (lv_at hl 3 rfl) ?_
  refine lv_iconst (v := nI 2) hx hb dL_law_538 (by decide) ?_
  refine lv_iadd hx hb dL_law_539 ?_
  refine va_sld hx hb hX hbl hbA hP.2 (pow6 (c := 2) hi hL (by decide)) dL_law_540 ?_
  refine k_callVi C hP hap hAA (c_X4_show l ev (fun j => ad (j + 26)) σ (xs (nI i + nI 1).toNatClampNeg) (xs (nI i + nI 2).toNatClampNeg) _ _ h2) em_LM (apart_LM hap) gz_X4_show qML_RL_44 qIM_yX4_show qSE_yX4_show ⟨(Nat.le_of_ble_eq_true rfl), (Nat.le_of_ble_eq_true rfl)⟩ (q0 := 26) rfl (by decide) rfl rfl rfl rfl hl.1 rfl (Nat.le_of_ble_eq_true rfl) dL_law_541 ⟨Nat.le_refl _, Nat.le_refl _⟩ (fun H locs hP => ?_)
  refine lv_icmp_eq (tgt := 1675) hx hb dL_law_544 (by decide) (fun _ => ?_) (fun c => absurd rfl c)
  exact hn _ _ H locs _ hR hP hl
set_option maxHeartbeats 4000000 in
set_option maxRecDepth 100000 in
theorem law_c6 {p : Program} {l : Launch} {e : Env} {s : State} {m : MethodId} {below : List Frame} {meth : Method} {c : Code} {ev : EV} {ad : Nat → Nat} {b L i : Nat} {xs : Nat → Int32} (C : CX ev p s m #[Value.ref b] meth c code 4 ret R_law (fun q => s.heap.size ≤ q)) (hL : L ≤ 3072) (hX : va_X b L xs s s.heap) (hbl : b < s.heap.size) (hap : apart ad 39) (hAA : ∀ j, j < 39 → s.heap.size ≤ ad j) (hi : i + 6 ≤ L)
    (hn : ∀ (x : XX) (σ : MM) (H : Heap) (locs : List Loc) (ls : Array Slot), Rel x σ → PS ev 39 ad (LWf ev ad x σ) (fun q => s.heap.size ≤ q) s H locs → lv_has ls 4 [(0, .ref b), (1, .ref (ad 0)), (2, .ref (ad 26)), (3, .int (nI i))] → WL p l e s m b below meth c H locs 1675 ls [])
    {x : XX} {σ : MM} {H : Heap} {locs : List Loc} {ls : Array Slot} (hR : Rel x σ) (hP : PS ev 39 ad (LWf ev ad x σ) (fun q => s.heap.size ≤ q) s H locs) (hl : lv_has ls 4 [(0, .ref b), (1, .ref (ad 0)), (2, .ref (ad 26)), (3, .int (nI i))]) : WL p l e s m b below meth c H locs 549 ls [] := by
  have hx := C.1
  have hb := C.2.1
  have hbA : ¬ (fun q : Nat => s.heap.size ≤ q) b := Nat.not_le.mpr hbl
  obtain ⟨r, x1, σ1, h1, h2, hR⟩ := B_says hR (xs (nI i + nI 1).toNatClampNeg) (xs (nI i + nI 2).toNatClampNeg)
  refine lv_aload_n hx hb dL_law_549 rfl (lv_at hl 1 rfl) ?_
  refine lv_aload_n hx hb dL_law_550 rfl (lv_at hl 0 rfl) ?_
  refine lv_iload_n hx hb dL_law_551 rfl (lv_at hl 3 rfl) ?_
  refine lv_iconst (v := nI 1) hx hb dL_law_552 (by decide) ?_
  refine lv_iadd hx hb dL_law_553 ?_
  refine va_sld hx hb hX hbl hbA hP.2 (pow6 (c := 1) hi hL (by decide)) dL_law_554 ?_
  refine lv_aload_n hx hb dL_law_555 rfl (lv_at hl 0 rfl) ?_
  refine lv_iload_n hx hb dL_law_556 rfl (lv_at hl 3 rfl) ?_
  refine lv_iconst (v := nI 2) hx hb dL_law_557 (by decide) ?_
  refine lv_iadd hx hb dL_law_558 ?_
  refine va_sld hx hb hX hbl hbA hP.2 (pow6 (c := 2) hi hL (by decide)) dL_law_559 ?_
  refine k_callVi C hP hap hAA (c_X3_says l ev ad x (xs (nI i + nI 1).toNatClampNeg) (xs (nI i + nI 2).toNatClampNeg) _ _ h1) em_LX (apart_LX hap) gz_X3_says qML_RL_45 qIM_yX3_says qSE_yX3_says ⟨(Nat.le_of_ble_eq_true rfl), (Nat.le_of_ble_eq_true rfl)⟩ (q0 := 0) rfl (by decide) rfl rfl rfl rfl hl.1 rfl (Nat.le_of_ble_eq_true rfl) dL_law_560 ⟨Nat.le_refl _, Nat.le_refl _⟩ (fun H locs hP => ?_)
  refine lv_aload_n hx hb dL_law_563 rfl (lv_at hl 2 rfl) ?_
  refine lv_aload_n hx hb dL_law_564 rfl (lv_at hl 0 rfl) ?_
  refine lv_iload_n hx hb dL_law_565 rfl (lv_at hl 3 rfl) ?_
  refine lv_iconst (v := nI 1) hx hb dL_law_566 (by decide) ?_
  refine lv_iadd hx hb dL_law_567 ?_
  refine va_sld hx hb hX hbl hbA hP.2 (pow6 (c := 1) hi hL (by decide)) dL_law_568 ?_
  refine lv_aload_n hx hb dL_law_569 rfl (lv_at hl 0 rfl) ?_
  refine lv_iload_n hx hb dL_law_570 rfl (lv_at hl 3 rfl) ?_
  refine lv_iconst (v := nI 2) hx hb dL_law_571 (by decide) ?_
  refine lv_iadd hx hb dL_law_572 ?_
  refine va_sld hx hb hX hbl hbA hP.2 (pow6 (c := 2) hi hL (by decide)) dL_law_573 ?_
  refine k_callVi C hP hap hAA (c_X4_says l ev (fun j => ad (j + 26)) σ (xs (nI i + nI 1).toNatClampNeg) (xs (nI i + nI 2).toNatClampNeg) _ _ h2) em_LM (apart_LM hap) gz_X4_says qML_RL_48 qIM_yX4_says qSE_yX4_says ⟨(Nat.le_of_ble_eq_true rfl), (Nat.le_of_ble_eq_true rfl)⟩ (q0 := 26) rfl (by decide) rfl rfl rfl rfl hl.1 rfl (Nat.le_of_ble_eq_true rfl) dL_law_574 ⟨Nat.le_refl _, Nat.le_refl _⟩ (fun H locs hP => ?_)
  refine lv_icmp_eq (tgt := 1675) hx hb dL_law_577 (by decide) (fun _ => ?_) (fun c => absurd rfl c)
  exact hn _ _ H locs _ hR hP hl
set_option maxHeartbeats 4000000 in
set_option maxRecDepth 100000 in
theorem law_c7 {p : Program} {l : Launch} {e : Env} {s : State} {m : MethodId} {below : List Frame} {meth : Method} {c : Code} {ev : EV} {ad : Nat → Nat} {b L i : Nat} {xs : Nat → Int32} (C : CX ev p s m #[Value.ref b] meth c code 4 ret R_law (fun q => s.heap.size ≤ q)) (hL : L ≤ 3072) (hX : va_X b L xs s s.heap) (hbl : b < s.heap.size) (hap : apart ad 39) (hAA : ∀ j, j < 39 → s.heap.size ≤ ad j) (hi : i + 6 ≤ L)
    (hn : ∀ (x : XX) (σ : MM) (H : Heap) (locs : List Loc) (ls : Array Slot), Rel x σ → PS ev 39 ad (LWf ev ad x σ) (fun q => s.heap.size ≤ q) s H locs → lv_has ls 4 [(0, .ref b), (1, .ref (ad 0)), (2, .ref (ad 26)), (3, .int (nI i))] → WL p l e s m b below meth c H locs 1675 ls [])
    {x : XX} {σ : MM} {H : Heap} {locs : List Loc} {ls : Array Slot} (hR : Rel x σ) (hP : PS ev 39 ad (LWf ev ad x σ) (fun q => s.heap.size ≤ q) s H locs) (hl : lv_has ls 4 [(0, .ref b), (1, .ref (ad 0)), (2, .ref (ad 26)), (3, .int (nI i))]) : WL p l e s m b below meth c H locs 582 ls [] := by
  have hx := C.1
  have hb := C.2.1
  have hbA : ¬ (fun q : Nat => s.heap.size ≤ q) b := Nat.not_le.mpr hbl
  obtain ⟨r, x1, σ1, h1, h2, hR⟩ := B_size hR (xs (nI i + nI 1).toNatClampNeg) (xs (nI i + nI 2).toNatClampNeg)
  refine lv_aload_n hx hb dL_law_582 rfl (lv_at hl 1 rfl) ?_
  refine lv_aload_n hx hb dL_law_583 rfl (lv_at hl 0 rfl) ?_
  refine lv_iload_n hx hb dL_law_584 rfl (lv_at hl 3 rfl) ?_
  refine lv_iconst (v := nI 1) hx hb dL_law_585 (by decide) ?_
  refine lv_iadd hx hb dL_law_586 ?_
  refine va_sld hx hb hX hbl hbA hP.2 (pow6 (c := 1) hi hL (by decide)) dL_law_587 ?_
  refine lv_aload_n hx hb dL_law_588 rfl (lv_at hl 0 rfl) ?_
  refine lv_iload_n hx hb dL_law_589 rfl (lv_at hl 3 rfl) ?_
  refine lv_iconst (v := nI 2) hx hb dL_law_590 (by decide) ?_
  refine lv_iadd hx hb dL_law_591 ?_
  refine va_sld hx hb hX hbl hbA hP.2 (pow6 (c := 2) hi hL (by decide)) dL_law_592 ?_
  refine k_callVi C hP hap hAA (c_X3_size l ev ad x (xs (nI i + nI 1).toNatClampNeg) (xs (nI i + nI 2).toNatClampNeg) _ _ h1) em_LX (apart_LX hap) gz_X3_size qML_RL_49 qIM_yX3_size qSE_yX3_size ⟨(Nat.le_of_ble_eq_true rfl), (Nat.le_of_ble_eq_true rfl)⟩ (q0 := 0) rfl (by decide) rfl rfl rfl rfl hl.1 rfl (Nat.le_of_ble_eq_true rfl) dL_law_593 ⟨Nat.le_refl _, Nat.le_refl _⟩ (fun H locs hP => ?_)
  refine lv_aload_n hx hb dL_law_596 rfl (lv_at hl 2 rfl) ?_
  refine lv_aload_n hx hb dL_law_597 rfl (lv_at hl 0 rfl) ?_
  refine lv_iload_n hx hb dL_law_598 rfl (lv_at hl 3 rfl) ?_
  refine lv_iconst (v := nI 1) hx hb dL_law_599 (by decide) ?_
  refine lv_iadd hx hb dL_law_600 ?_
  refine va_sld hx hb hX hbl hbA hP.2 (pow6 (c := 1) hi hL (by decide)) dL_law_601 ?_
  refine lv_aload_n hx hb dL_law_602 rfl (lv_at hl 0 rfl) ?_
  refine lv_iload_n hx hb dL_law_603 rfl (lv_at hl 3 rfl) ?_
  refine lv_iconst (v := nI 2) hx hb dL_law_604 (by decide) ?_
  refine lv_iadd hx hb dL_law_605 ?_
  refine va_sld hx hb hX hbl hbA hP.2 (pow6 (c := 2) hi hL (by decide)) dL_law_606 ?_
  refine k_callVi C hP hap hAA (c_X4_size l ev (fun j => ad (j + 26)) σ (xs (nI i + nI 1).toNatClampNeg) (xs (nI i + nI 2).toNatClampNeg) _ _ h2) em_LM (apart_LM hap) gz_X4_size qML_RL_52 qIM_yX4_size qSE_yX4_size ⟨(Nat.le_of_ble_eq_true rfl), (Nat.le_of_ble_eq_true rfl)⟩ (q0 := 26) rfl (by decide) rfl rfl rfl rfl hl.1 rfl (Nat.le_of_ble_eq_true rfl) dL_law_607 ⟨Nat.le_refl _, Nat.le_refl _⟩ (fun H locs hP => ?_)
  refine lv_icmp_eq (tgt := 1675) hx hb dL_law_610 (by decide) (fun _ => ?_) (fun c => absurd rfl c)
  exact hn _ _ H locs _ hR hP hl
set_option maxHeartbeats 4000000 in
set_option maxRecDepth 100000 in
theorem law_c8 {p : Program} {l : Launch} {e : Env} {s : State} {m : MethodId} {below : List Frame} {meth : Method} {c : Code} {ev : EV} {ad : Nat → Nat} {b L i : Nat} {xs : Nat → Int32} (C : CX ev p s m #[Value.ref b] meth c code 4 ret R_law (fun q => s.heap.size ≤ q)) (hL : L ≤ 3072) (hX : va_X b L xs s s.heap) (hbl : b < s.heap.size) (hap : apart ad 39) (hAA : ∀ j, j < 39 → s.heap.size ≤ ad j) (hi : i + 6 ≤ L)
    (hn : ∀ (x : XX) (σ : MM) (H : Heap) (locs : List Loc) (ls : Array Slot), Rel x σ → PS ev 39 ad (LWf ev ad x σ) (fun q => s.heap.size ≤ q) s H locs → lv_has ls 4 [(0, .ref b), (1, .ref (ad 0)), (2, .ref (ad 26)), (3, .int (nI i))] → WL p l e s m b below meth c H locs 1675 ls [])
    {x : XX} {σ : MM} {H : Heap} {locs : List Loc} {ls : Array Slot} (hR : Rel x σ) (hP : PS ev 39 ad (LWf ev ad x σ) (fun q => s.heap.size ≤ q) s H locs) (hl : lv_has ls 4 [(0, .ref b), (1, .ref (ad 0)), (2, .ref (ad 26)), (3, .int (nI i))]) : WL p l e s m b below meth c H locs 615 ls [] := by
  have hx := C.1
  have hb := C.2.1
  have hbA : ¬ (fun q : Nat => s.heap.size ≤ q) b := Nat.not_le.mpr hbl
  obtain ⟨r, x1, σ1, h1, h2, hR⟩ := B_player hR (xs (nI i + nI 1).toNatClampNeg) (xs (nI i + nI 2).toNatClampNeg)
  refine lv_aload_n hx hb dL_law_615 rfl (lv_at hl 1 rfl) ?_
  refine lv_aload_n hx hb dL_law_616 rfl (lv_at hl 0 rfl) ?_
  refine lv_iload_n hx hb dL_law_617 rfl (lv_at hl 3 rfl) ?_
  refine lv_iconst (v := nI 1) hx hb dL_law_618 (by decide) ?_
  refine lv_iadd hx hb dL_law_619 ?_
  refine va_sld hx hb hX hbl hbA hP.2 (pow6 (c := 1) hi hL (by decide)) dL_law_620 ?_
  refine lv_aload_n hx hb dL_law_621 rfl (lv_at hl 0 rfl) ?_
  refine lv_iload_n hx hb dL_law_622 rfl (lv_at hl 3 rfl) ?_
  refine lv_iconst (v := nI 2) hx hb dL_law_623 (by decide) ?_
  refine lv_iadd hx hb dL_law_624 ?_
  refine va_sld hx hb hX hbl hbA hP.2 (pow6 (c := 2) hi hL (by decide)) dL_law_625 ?_
  refine k_callVi C hP hap hAA (c_X3_player l ev ad x (xs (nI i + nI 1).toNatClampNeg) (xs (nI i + nI 2).toNatClampNeg) _ _ h1) em_LX (apart_LX hap) gz_X3_player qML_RL_53 qIM_yX3_player qSE_yX3_player ⟨(Nat.le_of_ble_eq_true rfl), (Nat.le_of_ble_eq_true rfl)⟩ (q0 := 0) rfl (by decide) rfl rfl rfl rfl hl.1 rfl (Nat.le_of_ble_eq_true rfl) dL_law_626 ⟨Nat.le_refl _, Nat.le_refl _⟩ (fun H locs hP => ?_)
  refine lv_aload_n hx hb dL_law_629 rfl (lv_at hl 2 rfl) ?_
  refine lv_aload_n hx hb dL_law_630 rfl (lv_at hl 0 rfl) ?_
  refine lv_iload_n hx hb dL_law_631 rfl (lv_at hl 3 rfl) ?_
  refine lv_iconst (v := nI 1) hx hb dL_law_632 (by decide) ?_
  refine lv_iadd hx hb dL_law_633 ?_
  refine va_sld hx hb hX hbl hbA hP.2 (pow6 (c := 1) hi hL (by decide)) dL_law_634 ?_
  refine lv_aload_n hx hb dL_law_635 rfl (lv_at hl 0 rfl) ?_
  refine lv_iload_n hx hb dL_law_636 rfl (lv_at hl 3 rfl) ?_
  refine lv_iconst (v := nI 2) hx hb dL_law_637 (by decide) ?_
  refine lv_iadd hx hb dL_law_638 ?_
  refine va_sld hx hb hX hbl hbA hP.2 (pow6 (c := 2) hi hL (by decide)) dL_law_639 ?_
  refine k_callVi C hP hap hAA (c_X4_player l ev (fun j => ad (j + 26)) σ (xs (nI i + nI 1).toNatClampNeg) (xs (nI i + nI 2).toNatClampNeg) _ _ h2) em_LM (apart_LM hap) gz_X4_player qML_RL_56 qIM_yX4_player qSE_yX4_player ⟨(Nat.le_of_ble_eq_true rfl), (Nat.le_of_ble_eq_true rfl)⟩ (q0 := 26) rfl (by decide) rfl rfl rfl rfl hl.1 rfl (Nat.le_of_ble_eq_true rfl) dL_law_640 ⟨Nat.le_refl _, Nat.le_refl _⟩ (fun H locs hP => ?_)
  refine lv_icmp_eq (tgt := 1675) hx hb dL_law_643 (by decide) (fun _ => ?_) (fun c => absurd rfl c)
  exact hn _ _ H locs _ hR hP hl
set_option maxHeartbeats 4000000 in
set_option maxRecDepth 100000 in
theorem law_c9 {p : Program} {l : Launch} {e : Env} {s : State} {m : MethodId} {below : List Frame} {meth : Method} {c : Code} {ev : EV} {ad : Nat → Nat} {b L i : Nat} {xs : Nat → Int32} (C : CX ev p s m #[Value.ref b] meth c code 4 ret R_law (fun q => s.heap.size ≤ q)) (hL : L ≤ 3072) (hX : va_X b L xs s s.heap) (hbl : b < s.heap.size) (hap : apart ad 39) (hAA : ∀ j, j < 39 → s.heap.size ≤ ad j) (hi : i + 6 ≤ L)
    (hn : ∀ (x : XX) (σ : MM) (H : Heap) (locs : List Loc) (ls : Array Slot), Rel x σ → PS ev 39 ad (LWf ev ad x σ) (fun q => s.heap.size ≤ q) s H locs → lv_has ls 4 [(0, .ref b), (1, .ref (ad 0)), (2, .ref (ad 26)), (3, .int (nI i))] → WL p l e s m b below meth c H locs 1675 ls [])
    {x : XX} {σ : MM} {H : Heap} {locs : List Loc} {ls : Array Slot} (hR : Rel x σ) (hP : PS ev 39 ad (LWf ev ad x σ) (fun q => s.heap.size ≤ q) s H locs) (hl : lv_has ls 4 [(0, .ref b), (1, .ref (ad 0)), (2, .ref (ad 26)), (3, .int (nI i))]) : WL p l e s m b below meth c H locs 648 ls [] := by
  have hx := C.1
  have hb := C.2.1
  have hbA : ¬ (fun q : Nat => s.heap.size ≤ q) b := Nat.not_le.mpr hbl
  obtain ⟨r, x1, σ1, h1, h2, hR⟩ := B_turn hR (xs (nI i + nI 1).toNatClampNeg)
  refine lv_aload_n hx hb dL_law_648 rfl (lv_at hl 1 rfl) ?_
  refine lv_aload_n hx hb dL_law_649 rfl (lv_at hl 0 rfl) ?_
  refine lv_iload_n hx hb dL_law_650 rfl (lv_at hl 3 rfl) ?_
  refine lv_iconst (v := nI 1) hx hb dL_law_651 (by decide) ?_
  refine lv_iadd hx hb dL_law_652 ?_
  refine va_sld hx hb hX hbl hbA hP.2 (pow6 (c := 1) hi hL (by decide)) dL_law_653 ?_
  refine k_callVi C hP hap hAA (c_X3_turn l ev ad x (xs (nI i + nI 1).toNatClampNeg) _ _ h1) em_LX (apart_LX hap) gz_X3_turn qML_RL_57 qIM_yX3_turn qSE_yX3_turn ⟨(Nat.le_of_ble_eq_true rfl), (Nat.le_of_ble_eq_true rfl)⟩ (q0 := 0) rfl (by decide) rfl rfl rfl rfl hl.1 rfl (Nat.le_of_ble_eq_true rfl) dL_law_654 ⟨Nat.le_refl _, Nat.le_refl _⟩ (fun H locs hP => ?_)
  refine lv_aload_n hx hb dL_law_657 rfl (lv_at hl 2 rfl) ?_
  refine lv_aload_n hx hb dL_law_658 rfl (lv_at hl 0 rfl) ?_
  refine lv_iload_n hx hb dL_law_659 rfl (lv_at hl 3 rfl) ?_
  refine lv_iconst (v := nI 1) hx hb dL_law_660 (by decide) ?_
  refine lv_iadd hx hb dL_law_661 ?_
  refine va_sld hx hb hX hbl hbA hP.2 (pow6 (c := 1) hi hL (by decide)) dL_law_662 ?_
  refine k_callVi C hP hap hAA (c_X4_turn l ev (fun j => ad (j + 26)) σ (xs (nI i + nI 1).toNatClampNeg) _ _ h2) em_LM (apart_LM hap) gz_X4_turn qML_RL_60 qIM_yX4_turn qSE_yX4_turn ⟨(Nat.le_of_ble_eq_true rfl), (Nat.le_of_ble_eq_true rfl)⟩ (q0 := 26) rfl (by decide) rfl rfl rfl rfl hl.1 rfl (Nat.le_of_ble_eq_true rfl) dL_law_663 ⟨Nat.le_refl _, Nat.le_refl _⟩ (fun H locs hP => ?_)
  refine lv_icmp_eq (tgt := 1675) hx hb dL_law_666 (by decide) (fun _ => ?_) (fun c => absurd rfl c)
  exact hn _ _ H locs _ hR hP hl
set_option maxHeartbeats 4000000 in
set_option maxRecDepth 100000 in
theorem law_c10 {p : Program} {l : Launch} {e : Env} {s : State} {m : MethodId} {below : List Frame} {meth : Method} {c : Code} {ev : EV} {ad : Nat → Nat} {b L i : Nat} {xs : Nat → Int32} (C : CX ev p s m #[Value.ref b] meth c code 4 ret R_law (fun q => s.heap.size ≤ q)) (hL : L ≤ 3072) (hX : va_X b L xs s s.heap) (hbl : b < s.heap.size) (hap : apart ad 39) (hAA : ∀ j, j < 39 → s.heap.size ≤ ad j) (hi : i + 6 ≤ L)
    (hn : ∀ (x : XX) (σ : MM) (H : Heap) (locs : List Loc) (ls : Array Slot), Rel x σ → PS ev 39 ad (LWf ev ad x σ) (fun q => s.heap.size ≤ q) s H locs → lv_has ls 4 [(0, .ref b), (1, .ref (ad 0)), (2, .ref (ad 26)), (3, .int (nI i))] → WL p l e s m b below meth c H locs 1675 ls [])
    {x : XX} {σ : MM} {H : Heap} {locs : List Loc} {ls : Array Slot} (hR : Rel x σ) (hP : PS ev 39 ad (LWf ev ad x σ) (fun q => s.heap.size ≤ q) s H locs) (hl : lv_has ls 4 [(0, .ref b), (1, .ref (ad 0)), (2, .ref (ad 26)), (3, .int (nI i))]) : WL p l e s m b below meth c H locs 671 ls [] := by
  have hx := C.1
  have hb := C.2.1
  have hbA : ¬ (fun q : Nat => s.heap.size ≤ q) b := Nat.not_le.mpr hbl
  obtain ⟨r, x1, σ1, h1, h2, hR⟩ := B_feed hR (xs (nI i + nI 1).toNatClampNeg)
  refine lv_aload_n hx hb dL_law_671 rfl (lv_at hl 1 rfl) ?_
  refine lv_aload_n hx hb dL_law_672 rfl (lv_at hl 0 rfl) ?_
  refine lv_iload_n hx hb dL_law_673 rfl (lv_at hl 3 rfl) ?_
  refine lv_iconst (v := nI 1) hx hb dL_law_674 (by decide) ?_
  refine lv_iadd hx hb dL_law_675 ?_
  refine va_sld hx hb hX hbl hbA hP.2 (pow6 (c := 1) hi hL (by decide)) dL_law_676 ?_
  refine k_callVi C hP hap hAA (c_X3_feed l ev ad x (xs (nI i + nI 1).toNatClampNeg) _ _ h1) em_LX (apart_LX hap) gz_X3_feed qML_RL_61 qIM_yX3_feed qSE_yX3_feed ⟨(Nat.le_of_ble_eq_true rfl), (Nat.le_of_ble_eq_true rfl)⟩ (q0 := 0) rfl (by decide) rfl rfl rfl rfl hl.1 rfl (Nat.le_of_ble_eq_true rfl) dL_law_677 ⟨Nat.le_refl _, Nat.le_refl _⟩ (fun H locs hP => ?_)
  refine lv_aload_n hx hb dL_law_680 rfl (lv_at hl 2 rfl) ?_
  refine lv_aload_n hx hb dL_law_681 rfl (lv_at hl 0 rfl) ?_
  refine lv_iload_n hx hb dL_law_682 rfl (lv_at hl 3 rfl) ?_
  refine lv_iconst (v := nI 1) hx hb dL_law_683 (by decide) ?_
  refine lv_iadd hx hb dL_law_684 ?_
  refine va_sld hx hb hX hbl hbA hP.2 (pow6 (c := 1) hi hL (by decide)) dL_law_685 ?_
  refine k_callVi C hP hap hAA (c_X4_feed l ev (fun j => ad (j + 26)) σ (xs (nI i + nI 1).toNatClampNeg) _ _ h2) em_LM (apart_LM hap) gz_X4_feed qML_RL_64 qIM_yX4_feed qSE_yX4_feed ⟨(Nat.le_of_ble_eq_true rfl), (Nat.le_of_ble_eq_true rfl)⟩ (q0 := 26) rfl (by decide) rfl rfl rfl rfl hl.1 rfl (Nat.le_of_ble_eq_true rfl) dL_law_686 ⟨Nat.le_refl _, Nat.le_refl _⟩ (fun H locs hP => ?_)
  refine lv_icmp_eq (tgt := 1675) hx hb dL_law_689 (by decide) (fun _ => ?_) (fun c => absurd rfl c)
  exact hn _ _ H locs _ hR hP hl
set_option maxHeartbeats 4000000 in
set_option maxRecDepth 100000 in
theorem law_c11 {p : Program} {l : Launch} {e : Env} {s : State} {m : MethodId} {below : List Frame} {meth : Method} {c : Code} {ev : EV} {ad : Nat → Nat} {b L i : Nat} {xs : Nat → Int32} (C : CX ev p s m #[Value.ref b] meth c code 4 ret R_law (fun q => s.heap.size ≤ q)) (hL : L ≤ 3072) (hX : va_X b L xs s s.heap) (hbl : b < s.heap.size) (hap : apart ad 39) (hAA : ∀ j, j < 39 → s.heap.size ≤ ad j) (hi : i + 6 ≤ L)
    (hn : ∀ (x : XX) (σ : MM) (H : Heap) (locs : List Loc) (ls : Array Slot), Rel x σ → PS ev 39 ad (LWf ev ad x σ) (fun q => s.heap.size ≤ q) s H locs → lv_has ls 4 [(0, .ref b), (1, .ref (ad 0)), (2, .ref (ad 26)), (3, .int (nI i))] → WL p l e s m b below meth c H locs 1675 ls [])
    {x : XX} {σ : MM} {H : Heap} {locs : List Loc} {ls : Array Slot} (hR : Rel x σ) (hP : PS ev 39 ad (LWf ev ad x σ) (fun q => s.heap.size ≤ q) s H locs) (hl : lv_has ls 4 [(0, .ref b), (1, .ref (ad 0)), (2, .ref (ad 26)), (3, .int (nI i))]) : WL p l e s m b below meth c H locs 694 ls [] := by
  have hx := C.1
  have hb := C.2.1
  have hbA : ¬ (fun q : Nat => s.heap.size ≤ q) b := Nat.not_le.mpr hbl
  obtain ⟨r, x1, σ1, h1, h2, hR⟩ := B_wipe hR 
  refine lv_aload_n hx hb dL_law_694 rfl (lv_at hl 1 rfl) ?_
  refine k_callVi C hP hap hAA (c_X3_wipe l ev ad x  _ _ h1) em_LX (apart_LX hap) gz_X3_wipe qML_RL_65 qIM_yX3_wipe qSE_yX3_wipe ⟨(Nat.le_of_ble_eq_true rfl), (Nat.le_of_ble_eq_true rfl)⟩ (q0 := 0) rfl (by decide) rfl rfl rfl rfl hl.1 rfl (Nat.le_of_ble_eq_true rfl) dL_law_695 ⟨Nat.le_refl _, Nat.le_refl _⟩ (fun H locs hP => ?_)
  refine lv_aload_n hx hb dL_law_698 rfl (lv_at hl 2 rfl) ?_
  refine k_callVi C hP hap hAA (c_X4_wipe l ev (fun j => ad (j + 26)) σ  _ _ h2) em_LM (apart_LM hap) gz_X4_wipe qML_RL_69 qIM_yX4_wipe qSE_yX4_wipe ⟨(Nat.le_of_ble_eq_true rfl), (Nat.le_of_ble_eq_true rfl)⟩ (q0 := 26) rfl (by decide) rfl rfl rfl rfl hl.1 rfl (Nat.le_of_ble_eq_true rfl) dL_law_699 ⟨Nat.le_refl _, Nat.le_refl _⟩ (fun H locs hP => ?_)
  refine lv_icmp_eq (tgt := 1675) hx hb dL_law_702 (by decide) (fun _ => ?_) (fun c => absurd rfl c)
  exact hn _ _ H locs _ hR hP hl
set_option maxHeartbeats 4000000 in
set_option maxRecDepth 100000 in
theorem law_c12 {p : Program} {l : Launch} {e : Env} {s : State} {m : MethodId} {below : List Frame} {meth : Method} {c : Code} {ev : EV} {ad : Nat → Nat} {b L i : Nat} {xs : Nat → Int32} (C : CX ev p s m #[Value.ref b] meth c code 4 ret R_law (fun q => s.heap.size ≤ q)) (hL : L ≤ 3072) (hX : va_X b L xs s s.heap) (hbl : b < s.heap.size) (hap : apart ad 39) (hAA : ∀ j, j < 39 → s.heap.size ≤ ad j) (hi : i + 6 ≤ L)
    (hn : ∀ (x : XX) (σ : MM) (H : Heap) (locs : List Loc) (ls : Array Slot), Rel x σ → PS ev 39 ad (LWf ev ad x σ) (fun q => s.heap.size ≤ q) s H locs → lv_has ls 4 [(0, .ref b), (1, .ref (ad 0)), (2, .ref (ad 26)), (3, .int (nI i))] → WL p l e s m b below meth c H locs 1675 ls [])
    {x : XX} {σ : MM} {H : Heap} {locs : List Loc} {ls : Array Slot} (hR : Rel x σ) (hP : PS ev 39 ad (LWf ev ad x σ) (fun q => s.heap.size ≤ q) s H locs) (hl : lv_has ls 4 [(0, .ref b), (1, .ref (ad 0)), (2, .ref (ad 26)), (3, .int (nI i))]) : WL p l e s m b below meth c H locs 707 ls [] := by
  have hx := C.1
  have hb := C.2.1
  have hbA : ¬ (fun q : Nat => s.heap.size ≤ q) b := Nat.not_le.mpr hbl
  obtain ⟨r, x1, σ1, h1, h2, hR⟩ := B_board hR 
  refine lv_aload_n hx hb dL_law_707 rfl (lv_at hl 1 rfl) ?_
  refine k_callVi C hP hap hAA (c_X3_board l ev ad x  _ _ h1) em_LX (apart_LX hap) gz_X3_board qML_RL_70 qIM_yX3_board qSE_yX3_board ⟨(Nat.le_of_ble_eq_true rfl), (Nat.le_of_ble_eq_true rfl)⟩ (q0 := 0) rfl (by decide) rfl rfl rfl rfl hl.1 rfl (Nat.le_of_ble_eq_true rfl) dL_law_708 ⟨Nat.le_refl _, Nat.le_refl _⟩ (fun H locs hP => ?_)
  refine lv_aload_n hx hb dL_law_711 rfl (lv_at hl 2 rfl) ?_
  refine k_callVi C hP hap hAA (c_X4_board l ev (fun j => ad (j + 26)) σ  _ _ h2) em_LM (apart_LM hap) gz_X4_board qML_RL_73 qIM_yX4_board qSE_yX4_board ⟨(Nat.le_of_ble_eq_true rfl), (Nat.le_of_ble_eq_true rfl)⟩ (q0 := 26) rfl (by decide) rfl rfl rfl rfl hl.1 rfl (Nat.le_of_ble_eq_true rfl) dL_law_712 ⟨Nat.le_refl _, Nat.le_refl _⟩ (fun H locs hP => ?_)
  refine lv_icmp_eq (tgt := 1675) hx hb dL_law_715 (by decide) (fun _ => ?_) (fun c => absurd rfl c)
  exact hn _ _ H locs _ hR hP hl
set_option maxHeartbeats 4000000 in
set_option maxRecDepth 100000 in
theorem law_c13 {p : Program} {l : Launch} {e : Env} {s : State} {m : MethodId} {below : List Frame} {meth : Method} {c : Code} {ev : EV} {ad : Nat → Nat} {b L i : Nat} {xs : Nat → Int32} (C : CX ev p s m #[Value.ref b] meth c code 4 ret R_law (fun q => s.heap.size ≤ q)) (hL : L ≤ 3072) (hX : va_X b L xs s s.heap) (hbl : b < s.heap.size) (hap : apart ad 39) (hAA : ∀ j, j < 39 → s.heap.size ≤ ad j) (hi : i + 6 ≤ L)
    (hn : ∀ (x : XX) (σ : MM) (H : Heap) (locs : List Loc) (ls : Array Slot), Rel x σ → PS ev 39 ad (LWf ev ad x σ) (fun q => s.heap.size ≤ q) s H locs → lv_has ls 4 [(0, .ref b), (1, .ref (ad 0)), (2, .ref (ad 26)), (3, .int (nI i))] → WL p l e s m b below meth c H locs 1675 ls [])
    {x : XX} {σ : MM} {H : Heap} {locs : List Loc} {ls : Array Slot} (hR : Rel x σ) (hP : PS ev 39 ad (LWf ev ad x σ) (fun q => s.heap.size ≤ q) s H locs) (hl : lv_has ls 4 [(0, .ref b), (1, .ref (ad 0)), (2, .ref (ad 26)), (3, .int (nI i))]) : WL p l e s m b below meth c H locs 720 ls [] := by
  have hx := C.1
  have hb := C.2.1
  have hbA : ¬ (fun q : Nat => s.heap.size ≤ q) b := Nat.not_le.mpr hbl
  obtain ⟨r, x1, σ1, h1, h2, hR⟩ := B_fieldOf hR (xs (nI i + nI 1).toNatClampNeg) (xs (nI i + nI 2).toNatClampNeg)
  refine lv_aload_n hx hb dL_law_720 rfl (lv_at hl 1 rfl) ?_
  refine lv_aload_n hx hb dL_law_721 rfl (lv_at hl 0 rfl) ?_
  refine lv_iload_n hx hb dL_law_722 rfl (lv_at hl 3 rfl) ?_
  refine lv_iconst (v := nI 1) hx hb dL_law_723 (by decide) ?_
  refine lv_iadd hx hb dL_law_724 ?_
  refine va_sld hx hb hX hbl hbA hP.2 (pow6 (c := 1) hi hL (by decide)) dL_law_725 ?_
  refine lv_aload_n hx hb dL_law_726 rfl (lv_at hl 0 rfl) ?_
  refine lv_iload_n hx hb dL_law_727 rfl (lv_at hl 3 rfl) ?_
  refine lv_iconst (v := nI 2) hx hb dL_law_728 (by decide) ?_
  refine lv_iadd hx hb dL_law_729 ?_
  refine va_sld hx hb hX hbl hbA hP.2 (pow6 (c := 2) hi hL (by decide)) dL_law_730 ?_
  refine k_callVi C hP hap hAA (c_X3_fieldOf l ev ad x (xs (nI i + nI 1).toNatClampNeg) (xs (nI i + nI 2).toNatClampNeg) _ _ h1) em_LX (apart_LX hap) gz_X3_fieldOf qML_RL_74 qIM_yX3_fieldOf qSE_yX3_fieldOf ⟨(Nat.le_of_ble_eq_true rfl), (Nat.le_of_ble_eq_true rfl)⟩ (q0 := 0) rfl (by decide) rfl rfl rfl rfl hl.1 rfl (Nat.le_of_ble_eq_true rfl) dL_law_731 ⟨Nat.le_refl _, Nat.le_refl _⟩ (fun H locs hP => ?_)
  refine lv_aload_n hx hb dL_law_734 rfl (lv_at hl 2 rfl) ?_
  refine lv_aload_n hx hb dL_law_735 rfl (lv_at hl 0 rfl) ?_
  refine lv_iload_n hx hb dL_law_736 rfl (lv_at hl 3 rfl) ?_
  refine lv_iconst (v := nI 1) hx hb dL_law_737 (by decide) ?_
  refine lv_iadd hx hb dL_law_738 ?_
  refine va_sld hx hb hX hbl hbA hP.2 (pow6 (c := 1) hi hL (by decide)) dL_law_739 ?_
  refine lv_aload_n hx hb dL_law_740 rfl (lv_at hl 0 rfl) ?_
  refine lv_iload_n hx hb dL_law_741 rfl (lv_at hl 3 rfl) ?_
  refine lv_iconst (v := nI 2) hx hb dL_law_742 (by decide) ?_
  refine lv_iadd hx hb dL_law_743 ?_
  refine va_sld hx hb hX hbl hbA hP.2 (pow6 (c := 2) hi hL (by decide)) dL_law_744 ?_
  refine k_callVi C hP hap hAA (c_X4_fieldOf l ev (fun j => ad (j + 26)) σ (xs (nI i + nI 1).toNatClampNeg) (xs (nI i + nI 2).toNatClampNeg) _ _ h2) em_LM (apart_LM hap) gz_X4_fieldOf qML_RL_77 qIM_yX4_fieldOf qSE_yX4_fieldOf ⟨(Nat.le_of_ble_eq_true rfl), (Nat.le_of_ble_eq_true rfl)⟩ (q0 := 26) rfl (by decide) rfl rfl rfl rfl hl.1 rfl (Nat.le_of_ble_eq_true rfl) dL_law_745 ⟨Nat.le_refl _, Nat.le_refl _⟩ (fun H locs hP => ?_)
  refine lv_icmp_eq (tgt := 1675) hx hb dL_law_748 (by decide) (fun _ => ?_) (fun c => absurd rfl c)
  exact hn _ _ H locs _ hR hP hl
set_option maxHeartbeats 4000000 in
set_option maxRecDepth 100000 in
theorem law_c14 {p : Program} {l : Launch} {e : Env} {s : State} {m : MethodId} {below : List Frame} {meth : Method} {c : Code} {ev : EV} {ad : Nat → Nat} {b L i : Nat} {xs : Nat → Int32} (C : CX ev p s m #[Value.ref b] meth c code 4 ret R_law (fun q => s.heap.size ≤ q)) (hL : L ≤ 3072) (hX : va_X b L xs s s.heap) (hbl : b < s.heap.size) (hap : apart ad 39) (hAA : ∀ j, j < 39 → s.heap.size ≤ ad j) (hi : i + 6 ≤ L)
    (hn : ∀ (x : XX) (σ : MM) (H : Heap) (locs : List Loc) (ls : Array Slot), Rel x σ → PS ev 39 ad (LWf ev ad x σ) (fun q => s.heap.size ≤ q) s H locs → lv_has ls 4 [(0, .ref b), (1, .ref (ad 0)), (2, .ref (ad 26)), (3, .int (nI i))] → WL p l e s m b below meth c H locs 1675 ls [])
    {x : XX} {σ : MM} {H : Heap} {locs : List Loc} {ls : Array Slot} (hR : Rel x σ) (hP : PS ev 39 ad (LWf ev ad x σ) (fun q => s.heap.size ≤ q) s H locs) (hl : lv_has ls 4 [(0, .ref b), (1, .ref (ad 0)), (2, .ref (ad 26)), (3, .int (nI i))]) : WL p l e s m b below meth c H locs 753 ls [] := by
  have hx := C.1
  have hb := C.2.1
  have hbA : ¬ (fun q : Nat => s.heap.size ≤ q) b := Nat.not_le.mpr hbl
  obtain ⟨r, x1, σ1, h1, h2, hR⟩ := B_edgeOf hR (xs (nI i + nI 1).toNatClampNeg) (xs (nI i + nI 2).toNatClampNeg)
  refine lv_aload_n hx hb dL_law_753 rfl (lv_at hl 1 rfl) ?_
  refine lv_aload_n hx hb dL_law_754 rfl (lv_at hl 0 rfl) ?_
  refine lv_iload_n hx hb dL_law_755 rfl (lv_at hl 3 rfl) ?_
  refine lv_iconst (v := nI 1) hx hb dL_law_756 (by decide) ?_
  refine lv_iadd hx hb dL_law_757 ?_
  refine va_sld hx hb hX hbl hbA hP.2 (pow6 (c := 1) hi hL (by decide)) dL_law_758 ?_
  refine lv_aload_n hx hb dL_law_759 rfl (lv_at hl 0 rfl) ?_
  refine lv_iload_n hx hb dL_law_760 rfl (lv_at hl 3 rfl) ?_
  refine lv_iconst (v := nI 2) hx hb dL_law_761 (by decide) ?_
  refine lv_iadd hx hb dL_law_762 ?_
  refine va_sld hx hb hX hbl hbA hP.2 (pow6 (c := 2) hi hL (by decide)) dL_law_763 ?_
  refine k_callVi C hP hap hAA (c_X3_edgeOf l ev ad x (xs (nI i + nI 1).toNatClampNeg) (xs (nI i + nI 2).toNatClampNeg) _ _ h1) em_LX (apart_LX hap) gz_X3_edgeOf qML_RL_78 qIM_yX3_edgeOf qSE_yX3_edgeOf ⟨(Nat.le_of_ble_eq_true rfl), (Nat.le_of_ble_eq_true rfl)⟩ (q0 := 0) rfl (by decide) rfl rfl rfl rfl hl.1 rfl (Nat.le_of_ble_eq_true rfl) dL_law_764 ⟨Nat.le_refl _, Nat.le_refl _⟩ (fun H locs hP => ?_)
  refine lv_aload_n hx hb dL_law_767 rfl (lv_at hl 2 rfl) ?_
  refine lv_aload_n hx hb dL_law_768 rfl (lv_at hl 0 rfl) ?_
  refine lv_iload_n hx hb dL_law_769 rfl (lv_at hl 3 rfl) ?_
  refine lv_iconst (v := nI 1) hx hb dL_law_770 (by decide) ?_
  refine lv_iadd hx hb dL_law_771 ?_
  refine va_sld hx hb hX hbl hbA hP.2 (pow6 (c := 1) hi hL (by decide)) dL_law_772 ?_
  refine lv_aload_n hx hb dL_law_773 rfl (lv_at hl 0 rfl) ?_
  refine lv_iload_n hx hb dL_law_774 rfl (lv_at hl 3 rfl) ?_
  refine lv_iconst (v := nI 2) hx hb dL_law_775 (by decide) ?_
  refine lv_iadd hx hb dL_law_776 ?_
  refine va_sld hx hb hX hbl hbA hP.2 (pow6 (c := 2) hi hL (by decide)) dL_law_777 ?_
  refine k_callVi C hP hap hAA (c_X4_edgeOf l ev (fun j => ad (j + 26)) σ (xs (nI i + nI 1).toNatClampNeg) (xs (nI i + nI 2).toNatClampNeg) _ _ h2) em_LM (apart_LM hap) gz_X4_edgeOf qML_RL_81 qIM_yX4_edgeOf qSE_yX4_edgeOf ⟨(Nat.le_of_ble_eq_true rfl), (Nat.le_of_ble_eq_true rfl)⟩ (q0 := 26) rfl (by decide) rfl rfl rfl rfl hl.1 rfl (Nat.le_of_ble_eq_true rfl) dL_law_778 ⟨Nat.le_refl _, Nat.le_refl _⟩ (fun H locs hP => ?_)
  refine lv_icmp_eq (tgt := 1675) hx hb dL_law_781 (by decide) (fun _ => ?_) (fun c => absurd rfl c)
  exact hn _ _ H locs _ hR hP hl
set_option maxHeartbeats 4000000 in
set_option maxRecDepth 100000 in
theorem law_c15 {p : Program} {l : Launch} {e : Env} {s : State} {m : MethodId} {below : List Frame} {meth : Method} {c : Code} {ev : EV} {ad : Nat → Nat} {b L i : Nat} {xs : Nat → Int32} (C : CX ev p s m #[Value.ref b] meth c code 4 ret R_law (fun q => s.heap.size ≤ q)) (hL : L ≤ 3072) (hX : va_X b L xs s s.heap) (hbl : b < s.heap.size) (hap : apart ad 39) (hAA : ∀ j, j < 39 → s.heap.size ≤ ad j) (hi : i + 6 ≤ L)
    (hn : ∀ (x : XX) (σ : MM) (H : Heap) (locs : List Loc) (ls : Array Slot), Rel x σ → PS ev 39 ad (LWf ev ad x σ) (fun q => s.heap.size ≤ q) s H locs → lv_has ls 4 [(0, .ref b), (1, .ref (ad 0)), (2, .ref (ad 26)), (3, .int (nI i))] → WL p l e s m b below meth c H locs 1675 ls [])
    {x : XX} {σ : MM} {H : Heap} {locs : List Loc} {ls : Array Slot} (hR : Rel x σ) (hP : PS ev 39 ad (LWf ev ad x σ) (fun q => s.heap.size ≤ q) s H locs) (hl : lv_has ls 4 [(0, .ref b), (1, .ref (ad 0)), (2, .ref (ad 26)), (3, .int (nI i))]) : WL p l e s m b below meth c H locs 786 ls [] := by
  have hx := C.1
  have hb := C.2.1
  have hbA : ¬ (fun q : Nat => s.heap.size ≤ q) b := Nat.not_le.mpr hbl
  obtain ⟨r, x1, σ1, h1, h2, hR⟩ := B_playerOf hR (xs (nI i + nI 1).toNatClampNeg) (xs (nI i + nI 2).toNatClampNeg)
  refine lv_aload_n hx hb dL_law_786 rfl (lv_at hl 1 rfl) ?_
  refine lv_aload_n hx hb dL_law_787 rfl (lv_at hl 0 rfl) ?_
  refine lv_iload_n hx hb dL_law_788 rfl (lv_at hl 3 rfl) ?_
  refine lv_iconst (v := nI 1) hx hb dL_law_789 (by decide) ?_
  refine lv_iadd hx hb dL_law_790 ?_
  refine va_sld hx hb hX hbl hbA hP.2 (pow6 (c := 1) hi hL (by decide)) dL_law_791 ?_
  refine lv_aload_n hx hb dL_law_792 rfl (lv_at hl 0 rfl) ?_
  refine lv_iload_n hx hb dL_law_793 rfl (lv_at hl 3 rfl) ?_
  refine lv_iconst (v := nI 2) hx hb dL_law_794 (by decide) ?_
  refine lv_iadd hx hb dL_law_795 ?_
  refine va_sld hx hb hX hbl hbA hP.2 (pow6 (c := 2) hi hL (by decide)) dL_law_796 ?_
  refine k_callVi C hP hap hAA (c_X3_playerOf l ev ad x (xs (nI i + nI 1).toNatClampNeg) (xs (nI i + nI 2).toNatClampNeg) _ _ h1) em_LX (apart_LX hap) gz_X3_playerOf qML_RL_82 qIM_yX3_playerOf qSE_yX3_playerOf ⟨(Nat.le_of_ble_eq_true rfl), (Nat.le_of_ble_eq_true rfl)⟩ (q0 := 0) rfl (by decide) rfl rfl rfl rfl hl.1 rfl (Nat.le_of_ble_eq_true rfl) dL_law_797 ⟨Nat.le_refl _, Nat.le_refl _⟩ (fun H locs hP => ?_)
  refine lv_aload_n hx hb dL_law_800 rfl (lv_at hl 2 rfl) ?_
  refine lv_aload_n hx hb dL_law_801 rfl (lv_at hl 0 rfl) ?_
  refine lv_iload_n hx hb dL_law_802 rfl (lv_at hl 3 rfl) ?_
  refine lv_iconst (v := nI 1) hx hb dL_law_803 (by decide) ?_
  refine lv_iadd hx hb dL_law_804 ?_
  refine va_sld hx hb hX hbl hbA hP.2 (pow6 (c := 1) hi hL (by decide)) dL_law_805 ?_
  refine lv_aload_n hx hb dL_law_806 rfl (lv_at hl 0 rfl) ?_
  refine lv_iload_n hx hb dL_law_807 rfl (lv_at hl 3 rfl) ?_
  refine lv_iconst (v := nI 2) hx hb dL_law_808 (by decide) ?_
  refine lv_iadd hx hb dL_law_809 ?_
  refine va_sld hx hb hX hbl hbA hP.2 (pow6 (c := 2) hi hL (by decide)) dL_law_810 ?_
  refine k_callVi C hP hap hAA (c_X4_playerOf l ev (fun j => ad (j + 26)) σ (xs (nI i + nI 1).toNatClampNeg) (xs (nI i + nI 2).toNatClampNeg) _ _ h2) em_LM (apart_LM hap) gz_X4_playerOf qML_RL_85 qIM_yX4_playerOf qSE_yX4_playerOf ⟨(Nat.le_of_ble_eq_true rfl), (Nat.le_of_ble_eq_true rfl)⟩ (q0 := 26) rfl (by decide) rfl rfl rfl rfl hl.1 rfl (Nat.le_of_ble_eq_true rfl) dL_law_811 ⟨Nat.le_refl _, Nat.le_refl _⟩ (fun H locs hP => ?_)
  refine lv_icmp_eq (tgt := 1675) hx hb dL_law_814 (by decide) (fun _ => ?_) (fun c => absurd rfl c)
  exact hn _ _ H locs _ hR hP hl
set_option maxHeartbeats 4000000 in
set_option maxRecDepth 100000 in
theorem law_c16 {p : Program} {l : Launch} {e : Env} {s : State} {m : MethodId} {below : List Frame} {meth : Method} {c : Code} {ev : EV} {ad : Nat → Nat} {b L i : Nat} {xs : Nat → Int32} (C : CX ev p s m #[Value.ref b] meth c code 4 ret R_law (fun q => s.heap.size ≤ q)) (hL : L ≤ 3072) (hX : va_X b L xs s s.heap) (hbl : b < s.heap.size) (hap : apart ad 39) (hAA : ∀ j, j < 39 → s.heap.size ≤ ad j) (hi : i + 6 ≤ L)
    (hn : ∀ (x : XX) (σ : MM) (H : Heap) (locs : List Loc) (ls : Array Slot), Rel x σ → PS ev 39 ad (LWf ev ad x σ) (fun q => s.heap.size ≤ q) s H locs → lv_has ls 4 [(0, .ref b), (1, .ref (ad 0)), (2, .ref (ad 26)), (3, .int (nI i))] → WL p l e s m b below meth c H locs 1675 ls [])
    {x : XX} {σ : MM} {H : Heap} {locs : List Loc} {ls : Array Slot} (hR : Rel x σ) (hP : PS ev 39 ad (LWf ev ad x σ) (fun q => s.heap.size ≤ q) s H locs) (hl : lv_has ls 4 [(0, .ref b), (1, .ref (ad 0)), (2, .ref (ad 26)), (3, .int (nI i))]) : WL p l e s m b below meth c H locs 819 ls [] := by
  have hx := C.1
  have hb := C.2.1
  have hbA : ¬ (fun q : Nat => s.heap.size ≤ q) b := Nat.not_le.mpr hbl
  obtain ⟨r, x1, σ1, h1, h2, hR⟩ := B_may hR (xs (nI i + nI 1).toNatClampNeg)
  refine lv_aload_n hx hb dL_law_819 rfl (lv_at hl 1 rfl) ?_
  refine lv_aload_n hx hb dL_law_820 rfl (lv_at hl 0 rfl) ?_
  refine lv_iload_n hx hb dL_law_821 rfl (lv_at hl 3 rfl) ?_
  refine lv_iconst (v := nI 1) hx hb dL_law_822 (by decide) ?_
  refine lv_iadd hx hb dL_law_823 ?_
  refine va_sld hx hb hX hbl hbA hP.2 (pow6 (c := 1) hi hL (by decide)) dL_law_824 ?_
  refine k_callVi C hP hap hAA (c_X3_may l ev ad x (xs (nI i + nI 1).toNatClampNeg) _ _ h1) em_LX (apart_LX hap) gz_X3_may qML_RL_86 qIM_yX3_may qSE_yX3_may ⟨(Nat.le_of_ble_eq_true rfl), (Nat.le_of_ble_eq_true rfl)⟩ (q0 := 0) rfl (by decide) rfl rfl rfl rfl hl.1 rfl (Nat.le_of_ble_eq_true rfl) dL_law_825 ⟨Nat.le_refl _, Nat.le_refl _⟩ (fun H locs hP => ?_)
  refine lv_aload_n hx hb dL_law_828 rfl (lv_at hl 2 rfl) ?_
  refine lv_aload_n hx hb dL_law_829 rfl (lv_at hl 0 rfl) ?_
  refine lv_iload_n hx hb dL_law_830 rfl (lv_at hl 3 rfl) ?_
  refine lv_iconst (v := nI 1) hx hb dL_law_831 (by decide) ?_
  refine lv_iadd hx hb dL_law_832 ?_
  refine va_sld hx hb hX hbl hbA hP.2 (pow6 (c := 1) hi hL (by decide)) dL_law_833 ?_
  refine k_callVi C hP hap hAA (c_X4_may l ev (fun j => ad (j + 26)) σ (xs (nI i + nI 1).toNatClampNeg) _ _ h2) em_LM (apart_LM hap) gz_X4_may qML_RL_89 qIM_yX4_may qSE_yX4_may ⟨(Nat.le_of_ble_eq_true rfl), (Nat.le_of_ble_eq_true rfl)⟩ (q0 := 26) rfl (by decide) rfl rfl rfl rfl hl.1 rfl (Nat.le_of_ble_eq_true rfl) dL_law_834 ⟨Nat.le_refl _, Nat.le_refl _⟩ (fun H locs hP => ?_)
  refine lv_icmp_eq (tgt := 1675) hx hb dL_law_837 (by decide) (fun _ => ?_) (fun c => absurd rfl c)
  exact hn _ _ H locs _ hR hP hl
set_option maxHeartbeats 4000000 in
set_option maxRecDepth 100000 in
theorem law_c17 {p : Program} {l : Launch} {e : Env} {s : State} {m : MethodId} {below : List Frame} {meth : Method} {c : Code} {ev : EV} {ad : Nat → Nat} {b L i : Nat} {xs : Nat → Int32} (C : CX ev p s m #[Value.ref b] meth c code 4 ret R_law (fun q => s.heap.size ≤ q)) (hL : L ≤ 3072) (hX : va_X b L xs s s.heap) (hbl : b < s.heap.size) (hap : apart ad 39) (hAA : ∀ j, j < 39 → s.heap.size ≤ ad j) (hi : i + 6 ≤ L)
    (hn : ∀ (x : XX) (σ : MM) (H : Heap) (locs : List Loc) (ls : Array Slot), Rel x σ → PS ev 39 ad (LWf ev ad x σ) (fun q => s.heap.size ≤ q) s H locs → lv_has ls 4 [(0, .ref b), (1, .ref (ad 0)), (2, .ref (ad 26)), (3, .int (nI i))] → WL p l e s m b below meth c H locs 1675 ls [])
    {x : XX} {σ : MM} {H : Heap} {locs : List Loc} {ls : Array Slot} (hR : Rel x σ) (hP : PS ev 39 ad (LWf ev ad x σ) (fun q => s.heap.size ≤ q) s H locs) (hl : lv_has ls 4 [(0, .ref b), (1, .ref (ad 0)), (2, .ref (ad 26)), (3, .int (nI i))]) : WL p l e s m b below meth c H locs 842 ls [] := by
  have hx := C.1
  have hb := C.2.1
  have hbA : ¬ (fun q : Nat => s.heap.size ≤ q) b := Nat.not_le.mpr hbl
  obtain ⟨r, x1, σ1, h1, h2, hR⟩ := B_moves hR (xs (nI i + nI 1).toNatClampNeg)
  refine lv_aload_n hx hb dL_law_842 rfl (lv_at hl 1 rfl) ?_
  refine lv_aload_n hx hb dL_law_843 rfl (lv_at hl 0 rfl) ?_
  refine lv_iload_n hx hb dL_law_844 rfl (lv_at hl 3 rfl) ?_
  refine lv_iconst (v := nI 1) hx hb dL_law_845 (by decide) ?_
  refine lv_iadd hx hb dL_law_846 ?_
  refine va_sld hx hb hX hbl hbA hP.2 (pow6 (c := 1) hi hL (by decide)) dL_law_847 ?_
  refine k_callVi C hP hap hAA (c_X3_moves l ev ad x (xs (nI i + nI 1).toNatClampNeg) _ _ h1) em_LX (apart_LX hap) gz_X3_moves qML_RL_90 qIM_yX3_moves qSE_yX3_moves ⟨(Nat.le_of_ble_eq_true rfl), (Nat.le_of_ble_eq_true rfl)⟩ (q0 := 0) rfl (by decide) rfl rfl rfl rfl hl.1 rfl (Nat.le_of_ble_eq_true rfl) dL_law_848 ⟨Nat.le_refl _, Nat.le_refl _⟩ (fun H locs hP => ?_)
  refine lv_aload_n hx hb dL_law_851 rfl (lv_at hl 2 rfl) ?_
  refine lv_aload_n hx hb dL_law_852 rfl (lv_at hl 0 rfl) ?_
  refine lv_iload_n hx hb dL_law_853 rfl (lv_at hl 3 rfl) ?_
  refine lv_iconst (v := nI 1) hx hb dL_law_854 (by decide) ?_
  refine lv_iadd hx hb dL_law_855 ?_
  refine va_sld hx hb hX hbl hbA hP.2 (pow6 (c := 1) hi hL (by decide)) dL_law_856 ?_
  refine k_callVi C hP hap hAA (c_X4_moves l ev (fun j => ad (j + 26)) σ (xs (nI i + nI 1).toNatClampNeg) _ _ h2) em_LM (apart_LM hap) gz_X4_moves qML_RL_93 qIM_yX4_moves qSE_yX4_moves ⟨(Nat.le_of_ble_eq_true rfl), (Nat.le_of_ble_eq_true rfl)⟩ (q0 := 26) rfl (by decide) rfl rfl rfl rfl hl.1 rfl (Nat.le_of_ble_eq_true rfl) dL_law_857 ⟨Nat.le_refl _, Nat.le_refl _⟩ (fun H locs hP => ?_)
  refine lv_icmp_eq (tgt := 1675) hx hb dL_law_860 (by decide) (fun _ => ?_) (fun c => absurd rfl c)
  exact hn _ _ H locs _ hR hP hl
set_option maxHeartbeats 4000000 in
set_option maxRecDepth 100000 in
theorem law_c18 {p : Program} {l : Launch} {e : Env} {s : State} {m : MethodId} {below : List Frame} {meth : Method} {c : Code} {ev : EV} {ad : Nat → Nat} {b L i : Nat} {xs : Nat → Int32} (C : CX ev p s m #[Value.ref b] meth c code 4 ret R_law (fun q => s.heap.size ≤ q)) (hL : L ≤ 3072) (hX : va_X b L xs s s.heap) (hbl : b < s.heap.size) (hap : apart ad 39) (hAA : ∀ j, j < 39 → s.heap.size ≤ ad j) (hi : i + 6 ≤ L)
    (hn : ∀ (x : XX) (σ : MM) (H : Heap) (locs : List Loc) (ls : Array Slot), Rel x σ → PS ev 39 ad (LWf ev ad x σ) (fun q => s.heap.size ≤ q) s H locs → lv_has ls 4 [(0, .ref b), (1, .ref (ad 0)), (2, .ref (ad 26)), (3, .int (nI i))] → WL p l e s m b below meth c H locs 1675 ls [])
    {x : XX} {σ : MM} {H : Heap} {locs : List Loc} {ls : Array Slot} (hR : Rel x σ) (hP : PS ev 39 ad (LWf ev ad x σ) (fun q => s.heap.size ≤ q) s H locs) (hl : lv_has ls 4 [(0, .ref b), (1, .ref (ad 0)), (2, .ref (ad 26)), (3, .int (nI i))]) : WL p l e s m b below meth c H locs 865 ls [] := by
  have hx := C.1
  have hb := C.2.1
  have hbA : ¬ (fun q : Nat => s.heap.size ≤ q) b := Nat.not_le.mpr hbl
  obtain ⟨r, x1, σ1, h1, h2, hR⟩ := B_score hR (xs (nI i + nI 1).toNatClampNeg)
  refine lv_aload_n hx hb dL_law_865 rfl (lv_at hl 1 rfl) ?_
  refine lv_aload_n hx hb dL_law_866 rfl (lv_at hl 0 rfl) ?_
  refine lv_iload_n hx hb dL_law_867 rfl (lv_at hl 3 rfl) ?_
  refine lv_iconst (v := nI 1) hx hb dL_law_868 (by decide) ?_
  refine lv_iadd hx hb dL_law_869 ?_
  refine va_sld hx hb hX hbl hbA hP.2 (pow6 (c := 1) hi hL (by decide)) dL_law_870 ?_
  refine k_callVi C hP hap hAA (c_X3_score l ev ad x (xs (nI i + nI 1).toNatClampNeg) _ _ h1) em_LX (apart_LX hap) gz_X3_score qML_RL_94 qIM_yX3_score qSE_yX3_score ⟨(Nat.le_of_ble_eq_true rfl), (Nat.le_of_ble_eq_true rfl)⟩ (q0 := 0) rfl (by decide) rfl rfl rfl rfl hl.1 rfl (Nat.le_of_ble_eq_true rfl) dL_law_871 ⟨Nat.le_refl _, Nat.le_refl _⟩ (fun H locs hP => ?_)
  refine lv_aload_n hx hb dL_law_874 rfl (lv_at hl 2 rfl) ?_
  refine lv_aload_n hx hb dL_law_875 rfl (lv_at hl 0 rfl) ?_
  refine lv_iload_n hx hb dL_law_876 rfl (lv_at hl 3 rfl) ?_
  refine lv_iconst (v := nI 1) hx hb dL_law_877 (by decide) ?_
  refine lv_iadd hx hb dL_law_878 ?_
  refine va_sld hx hb hX hbl hbA hP.2 (pow6 (c := 1) hi hL (by decide)) dL_law_879 ?_
  refine k_callVi C hP hap hAA (c_X4_score l ev (fun j => ad (j + 26)) σ (xs (nI i + nI 1).toNatClampNeg) _ _ h2) em_LM (apart_LM hap) gz_X4_score qML_RL_97 qIM_yX4_score qSE_yX4_score ⟨(Nat.le_of_ble_eq_true rfl), (Nat.le_of_ble_eq_true rfl)⟩ (q0 := 26) rfl (by decide) rfl rfl rfl rfl hl.1 rfl (Nat.le_of_ble_eq_true rfl) dL_law_880 ⟨Nat.le_refl _, Nat.le_refl _⟩ (fun H locs hP => ?_)
  refine lv_icmp_eq (tgt := 1675) hx hb dL_law_883 (by decide) (fun _ => ?_) (fun c => absurd rfl c)
  exact hn _ _ H locs _ hR hP hl
set_option maxHeartbeats 4000000 in
set_option maxRecDepth 100000 in
theorem law_c19 {p : Program} {l : Launch} {e : Env} {s : State} {m : MethodId} {below : List Frame} {meth : Method} {c : Code} {ev : EV} {ad : Nat → Nat} {b L i : Nat} {xs : Nat → Int32} (C : CX ev p s m #[Value.ref b] meth c code 4 ret R_law (fun q => s.heap.size ≤ q)) (hL : L ≤ 3072) (hX : va_X b L xs s s.heap) (hbl : b < s.heap.size) (hap : apart ad 39) (hAA : ∀ j, j < 39 → s.heap.size ≤ ad j) (hi : i + 6 ≤ L)
    (hn : ∀ (x : XX) (σ : MM) (H : Heap) (locs : List Loc) (ls : Array Slot), Rel x σ → PS ev 39 ad (LWf ev ad x σ) (fun q => s.heap.size ≤ q) s H locs → lv_has ls 4 [(0, .ref b), (1, .ref (ad 0)), (2, .ref (ad 26)), (3, .int (nI i))] → WL p l e s m b below meth c H locs 1675 ls [])
    {x : XX} {σ : MM} {H : Heap} {locs : List Loc} {ls : Array Slot} (hR : Rel x σ) (hP : PS ev 39 ad (LWf ev ad x σ) (fun q => s.heap.size ≤ q) s H locs) (hl : lv_has ls 4 [(0, .ref b), (1, .ref (ad 0)), (2, .ref (ad 26)), (3, .int (nI i))]) : WL p l e s m b below meth c H locs 888 ls [] := by
  have hx := C.1
  have hb := C.2.1
  have hbA : ¬ (fun q : Nat => s.heap.size ≤ q) b := Nat.not_le.mpr hbl
  obtain ⟨r, x1, σ1, h1, h2, hR⟩ := B_lead hR (xs (nI i + nI 1).toNatClampNeg)
  refine lv_aload_n hx hb dL_law_888 rfl (lv_at hl 1 rfl) ?_
  refine lv_aload_n hx hb dL_law_889 rfl (lv_at hl 0 rfl) ?_
  refine lv_iload_n hx hb dL_law_890 rfl (lv_at hl 3 rfl) ?_
  refine lv_iconst (v := nI 1) hx hb dL_law_891 (by decide) ?_
  refine lv_iadd hx hb dL_law_892 ?_
  refine va_sld hx hb hX hbl hbA hP.2 (pow6 (c := 1) hi hL (by decide)) dL_law_893 ?_
  refine k_callVi C hP hap hAA (c_X3_lead l ev ad x (xs (nI i + nI 1).toNatClampNeg) _ _ h1) em_LX (apart_LX hap) gz_X3_lead qML_RL_98 qIM_yX3_lead qSE_yX3_lead ⟨(Nat.le_of_ble_eq_true rfl), (Nat.le_of_ble_eq_true rfl)⟩ (q0 := 0) rfl (by decide) rfl rfl rfl rfl hl.1 rfl (Nat.le_of_ble_eq_true rfl) dL_law_894 ⟨Nat.le_refl _, Nat.le_refl _⟩ (fun H locs hP => ?_)
  refine lv_aload_n hx hb dL_law_897 rfl (lv_at hl 2 rfl) ?_
  refine lv_aload_n hx hb dL_law_898 rfl (lv_at hl 0 rfl) ?_
  refine lv_iload_n hx hb dL_law_899 rfl (lv_at hl 3 rfl) ?_
  refine lv_iconst (v := nI 1) hx hb dL_law_900 (by decide) ?_
  refine lv_iadd hx hb dL_law_901 ?_
  refine va_sld hx hb hX hbl hbA hP.2 (pow6 (c := 1) hi hL (by decide)) dL_law_902 ?_
  refine k_callVi C hP hap hAA (c_X4_lead l ev (fun j => ad (j + 26)) σ (xs (nI i + nI 1).toNatClampNeg) _ _ h2) em_LM (apart_LM hap) gz_X4_lead qML_RL_101 qIM_yX4_lead qSE_yX4_lead ⟨(Nat.le_of_ble_eq_true rfl), (Nat.le_of_ble_eq_true rfl)⟩ (q0 := 26) rfl (by decide) rfl rfl rfl rfl hl.1 rfl (Nat.le_of_ble_eq_true rfl) dL_law_903 ⟨Nat.le_refl _, Nat.le_refl _⟩ (fun H locs hP => ?_)
  refine lv_icmp_eq (tgt := 1675) hx hb dL_law_906 (by decide) (fun _ => ?_) (fun c => absurd rfl c)
  exact hn _ _ H locs _ hR hP hl
set_option maxHeartbeats 4000000 in
set_option maxRecDepth 100000 in
theorem law_c20 {p : Program} {l : Launch} {e : Env} {s : State} {m : MethodId} {below : List Frame} {meth : Method} {c : Code} {ev : EV} {ad : Nat → Nat} {b L i : Nat} {xs : Nat → Int32} (C : CX ev p s m #[Value.ref b] meth c code 4 ret R_law (fun q => s.heap.size ≤ q)) (hL : L ≤ 3072) (hX : va_X b L xs s s.heap) (hbl : b < s.heap.size) (hap : apart ad 39) (hAA : ∀ j, j < 39 → s.heap.size ≤ ad j) (hi : i + 6 ≤ L)
    (hn : ∀ (x : XX) (σ : MM) (H : Heap) (locs : List Loc) (ls : Array Slot), Rel x σ → PS ev 39 ad (LWf ev ad x σ) (fun q => s.heap.size ≤ q) s H locs → lv_has ls 4 [(0, .ref b), (1, .ref (ad 0)), (2, .ref (ad 26)), (3, .int (nI i))] → WL p l e s m b below meth c H locs 1675 ls [])
    {x : XX} {σ : MM} {H : Heap} {locs : List Loc} {ls : Array Slot} (hR : Rel x σ) (hP : PS ev 39 ad (LWf ev ad x σ) (fun q => s.heap.size ≤ q) s H locs) (hl : lv_has ls 4 [(0, .ref b), (1, .ref (ad 0)), (2, .ref (ad 26)), (3, .int (nI i))]) : WL p l e s m b below meth c H locs 911 ls [] := by
  have hx := C.1
  have hb := C.2.1
  have hbA : ¬ (fun q : Nat => s.heap.size ≤ q) b := Nat.not_le.mpr hbl
  obtain ⟨r, x1, σ1, h1, h2, hR⟩ := B_lanes hR (xs (nI i + nI 1).toNatClampNeg)
  refine lv_aload_n hx hb dL_law_911 rfl (lv_at hl 1 rfl) ?_
  refine lv_aload_n hx hb dL_law_912 rfl (lv_at hl 0 rfl) ?_
  refine lv_iload_n hx hb dL_law_913 rfl (lv_at hl 3 rfl) ?_
  refine lv_iconst (v := nI 1) hx hb dL_law_914 (by decide) ?_
  refine lv_iadd hx hb dL_law_915 ?_
  refine va_sld hx hb hX hbl hbA hP.2 (pow6 (c := 1) hi hL (by decide)) dL_law_916 ?_
  refine k_callVi C hP hap hAA (c_X3_lanes l ev ad x (xs (nI i + nI 1).toNatClampNeg) _ _ h1) em_LX (apart_LX hap) gz_X3_lanes qML_RL_102 qIM_yX3_lanes qSE_yX3_lanes ⟨(Nat.le_of_ble_eq_true rfl), (Nat.le_of_ble_eq_true rfl)⟩ (q0 := 0) rfl (by decide) rfl rfl rfl rfl hl.1 rfl (Nat.le_of_ble_eq_true rfl) dL_law_917 ⟨Nat.le_refl _, Nat.le_refl _⟩ (fun H locs hP => ?_)
  refine lv_aload_n hx hb dL_law_920 rfl (lv_at hl 2 rfl) ?_
  refine lv_aload_n hx hb dL_law_921 rfl (lv_at hl 0 rfl) ?_
  refine lv_iload_n hx hb dL_law_922 rfl (lv_at hl 3 rfl) ?_
  refine lv_iconst (v := nI 1) hx hb dL_law_923 (by decide) ?_
  refine lv_iadd hx hb dL_law_924 ?_
  refine va_sld hx hb hX hbl hbA hP.2 (pow6 (c := 1) hi hL (by decide)) dL_law_925 ?_
  refine k_callVi C hP hap hAA (c_X4_lanes l ev (fun j => ad (j + 26)) σ (xs (nI i + nI 1).toNatClampNeg) _ _ h2) em_LM (apart_LM hap) gz_X4_lanes qML_RL_105 qIM_yX4_lanes qSE_yX4_lanes ⟨(Nat.le_of_ble_eq_true rfl), (Nat.le_of_ble_eq_true rfl)⟩ (q0 := 26) rfl (by decide) rfl rfl rfl rfl hl.1 rfl (Nat.le_of_ble_eq_true rfl) dL_law_926 ⟨Nat.le_refl _, Nat.le_refl _⟩ (fun H locs hP => ?_)
  refine lv_icmp_eq (tgt := 1675) hx hb dL_law_929 (by decide) (fun _ => ?_) (fun c => absurd rfl c)
  exact hn _ _ H locs _ hR hP hl
set_option maxHeartbeats 4000000 in
set_option maxRecDepth 100000 in
theorem law_c21 {p : Program} {l : Launch} {e : Env} {s : State} {m : MethodId} {below : List Frame} {meth : Method} {c : Code} {ev : EV} {ad : Nat → Nat} {b L i : Nat} {xs : Nat → Int32} (C : CX ev p s m #[Value.ref b] meth c code 4 ret R_law (fun q => s.heap.size ≤ q)) (hL : L ≤ 3072) (hX : va_X b L xs s s.heap) (hbl : b < s.heap.size) (hap : apart ad 39) (hAA : ∀ j, j < 39 → s.heap.size ≤ ad j) (hi : i + 6 ≤ L)
    (hn : ∀ (x : XX) (σ : MM) (H : Heap) (locs : List Loc) (ls : Array Slot), Rel x σ → PS ev 39 ad (LWf ev ad x σ) (fun q => s.heap.size ≤ q) s H locs → lv_has ls 4 [(0, .ref b), (1, .ref (ad 0)), (2, .ref (ad 26)), (3, .int (nI i))] → WL p l e s m b below meth c H locs 1675 ls [])
    {x : XX} {σ : MM} {H : Heap} {locs : List Loc} {ls : Array Slot} (hR : Rel x σ) (hP : PS ev 39 ad (LWf ev ad x σ) (fun q => s.heap.size ≤ q) s H locs) (hl : lv_has ls 4 [(0, .ref b), (1, .ref (ad 0)), (2, .ref (ad 26)), (3, .int (nI i))]) : WL p l e s m b below meth c H locs 934 ls [] := by
  have hx := C.1
  have hb := C.2.1
  have hbA : ¬ (fun q : Nat => s.heap.size ≤ q) b := Nat.not_le.mpr hbl
  obtain ⟨r, x1, σ1, h1, h2, hR⟩ := B_ditch hR (xs (nI i + nI 1).toNatClampNeg)
  refine lv_aload_n hx hb dL_law_934 rfl (lv_at hl 1 rfl) ?_
  refine lv_aload_n hx hb dL_law_935 rfl (lv_at hl 0 rfl) ?_
  refine lv_iload_n hx hb dL_law_936 rfl (lv_at hl 3 rfl) ?_
  refine lv_iconst (v := nI 1) hx hb dL_law_937 (by decide) ?_
  refine lv_iadd hx hb dL_law_938 ?_
  refine va_sld hx hb hX hbl hbA hP.2 (pow6 (c := 1) hi hL (by decide)) dL_law_939 ?_
  refine k_callVi C hP hap hAA (c_X3_ditch l ev ad x (xs (nI i + nI 1).toNatClampNeg) _ _ h1) em_LX (apart_LX hap) gz_X3_ditch qML_RL_106 qIM_yX3_ditch qSE_yX3_ditch ⟨(Nat.le_of_ble_eq_true rfl), (Nat.le_of_ble_eq_true rfl)⟩ (q0 := 0) rfl (by decide) rfl rfl rfl rfl hl.1 rfl (Nat.le_of_ble_eq_true rfl) dL_law_940 ⟨Nat.le_refl _, Nat.le_refl _⟩ (fun H locs hP => ?_)
  refine lv_aload_n hx hb dL_law_943 rfl (lv_at hl 2 rfl) ?_
  refine lv_aload_n hx hb dL_law_944 rfl (lv_at hl 0 rfl) ?_
  refine lv_iload_n hx hb dL_law_945 rfl (lv_at hl 3 rfl) ?_
  refine lv_iconst (v := nI 1) hx hb dL_law_946 (by decide) ?_
  refine lv_iadd hx hb dL_law_947 ?_
  refine va_sld hx hb hX hbl hbA hP.2 (pow6 (c := 1) hi hL (by decide)) dL_law_948 ?_
  refine k_callVi C hP hap hAA (c_X4_ditch l ev (fun j => ad (j + 26)) σ (xs (nI i + nI 1).toNatClampNeg) _ _ h2) em_LM (apart_LM hap) gz_X4_ditch qML_RL_109 qIM_yX4_ditch qSE_yX4_ditch ⟨(Nat.le_of_ble_eq_true rfl), (Nat.le_of_ble_eq_true rfl)⟩ (q0 := 26) rfl (by decide) rfl rfl rfl rfl hl.1 rfl (Nat.le_of_ble_eq_true rfl) dL_law_949 ⟨Nat.le_refl _, Nat.le_refl _⟩ (fun H locs hP => ?_)
  refine lv_icmp_eq (tgt := 1675) hx hb dL_law_952 (by decide) (fun _ => ?_) (fun c => absurd rfl c)
  exact hn _ _ H locs _ hR hP hl
set_option maxHeartbeats 4000000 in
set_option maxRecDepth 100000 in
theorem law_c22 {p : Program} {l : Launch} {e : Env} {s : State} {m : MethodId} {below : List Frame} {meth : Method} {c : Code} {ev : EV} {ad : Nat → Nat} {b L i : Nat} {xs : Nat → Int32} (C : CX ev p s m #[Value.ref b] meth c code 4 ret R_law (fun q => s.heap.size ≤ q)) (hL : L ≤ 3072) (hX : va_X b L xs s s.heap) (hbl : b < s.heap.size) (hap : apart ad 39) (hAA : ∀ j, j < 39 → s.heap.size ≤ ad j) (hi : i + 6 ≤ L)
    (hn : ∀ (x : XX) (σ : MM) (H : Heap) (locs : List Loc) (ls : Array Slot), Rel x σ → PS ev 39 ad (LWf ev ad x σ) (fun q => s.heap.size ≤ q) s H locs → lv_has ls 4 [(0, .ref b), (1, .ref (ad 0)), (2, .ref (ad 26)), (3, .int (nI i))] → WL p l e s m b below meth c H locs 1675 ls [])
    {x : XX} {σ : MM} {H : Heap} {locs : List Loc} {ls : Array Slot} (hR : Rel x σ) (hP : PS ev 39 ad (LWf ev ad x σ) (fun q => s.heap.size ≤ q) s H locs) (hl : lv_has ls 4 [(0, .ref b), (1, .ref (ad 0)), (2, .ref (ad 26)), (3, .int (nI i))]) : WL p l e s m b below meth c H locs 957 ls [] := by
  have hx := C.1
  have hb := C.2.1
  have hbA : ¬ (fun q : Nat => s.heap.size ≤ q) b := Nat.not_le.mpr hbl
  obtain ⟨r, h1, h2, hR⟩ := B_drained hR 
  refine lv_aload_n hx hb dL_law_957 rfl (lv_at hl 1 rfl) ?_
  refine k_callVi C hP hap hAA (c_X3_drained l ev ad x  _ h1) em_LX (apart_LX hap) gz_X3_drained qML_RL_110 qIM_yX3_drained qSE_yX3_drained ⟨(Nat.le_of_ble_eq_true rfl), (Nat.le_of_ble_eq_true rfl)⟩ (q0 := 0) rfl (by decide) rfl rfl rfl rfl hl.1 rfl (Nat.le_of_ble_eq_true rfl) dL_law_958 ⟨Nat.le_refl _, Nat.le_refl _⟩ (fun H locs hP => ?_)
  refine lv_aload_n hx hb dL_law_961 rfl (lv_at hl 2 rfl) ?_
  refine k_callVi C hP hap hAA (c_X4_drained l ev (fun j => ad (j + 26)) σ  _ h2) em_LM (apart_LM hap) gz_X4_drained qML_RL_113 qIM_yX4_drained qSE_yX4_drained ⟨(Nat.le_of_ble_eq_true rfl), (Nat.le_of_ble_eq_true rfl)⟩ (q0 := 26) rfl (by decide) rfl rfl rfl rfl hl.1 rfl (Nat.le_of_ble_eq_true rfl) dL_law_962 ⟨Nat.le_refl _, Nat.le_refl _⟩ (fun H locs hP => ?_)
  refine lv_icmp_eq (tgt := 1675) hx hb dL_law_965 (by decide) (fun _ => ?_) (fun c => absurd rfl c)
  exact hn _ _ H locs _ hR hP hl
set_option maxHeartbeats 4000000 in
set_option maxRecDepth 100000 in
theorem law_c23 {p : Program} {l : Launch} {e : Env} {s : State} {m : MethodId} {below : List Frame} {meth : Method} {c : Code} {ev : EV} {ad : Nat → Nat} {b L i : Nat} {xs : Nat → Int32} (C : CX ev p s m #[Value.ref b] meth c code 4 ret R_law (fun q => s.heap.size ≤ q)) (hL : L ≤ 3072) (hX : va_X b L xs s s.heap) (hbl : b < s.heap.size) (hap : apart ad 39) (hAA : ∀ j, j < 39 → s.heap.size ≤ ad j) (hi : i + 6 ≤ L)
    (hn : ∀ (x : XX) (σ : MM) (H : Heap) (locs : List Loc) (ls : Array Slot), Rel x σ → PS ev 39 ad (LWf ev ad x σ) (fun q => s.heap.size ≤ q) s H locs → lv_has ls 4 [(0, .ref b), (1, .ref (ad 0)), (2, .ref (ad 26)), (3, .int (nI i))] → WL p l e s m b below meth c H locs 1675 ls [])
    {x : XX} {σ : MM} {H : Heap} {locs : List Loc} {ls : Array Slot} (hR : Rel x σ) (hP : PS ev 39 ad (LWf ev ad x σ) (fun q => s.heap.size ≤ q) s H locs) (hl : lv_has ls 4 [(0, .ref b), (1, .ref (ad 0)), (2, .ref (ad 26)), (3, .int (nI i))]) : WL p l e s m b below meth c H locs 970 ls [] := by
  have hx := C.1
  have hb := C.2.1
  have hbA : ¬ (fun q : Nat => s.heap.size ≤ q) b := Nat.not_le.mpr hbl
  obtain ⟨r, h1, h2, hR⟩ := B_thirds hR 
  refine lv_aload_n hx hb dL_law_970 rfl (lv_at hl 1 rfl) ?_
  refine k_callVi C hP hap hAA (c_X3_thirds l ev ad x  _ h1) em_LX (apart_LX hap) gz_X3_thirds qML_RL_114 qIM_yX3_thirds qSE_yX3_thirds ⟨(Nat.le_of_ble_eq_true rfl), (Nat.le_of_ble_eq_true rfl)⟩ (q0 := 0) rfl (by decide) rfl rfl rfl rfl hl.1 rfl (Nat.le_of_ble_eq_true rfl) dL_law_971 ⟨Nat.le_refl _, Nat.le_refl _⟩ (fun H locs hP => ?_)
  refine lv_aload_n hx hb dL_law_974 rfl (lv_at hl 2 rfl) ?_
  refine k_callVi C hP hap hAA (c_X4_thirds l ev (fun j => ad (j + 26)) σ  _ h2) em_LM (apart_LM hap) gz_X4_thirds qML_RL_117 qIM_yX4_thirds qSE_yX4_thirds ⟨(Nat.le_of_ble_eq_true rfl), (Nat.le_of_ble_eq_true rfl)⟩ (q0 := 26) rfl (by decide) rfl rfl rfl rfl hl.1 rfl (Nat.le_of_ble_eq_true rfl) dL_law_975 ⟨Nat.le_refl _, Nat.le_refl _⟩ (fun H locs hP => ?_)
  refine lv_icmp_eq (tgt := 1675) hx hb dL_law_978 (by decide) (fun _ => ?_) (fun c => absurd rfl c)
  exact hn _ _ H locs _ hR hP hl
set_option maxHeartbeats 4000000 in
set_option maxRecDepth 100000 in
theorem law_c24 {p : Program} {l : Launch} {e : Env} {s : State} {m : MethodId} {below : List Frame} {meth : Method} {c : Code} {ev : EV} {ad : Nat → Nat} {b L i : Nat} {xs : Nat → Int32} (C : CX ev p s m #[Value.ref b] meth c code 4 ret R_law (fun q => s.heap.size ≤ q)) (hL : L ≤ 3072) (hX : va_X b L xs s s.heap) (hbl : b < s.heap.size) (hap : apart ad 39) (hAA : ∀ j, j < 39 → s.heap.size ≤ ad j) (hi : i + 6 ≤ L)
    (hn : ∀ (x : XX) (σ : MM) (H : Heap) (locs : List Loc) (ls : Array Slot), Rel x σ → PS ev 39 ad (LWf ev ad x σ) (fun q => s.heap.size ≤ q) s H locs → lv_has ls 4 [(0, .ref b), (1, .ref (ad 0)), (2, .ref (ad 26)), (3, .int (nI i))] → WL p l e s m b below meth c H locs 1675 ls [])
    {x : XX} {σ : MM} {H : Heap} {locs : List Loc} {ls : Array Slot} (hR : Rel x σ) (hP : PS ev 39 ad (LWf ev ad x σ) (fun q => s.heap.size ≤ q) s H locs) (hl : lv_has ls 4 [(0, .ref b), (1, .ref (ad 0)), (2, .ref (ad 26)), (3, .int (nI i))]) : WL p l e s m b below meth c H locs 983 ls [] := by
  have hx := C.1
  have hb := C.2.1
  have hbA : ¬ (fun q : Nat => s.heap.size ≤ q) b := Nat.not_le.mpr hbl
  obtain ⟨r, x1, σ1, h1, h2, hR⟩ := B_chain hR (xs (nI i + nI 1).toNatClampNeg)
  refine lv_aload_n hx hb dL_law_983 rfl (lv_at hl 1 rfl) ?_
  refine lv_aload_n hx hb dL_law_984 rfl (lv_at hl 0 rfl) ?_
  refine lv_iload_n hx hb dL_law_985 rfl (lv_at hl 3 rfl) ?_
  refine lv_iconst (v := nI 1) hx hb dL_law_986 (by decide) ?_
  refine lv_iadd hx hb dL_law_987 ?_
  refine va_sld hx hb hX hbl hbA hP.2 (pow6 (c := 1) hi hL (by decide)) dL_law_988 ?_
  refine k_callVi C hP hap hAA (c_X3_chain l ev ad x (xs (nI i + nI 1).toNatClampNeg) _ _ h1) em_LX (apart_LX hap) gz_X3_chain qML_RL_118 qIM_yX3_chain qSE_yX3_chain ⟨(Nat.le_of_ble_eq_true rfl), (Nat.le_of_ble_eq_true rfl)⟩ (q0 := 0) rfl (by decide) rfl rfl rfl rfl hl.1 rfl (Nat.le_of_ble_eq_true rfl) dL_law_989 ⟨Nat.le_refl _, Nat.le_refl _⟩ (fun H locs hP => ?_)
  refine lv_aload_n hx hb dL_law_992 rfl (lv_at hl 2 rfl) ?_
  refine lv_aload_n hx hb dL_law_993 rfl (lv_at hl 0 rfl) ?_
  refine lv_iload_n hx hb dL_law_994 rfl (lv_at hl 3 rfl) ?_
  refine lv_iconst (v := nI 1) hx hb dL_law_995 (by decide) ?_
  refine lv_iadd hx hb dL_law_996 ?_
  refine va_sld hx hb hX hbl hbA hP.2 (pow6 (c := 1) hi hL (by decide)) dL_law_997 ?_
  refine k_callVi C hP hap hAA (c_X4_chain l ev (fun j => ad (j + 26)) σ (xs (nI i + nI 1).toNatClampNeg) _ _ h2) em_LM (apart_LM hap) gz_X4_chain qML_RL_121 qIM_yX4_chain qSE_yX4_chain ⟨(Nat.le_of_ble_eq_true rfl), (Nat.le_of_ble_eq_true rfl)⟩ (q0 := 26) rfl (by decide) rfl rfl rfl rfl hl.1 rfl (Nat.le_of_ble_eq_true rfl) dL_law_998 ⟨Nat.le_refl _, Nat.le_refl _⟩ (fun H locs hP => ?_)
  refine lv_icmp_eq (tgt := 1675) hx hb dL_law_1001 (by decide) (fun _ => ?_) (fun c => absurd rfl c)
  exact hn _ _ H locs _ hR hP hl
set_option maxHeartbeats 4000000 in
set_option maxRecDepth 100000 in
theorem law_c25 {p : Program} {l : Launch} {e : Env} {s : State} {m : MethodId} {below : List Frame} {meth : Method} {c : Code} {ev : EV} {ad : Nat → Nat} {b L i : Nat} {xs : Nat → Int32} (C : CX ev p s m #[Value.ref b] meth c code 4 ret R_law (fun q => s.heap.size ≤ q)) (hL : L ≤ 3072) (hX : va_X b L xs s s.heap) (hbl : b < s.heap.size) (hap : apart ad 39) (hAA : ∀ j, j < 39 → s.heap.size ≤ ad j) (hi : i + 6 ≤ L)
    (hn : ∀ (x : XX) (σ : MM) (H : Heap) (locs : List Loc) (ls : Array Slot), Rel x σ → PS ev 39 ad (LWf ev ad x σ) (fun q => s.heap.size ≤ q) s H locs → lv_has ls 4 [(0, .ref b), (1, .ref (ad 0)), (2, .ref (ad 26)), (3, .int (nI i))] → WL p l e s m b below meth c H locs 1675 ls [])
    {x : XX} {σ : MM} {H : Heap} {locs : List Loc} {ls : Array Slot} (hR : Rel x σ) (hP : PS ev 39 ad (LWf ev ad x σ) (fun q => s.heap.size ≤ q) s H locs) (hl : lv_has ls 4 [(0, .ref b), (1, .ref (ad 0)), (2, .ref (ad 26)), (3, .int (nI i))]) : WL p l e s m b below meth c H locs 1006 ls [] := by
  have hx := C.1
  have hb := C.2.1
  have hbA : ¬ (fun q : Nat => s.heap.size ≤ q) b := Nat.not_le.mpr hbl
  obtain ⟨r, σ1, h1, h2, hR⟩ := B_longest hR 
  refine lv_aload_n hx hb dL_law_1006 rfl (lv_at hl 1 rfl) ?_
  refine k_callVi C hP hap hAA (c_X3_longest l ev ad x  _ h1) em_LX (apart_LX hap) gz_X3_longest qML_RL_122 qIM_yX3_longest qSE_yX3_longest ⟨(Nat.le_of_ble_eq_true rfl), (Nat.le_of_ble_eq_true rfl)⟩ (q0 := 0) rfl (by decide) rfl rfl rfl rfl hl.1 rfl (Nat.le_of_ble_eq_true rfl) dL_law_1007 ⟨Nat.le_refl _, Nat.le_refl _⟩ (fun H locs hP => ?_)
  refine lv_aload_n hx hb dL_law_1010 rfl (lv_at hl 2 rfl) ?_
  refine k_callVi C hP hap hAA (c_X4_longest l ev (fun j => ad (j + 26)) σ  _ _ h2) em_LM (apart_LM hap) gz_X4_longest qML_RL_125 qIM_yX4_longest qSE_yX4_longest ⟨(Nat.le_of_ble_eq_true rfl), (Nat.le_of_ble_eq_true rfl)⟩ (q0 := 26) rfl (by decide) rfl rfl rfl rfl hl.1 rfl (Nat.le_of_ble_eq_true rfl) dL_law_1011 ⟨Nat.le_refl _, Nat.le_refl _⟩ (fun H locs hP => ?_)
  refine lv_icmp_eq (tgt := 1675) hx hb dL_law_1014 (by decide) (fun _ => ?_) (fun c => absurd rfl c)
  exact hn _ _ H locs _ hR hP hl
set_option maxHeartbeats 4000000 in
set_option maxRecDepth 100000 in
theorem law_c26 {p : Program} {l : Launch} {e : Env} {s : State} {m : MethodId} {below : List Frame} {meth : Method} {c : Code} {ev : EV} {ad : Nat → Nat} {b L i : Nat} {xs : Nat → Int32} (C : CX ev p s m #[Value.ref b] meth c code 4 ret R_law (fun q => s.heap.size ≤ q)) (hL : L ≤ 3072) (hX : va_X b L xs s s.heap) (hbl : b < s.heap.size) (hap : apart ad 39) (hAA : ∀ j, j < 39 → s.heap.size ≤ ad j) (hi : i + 6 ≤ L)
    (hn : ∀ (x : XX) (σ : MM) (H : Heap) (locs : List Loc) (ls : Array Slot), Rel x σ → PS ev 39 ad (LWf ev ad x σ) (fun q => s.heap.size ≤ q) s H locs → lv_has ls 4 [(0, .ref b), (1, .ref (ad 0)), (2, .ref (ad 26)), (3, .int (nI i))] → WL p l e s m b below meth c H locs 1675 ls [])
    {x : XX} {σ : MM} {H : Heap} {locs : List Loc} {ls : Array Slot} (hR : Rel x σ) (hP : PS ev 39 ad (LWf ev ad x σ) (fun q => s.heap.size ≤ q) s H locs) (hl : lv_has ls 4 [(0, .ref b), (1, .ref (ad 0)), (2, .ref (ad 26)), (3, .int (nI i))]) : WL p l e s m b below meth c H locs 1019 ls [] := by
  have hx := C.1
  have hb := C.2.1
  have hbA : ¬ (fun q : Nat => s.heap.size ≤ q) b := Nat.not_le.mpr hbl
  obtain ⟨r, x1, σ1, h1, h2, hR⟩ := B_shuts hR (xs (nI i + nI 1).toNatClampNeg)
  refine lv_aload_n hx hb dL_law_1019 rfl (lv_at hl 1 rfl) ?_
  refine lv_aload_n hx hb dL_law_1020 rfl (lv_at hl 0 rfl) ?_
  refine lv_iload_n hx hb dL_law_1021 rfl (lv_at hl 3 rfl) ?_
  refine lv_iconst (v := nI 1) hx hb dL_law_1022 (by decide) ?_
  refine lv_iadd hx hb dL_law_1023 ?_
  refine va_sld hx hb hX hbl hbA hP.2 (pow6 (c := 1) hi hL (by decide)) dL_law_1024 ?_
  refine k_callVi C hP hap hAA (c_X3_shuts l ev ad x (xs (nI i + nI 1).toNatClampNeg) _ _ h1) em_LX (apart_LX hap) gz_X3_shuts qML_RL_126 qIM_yX3_shuts qSE_yX3_shuts ⟨(Nat.le_of_ble_eq_true rfl), (Nat.le_of_ble_eq_true rfl)⟩ (q0 := 0) rfl (by decide) rfl rfl rfl rfl hl.1 rfl (Nat.le_of_ble_eq_true rfl) dL_law_1025 ⟨Nat.le_refl _, Nat.le_refl _⟩ (fun H locs hP => ?_)
  refine lv_aload_n hx hb dL_law_1028 rfl (lv_at hl 2 rfl) ?_
  refine lv_aload_n hx hb dL_law_1029 rfl (lv_at hl 0 rfl) ?_
  refine lv_iload_n hx hb dL_law_1030 rfl (lv_at hl 3 rfl) ?_
  refine lv_iconst (v := nI 1) hx hb dL_law_1031 (by decide) ?_
  refine lv_iadd hx hb dL_law_1032 ?_
  refine va_sld hx hb hX hbl hbA hP.2 (pow6 (c := 1) hi hL (by decide)) dL_law_1033 ?_
  refine k_callVi C hP hap hAA (c_X4_shuts_ l ev (fun j => ad (j + 26)) σ (xs (nI i + nI 1).toNatClampNeg) _ _ h2) em_LM (apart_LM hap) gz_X4_shuts_ qML_RL_129 qIM_yX4_shuts_ qSE_yX4_shuts_ ⟨(Nat.le_of_ble_eq_true rfl), (Nat.le_of_ble_eq_true rfl)⟩ (q0 := 26) rfl (by decide) rfl rfl rfl rfl hl.1 rfl (Nat.le_of_ble_eq_true rfl) dL_law_1034 ⟨Nat.le_refl _, Nat.le_refl _⟩ (fun H locs hP => ?_)
  refine lv_icmp_eq (tgt := 1675) hx hb dL_law_1037 (by decide) (fun _ => ?_) (fun c => absurd rfl c)
  exact hn _ _ H locs _ hR hP hl
set_option maxHeartbeats 4000000 in
set_option maxRecDepth 100000 in
theorem law_c27 {p : Program} {l : Launch} {e : Env} {s : State} {m : MethodId} {below : List Frame} {meth : Method} {c : Code} {ev : EV} {ad : Nat → Nat} {b L i : Nat} {xs : Nat → Int32} (C : CX ev p s m #[Value.ref b] meth c code 4 ret R_law (fun q => s.heap.size ≤ q)) (hL : L ≤ 3072) (hX : va_X b L xs s s.heap) (hbl : b < s.heap.size) (hap : apart ad 39) (hAA : ∀ j, j < 39 → s.heap.size ≤ ad j) (hi : i + 6 ≤ L)
    (hn : ∀ (x : XX) (σ : MM) (H : Heap) (locs : List Loc) (ls : Array Slot), Rel x σ → PS ev 39 ad (LWf ev ad x σ) (fun q => s.heap.size ≤ q) s H locs → lv_has ls 4 [(0, .ref b), (1, .ref (ad 0)), (2, .ref (ad 26)), (3, .int (nI i))] → WL p l e s m b below meth c H locs 1675 ls [])
    {x : XX} {σ : MM} {H : Heap} {locs : List Loc} {ls : Array Slot} (hR : Rel x σ) (hP : PS ev 39 ad (LWf ev ad x σ) (fun q => s.heap.size ≤ q) s H locs) (hl : lv_has ls 4 [(0, .ref b), (1, .ref (ad 0)), (2, .ref (ad 26)), (3, .int (nI i))]) : WL p l e s m b below meth c H locs 1042 ls [] := by
  have hx := C.1
  have hb := C.2.1
  have hbA : ¬ (fun q : Nat => s.heap.size ≤ q) b := Nat.not_le.mpr hbl
  obtain ⟨r, σ1, h1, h2, hR⟩ := B_calm hR 
  refine lv_aload_n hx hb dL_law_1042 rfl (lv_at hl 1 rfl) ?_
  refine k_callVi C hP hap hAA (c_X3_calm l ev ad x  _ h1) em_LX (apart_LX hap) gz_X3_calm qML_RL_130 qIM_yX3_calm qSE_yX3_calm ⟨(Nat.le_of_ble_eq_true rfl), (Nat.le_of_ble_eq_true rfl)⟩ (q0 := 0) rfl (by decide) rfl rfl rfl rfl hl.1 rfl (Nat.le_of_ble_eq_true rfl) dL_law_1043 ⟨Nat.le_refl _, Nat.le_refl _⟩ (fun H locs hP => ?_)
  refine lv_aload_n hx hb dL_law_1046 rfl (lv_at hl 2 rfl) ?_
  refine k_callVi C hP hap hAA (c_X4_calm l ev (fun j => ad (j + 26)) σ  _ _ h2) em_LM (apart_LM hap) gz_X4_calm qML_RL_133 qIM_yX4_calm qSE_yX4_calm ⟨(Nat.le_of_ble_eq_true rfl), (Nat.le_of_ble_eq_true rfl)⟩ (q0 := 26) rfl (by decide) rfl rfl rfl rfl hl.1 rfl (Nat.le_of_ble_eq_true rfl) dL_law_1047 ⟨Nat.le_refl _, Nat.le_refl _⟩ (fun H locs hP => ?_)
  refine lv_icmp_eq (tgt := 1675) hx hb dL_law_1050 (by decide) (fun _ => ?_) (fun c => absurd rfl c)
  exact hn _ _ H locs _ hR hP hl
set_option maxHeartbeats 4000000 in
set_option maxRecDepth 100000 in
theorem law_c28 {p : Program} {l : Launch} {e : Env} {s : State} {m : MethodId} {below : List Frame} {meth : Method} {c : Code} {ev : EV} {ad : Nat → Nat} {b L i : Nat} {xs : Nat → Int32} (C : CX ev p s m #[Value.ref b] meth c code 4 ret R_law (fun q => s.heap.size ≤ q)) (hL : L ≤ 3072) (hX : va_X b L xs s s.heap) (hbl : b < s.heap.size) (hap : apart ad 39) (hAA : ∀ j, j < 39 → s.heap.size ≤ ad j) (hi : i + 6 ≤ L)
    (hn : ∀ (x : XX) (σ : MM) (H : Heap) (locs : List Loc) (ls : Array Slot), Rel x σ → PS ev 39 ad (LWf ev ad x σ) (fun q => s.heap.size ≤ q) s H locs → lv_has ls 4 [(0, .ref b), (1, .ref (ad 0)), (2, .ref (ad 26)), (3, .int (nI i))] → WL p l e s m b below meth c H locs 1675 ls [])
    {x : XX} {σ : MM} {H : Heap} {locs : List Loc} {ls : Array Slot} (hR : Rel x σ) (hP : PS ev 39 ad (LWf ev ad x σ) (fun q => s.heap.size ≤ q) s H locs) (hl : lv_has ls 4 [(0, .ref b), (1, .ref (ad 0)), (2, .ref (ad 26)), (3, .int (nI i))]) : WL p l e s m b below meth c H locs 1055 ls [] := by
  have hx := C.1
  have hb := C.2.1
  have hbA : ¬ (fun q : Nat => s.heap.size ≤ q) b := Nat.not_le.mpr hbl
  obtain ⟨r, x1, σ1, h1, h2, hR⟩ := B_part hR (xs (nI i + nI 1).toNatClampNeg)
  refine lv_aload_n hx hb dL_law_1055 rfl (lv_at hl 1 rfl) ?_
  refine lv_aload_n hx hb dL_law_1056 rfl (lv_at hl 0 rfl) ?_
  refine lv_iload_n hx hb dL_law_1057 rfl (lv_at hl 3 rfl) ?_
  refine lv_iconst (v := nI 1) hx hb dL_law_1058 (by decide) ?_
  refine lv_iadd hx hb dL_law_1059 ?_
  refine va_sld hx hb hX hbl hbA hP.2 (pow6 (c := 1) hi hL (by decide)) dL_law_1060 ?_
  refine k_callVi C hP hap hAA (c_X3_part l ev ad x (xs (nI i + nI 1).toNatClampNeg) _ _ h1) em_LX (apart_LX hap) gz_X3_part qML_RL_134 qIM_yX3_part qSE_yX3_part ⟨(Nat.le_of_ble_eq_true rfl), (Nat.le_of_ble_eq_true rfl)⟩ (q0 := 0) rfl (by decide) rfl rfl rfl rfl hl.1 rfl (Nat.le_of_ble_eq_true rfl) dL_law_1061 ⟨Nat.le_refl _, Nat.le_refl _⟩ (fun H locs hP => ?_)
  refine lv_aload_n hx hb dL_law_1064 rfl (lv_at hl 2 rfl) ?_
  refine lv_aload_n hx hb dL_law_1065 rfl (lv_at hl 0 rfl) ?_
  refine lv_iload_n hx hb dL_law_1066 rfl (lv_at hl 3 rfl) ?_
  refine lv_iconst (v := nI 1) hx hb dL_law_1067 (by decide) ?_
  refine lv_iadd hx hb dL_law_1068 ?_
  refine va_sld hx hb hX hbl hbA hP.2 (pow6 (c := 1) hi hL (by decide)) dL_law_1069 ?_
  refine k_callVi C hP hap hAA (c_X4_part l ev (fun j => ad (j + 26)) σ (xs (nI i + nI 1).toNatClampNeg) _ _ h2) em_LM (apart_LM hap) gz_X4_part qML_RL_137 qIM_yX4_part qSE_yX4_part ⟨(Nat.le_of_ble_eq_true rfl), (Nat.le_of_ble_eq_true rfl)⟩ (q0 := 26) rfl (by decide) rfl rfl rfl rfl hl.1 rfl (Nat.le_of_ble_eq_true rfl) dL_law_1070 ⟨Nat.le_refl _, Nat.le_refl _⟩ (fun H locs hP => ?_)
  refine lv_icmp_eq (tgt := 1675) hx hb dL_law_1073 (by decide) (fun _ => ?_) (fun c => absurd rfl c)
  exact hn _ _ H locs _ hR hP hl
set_option maxHeartbeats 4000000 in
set_option maxRecDepth 100000 in
theorem law_c29 {p : Program} {l : Launch} {e : Env} {s : State} {m : MethodId} {below : List Frame} {meth : Method} {c : Code} {ev : EV} {ad : Nat → Nat} {b L i : Nat} {xs : Nat → Int32} (C : CX ev p s m #[Value.ref b] meth c code 4 ret R_law (fun q => s.heap.size ≤ q)) (hL : L ≤ 3072) (hX : va_X b L xs s s.heap) (hbl : b < s.heap.size) (hap : apart ad 39) (hAA : ∀ j, j < 39 → s.heap.size ≤ ad j) (hi : i + 6 ≤ L)
    (hn : ∀ (x : XX) (σ : MM) (H : Heap) (locs : List Loc) (ls : Array Slot), Rel x σ → PS ev 39 ad (LWf ev ad x σ) (fun q => s.heap.size ≤ q) s H locs → lv_has ls 4 [(0, .ref b), (1, .ref (ad 0)), (2, .ref (ad 26)), (3, .int (nI i))] → WL p l e s m b below meth c H locs 1675 ls [])
    {x : XX} {σ : MM} {H : Heap} {locs : List Loc} {ls : Array Slot} (hR : Rel x σ) (hP : PS ev 39 ad (LWf ev ad x σ) (fun q => s.heap.size ≤ q) s H locs) (hl : lv_has ls 4 [(0, .ref b), (1, .ref (ad 0)), (2, .ref (ad 26)), (3, .int (nI i))]) : WL p l e s m b below meth c H locs 1078 ls [] := by
  have hx := C.1
  have hb := C.2.1
  have hbA : ¬ (fun q : Nat => s.heap.size ≤ q) b := Nat.not_le.mpr hbl
  obtain ⟨r, h1, h2, hR⟩ := B_parts hR 
  refine lv_aload_n hx hb dL_law_1078 rfl (lv_at hl 1 rfl) ?_
  refine k_callVi C hP hap hAA (c_X3_parts l ev ad x  _ h1) em_LX (apart_LX hap) gz_X3_parts qML_RL_138 qIM_yX3_parts qSE_yX3_parts ⟨(Nat.le_of_ble_eq_true rfl), (Nat.le_of_ble_eq_true rfl)⟩ (q0 := 0) rfl (by decide) rfl rfl rfl rfl hl.1 rfl (Nat.le_of_ble_eq_true rfl) dL_law_1079 ⟨Nat.le_refl _, Nat.le_refl _⟩ (fun H locs hP => ?_)
  refine lv_aload_n hx hb dL_law_1082 rfl (lv_at hl 2 rfl) ?_
  refine k_callVi C hP hap hAA (c_X4_parts l ev (fun j => ad (j + 26)) σ  _ h2) em_LM (apart_LM hap) gz_X4_parts qML_RL_141 qIM_yX4_parts qSE_yX4_parts ⟨(Nat.le_of_ble_eq_true rfl), (Nat.le_of_ble_eq_true rfl)⟩ (q0 := 26) rfl (by decide) rfl rfl rfl rfl hl.1 rfl (Nat.le_of_ble_eq_true rfl) dL_law_1083 ⟨Nat.le_refl _, Nat.le_refl _⟩ (fun H locs hP => ?_)
  refine lv_icmp_eq (tgt := 1675) hx hb dL_law_1086 (by decide) (fun _ => ?_) (fun c => absurd rfl c)
  exact hn _ _ H locs _ hR hP hl
set_option maxHeartbeats 4000000 in
set_option maxRecDepth 100000 in
theorem law_c30 {p : Program} {l : Launch} {e : Env} {s : State} {m : MethodId} {below : List Frame} {meth : Method} {c : Code} {ev : EV} {ad : Nat → Nat} {b L i : Nat} {xs : Nat → Int32} (C : CX ev p s m #[Value.ref b] meth c code 4 ret R_law (fun q => s.heap.size ≤ q)) (hL : L ≤ 3072) (hX : va_X b L xs s s.heap) (hbl : b < s.heap.size) (hap : apart ad 39) (hAA : ∀ j, j < 39 → s.heap.size ≤ ad j) (hi : i + 6 ≤ L)
    (hn : ∀ (x : XX) (σ : MM) (H : Heap) (locs : List Loc) (ls : Array Slot), Rel x σ → PS ev 39 ad (LWf ev ad x σ) (fun q => s.heap.size ≤ q) s H locs → lv_has ls 4 [(0, .ref b), (1, .ref (ad 0)), (2, .ref (ad 26)), (3, .int (nI i))] → WL p l e s m b below meth c H locs 1675 ls [])
    {x : XX} {σ : MM} {H : Heap} {locs : List Loc} {ls : Array Slot} (hR : Rel x σ) (hP : PS ev 39 ad (LWf ev ad x σ) (fun q => s.heap.size ≤ q) s H locs) (hl : lv_has ls 4 [(0, .ref b), (1, .ref (ad 0)), (2, .ref (ad 26)), (3, .int (nI i))]) : WL p l e s m b below meth c H locs 1091 ls [] := by
  have hx := C.1
  have hb := C.2.1
  have hbA : ¬ (fun q : Nat => s.heap.size ≤ q) b := Nat.not_le.mpr hbl
  obtain ⟨r, h1, h2, hR⟩ := B_ditches hR 
  refine lv_aload_n hx hb dL_law_1091 rfl (lv_at hl 1 rfl) ?_
  refine k_callVi C hP hap hAA (c_X3_ditches l ev ad x  _ h1) em_LX (apart_LX hap) gz_X3_ditches qML_RL_142 qIM_yX3_ditches qSE_yX3_ditches ⟨(Nat.le_of_ble_eq_true rfl), (Nat.le_of_ble_eq_true rfl)⟩ (q0 := 0) rfl (by decide) rfl rfl rfl rfl hl.1 rfl (Nat.le_of_ble_eq_true rfl) dL_law_1092 ⟨Nat.le_refl _, Nat.le_refl _⟩ (fun H locs hP => ?_)
  refine lv_aload_n hx hb dL_law_1095 rfl (lv_at hl 2 rfl) ?_
  refine k_callVi C hP hap hAA (c_X4_ditches l ev (fun j => ad (j + 26)) σ  _ h2) em_LM (apart_LM hap) gz_X4_ditches qML_RL_145 qIM_yX4_ditches qSE_yX4_ditches ⟨(Nat.le_of_ble_eq_true rfl), (Nat.le_of_ble_eq_true rfl)⟩ (q0 := 26) rfl (by decide) rfl rfl rfl rfl hl.1 rfl (Nat.le_of_ble_eq_true rfl) dL_law_1096 ⟨Nat.le_refl _, Nat.le_refl _⟩ (fun H locs hP => ?_)
  refine lv_icmp_eq (tgt := 1675) hx hb dL_law_1099 (by decide) (fun _ => ?_) (fun c => absurd rfl c)
  exact hn _ _ H locs _ hR hP hl
set_option maxHeartbeats 4000000 in
set_option maxRecDepth 100000 in
theorem law_c31 {p : Program} {l : Launch} {e : Env} {s : State} {m : MethodId} {below : List Frame} {meth : Method} {c : Code} {ev : EV} {ad : Nat → Nat} {b L i : Nat} {xs : Nat → Int32} (C : CX ev p s m #[Value.ref b] meth c code 4 ret R_law (fun q => s.heap.size ≤ q)) (hL : L ≤ 3072) (hX : va_X b L xs s s.heap) (hbl : b < s.heap.size) (hap : apart ad 39) (hAA : ∀ j, j < 39 → s.heap.size ≤ ad j) (hi : i + 6 ≤ L)
    (hn : ∀ (x : XX) (σ : MM) (H : Heap) (locs : List Loc) (ls : Array Slot), Rel x σ → PS ev 39 ad (LWf ev ad x σ) (fun q => s.heap.size ≤ q) s H locs → lv_has ls 4 [(0, .ref b), (1, .ref (ad 0)), (2, .ref (ad 26)), (3, .int (nI i))] → WL p l e s m b below meth c H locs 1675 ls [])
    {x : XX} {σ : MM} {H : Heap} {locs : List Loc} {ls : Array Slot} (hR : Rel x σ) (hP : PS ev 39 ad (LWf ev ad x σ) (fun q => s.heap.size ≤ q) s H locs) (hl : lv_has ls 4 [(0, .ref b), (1, .ref (ad 0)), (2, .ref (ad 26)), (3, .int (nI i))]) : WL p l e s m b below meth c H locs 1104 ls [] := by
  have hx := C.1
  have hb := C.2.1
  have hbA : ¬ (fun q : Nat => s.heap.size ≤ q) b := Nat.not_le.mpr hbl
  obtain ⟨r, x1, σ1, h1, h2, hR⟩ := B_owned hR (xs (nI i + nI 1).toNatClampNeg)
  refine lv_aload_n hx hb dL_law_1104 rfl (lv_at hl 1 rfl) ?_
  refine lv_aload_n hx hb dL_law_1105 rfl (lv_at hl 0 rfl) ?_
  refine lv_iload_n hx hb dL_law_1106 rfl (lv_at hl 3 rfl) ?_
  refine lv_iconst (v := nI 1) hx hb dL_law_1107 (by decide) ?_
  refine lv_iadd hx hb dL_law_1108 ?_
  refine va_sld hx hb hX hbl hbA hP.2 (pow6 (c := 1) hi hL (by decide)) dL_law_1109 ?_
  refine k_callVi C hP hap hAA (c_X3_owned l ev ad x (xs (nI i + nI 1).toNatClampNeg) _ _ h1) em_LX (apart_LX hap) gz_X3_owned qML_RL_146 qIM_yX3_owned qSE_yX3_owned ⟨(Nat.le_of_ble_eq_true rfl), (Nat.le_of_ble_eq_true rfl)⟩ (q0 := 0) rfl (by decide) rfl rfl rfl rfl hl.1 rfl (Nat.le_of_ble_eq_true rfl) dL_law_1110 ⟨Nat.le_refl _, Nat.le_refl _⟩ (fun H locs hP => ?_)
  refine lv_aload_n hx hb dL_law_1113 rfl (lv_at hl 2 rfl) ?_
  refine lv_aload_n hx hb dL_law_1114 rfl (lv_at hl 0 rfl) ?_
  refine lv_iload_n hx hb dL_law_1115 rfl (lv_at hl 3 rfl) ?_
  refine lv_iconst (v := nI 1) hx hb dL_law_1116 (by decide) ?_
  refine lv_iadd hx hb dL_law_1117 ?_
  refine va_sld hx hb hX hbl hbA hP.2 (pow6 (c := 1) hi hL (by decide)) dL_law_1118 ?_
  refine k_callVi C hP hap hAA (c_X4_owned l ev (fun j => ad (j + 26)) σ (xs (nI i + nI 1).toNatClampNeg) _ _ h2) em_LM (apart_LM hap) gz_X4_owned qML_RL_149 qIM_yX4_owned qSE_yX4_owned ⟨(Nat.le_of_ble_eq_true rfl), (Nat.le_of_ble_eq_true rfl)⟩ (q0 := 26) rfl (by decide) rfl rfl rfl rfl hl.1 rfl (Nat.le_of_ble_eq_true rfl) dL_law_1119 ⟨Nat.le_refl _, Nat.le_refl _⟩ (fun H locs hP => ?_)
  refine lv_icmp_eq (tgt := 1675) hx hb dL_law_1122 (by decide) (fun _ => ?_) (fun c => absurd rfl c)
  exact hn _ _ H locs _ hR hP hl
set_option maxHeartbeats 4000000 in
set_option maxRecDepth 100000 in
theorem law_c32 {p : Program} {l : Launch} {e : Env} {s : State} {m : MethodId} {below : List Frame} {meth : Method} {c : Code} {ev : EV} {ad : Nat → Nat} {b L i : Nat} {xs : Nat → Int32} (C : CX ev p s m #[Value.ref b] meth c code 4 ret R_law (fun q => s.heap.size ≤ q)) (hL : L ≤ 3072) (hX : va_X b L xs s s.heap) (hbl : b < s.heap.size) (hap : apart ad 39) (hAA : ∀ j, j < 39 → s.heap.size ≤ ad j) (hi : i + 6 ≤ L)
    (hn : ∀ (x : XX) (σ : MM) (H : Heap) (locs : List Loc) (ls : Array Slot), Rel x σ → PS ev 39 ad (LWf ev ad x σ) (fun q => s.heap.size ≤ q) s H locs → lv_has ls 4 [(0, .ref b), (1, .ref (ad 0)), (2, .ref (ad 26)), (3, .int (nI i))] → WL p l e s m b below meth c H locs 1675 ls [])
    {x : XX} {σ : MM} {H : Heap} {locs : List Loc} {ls : Array Slot} (hR : Rel x σ) (hP : PS ev 39 ad (LWf ev ad x σ) (fun q => s.heap.size ≤ q) s H locs) (hl : lv_has ls 4 [(0, .ref b), (1, .ref (ad 0)), (2, .ref (ad 26)), (3, .int (nI i))]) : WL p l e s m b below meth c H locs 1127 ls [] := by
  have hx := C.1
  have hb := C.2.1
  have hbA : ¬ (fun q : Nat => s.heap.size ≤ q) b := Nat.not_le.mpr hbl
  obtain ⟨r, x1, σ1, h1, h2, hR⟩ := B_coloured hR (xs (nI i + nI 1).toNatClampNeg)
  refine lv_aload_n hx hb dL_law_1127 rfl (lv_at hl 1 rfl) ?_
  refine lv_aload_n hx hb dL_law_1128 rfl (lv_at hl 0 rfl) ?_
  refine lv_iload_n hx hb dL_law_1129 rfl (lv_at hl 3 rfl) ?_
  refine lv_iconst (v := nI 1) hx hb dL_law_1130 (by decide) ?_
  refine lv_iadd hx hb dL_law_1131 ?_
  refine va_sld hx hb hX hbl hbA hP.2 (pow6 (c := 1) hi hL (by decide)) dL_law_1132 ?_
  refine k_callVi C hP hap hAA (c_X3_coloured l ev ad x (xs (nI i + nI 1).toNatClampNeg) _ _ h1) em_LX (apart_LX hap) gz_X3_coloured qML_RL_150 qIM_yX3_coloured qSE_yX3_coloured ⟨(Nat.le_of_ble_eq_true rfl), (Nat.le_of_ble_eq_true rfl)⟩ (q0 := 0) rfl (by decide) rfl rfl rfl rfl hl.1 rfl (Nat.le_of_ble_eq_true rfl) dL_law_1133 ⟨Nat.le_refl _, Nat.le_refl _⟩ (fun H locs hP => ?_)
  refine lv_aload_n hx hb dL_law_1136 rfl (lv_at hl 2 rfl) ?_
  refine lv_aload_n hx hb dL_law_1137 rfl (lv_at hl 0 rfl) ?_
  refine lv_iload_n hx hb dL_law_1138 rfl (lv_at hl 3 rfl) ?_
  refine lv_iconst (v := nI 1) hx hb dL_law_1139 (by decide) ?_
  refine lv_iadd hx hb dL_law_1140 ?_
  refine va_sld hx hb hX hbl hbA hP.2 (pow6 (c := 1) hi hL (by decide)) dL_law_1141 ?_
  refine k_callVi C hP hap hAA (c_X4_coloured l ev (fun j => ad (j + 26)) σ (xs (nI i + nI 1).toNatClampNeg) _ _ h2) em_LM (apart_LM hap) gz_X4_coloured qML_RL_153 qIM_yX4_coloured qSE_yX4_coloured ⟨(Nat.le_of_ble_eq_true rfl), (Nat.le_of_ble_eq_true rfl)⟩ (q0 := 26) rfl (by decide) rfl rfl rfl rfl hl.1 rfl (Nat.le_of_ble_eq_true rfl) dL_law_1142 ⟨Nat.le_refl _, Nat.le_refl _⟩ (fun H locs hP => ?_)
  refine lv_icmp_eq (tgt := 1675) hx hb dL_law_1145 (by decide) (fun _ => ?_) (fun c => absurd rfl c)
  exact hn _ _ H locs _ hR hP hl
set_option maxHeartbeats 4000000 in
set_option maxRecDepth 100000 in
theorem law_c33 {p : Program} {l : Launch} {e : Env} {s : State} {m : MethodId} {below : List Frame} {meth : Method} {c : Code} {ev : EV} {ad : Nat → Nat} {b L i : Nat} {xs : Nat → Int32} (C : CX ev p s m #[Value.ref b] meth c code 4 ret R_law (fun q => s.heap.size ≤ q)) (hL : L ≤ 3072) (hX : va_X b L xs s s.heap) (hbl : b < s.heap.size) (hap : apart ad 39) (hAA : ∀ j, j < 39 → s.heap.size ≤ ad j) (hi : i + 6 ≤ L)
    (hn : ∀ (x : XX) (σ : MM) (H : Heap) (locs : List Loc) (ls : Array Slot), Rel x σ → PS ev 39 ad (LWf ev ad x σ) (fun q => s.heap.size ≤ q) s H locs → lv_has ls 4 [(0, .ref b), (1, .ref (ad 0)), (2, .ref (ad 26)), (3, .int (nI i))] → WL p l e s m b below meth c H locs 1675 ls [])
    {x : XX} {σ : MM} {H : Heap} {locs : List Loc} {ls : Array Slot} (hR : Rel x σ) (hP : PS ev 39 ad (LWf ev ad x σ) (fun q => s.heap.size ≤ q) s H locs) (hl : lv_has ls 4 [(0, .ref b), (1, .ref (ad 0)), (2, .ref (ad 26)), (3, .int (nI i))]) : WL p l e s m b below meth c H locs 1150 ls [] := by
  have hx := C.1
  have hb := C.2.1
  have hbA : ¬ (fun q : Nat => s.heap.size ≤ q) b := Nat.not_le.mpr hbl
  obtain ⟨r, x1, σ1, h1, h2, hR⟩ := B_gives hR (xs (nI i + nI 1).toNatClampNeg)
  refine lv_aload_n hx hb dL_law_1150 rfl (lv_at hl 1 rfl) ?_
  refine lv_aload_n hx hb dL_law_1151 rfl (lv_at hl 0 rfl) ?_
  refine lv_iload_n hx hb dL_law_1152 rfl (lv_at hl 3 rfl) ?_
  refine lv_iconst (v := nI 1) hx hb dL_law_1153 (by decide) ?_
  refine lv_iadd hx hb dL_law_1154 ?_
  refine va_sld hx hb hX hbl hbA hP.2 (pow6 (c := 1) hi hL (by decide)) dL_law_1155 ?_
  refine k_callVi C hP hap hAA (c_X3_gives l ev ad x (xs (nI i + nI 1).toNatClampNeg) _ _ h1) em_LX (apart_LX hap) gz_X3_gives qML_RL_154 qIM_yX3_gives qSE_yX3_gives ⟨(Nat.le_of_ble_eq_true rfl), (Nat.le_of_ble_eq_true rfl)⟩ (q0 := 0) rfl (by decide) rfl rfl rfl rfl hl.1 rfl (Nat.le_of_ble_eq_true rfl) dL_law_1156 ⟨Nat.le_refl _, Nat.le_refl _⟩ (fun H locs hP => ?_)
  refine lv_aload_n hx hb dL_law_1159 rfl (lv_at hl 2 rfl) ?_
  refine lv_aload_n hx hb dL_law_1160 rfl (lv_at hl 0 rfl) ?_
  refine lv_iload_n hx hb dL_law_1161 rfl (lv_at hl 3 rfl) ?_
  refine lv_iconst (v := nI 1) hx hb dL_law_1162 (by decide) ?_
  refine lv_iadd hx hb dL_law_1163 ?_
  refine va_sld hx hb hX hbl hbA hP.2 (pow6 (c := 1) hi hL (by decide)) dL_law_1164 ?_
  refine k_callVi C hP hap hAA (c_X4_gives l ev (fun j => ad (j + 26)) σ (xs (nI i + nI 1).toNatClampNeg) _ _ h2) em_LM (apart_LM hap) gz_X4_gives qML_RL_157 qIM_yX4_gives qSE_yX4_gives ⟨(Nat.le_of_ble_eq_true rfl), (Nat.le_of_ble_eq_true rfl)⟩ (q0 := 26) rfl (by decide) rfl rfl rfl rfl hl.1 rfl (Nat.le_of_ble_eq_true rfl) dL_law_1165 ⟨Nat.le_refl _, Nat.le_refl _⟩ (fun H locs hP => ?_)
  refine lv_icmp_eq (tgt := 1675) hx hb dL_law_1168 (by decide) (fun _ => ?_) (fun c => absurd rfl c)
  exact hn _ _ H locs _ hR hP hl
set_option maxHeartbeats 4000000 in
set_option maxRecDepth 100000 in
theorem law_c34 {p : Program} {l : Launch} {e : Env} {s : State} {m : MethodId} {below : List Frame} {meth : Method} {c : Code} {ev : EV} {ad : Nat → Nat} {b L i : Nat} {xs : Nat → Int32} (C : CX ev p s m #[Value.ref b] meth c code 4 ret R_law (fun q => s.heap.size ≤ q)) (hL : L ≤ 3072) (hX : va_X b L xs s s.heap) (hbl : b < s.heap.size) (hap : apart ad 39) (hAA : ∀ j, j < 39 → s.heap.size ≤ ad j) (hi : i + 6 ≤ L)
    (hn : ∀ (x : XX) (σ : MM) (H : Heap) (locs : List Loc) (ls : Array Slot), Rel x σ → PS ev 39 ad (LWf ev ad x σ) (fun q => s.heap.size ≤ q) s H locs → lv_has ls 4 [(0, .ref b), (1, .ref (ad 0)), (2, .ref (ad 26)), (3, .int (nI i))] → WL p l e s m b below meth c H locs 1675 ls [])
    {x : XX} {σ : MM} {H : Heap} {locs : List Loc} {ls : Array Slot} (hR : Rel x σ) (hP : PS ev 39 ad (LWf ev ad x σ) (fun q => s.heap.size ≤ q) s H locs) (hl : lv_has ls 4 [(0, .ref b), (1, .ref (ad 0)), (2, .ref (ad 26)), (3, .int (nI i))]) : WL p l e s m b below meth c H locs 1173 ls [] := by
  have hx := C.1
  have hb := C.2.1
  have hbA : ¬ (fun q : Nat => s.heap.size ≤ q) b := Nat.not_le.mpr hbl
  obtain ⟨r, h1, h2, hR⟩ := B_gaps hR 
  refine lv_aload_n hx hb dL_law_1173 rfl (lv_at hl 1 rfl) ?_
  refine k_callVi C hP hap hAA (c_X3_gaps l ev ad x  _ h1) em_LX (apart_LX hap) gz_X3_gaps qML_RL_158 qIM_yX3_gaps qSE_yX3_gaps ⟨(Nat.le_of_ble_eq_true rfl), (Nat.le_of_ble_eq_true rfl)⟩ (q0 := 0) rfl (by decide) rfl rfl rfl rfl hl.1 rfl (Nat.le_of_ble_eq_true rfl) dL_law_1174 ⟨Nat.le_refl _, Nat.le_refl _⟩ (fun H locs hP => ?_)
  refine lv_aload_n hx hb dL_law_1177 rfl (lv_at hl 2 rfl) ?_
  refine k_callVi C hP hap hAA (c_X4_gaps l ev (fun j => ad (j + 26)) σ  _ h2) em_LM (apart_LM hap) gz_X4_gaps qML_RL_161 qIM_yX4_gaps qSE_yX4_gaps ⟨(Nat.le_of_ble_eq_true rfl), (Nat.le_of_ble_eq_true rfl)⟩ (q0 := 26) rfl (by decide) rfl rfl rfl rfl hl.1 rfl (Nat.le_of_ble_eq_true rfl) dL_law_1178 ⟨Nat.le_refl _, Nat.le_refl _⟩ (fun H locs hP => ?_)
  refine lv_icmp_eq (tgt := 1675) hx hb dL_law_1181 (by decide) (fun _ => ?_) (fun c => absurd rfl c)
  exact hn _ _ H locs _ hR hP hl
set_option maxHeartbeats 4000000 in
set_option maxRecDepth 100000 in
theorem law_c35 {p : Program} {l : Launch} {e : Env} {s : State} {m : MethodId} {below : List Frame} {meth : Method} {c : Code} {ev : EV} {ad : Nat → Nat} {b L i : Nat} {xs : Nat → Int32} (C : CX ev p s m #[Value.ref b] meth c code 4 ret R_law (fun q => s.heap.size ≤ q)) (hL : L ≤ 3072) (hX : va_X b L xs s s.heap) (hbl : b < s.heap.size) (hap : apart ad 39) (hAA : ∀ j, j < 39 → s.heap.size ≤ ad j) (hi : i + 6 ≤ L)
    (hn : ∀ (x : XX) (σ : MM) (H : Heap) (locs : List Loc) (ls : Array Slot), Rel x σ → PS ev 39 ad (LWf ev ad x σ) (fun q => s.heap.size ≤ q) s H locs → lv_has ls 4 [(0, .ref b), (1, .ref (ad 0)), (2, .ref (ad 26)), (3, .int (nI i))] → WL p l e s m b below meth c H locs 1675 ls [])
    {x : XX} {σ : MM} {H : Heap} {locs : List Loc} {ls : Array Slot} (hR : Rel x σ) (hP : PS ev 39 ad (LWf ev ad x σ) (fun q => s.heap.size ≤ q) s H locs) (hl : lv_has ls 4 [(0, .ref b), (1, .ref (ad 0)), (2, .ref (ad 26)), (3, .int (nI i))]) : WL p l e s m b below meth c H locs 1186 ls [] := by
  have hx := C.1
  have hb := C.2.1
  have hbA : ¬ (fun q : Nat => s.heap.size ≤ q) b := Nat.not_le.mpr hbl
  obtain ⟨r, h1, h2, hR⟩ := B_rim hR 
  refine lv_aload_n hx hb dL_law_1186 rfl (lv_at hl 1 rfl) ?_
  refine k_callVi C hP hap hAA (c_X3_rim l ev ad x  _ h1) em_LX (apart_LX hap) gz_X3_rim qML_RL_162 qIM_yX3_rim qSE_yX3_rim ⟨(Nat.le_of_ble_eq_true rfl), (Nat.le_of_ble_eq_true rfl)⟩ (q0 := 0) rfl (by decide) rfl rfl rfl rfl hl.1 rfl (Nat.le_of_ble_eq_true rfl) dL_law_1187 ⟨Nat.le_refl _, Nat.le_refl _⟩ (fun H locs hP => ?_)
  refine lv_aload_n hx hb dL_law_1190 rfl (lv_at hl 2 rfl) ?_
  refine k_callVi C hP hap hAA (c_X4_rim l ev (fun j => ad (j + 26)) σ  _ h2) em_LM (apart_LM hap) gz_X4_rim qML_RL_165 qIM_yX4_rim qSE_yX4_rim ⟨(Nat.le_of_ble_eq_true rfl), (Nat.le_of_ble_eq_true rfl)⟩ (q0 := 26) rfl (by decide) rfl rfl rfl rfl hl.1 rfl (Nat.le_of_ble_eq_true rfl) dL_law_1191 ⟨Nat.le_refl _, Nat.le_refl _⟩ (fun H locs hP => ?_)
  refine lv_icmp_eq (tgt := 1675) hx hb dL_law_1194 (by decide) (fun _ => ?_) (fun c => absurd rfl c)
  exact hn _ _ H locs _ hR hP hl
set_option maxHeartbeats 4000000 in
set_option maxRecDepth 100000 in
theorem law_c36 {p : Program} {l : Launch} {e : Env} {s : State} {m : MethodId} {below : List Frame} {meth : Method} {c : Code} {ev : EV} {ad : Nat → Nat} {b L i : Nat} {xs : Nat → Int32} (C : CX ev p s m #[Value.ref b] meth c code 4 ret R_law (fun q => s.heap.size ≤ q)) (hL : L ≤ 3072) (hX : va_X b L xs s s.heap) (hbl : b < s.heap.size) (hap : apart ad 39) (hAA : ∀ j, j < 39 → s.heap.size ≤ ad j) (hi : i + 6 ≤ L)
    (hn : ∀ (x : XX) (σ : MM) (H : Heap) (locs : List Loc) (ls : Array Slot), Rel x σ → PS ev 39 ad (LWf ev ad x σ) (fun q => s.heap.size ≤ q) s H locs → lv_has ls 4 [(0, .ref b), (1, .ref (ad 0)), (2, .ref (ad 26)), (3, .int (nI i))] → WL p l e s m b below meth c H locs 1675 ls [])
    {x : XX} {σ : MM} {H : Heap} {locs : List Loc} {ls : Array Slot} (hR : Rel x σ) (hP : PS ev 39 ad (LWf ev ad x σ) (fun q => s.heap.size ≤ q) s H locs) (hl : lv_has ls 4 [(0, .ref b), (1, .ref (ad 0)), (2, .ref (ad 26)), (3, .int (nI i))]) : WL p l e s m b below meth c H locs 1199 ls [] := by
  have hx := C.1
  have hb := C.2.1
  have hbA : ¬ (fun q : Nat => s.heap.size ≤ q) b := Nat.not_le.mpr hbl
  obtain ⟨r, h1, h2, hR⟩ := B_leader hR 
  refine lv_aload_n hx hb dL_law_1199 rfl (lv_at hl 1 rfl) ?_
  refine k_callVi C hP hap hAA (c_X3_leader l ev ad x  _ h1) em_LX (apart_LX hap) gz_X3_leader qML_RL_166 qIM_yX3_leader qSE_yX3_leader ⟨(Nat.le_of_ble_eq_true rfl), (Nat.le_of_ble_eq_true rfl)⟩ (q0 := 0) rfl (by decide) rfl rfl rfl rfl hl.1 rfl (Nat.le_of_ble_eq_true rfl) dL_law_1200 ⟨Nat.le_refl _, Nat.le_refl _⟩ (fun H locs hP => ?_)
  refine lv_aload_n hx hb dL_law_1203 rfl (lv_at hl 2 rfl) ?_
  refine k_callVi C hP hap hAA (c_X4_leader l ev (fun j => ad (j + 26)) σ  _ h2) em_LM (apart_LM hap) gz_X4_leader qML_RL_169 qIM_yX4_leader qSE_yX4_leader ⟨(Nat.le_of_ble_eq_true rfl), (Nat.le_of_ble_eq_true rfl)⟩ (q0 := 26) rfl (by decide) rfl rfl rfl rfl hl.1 rfl (Nat.le_of_ble_eq_true rfl) dL_law_1204 ⟨Nat.le_refl _, Nat.le_refl _⟩ (fun H locs hP => ?_)
  refine lv_icmp_eq (tgt := 1675) hx hb dL_law_1207 (by decide) (fun _ => ?_) (fun c => absurd rfl c)
  exact hn _ _ H locs _ hR hP hl
set_option maxHeartbeats 4000000 in
set_option maxRecDepth 100000 in
theorem law_c37 {p : Program} {l : Launch} {e : Env} {s : State} {m : MethodId} {below : List Frame} {meth : Method} {c : Code} {ev : EV} {ad : Nat → Nat} {b L i : Nat} {xs : Nat → Int32} (C : CX ev p s m #[Value.ref b] meth c code 4 ret R_law (fun q => s.heap.size ≤ q)) (hL : L ≤ 3072) (hX : va_X b L xs s s.heap) (hbl : b < s.heap.size) (hap : apart ad 39) (hAA : ∀ j, j < 39 → s.heap.size ≤ ad j) (hi : i + 6 ≤ L)
    (hn : ∀ (x : XX) (σ : MM) (H : Heap) (locs : List Loc) (ls : Array Slot), Rel x σ → PS ev 39 ad (LWf ev ad x σ) (fun q => s.heap.size ≤ q) s H locs → lv_has ls 4 [(0, .ref b), (1, .ref (ad 0)), (2, .ref (ad 26)), (3, .int (nI i))] → WL p l e s m b below meth c H locs 1675 ls [])
    {x : XX} {σ : MM} {H : Heap} {locs : List Loc} {ls : Array Slot} (hR : Rel x σ) (hP : PS ev 39 ad (LWf ev ad x σ) (fun q => s.heap.size ≤ q) s H locs) (hl : lv_has ls 4 [(0, .ref b), (1, .ref (ad 0)), (2, .ref (ad 26)), (3, .int (nI i))]) : WL p l e s m b below meth c H locs 1212 ls [] := by
  have hx := C.1
  have hb := C.2.1
  have hbA : ¬ (fun q : Nat => s.heap.size ≤ q) b := Nat.not_le.mpr hbl
  obtain ⟨r, h1, h2, hR⟩ := B_bare hR 
  refine lv_aload_n hx hb dL_law_1212 rfl (lv_at hl 1 rfl) ?_
  refine k_callVi C hP hap hAA (c_X3_bare l ev ad x  _ h1) em_LX (apart_LX hap) gz_X3_bare qML_RL_170 qIM_yX3_bare qSE_yX3_bare ⟨(Nat.le_of_ble_eq_true rfl), (Nat.le_of_ble_eq_true rfl)⟩ (q0 := 0) rfl (by decide) rfl rfl rfl rfl hl.1 rfl (Nat.le_of_ble_eq_true rfl) dL_law_1213 ⟨Nat.le_refl _, Nat.le_refl _⟩ (fun H locs hP => ?_)
  refine lv_aload_n hx hb dL_law_1216 rfl (lv_at hl 2 rfl) ?_
  refine k_callVi C hP hap hAA (c_X4_bare l ev (fun j => ad (j + 26)) σ  _ h2) em_LM (apart_LM hap) gz_X4_bare qML_RL_173 qIM_yX4_bare qSE_yX4_bare ⟨(Nat.le_of_ble_eq_true rfl), (Nat.le_of_ble_eq_true rfl)⟩ (q0 := 26) rfl (by decide) rfl rfl rfl rfl hl.1 rfl (Nat.le_of_ble_eq_true rfl) dL_law_1217 ⟨Nat.le_refl _, Nat.le_refl _⟩ (fun H locs hP => ?_)
  refine lv_icmp_eq (tgt := 1675) hx hb dL_law_1220 (by decide) (fun _ => ?_) (fun c => absurd rfl c)
  exact hn _ _ H locs _ hR hP hl
set_option maxHeartbeats 4000000 in
set_option maxRecDepth 100000 in
theorem law_c38 {p : Program} {l : Launch} {e : Env} {s : State} {m : MethodId} {below : List Frame} {meth : Method} {c : Code} {ev : EV} {ad : Nat → Nat} {b L i : Nat} {xs : Nat → Int32} (C : CX ev p s m #[Value.ref b] meth c code 4 ret R_law (fun q => s.heap.size ≤ q)) (hL : L ≤ 3072) (hX : va_X b L xs s s.heap) (hbl : b < s.heap.size) (hap : apart ad 39) (hAA : ∀ j, j < 39 → s.heap.size ≤ ad j) (hi : i + 6 ≤ L)
    (hn : ∀ (x : XX) (σ : MM) (H : Heap) (locs : List Loc) (ls : Array Slot), Rel x σ → PS ev 39 ad (LWf ev ad x σ) (fun q => s.heap.size ≤ q) s H locs → lv_has ls 4 [(0, .ref b), (1, .ref (ad 0)), (2, .ref (ad 26)), (3, .int (nI i))] → WL p l e s m b below meth c H locs 1675 ls [])
    {x : XX} {σ : MM} {H : Heap} {locs : List Loc} {ls : Array Slot} (hR : Rel x σ) (hP : PS ev 39 ad (LWf ev ad x σ) (fun q => s.heap.size ≤ q) s H locs) (hl : lv_has ls 4 [(0, .ref b), (1, .ref (ad 0)), (2, .ref (ad 26)), (3, .int (nI i))]) : WL p l e s m b below meth c H locs 1225 ls [] := by
  have hx := C.1
  have hb := C.2.1
  have hbA : ¬ (fun q : Nat => s.heap.size ≤ q) b := Nat.not_le.mpr hbl
  obtain ⟨r, h1, h2, hR⟩ := B_soft hR 
  refine lv_aload_n hx hb dL_law_1225 rfl (lv_at hl 1 rfl) ?_
  refine k_callVi C hP hap hAA (c_X3_soft l ev ad x  _ h1) em_LX (apart_LX hap) gz_X3_soft qML_RL_174 qIM_yX3_soft qSE_yX3_soft ⟨(Nat.le_of_ble_eq_true rfl), (Nat.le_of_ble_eq_true rfl)⟩ (q0 := 0) rfl (by decide) rfl rfl rfl rfl hl.1 rfl (Nat.le_of_ble_eq_true rfl) dL_law_1226 ⟨Nat.le_refl _, Nat.le_refl _⟩ (fun H locs hP => ?_)
  refine lv_aload_n hx hb dL_law_1229 rfl (lv_at hl 2 rfl) ?_
  refine k_callVi C hP hap hAA (c_X4_soft l ev (fun j => ad (j + 26)) σ  _ h2) em_LM (apart_LM hap) gz_X4_soft qML_RL_177 qIM_yX4_soft qSE_yX4_soft ⟨(Nat.le_of_ble_eq_true rfl), (Nat.le_of_ble_eq_true rfl)⟩ (q0 := 26) rfl (by decide) rfl rfl rfl rfl hl.1 rfl (Nat.le_of_ble_eq_true rfl) dL_law_1230 ⟨Nat.le_refl _, Nat.le_refl _⟩ (fun H locs hP => ?_)
  refine lv_icmp_eq (tgt := 1675) hx hb dL_law_1233 (by decide) (fun _ => ?_) (fun c => absurd rfl c)
  exact hn _ _ H locs _ hR hP hl
set_option maxHeartbeats 4000000 in
set_option maxRecDepth 100000 in
theorem law_c39 {p : Program} {l : Launch} {e : Env} {s : State} {m : MethodId} {below : List Frame} {meth : Method} {c : Code} {ev : EV} {ad : Nat → Nat} {b L i : Nat} {xs : Nat → Int32} (C : CX ev p s m #[Value.ref b] meth c code 4 ret R_law (fun q => s.heap.size ≤ q)) (hL : L ≤ 3072) (hX : va_X b L xs s s.heap) (hbl : b < s.heap.size) (hap : apart ad 39) (hAA : ∀ j, j < 39 → s.heap.size ≤ ad j) (hi : i + 6 ≤ L)
    (hn : ∀ (x : XX) (σ : MM) (H : Heap) (locs : List Loc) (ls : Array Slot), Rel x σ → PS ev 39 ad (LWf ev ad x σ) (fun q => s.heap.size ≤ q) s H locs → lv_has ls 4 [(0, .ref b), (1, .ref (ad 0)), (2, .ref (ad 26)), (3, .int (nI i))] → WL p l e s m b below meth c H locs 1675 ls [])
    {x : XX} {σ : MM} {H : Heap} {locs : List Loc} {ls : Array Slot} (hR : Rel x σ) (hP : PS ev 39 ad (LWf ev ad x σ) (fun q => s.heap.size ≤ q) s H locs) (hl : lv_has ls 4 [(0, .ref b), (1, .ref (ad 0)), (2, .ref (ad 26)), (3, .int (nI i))]) : WL p l e s m b below meth c H locs 1238 ls [] := by
  have hx := C.1
  have hb := C.2.1
  have hbA : ¬ (fun q : Nat => s.heap.size ≤ q) b := Nat.not_le.mpr hbl
  obtain ⟨r, x1, σ1, h1, h2, hR⟩ := B_after hR (xs (nI i + nI 1).toNatClampNeg)
  refine lv_aload_n hx hb dL_law_1238 rfl (lv_at hl 1 rfl) ?_
  refine lv_aload_n hx hb dL_law_1239 rfl (lv_at hl 0 rfl) ?_
  refine lv_iload_n hx hb dL_law_1240 rfl (lv_at hl 3 rfl) ?_
  refine lv_iconst (v := nI 1) hx hb dL_law_1241 (by decide) ?_
  refine lv_iadd hx hb dL_law_1242 ?_
  refine va_sld hx hb hX hbl hbA hP.2 (pow6 (c := 1) hi hL (by decide)) dL_law_1243 ?_
  refine k_callVi C hP hap hAA (c_X3_after l ev ad x (xs (nI i + nI 1).toNatClampNeg) _ _ h1) em_LX (apart_LX hap) gz_X3_after qML_RL_178 qIM_yX3_after qSE_yX3_after ⟨(Nat.le_of_ble_eq_true rfl), (Nat.le_of_ble_eq_true rfl)⟩ (q0 := 0) rfl (by decide) rfl rfl rfl rfl hl.1 rfl (Nat.le_of_ble_eq_true rfl) dL_law_1244 ⟨Nat.le_refl _, Nat.le_refl _⟩ (fun H locs hP => ?_)
  refine lv_aload_n hx hb dL_law_1247 rfl (lv_at hl 2 rfl) ?_
  refine lv_aload_n hx hb dL_law_1248 rfl (lv_at hl 0 rfl) ?_
  refine lv_iload_n hx hb dL_law_1249 rfl (lv_at hl 3 rfl) ?_
  refine lv_iconst (v := nI 1) hx hb dL_law_1250 (by decide) ?_
  refine lv_iadd hx hb dL_law_1251 ?_
  refine va_sld hx hb hX hbl hbA hP.2 (pow6 (c := 1) hi hL (by decide)) dL_law_1252 ?_
  refine k_callVi C hP hap hAA (c_X4_after l ev (fun j => ad (j + 26)) σ (xs (nI i + nI 1).toNatClampNeg) _ _ h2) em_LM (apart_LM hap) gz_X4_after qML_RL_181 qIM_yX4_after qSE_yX4_after ⟨(Nat.le_of_ble_eq_true rfl), (Nat.le_of_ble_eq_true rfl)⟩ (q0 := 26) rfl (by decide) rfl rfl rfl rfl hl.1 rfl (Nat.le_of_ble_eq_true rfl) dL_law_1253 ⟨Nat.le_refl _, Nat.le_refl _⟩ (fun H locs hP => ?_)
  refine lv_icmp_eq (tgt := 1675) hx hb dL_law_1256 (by decide) (fun _ => ?_) (fun c => absurd rfl c)
  exact hn _ _ H locs _ hR hP hl
set_option maxHeartbeats 4000000 in
set_option maxRecDepth 100000 in
theorem law_c40 {p : Program} {l : Launch} {e : Env} {s : State} {m : MethodId} {below : List Frame} {meth : Method} {c : Code} {ev : EV} {ad : Nat → Nat} {b L i : Nat} {xs : Nat → Int32} (C : CX ev p s m #[Value.ref b] meth c code 4 ret R_law (fun q => s.heap.size ≤ q)) (hL : L ≤ 3072) (hX : va_X b L xs s s.heap) (hbl : b < s.heap.size) (hap : apart ad 39) (hAA : ∀ j, j < 39 → s.heap.size ≤ ad j) (hi : i + 6 ≤ L)
    (hn : ∀ (x : XX) (σ : MM) (H : Heap) (locs : List Loc) (ls : Array Slot), Rel x σ → PS ev 39 ad (LWf ev ad x σ) (fun q => s.heap.size ≤ q) s H locs → lv_has ls 4 [(0, .ref b), (1, .ref (ad 0)), (2, .ref (ad 26)), (3, .int (nI i))] → WL p l e s m b below meth c H locs 1675 ls [])
    {x : XX} {σ : MM} {H : Heap} {locs : List Loc} {ls : Array Slot} (hR : Rel x σ) (hP : PS ev 39 ad (LWf ev ad x σ) (fun q => s.heap.size ≤ q) s H locs) (hl : lv_has ls 4 [(0, .ref b), (1, .ref (ad 0)), (2, .ref (ad 26)), (3, .int (nI i))]) : WL p l e s m b below meth c H locs 1261 ls [] := by
  have hx := C.1
  have hb := C.2.1
  have hbA : ¬ (fun q : Nat => s.heap.size ≤ q) b := Nat.not_le.mpr hbl
  obtain ⟨r, x1, σ1, h1, h2, hR⟩ := B_best hR 
  refine lv_aload_n hx hb dL_law_1261 rfl (lv_at hl 1 rfl) ?_
  refine k_callVi C hP hap hAA (c_X3_best l ev ad x  _ _ h1) em_LX (apart_LX hap) gz_X3_best qML_RL_182 qIM_yX3_best qSE_yX3_best ⟨(Nat.le_of_ble_eq_true rfl), (Nat.le_of_ble_eq_true rfl)⟩ (q0 := 0) rfl (by decide) rfl rfl rfl rfl hl.1 rfl (Nat.le_of_ble_eq_true rfl) dL_law_1262 ⟨Nat.le_refl _, Nat.le_refl _⟩ (fun H locs hP => ?_)
  refine lv_aload_n hx hb dL_law_1265 rfl (lv_at hl 2 rfl) ?_
  refine k_callVi C hP hap hAA (c_X4_best l ev (fun j => ad (j + 26)) σ  _ _ h2) em_LM (apart_LM hap) gz_X4_best qML_RL_185 qIM_yX4_best qSE_yX4_best ⟨(Nat.le_of_ble_eq_true rfl), (Nat.le_of_ble_eq_true rfl)⟩ (q0 := 26) rfl (by decide) rfl rfl rfl rfl hl.1 rfl (Nat.le_of_ble_eq_true rfl) dL_law_1266 ⟨Nat.le_refl _, Nat.le_refl _⟩ (fun H locs hP => ?_)
  refine lv_icmp_eq (tgt := 1675) hx hb dL_law_1269 (by decide) (fun _ => ?_) (fun c => absurd rfl c)
  exact hn _ _ H locs _ hR hP hl
set_option maxHeartbeats 4000000 in
set_option maxRecDepth 100000 in
theorem law_c41 {p : Program} {l : Launch} {e : Env} {s : State} {m : MethodId} {below : List Frame} {meth : Method} {c : Code} {ev : EV} {ad : Nat → Nat} {b L i : Nat} {xs : Nat → Int32} (C : CX ev p s m #[Value.ref b] meth c code 4 ret R_law (fun q => s.heap.size ≤ q)) (hL : L ≤ 3072) (hX : va_X b L xs s s.heap) (hbl : b < s.heap.size) (hap : apart ad 39) (hAA : ∀ j, j < 39 → s.heap.size ≤ ad j) (hi : i + 6 ≤ L)
    (hn : ∀ (x : XX) (σ : MM) (H : Heap) (locs : List Loc) (ls : Array Slot), Rel x σ → PS ev 39 ad (LWf ev ad x σ) (fun q => s.heap.size ≤ q) s H locs → lv_has ls 4 [(0, .ref b), (1, .ref (ad 0)), (2, .ref (ad 26)), (3, .int (nI i))] → WL p l e s m b below meth c H locs 1675 ls [])
    {x : XX} {σ : MM} {H : Heap} {locs : List Loc} {ls : Array Slot} (hR : Rel x σ) (hP : PS ev 39 ad (LWf ev ad x σ) (fun q => s.heap.size ≤ q) s H locs) (hl : lv_has ls 4 [(0, .ref b), (1, .ref (ad 0)), (2, .ref (ad 26)), (3, .int (nI i))]) : WL p l e s m b below meth c H locs 1274 ls [] := by
  have hx := C.1
  have hb := C.2.1
  have hbA : ¬ (fun q : Nat => s.heap.size ≤ q) b := Nat.not_le.mpr hbl
  obtain ⟨r, x1, σ1, h1, h2, hR⟩ := B_worth hR 
  refine lv_aload_n hx hb dL_law_1274 rfl (lv_at hl 1 rfl) ?_
  refine k_callVi C hP hap hAA (c_X3_worth l ev ad x  _ _ h1) em_LX (apart_LX hap) gz_X3_worth qML_RL_186 qIM_yX3_worth qSE_yX3_worth ⟨(Nat.le_of_ble_eq_true rfl), (Nat.le_of_ble_eq_true rfl)⟩ (q0 := 0) rfl (by decide) rfl rfl rfl rfl hl.1 rfl (Nat.le_of_ble_eq_true rfl) dL_law_1275 ⟨Nat.le_refl _, Nat.le_refl _⟩ (fun H locs hP => ?_)
  refine lv_aload_n hx hb dL_law_1278 rfl (lv_at hl 2 rfl) ?_
  refine k_callVi C hP hap hAA (c_X4_worth l ev (fun j => ad (j + 26)) σ  _ _ h2) em_LM (apart_LM hap) gz_X4_worth qML_RL_189 qIM_yX4_worth qSE_yX4_worth ⟨(Nat.le_of_ble_eq_true rfl), (Nat.le_of_ble_eq_true rfl)⟩ (q0 := 26) rfl (by decide) rfl rfl rfl rfl hl.1 rfl (Nat.le_of_ble_eq_true rfl) dL_law_1279 ⟨Nat.le_refl _, Nat.le_refl _⟩ (fun H locs hP => ?_)
  refine lv_icmp_eq (tgt := 1675) hx hb dL_law_1282 (by decide) (fun _ => ?_) (fun c => absurd rfl c)
  exact hn _ _ H locs _ hR hP hl
set_option maxHeartbeats 4000000 in
set_option maxRecDepth 100000 in
theorem law_c42 {p : Program} {l : Launch} {e : Env} {s : State} {m : MethodId} {below : List Frame} {meth : Method} {c : Code} {ev : EV} {ad : Nat → Nat} {b L i : Nat} {xs : Nat → Int32} (C : CX ev p s m #[Value.ref b] meth c code 4 ret R_law (fun q => s.heap.size ≤ q)) (hL : L ≤ 3072) (hX : va_X b L xs s s.heap) (hbl : b < s.heap.size) (hap : apart ad 39) (hAA : ∀ j, j < 39 → s.heap.size ≤ ad j) (hi : i + 6 ≤ L)
    (hn : ∀ (x : XX) (σ : MM) (H : Heap) (locs : List Loc) (ls : Array Slot), Rel x σ → PS ev 39 ad (LWf ev ad x σ) (fun q => s.heap.size ≤ q) s H locs → lv_has ls 4 [(0, .ref b), (1, .ref (ad 0)), (2, .ref (ad 26)), (3, .int (nI i))] → WL p l e s m b below meth c H locs 1675 ls [])
    {x : XX} {σ : MM} {H : Heap} {locs : List Loc} {ls : Array Slot} (hR : Rel x σ) (hP : PS ev 39 ad (LWf ev ad x σ) (fun q => s.heap.size ≤ q) s H locs) (hl : lv_has ls 4 [(0, .ref b), (1, .ref (ad 0)), (2, .ref (ad 26)), (3, .int (nI i))]) : WL p l e s m b below meth c H locs 1287 ls [] := by
  have hx := C.1
  have hb := C.2.1
  have hbA : ¬ (fun q : Nat => s.heap.size ≤ q) b := Nat.not_le.mpr hbl
  obtain ⟨r, x1, σ1, h1, h2, hR⟩ := B_choice hR (xs (nI i + nI 1).toNatClampNeg)
  refine lv_aload_n hx hb dL_law_1287 rfl (lv_at hl 1 rfl) ?_
  refine lv_aload_n hx hb dL_law_1288 rfl (lv_at hl 0 rfl) ?_
  refine lv_iload_n hx hb dL_law_1289 rfl (lv_at hl 3 rfl) ?_
  refine lv_iconst (v := nI 1) hx hb dL_law_1290 (by decide) ?_
  refine lv_iadd hx hb dL_law_1291 ?_
  refine va_sld hx hb hX hbl hbA hP.2 (pow6 (c := 1) hi hL (by decide)) dL_law_1292 ?_
  refine k_callVi C hP hap hAA (c_X3_choice l ev ad x (xs (nI i + nI 1).toNatClampNeg) _ _ h1) em_LX (apart_LX hap) gz_X3_choice qML_RL_190 qIM_yX3_choice qSE_yX3_choice ⟨(Nat.le_of_ble_eq_true rfl), (Nat.le_of_ble_eq_true rfl)⟩ (q0 := 0) rfl (by decide) rfl rfl rfl rfl hl.1 rfl (Nat.le_of_ble_eq_true rfl) dL_law_1293 ⟨Nat.le_refl _, Nat.le_refl _⟩ (fun H locs hP => ?_)
  refine lv_aload_n hx hb dL_law_1296 rfl (lv_at hl 2 rfl) ?_
  refine lv_aload_n hx hb dL_law_1297 rfl (lv_at hl 0 rfl) ?_
  refine lv_iload_n hx hb dL_law_1298 rfl (lv_at hl 3 rfl) ?_
  refine lv_iconst (v := nI 1) hx hb dL_law_1299 (by decide) ?_
  refine lv_iadd hx hb dL_law_1300 ?_
  refine va_sld hx hb hX hbl hbA hP.2 (pow6 (c := 1) hi hL (by decide)) dL_law_1301 ?_
  refine k_callVi C hP hap hAA (c_X4_choice l ev (fun j => ad (j + 26)) σ (xs (nI i + nI 1).toNatClampNeg) _ _ h2) em_LM (apart_LM hap) gz_X4_choice qML_RL_193 qIM_yX4_choice qSE_yX4_choice ⟨(Nat.le_of_ble_eq_true rfl), (Nat.le_of_ble_eq_true rfl)⟩ (q0 := 26) rfl (by decide) rfl rfl rfl rfl hl.1 rfl (Nat.le_of_ble_eq_true rfl) dL_law_1302 ⟨Nat.le_refl _, Nat.le_refl _⟩ (fun H locs hP => ?_)
  refine lv_icmp_eq (tgt := 1675) hx hb dL_law_1305 (by decide) (fun _ => ?_) (fun c => absurd rfl c)
  exact hn _ _ H locs _ hR hP hl
set_option maxHeartbeats 4000000 in
set_option maxRecDepth 100000 in
theorem law_c43 {p : Program} {l : Launch} {e : Env} {s : State} {m : MethodId} {below : List Frame} {meth : Method} {c : Code} {ev : EV} {ad : Nat → Nat} {b L i : Nat} {xs : Nat → Int32} (C : CX ev p s m #[Value.ref b] meth c code 4 ret R_law (fun q => s.heap.size ≤ q)) (hL : L ≤ 3072) (hX : va_X b L xs s s.heap) (hbl : b < s.heap.size) (hap : apart ad 39) (hAA : ∀ j, j < 39 → s.heap.size ≤ ad j) (hi : i + 6 ≤ L)
    (hn : ∀ (x : XX) (σ : MM) (H : Heap) (locs : List Loc) (ls : Array Slot), Rel x σ → PS ev 39 ad (LWf ev ad x σ) (fun q => s.heap.size ≤ q) s H locs → lv_has ls 4 [(0, .ref b), (1, .ref (ad 0)), (2, .ref (ad 26)), (3, .int (nI i))] → WL p l e s m b below meth c H locs 1675 ls [])
    {x : XX} {σ : MM} {H : Heap} {locs : List Loc} {ls : Array Slot} (hR : Rel x σ) (hP : PS ev 39 ad (LWf ev ad x σ) (fun q => s.heap.size ≤ q) s H locs) (hl : lv_has ls 4 [(0, .ref b), (1, .ref (ad 0)), (2, .ref (ad 26)), (3, .int (nI i))]) : WL p l e s m b below meth c H locs 1310 ls [] := by
  have hx := C.1
  have hb := C.2.1
  have hbA : ¬ (fun q : Nat => s.heap.size ≤ q) b := Nat.not_le.mpr hbl
  obtain ⟨r, x1, σ1, h1, h2, hR⟩ := B_played hR (xs (nI i + nI 1).toNatClampNeg) (xs (nI i + nI 2).toNatClampNeg) (xs (nI i + nI 3).toNatClampNeg)
  refine lv_aload_n hx hb dL_law_1310 rfl (lv_at hl 1 rfl) ?_
  refine lv_aload_n hx hb dL_law_1311 rfl (lv_at hl 0 rfl) ?_
  refine lv_iload_n hx hb dL_law_1312 rfl (lv_at hl 3 rfl) ?_
  refine lv_iconst (v := nI 1) hx hb dL_law_1313 (by decide) ?_
  refine lv_iadd hx hb dL_law_1314 ?_
  refine va_sld hx hb hX hbl hbA hP.2 (pow6 (c := 1) hi hL (by decide)) dL_law_1315 ?_
  refine lv_aload_n hx hb dL_law_1316 rfl (lv_at hl 0 rfl) ?_
  refine lv_iload_n hx hb dL_law_1317 rfl (lv_at hl 3 rfl) ?_
  refine lv_iconst (v := nI 2) hx hb dL_law_1318 (by decide) ?_
  refine lv_iadd hx hb dL_law_1319 ?_
  refine va_sld hx hb hX hbl hbA hP.2 (pow6 (c := 2) hi hL (by decide)) dL_law_1320 ?_
  refine lv_aload_n hx hb dL_law_1321 rfl (lv_at hl 0 rfl) ?_
  refine lv_iload_n hx hb dL_law_1322 rfl (lv_at hl 3 rfl) ?_
  refine lv_iconst (v := nI 3) hx hb dL_law_1323 (by decide) ?_
  refine lv_iadd hx hb dL_law_1324 ?_
  refine va_sld hx hb hX hbl hbA hP.2 (pow6 (c := 3) hi hL (by decide)) dL_law_1325 ?_
  refine k_callVi C hP hap hAA (c_X3_played l ev ad x (xs (nI i + nI 1).toNatClampNeg) (xs (nI i + nI 2).toNatClampNeg) (xs (nI i + nI 3).toNatClampNeg) _ _ h1) em_LX (apart_LX hap) gz_X3_played qML_RL_194 qIM_yX3_played qSE_yX3_played ⟨(Nat.le_of_ble_eq_true rfl), (Nat.le_of_ble_eq_true rfl)⟩ (q0 := 0) rfl (by decide) rfl rfl rfl rfl hl.1 rfl (Nat.le_of_ble_eq_true rfl) dL_law_1326 ⟨Nat.le_refl _, Nat.le_refl _⟩ (fun H locs hP => ?_)
  refine lv_aload_n hx hb dL_law_1329 rfl (lv_at hl 2 rfl) ?_
  refine lv_aload_n hx hb dL_law_1330 rfl (lv_at hl 0 rfl) ?_
  refine lv_iload_n hx hb dL_law_1331 rfl (lv_at hl 3 rfl) ?_
  refine lv_iconst (v := nI 1) hx hb dL_law_1332 (by decide) ?_
  refine lv_iadd hx hb dL_law_1333 ?_
  refine va_sld hx hb hX hbl hbA hP.2 (pow6 (c := 1) hi hL (by decide)) dL_law_1334 ?_
  refine lv_aload_n hx hb dL_law_1335 rfl (lv_at hl 0 rfl) ?_
  refine lv_iload_n hx hb dL_law_1336 rfl (lv_at hl 3 rfl) ?_
  refine lv_iconst (v := nI 2) hx hb dL_law_1337 (by decide) ?_
  refine lv_iadd hx hb dL_law_1338 ?_
  refine va_sld hx hb hX hbl hbA hP.2 (pow6 (c := 2) hi hL (by decide)) dL_law_1339 ?_
  refine lv_aload_n hx hb dL_law_1340 rfl (lv_at hl 0 rfl) ?_
  refine lv_iload_n hx hb dL_law_1341 rfl (lv_at hl 3 rfl) ?_
  refine lv_iconst (v := nI 3) hx hb dL_law_1342 (by decide) ?_
  refine lv_iadd hx hb dL_law_1343 ?_
  refine va_sld hx hb hX hbl hbA hP.2 (pow6 (c := 3) hi hL (by decide)) dL_law_1344 ?_
  refine k_callVi C hP hap hAA (c_X4_played l ev (fun j => ad (j + 26)) σ (xs (nI i + nI 1).toNatClampNeg) (xs (nI i + nI 2).toNatClampNeg) (xs (nI i + nI 3).toNatClampNeg) _ _ h2) em_LM (apart_LM hap) gz_X4_played qML_RL_197 qIM_yX4_played qSE_yX4_played ⟨(Nat.le_of_ble_eq_true rfl), (Nat.le_of_ble_eq_true rfl)⟩ (q0 := 26) rfl (by decide) rfl rfl rfl rfl hl.1 rfl (Nat.le_of_ble_eq_true rfl) dL_law_1345 ⟨Nat.le_refl _, Nat.le_refl _⟩ (fun H locs hP => ?_)
  refine lv_icmp_eq (tgt := 1675) hx hb dL_law_1348 (by decide) (fun _ => ?_) (fun c => absurd rfl c)
  exact hn _ _ H locs _ hR hP hl
set_option maxHeartbeats 4000000 in
set_option maxRecDepth 100000 in
theorem law_c44 {p : Program} {l : Launch} {e : Env} {s : State} {m : MethodId} {below : List Frame} {meth : Method} {c : Code} {ev : EV} {ad : Nat → Nat} {b L i : Nat} {xs : Nat → Int32} (C : CX ev p s m #[Value.ref b] meth c code 4 ret R_law (fun q => s.heap.size ≤ q)) (hL : L ≤ 3072) (hX : va_X b L xs s s.heap) (hbl : b < s.heap.size) (hap : apart ad 39) (hAA : ∀ j, j < 39 → s.heap.size ≤ ad j) (hi : i + 6 ≤ L)
    (hn : ∀ (x : XX) (σ : MM) (H : Heap) (locs : List Loc) (ls : Array Slot), Rel x σ → PS ev 39 ad (LWf ev ad x σ) (fun q => s.heap.size ≤ q) s H locs → lv_has ls 4 [(0, .ref b), (1, .ref (ad 0)), (2, .ref (ad 26)), (3, .int (nI i))] → WL p l e s m b below meth c H locs 1675 ls [])
    {x : XX} {σ : MM} {H : Heap} {locs : List Loc} {ls : Array Slot} (hR : Rel x σ) (hP : PS ev 39 ad (LWf ev ad x σ) (fun q => s.heap.size ≤ q) s H locs) (hl : lv_has ls 4 [(0, .ref b), (1, .ref (ad 0)), (2, .ref (ad 26)), (3, .int (nI i))]) : WL p l e s m b below meth c H locs 1353 ls [] := by
  have hx := C.1
  have hb := C.2.1
  have hbA : ¬ (fun q : Nat => s.heap.size ≤ q) b := Nat.not_le.mpr hbl
  obtain ⟨r, x1, σ1, h1, h2, hR⟩ := B_wins hR (xs (nI i + nI 1).toNatClampNeg)
  refine lv_aload_n hx hb dL_law_1353 rfl (lv_at hl 1 rfl) ?_
  refine lv_aload_n hx hb dL_law_1354 rfl (lv_at hl 0 rfl) ?_
  refine lv_iload_n hx hb dL_law_1355 rfl (lv_at hl 3 rfl) ?_
  refine lv_iconst (v := nI 1) hx hb dL_law_1356 (by decide) ?_
  refine lv_iadd hx hb dL_law_1357 ?_
  refine va_sld hx hb hX hbl hbA hP.2 (pow6 (c := 1) hi hL (by decide)) dL_law_1358 ?_
  refine k_callVi C hP hap hAA (c_X3_wins l ev ad x (xs (nI i + nI 1).toNatClampNeg) _ _ h1) em_LX (apart_LX hap) gz_X3_wins qML_RL_198 qIM_yX3_wins qSE_yX3_wins ⟨(Nat.le_of_ble_eq_true rfl), (Nat.le_of_ble_eq_true rfl)⟩ (q0 := 0) rfl (by decide) rfl rfl rfl rfl hl.1 rfl (Nat.le_of_ble_eq_true rfl) dL_law_1359 ⟨Nat.le_refl _, Nat.le_refl _⟩ (fun H locs hP => ?_)
  refine lv_aload_n hx hb dL_law_1362 rfl (lv_at hl 2 rfl) ?_
  refine lv_aload_n hx hb dL_law_1363 rfl (lv_at hl 0 rfl) ?_
  refine lv_iload_n hx hb dL_law_1364 rfl (lv_at hl 3 rfl) ?_
  refine lv_iconst (v := nI 1) hx hb dL_law_1365 (by decide) ?_
  refine lv_iadd hx hb dL_law_1366 ?_
  refine va_sld hx hb hX hbl hbA hP.2 (pow6 (c := 1) hi hL (by decide)) dL_law_1367 ?_
  refine k_callVi C hP hap hAA (c_X4_wins l ev (fun j => ad (j + 26)) σ (xs (nI i + nI 1).toNatClampNeg) _ _ h2) em_LM (apart_LM hap) gz_X4_wins qML_RL_201 qIM_yX4_wins qSE_yX4_wins ⟨(Nat.le_of_ble_eq_true rfl), (Nat.le_of_ble_eq_true rfl)⟩ (q0 := 26) rfl (by decide) rfl rfl rfl rfl hl.1 rfl (Nat.le_of_ble_eq_true rfl) dL_law_1368 ⟨Nat.le_refl _, Nat.le_refl _⟩ (fun H locs hP => ?_)
  refine lv_icmp_eq (tgt := 1675) hx hb dL_law_1371 (by decide) (fun _ => ?_) (fun c => absurd rfl c)
  exact hn _ _ H locs _ hR hP hl
set_option maxHeartbeats 4000000 in
set_option maxRecDepth 100000 in
theorem law_c45 {p : Program} {l : Launch} {e : Env} {s : State} {m : MethodId} {below : List Frame} {meth : Method} {c : Code} {ev : EV} {ad : Nat → Nat} {b L i : Nat} {xs : Nat → Int32} (C : CX ev p s m #[Value.ref b] meth c code 4 ret R_law (fun q => s.heap.size ≤ q)) (hL : L ≤ 3072) (hX : va_X b L xs s s.heap) (hbl : b < s.heap.size) (hap : apart ad 39) (hAA : ∀ j, j < 39 → s.heap.size ≤ ad j) (hi : i + 6 ≤ L)
    (hn : ∀ (x : XX) (σ : MM) (H : Heap) (locs : List Loc) (ls : Array Slot), Rel x σ → PS ev 39 ad (LWf ev ad x σ) (fun q => s.heap.size ≤ q) s H locs → lv_has ls 4 [(0, .ref b), (1, .ref (ad 0)), (2, .ref (ad 26)), (3, .int (nI i))] → WL p l e s m b below meth c H locs 1675 ls [])
    {x : XX} {σ : MM} {H : Heap} {locs : List Loc} {ls : Array Slot} (hR : Rel x σ) (hP : PS ev 39 ad (LWf ev ad x σ) (fun q => s.heap.size ≤ q) s H locs) (hl : lv_has ls 4 [(0, .ref b), (1, .ref (ad 0)), (2, .ref (ad 26)), (3, .int (nI i))]) : WL p l e s m b below meth c H locs 1376 ls [] := by
  have hx := C.1
  have hb := C.2.1
  have hbA : ¬ (fun q : Nat => s.heap.size ≤ q) b := Nat.not_le.mpr hbl
  obtain ⟨r, x1, σ1, h1, h2, hR⟩ := B_champion hR 
  refine lv_aload_n hx hb dL_law_1376 rfl (lv_at hl 1 rfl) ?_
  refine k_callVi C hP hap hAA (c_X3_champion l ev ad x  _ _ h1) em_LX (apart_LX hap) gz_X3_champion qML_RL_202 qIM_yX3_champion qSE_yX3_champion ⟨(Nat.le_of_ble_eq_true rfl), (Nat.le_of_ble_eq_true rfl)⟩ (q0 := 0) rfl (by decide) rfl rfl rfl rfl hl.1 rfl (Nat.le_of_ble_eq_true rfl) dL_law_1377 ⟨Nat.le_refl _, Nat.le_refl _⟩ (fun H locs hP => ?_)
  refine lv_aload_n hx hb dL_law_1380 rfl (lv_at hl 2 rfl) ?_
  refine k_callVi C hP hap hAA (c_X4_champion l ev (fun j => ad (j + 26)) σ  _ _ h2) em_LM (apart_LM hap) gz_X4_champion qML_RL_205 qIM_yX4_champion qSE_yX4_champion ⟨(Nat.le_of_ble_eq_true rfl), (Nat.le_of_ble_eq_true rfl)⟩ (q0 := 26) rfl (by decide) rfl rfl rfl rfl hl.1 rfl (Nat.le_of_ble_eq_true rfl) dL_law_1381 ⟨Nat.le_refl _, Nat.le_refl _⟩ (fun H locs hP => ?_)
  refine lv_icmp_eq (tgt := 1675) hx hb dL_law_1384 (by decide) (fun _ => ?_) (fun c => absurd rfl c)
  exact hn _ _ H locs _ hR hP hl
set_option maxHeartbeats 4000000 in
set_option maxRecDepth 100000 in
theorem law_c46 {p : Program} {l : Launch} {e : Env} {s : State} {m : MethodId} {below : List Frame} {meth : Method} {c : Code} {ev : EV} {ad : Nat → Nat} {b L i : Nat} {xs : Nat → Int32} (C : CX ev p s m #[Value.ref b] meth c code 4 ret R_law (fun q => s.heap.size ≤ q)) (hL : L ≤ 3072) (hX : va_X b L xs s s.heap) (hbl : b < s.heap.size) (hap : apart ad 39) (hAA : ∀ j, j < 39 → s.heap.size ≤ ad j) (hi : i + 6 ≤ L)
    (hn : ∀ (x : XX) (σ : MM) (H : Heap) (locs : List Loc) (ls : Array Slot), Rel x σ → PS ev 39 ad (LWf ev ad x σ) (fun q => s.heap.size ≤ q) s H locs → lv_has ls 4 [(0, .ref b), (1, .ref (ad 0)), (2, .ref (ad 26)), (3, .int (nI i))] → WL p l e s m b below meth c H locs 1675 ls [])
    {x : XX} {σ : MM} {H : Heap} {locs : List Loc} {ls : Array Slot} (hR : Rel x σ) (hP : PS ev 39 ad (LWf ev ad x σ) (fun q => s.heap.size ≤ q) s H locs) (hl : lv_has ls 4 [(0, .ref b), (1, .ref (ad 0)), (2, .ref (ad 26)), (3, .int (nI i))]) : WL p l e s m b below meth c H locs 1389 ls [] := by
  have hx := C.1
  have hb := C.2.1
  have hbA : ¬ (fun q : Nat => s.heap.size ≤ q) b := Nat.not_le.mpr hbl
  obtain ⟨r, h1, h2, hR⟩ := B_likenesses hR 
  refine lv_aload_n hx hb dL_law_1389 rfl (lv_at hl 1 rfl) ?_
  refine k_callVi C hP hap hAA (c_X3_likenesses l ev ad x  _ h1) em_LX (apart_LX hap) gz_X3_likenesses qML_RL_206 qIM_yX3_likenesses qSE_yX3_likenesses ⟨(Nat.le_of_ble_eq_true rfl), (Nat.le_of_ble_eq_true rfl)⟩ (q0 := 0) rfl (by decide) rfl rfl rfl rfl hl.1 rfl (Nat.le_of_ble_eq_true rfl) dL_law_1390 ⟨Nat.le_refl _, Nat.le_refl _⟩ (fun H locs hP => ?_)
  refine lv_aload_n hx hb dL_law_1393 rfl (lv_at hl 2 rfl) ?_
  refine k_callVi C hP hap hAA (c_X4_likenesses l ev (fun j => ad (j + 26)) σ  _ h2) em_LM (apart_LM hap) gz_X4_likenesses qML_RL_209 qIM_yX4_likenesses qSE_yX4_likenesses ⟨(Nat.le_of_ble_eq_true rfl), (Nat.le_of_ble_eq_true rfl)⟩ (q0 := 26) rfl (by decide) rfl rfl rfl rfl hl.1 rfl (Nat.le_of_ble_eq_true rfl) dL_law_1394 ⟨Nat.le_refl _, Nat.le_refl _⟩ (fun H locs hP => ?_)
  refine lv_icmp_eq (tgt := 1675) hx hb dL_law_1397 (by decide) (fun _ => ?_) (fun c => absurd rfl c)
  exact hn _ _ H locs _ hR hP hl
set_option maxHeartbeats 4000000 in
set_option maxRecDepth 100000 in
theorem law_c47 {p : Program} {l : Launch} {e : Env} {s : State} {m : MethodId} {below : List Frame} {meth : Method} {c : Code} {ev : EV} {ad : Nat → Nat} {b L i : Nat} {xs : Nat → Int32} (C : CX ev p s m #[Value.ref b] meth c code 4 ret R_law (fun q => s.heap.size ≤ q)) (hL : L ≤ 3072) (hX : va_X b L xs s s.heap) (hbl : b < s.heap.size) (hap : apart ad 39) (hAA : ∀ j, j < 39 → s.heap.size ≤ ad j) (hi : i + 6 ≤ L)
    (hn : ∀ (x : XX) (σ : MM) (H : Heap) (locs : List Loc) (ls : Array Slot), Rel x σ → PS ev 39 ad (LWf ev ad x σ) (fun q => s.heap.size ≤ q) s H locs → lv_has ls 4 [(0, .ref b), (1, .ref (ad 0)), (2, .ref (ad 26)), (3, .int (nI i))] → WL p l e s m b below meth c H locs 1675 ls [])
    {x : XX} {σ : MM} {H : Heap} {locs : List Loc} {ls : Array Slot} (hR : Rel x σ) (hP : PS ev 39 ad (LWf ev ad x σ) (fun q => s.heap.size ≤ q) s H locs) (hl : lv_has ls 4 [(0, .ref b), (1, .ref (ad 0)), (2, .ref (ad 26)), (3, .int (nI i))]) : WL p l e s m b below meth c H locs 1402 ls [] := by
  have hx := C.1
  have hb := C.2.1
  have hbA : ¬ (fun q : Nat => s.heap.size ≤ q) b := Nat.not_le.mpr hbl
  obtain ⟨r, x1, σ1, h1, h2, hR⟩ := B_alike hR (xs (nI i + nI 1).toNatClampNeg)
  refine lv_aload_n hx hb dL_law_1402 rfl (lv_at hl 1 rfl) ?_
  refine lv_aload_n hx hb dL_law_1403 rfl (lv_at hl 0 rfl) ?_
  refine lv_iload_n hx hb dL_law_1404 rfl (lv_at hl 3 rfl) ?_
  refine lv_iconst (v := nI 1) hx hb dL_law_1405 (by decide) ?_
  refine lv_iadd hx hb dL_law_1406 ?_
  refine va_sld hx hb hX hbl hbA hP.2 (pow6 (c := 1) hi hL (by decide)) dL_law_1407 ?_
  refine k_callVi C hP hap hAA (c_X3_alike l ev ad x (xs (nI i + nI 1).toNatClampNeg) _ _ h1) em_LX (apart_LX hap) gz_X3_alike qML_RL_210 qIM_yX3_alike qSE_yX3_alike ⟨(Nat.le_of_ble_eq_true rfl), (Nat.le_of_ble_eq_true rfl)⟩ (q0 := 0) rfl (by decide) rfl rfl rfl rfl hl.1 rfl (Nat.le_of_ble_eq_true rfl) dL_law_1408 ⟨Nat.le_refl _, Nat.le_refl _⟩ (fun H locs hP => ?_)
  refine lv_aload_n hx hb dL_law_1411 rfl (lv_at hl 2 rfl) ?_
  refine lv_aload_n hx hb dL_law_1412 rfl (lv_at hl 0 rfl) ?_
  refine lv_iload_n hx hb dL_law_1413 rfl (lv_at hl 3 rfl) ?_
  refine lv_iconst (v := nI 1) hx hb dL_law_1414 (by decide) ?_
  refine lv_iadd hx hb dL_law_1415 ?_
  refine va_sld hx hb hX hbl hbA hP.2 (pow6 (c := 1) hi hL (by decide)) dL_law_1416 ?_
  refine k_callVi C hP hap hAA (c_X4_alike l ev (fun j => ad (j + 26)) σ (xs (nI i + nI 1).toNatClampNeg) _ _ h2) em_LM (apart_LM hap) gz_X4_alike qML_RL_213 qIM_yX4_alike qSE_yX4_alike ⟨(Nat.le_of_ble_eq_true rfl), (Nat.le_of_ble_eq_true rfl)⟩ (q0 := 26) rfl (by decide) rfl rfl rfl rfl hl.1 rfl (Nat.le_of_ble_eq_true rfl) dL_law_1417 ⟨Nat.le_refl _, Nat.le_refl _⟩ (fun H locs hP => ?_)
  refine lv_icmp_eq (tgt := 1675) hx hb dL_law_1420 (by decide) (fun _ => ?_) (fun c => absurd rfl c)
  exact hn _ _ H locs _ hR hP hl
set_option maxHeartbeats 4000000 in
set_option maxRecDepth 100000 in
theorem law_c48 {p : Program} {l : Launch} {e : Env} {s : State} {m : MethodId} {below : List Frame} {meth : Method} {c : Code} {ev : EV} {ad : Nat → Nat} {b L i : Nat} {xs : Nat → Int32} (C : CX ev p s m #[Value.ref b] meth c code 4 ret R_law (fun q => s.heap.size ≤ q)) (hL : L ≤ 3072) (hX : va_X b L xs s s.heap) (hbl : b < s.heap.size) (hap : apart ad 39) (hAA : ∀ j, j < 39 → s.heap.size ≤ ad j) (hi : i + 6 ≤ L)
    (hn : ∀ (x : XX) (σ : MM) (H : Heap) (locs : List Loc) (ls : Array Slot), Rel x σ → PS ev 39 ad (LWf ev ad x σ) (fun q => s.heap.size ≤ q) s H locs → lv_has ls 4 [(0, .ref b), (1, .ref (ad 0)), (2, .ref (ad 26)), (3, .int (nI i))] → WL p l e s m b below meth c H locs 1675 ls [])
    {x : XX} {σ : MM} {H : Heap} {locs : List Loc} {ls : Array Slot} (hR : Rel x σ) (hP : PS ev 39 ad (LWf ev ad x σ) (fun q => s.heap.size ≤ q) s H locs) (hl : lv_has ls 4 [(0, .ref b), (1, .ref (ad 0)), (2, .ref (ad 26)), (3, .int (nI i))]) : WL p l e s m b below meth c H locs 1425 ls [] := by
  have hx := C.1
  have hb := C.2.1
  have hbA : ¬ (fun q : Nat => s.heap.size ≤ q) b := Nat.not_le.mpr hbl
  obtain ⟨r, x1, σ1, h1, h2, hR⟩ := B_judge hR (xs (nI i + nI 1).toNatClampNeg) (xs (nI i + nI 2).toNatClampNeg)
  refine lv_aload_n hx hb dL_law_1425 rfl (lv_at hl 1 rfl) ?_
  refine lv_aload_n hx hb dL_law_1426 rfl (lv_at hl 0 rfl) ?_
  refine lv_iload_n hx hb dL_law_1427 rfl (lv_at hl 3 rfl) ?_
  refine lv_iconst (v := nI 1) hx hb dL_law_1428 (by decide) ?_
  refine lv_iadd hx hb dL_law_1429 ?_
  refine va_sld hx hb hX hbl hbA hP.2 (pow6 (c := 1) hi hL (by decide)) dL_law_1430 ?_
  refine lv_aload_n hx hb dL_law_1431 rfl (lv_at hl 0 rfl) ?_
  refine lv_iload_n hx hb dL_law_1432 rfl (lv_at hl 3 rfl) ?_
  refine lv_iconst (v := nI 2) hx hb dL_law_1433 (by decide) ?_
  refine lv_iadd hx hb dL_law_1434 ?_
  refine va_sld hx hb hX hbl hbA hP.2 (pow6 (c := 2) hi hL (by decide)) dL_law_1435 ?_
  refine k_callVi C hP hap hAA (c_X3_judge l ev ad x (xs (nI i + nI 1).toNatClampNeg) (xs (nI i + nI 2).toNatClampNeg) _ _ h1) em_LX (apart_LX hap) gz_X3_judge qML_RL_214 qIM_yX3_judge qSE_yX3_judge ⟨(Nat.le_of_ble_eq_true rfl), (Nat.le_of_ble_eq_true rfl)⟩ (q0 := 0) rfl (by decide) rfl rfl rfl rfl hl.1 rfl (Nat.le_of_ble_eq_true rfl) dL_law_1436 ⟨Nat.le_refl _, Nat.le_refl _⟩ (fun H locs hP => ?_)
  refine lv_aload_n hx hb dL_law_1439 rfl (lv_at hl 2 rfl) ?_
  refine lv_aload_n hx hb dL_law_1440 rfl (lv_at hl 0 rfl) ?_
  refine lv_iload_n hx hb dL_law_1441 rfl (lv_at hl 3 rfl) ?_
  refine lv_iconst (v := nI 1) hx hb dL_law_1442 (by decide) ?_
  refine lv_iadd hx hb dL_law_1443 ?_
  refine va_sld hx hb hX hbl hbA hP.2 (pow6 (c := 1) hi hL (by decide)) dL_law_1444 ?_
  refine lv_aload_n hx hb dL_law_1445 rfl (lv_at hl 0 rfl) ?_
  refine lv_iload_n hx hb dL_law_1446 rfl (lv_at hl 3 rfl) ?_
  refine lv_iconst (v := nI 2) hx hb dL_law_1447 (by decide) ?_
  refine lv_iadd hx hb dL_law_1448 ?_
  refine va_sld hx hb hX hbl hbA hP.2 (pow6 (c := 2) hi hL (by decide)) dL_law_1449 ?_
  refine k_callVi C hP hap hAA (c_X4_judge l ev (fun j => ad (j + 26)) σ (xs (nI i + nI 1).toNatClampNeg) (xs (nI i + nI 2).toNatClampNeg) _ _ h2) em_LM (apart_LM hap) gz_X4_judge qML_RL_217 qIM_yX4_judge qSE_yX4_judge ⟨(Nat.le_of_ble_eq_true rfl), (Nat.le_of_ble_eq_true rfl)⟩ (q0 := 26) rfl (by decide) rfl rfl rfl rfl hl.1 rfl (Nat.le_of_ble_eq_true rfl) dL_law_1450 ⟨Nat.le_refl _, Nat.le_refl _⟩ (fun H locs hP => ?_)
  refine lv_icmp_eq (tgt := 1675) hx hb dL_law_1453 (by decide) (fun _ => ?_) (fun c => absurd rfl c)
  exact hn _ _ H locs _ hR hP hl
set_option maxHeartbeats 4000000 in
set_option maxRecDepth 100000 in
theorem law_c49 {p : Program} {l : Launch} {e : Env} {s : State} {m : MethodId} {below : List Frame} {meth : Method} {c : Code} {ev : EV} {ad : Nat → Nat} {b L i : Nat} {xs : Nat → Int32} (C : CX ev p s m #[Value.ref b] meth c code 4 ret R_law (fun q => s.heap.size ≤ q)) (hL : L ≤ 3072) (hX : va_X b L xs s s.heap) (hbl : b < s.heap.size) (hap : apart ad 39) (hAA : ∀ j, j < 39 → s.heap.size ≤ ad j) (hi : i + 6 ≤ L)
    (hn : ∀ (x : XX) (σ : MM) (H : Heap) (locs : List Loc) (ls : Array Slot), Rel x σ → PS ev 39 ad (LWf ev ad x σ) (fun q => s.heap.size ≤ q) s H locs → lv_has ls 4 [(0, .ref b), (1, .ref (ad 0)), (2, .ref (ad 26)), (3, .int (nI i))] → WL p l e s m b below meth c H locs 1675 ls [])
    {x : XX} {σ : MM} {H : Heap} {locs : List Loc} {ls : Array Slot} (hR : Rel x σ) (hP : PS ev 39 ad (LWf ev ad x σ) (fun q => s.heap.size ≤ q) s H locs) (hl : lv_has ls 4 [(0, .ref b), (1, .ref (ad 0)), (2, .ref (ad 26)), (3, .int (nI i))]) : WL p l e s m b below meth c H locs 1458 ls [] := by
  have hx := C.1
  have hb := C.2.1
  have hbA : ¬ (fun q : Nat => s.heap.size ≤ q) b := Nat.not_le.mpr hbl
  obtain ⟨r, x1, σ1, h1, h2, hR⟩ := B_behind hR (xs (nI i + nI 1).toNatClampNeg) (xs (nI i + nI 2).toNatClampNeg)
  refine lv_aload_n hx hb dL_law_1458 rfl (lv_at hl 1 rfl) ?_
  refine lv_aload_n hx hb dL_law_1459 rfl (lv_at hl 0 rfl) ?_
  refine lv_iload_n hx hb dL_law_1460 rfl (lv_at hl 3 rfl) ?_
  refine lv_iconst (v := nI 1) hx hb dL_law_1461 (by decide) ?_
  refine lv_iadd hx hb dL_law_1462 ?_
  refine va_sld hx hb hX hbl hbA hP.2 (pow6 (c := 1) hi hL (by decide)) dL_law_1463 ?_
  refine lv_aload_n hx hb dL_law_1464 rfl (lv_at hl 0 rfl) ?_
  refine lv_iload_n hx hb dL_law_1465 rfl (lv_at hl 3 rfl) ?_
  refine lv_iconst (v := nI 2) hx hb dL_law_1466 (by decide) ?_
  refine lv_iadd hx hb dL_law_1467 ?_
  refine va_sld hx hb hX hbl hbA hP.2 (pow6 (c := 2) hi hL (by decide)) dL_law_1468 ?_
  refine k_callVi C hP hap hAA (c_X3_behind l ev ad x (xs (nI i + nI 1).toNatClampNeg) (xs (nI i + nI 2).toNatClampNeg) _ _ h1) em_LX (apart_LX hap) gz_X3_behind qML_RL_218 qIM_yX3_behind qSE_yX3_behind ⟨(Nat.le_of_ble_eq_true rfl), (Nat.le_of_ble_eq_true rfl)⟩ (q0 := 0) rfl (by decide) rfl rfl rfl rfl hl.1 rfl (Nat.le_of_ble_eq_true rfl) dL_law_1469 ⟨Nat.le_refl _, Nat.le_refl _⟩ (fun H locs hP => ?_)
  refine lv_aload_n hx hb dL_law_1472 rfl (lv_at hl 2 rfl) ?_
  refine lv_aload_n hx hb dL_law_1473 rfl (lv_at hl 0 rfl) ?_
  refine lv_iload_n hx hb dL_law_1474 rfl (lv_at hl 3 rfl) ?_
  refine lv_iconst (v := nI 1) hx hb dL_law_1475 (by decide) ?_
  refine lv_iadd hx hb dL_law_1476 ?_
  refine va_sld hx hb hX hbl hbA hP.2 (pow6 (c := 1) hi hL (by decide)) dL_law_1477 ?_
  refine lv_aload_n hx hb dL_law_1478 rfl (lv_at hl 0 rfl) ?_
  refine lv_iload_n hx hb dL_law_1479 rfl (lv_at hl 3 rfl) ?_
  refine lv_iconst (v := nI 2) hx hb dL_law_1480 (by decide) ?_
  refine lv_iadd hx hb dL_law_1481 ?_
  refine va_sld hx hb hX hbl hbA hP.2 (pow6 (c := 2) hi hL (by decide)) dL_law_1482 ?_
  refine k_callVi C hP hap hAA (c_X4_behind l ev (fun j => ad (j + 26)) σ (xs (nI i + nI 1).toNatClampNeg) (xs (nI i + nI 2).toNatClampNeg) _ _ h2) em_LM (apart_LM hap) gz_X4_behind qML_RL_221 qIM_yX4_behind qSE_yX4_behind ⟨(Nat.le_of_ble_eq_true rfl), (Nat.le_of_ble_eq_true rfl)⟩ (q0 := 26) rfl (by decide) rfl rfl rfl rfl hl.1 rfl (Nat.le_of_ble_eq_true rfl) dL_law_1483 ⟨Nat.le_refl _, Nat.le_refl _⟩ (fun H locs hP => ?_)
  refine lv_icmp_eq (tgt := 1675) hx hb dL_law_1486 (by decide) (fun _ => ?_) (fun c => absurd rfl c)
  exact hn _ _ H locs _ hR hP hl
set_option maxHeartbeats 4000000 in
set_option maxRecDepth 100000 in
theorem law_c50 {p : Program} {l : Launch} {e : Env} {s : State} {m : MethodId} {below : List Frame} {meth : Method} {c : Code} {ev : EV} {ad : Nat → Nat} {b L i : Nat} {xs : Nat → Int32} (C : CX ev p s m #[Value.ref b] meth c code 4 ret R_law (fun q => s.heap.size ≤ q)) (hL : L ≤ 3072) (hX : va_X b L xs s s.heap) (hbl : b < s.heap.size) (hap : apart ad 39) (hAA : ∀ j, j < 39 → s.heap.size ≤ ad j) (hi : i + 6 ≤ L)
    (hn : ∀ (x : XX) (σ : MM) (H : Heap) (locs : List Loc) (ls : Array Slot), Rel x σ → PS ev 39 ad (LWf ev ad x σ) (fun q => s.heap.size ≤ q) s H locs → lv_has ls 4 [(0, .ref b), (1, .ref (ad 0)), (2, .ref (ad 26)), (3, .int (nI i))] → WL p l e s m b below meth c H locs 1675 ls [])
    {x : XX} {σ : MM} {H : Heap} {locs : List Loc} {ls : Array Slot} (hR : Rel x σ) (hP : PS ev 39 ad (LWf ev ad x σ) (fun q => s.heap.size ≤ q) s H locs) (hl : lv_has ls 4 [(0, .ref b), (1, .ref (ad 0)), (2, .ref (ad 26)), (3, .int (nI i))]) : WL p l e s m b below meth c H locs 1491 ls [] := by
  have hx := C.1
  have hb := C.2.1
  have hbA : ¬ (fun q : Nat => s.heap.size ≤ q) b := Nat.not_le.mpr hbl
  obtain ⟨r, x1, σ1, h1, h2, hR⟩ := B_done hR (xs (nI i + nI 1).toNatClampNeg) (xs (nI i + nI 2).toNatClampNeg)
  refine lv_aload_n hx hb dL_law_1491 rfl (lv_at hl 1 rfl) ?_
  refine lv_aload_n hx hb dL_law_1492 rfl (lv_at hl 0 rfl) ?_
  refine lv_iload_n hx hb dL_law_1493 rfl (lv_at hl 3 rfl) ?_
  refine lv_iconst (v := nI 1) hx hb dL_law_1494 (by decide) ?_
  refine lv_iadd hx hb dL_law_1495 ?_
  refine va_sld hx hb hX hbl hbA hP.2 (pow6 (c := 1) hi hL (by decide)) dL_law_1496 ?_
  refine lv_aload_n hx hb dL_law_1497 rfl (lv_at hl 0 rfl) ?_
  refine lv_iload_n hx hb dL_law_1498 rfl (lv_at hl 3 rfl) ?_
  refine lv_iconst (v := nI 2) hx hb dL_law_1499 (by decide) ?_
  refine lv_iadd hx hb dL_law_1500 ?_
  refine va_sld hx hb hX hbl hbA hP.2 (pow6 (c := 2) hi hL (by decide)) dL_law_1501 ?_
  refine k_callVi C hP hap hAA (c_X3_done l ev ad x (xs (nI i + nI 1).toNatClampNeg) (xs (nI i + nI 2).toNatClampNeg) _ _ h1) em_LX (apart_LX hap) gz_X3_done qML_RL_222 qIM_yX3_done qSE_yX3_done ⟨(Nat.le_of_ble_eq_true rfl), (Nat.le_of_ble_eq_true rfl)⟩ (q0 := 0) rfl (by decide) rfl rfl rfl rfl hl.1 rfl (Nat.le_of_ble_eq_true rfl) dL_law_1502 ⟨Nat.le_refl _, Nat.le_refl _⟩ (fun H locs hP => ?_)
  refine lv_aload_n hx hb dL_law_1505 rfl (lv_at hl 2 rfl) ?_
  refine lv_aload_n hx hb dL_law_1506 rfl (lv_at hl 0 rfl) ?_
  refine lv_iload_n hx hb dL_law_1507 rfl (lv_at hl 3 rfl) ?_
  refine lv_iconst (v := nI 1) hx hb dL_law_1508 (by decide) ?_
  refine lv_iadd hx hb dL_law_1509 ?_
  refine va_sld hx hb hX hbl hbA hP.2 (pow6 (c := 1) hi hL (by decide)) dL_law_1510 ?_
  refine lv_aload_n hx hb dL_law_1511 rfl (lv_at hl 0 rfl) ?_
  refine lv_iload_n hx hb dL_law_1512 rfl (lv_at hl 3 rfl) ?_
  refine lv_iconst (v := nI 2) hx hb dL_law_1513 (by decide) ?_
  refine lv_iadd hx hb dL_law_1514 ?_
  refine va_sld hx hb hX hbl hbA hP.2 (pow6 (c := 2) hi hL (by decide)) dL_law_1515 ?_
  refine k_callVi C hP hap hAA (c_X4_done l ev (fun j => ad (j + 26)) σ (xs (nI i + nI 1).toNatClampNeg) (xs (nI i + nI 2).toNatClampNeg) _ _ h2) em_LM (apart_LM hap) gz_X4_done qML_RL_225 qIM_yX4_done qSE_yX4_done ⟨(Nat.le_of_ble_eq_true rfl), (Nat.le_of_ble_eq_true rfl)⟩ (q0 := 26) rfl (by decide) rfl rfl rfl rfl hl.1 rfl (Nat.le_of_ble_eq_true rfl) dL_law_1516 ⟨Nat.le_refl _, Nat.le_refl _⟩ (fun H locs hP => ?_)
  refine lv_icmp_eq (tgt := 1675) hx hb dL_law_1519 (by decide) (fun _ => ?_) (fun c => absurd rfl c)
  exact hn _ _ H locs _ hR hP hl
set_option maxHeartbeats 4000000 in
set_option maxRecDepth 100000 in
theorem law_c51 {p : Program} {l : Launch} {e : Env} {s : State} {m : MethodId} {below : List Frame} {meth : Method} {c : Code} {ev : EV} {ad : Nat → Nat} {b L i : Nat} {xs : Nat → Int32} (C : CX ev p s m #[Value.ref b] meth c code 4 ret R_law (fun q => s.heap.size ≤ q)) (hL : L ≤ 3072) (hX : va_X b L xs s s.heap) (hbl : b < s.heap.size) (hap : apart ad 39) (hAA : ∀ j, j < 39 → s.heap.size ≤ ad j) (hi : i + 6 ≤ L)
    (hn : ∀ (x : XX) (σ : MM) (H : Heap) (locs : List Loc) (ls : Array Slot), Rel x σ → PS ev 39 ad (LWf ev ad x σ) (fun q => s.heap.size ≤ q) s H locs → lv_has ls 4 [(0, .ref b), (1, .ref (ad 0)), (2, .ref (ad 26)), (3, .int (nI i))] → WL p l e s m b below meth c H locs 1675 ls [])
    {x : XX} {σ : MM} {H : Heap} {locs : List Loc} {ls : Array Slot} (hR : Rel x σ) (hP : PS ev 39 ad (LWf ev ad x σ) (fun q => s.heap.size ≤ q) s H locs) (hl : lv_has ls 4 [(0, .ref b), (1, .ref (ad 0)), (2, .ref (ad 26)), (3, .int (nI i))]) : WL p l e s m b below meth c H locs 1524 ls [] := by
  have hx := C.1
  have hb := C.2.1
  have hbA : ¬ (fun q : Nat => s.heap.size ≤ q) b := Nat.not_le.mpr hbl
  obtain ⟨r, x1, σ1, h1, h2, hR⟩ := B_move hR (xs (nI i + nI 1).toNatClampNeg)
  refine lv_aload_n hx hb dL_law_1524 rfl (lv_at hl 1 rfl) ?_
  refine lv_aload_n hx hb dL_law_1525 rfl (lv_at hl 0 rfl) ?_
  refine lv_iload_n hx hb dL_law_1526 rfl (lv_at hl 3 rfl) ?_
  refine lv_iconst (v := nI 1) hx hb dL_law_1527 (by decide) ?_
  refine lv_iadd hx hb dL_law_1528 ?_
  refine va_sld hx hb hX hbl hbA hP.2 (pow6 (c := 1) hi hL (by decide)) dL_law_1529 ?_
  refine k_callVi C hP hap hAA (c_X3_move l ev ad x (xs (nI i + nI 1).toNatClampNeg) _ _ h1) em_LX (apart_LX hap) gz_X3_move qML_RL_226 qIM_yX3_move qSE_yX3_move ⟨(Nat.le_of_ble_eq_true rfl), (Nat.le_of_ble_eq_true rfl)⟩ (q0 := 0) rfl (by decide) rfl rfl rfl rfl hl.1 rfl (Nat.le_of_ble_eq_true rfl) dL_law_1530 ⟨Nat.le_refl _, Nat.le_refl _⟩ (fun H locs hP => ?_)
  refine lv_aload_n hx hb dL_law_1533 rfl (lv_at hl 2 rfl) ?_
  refine lv_aload_n hx hb dL_law_1534 rfl (lv_at hl 0 rfl) ?_
  refine lv_iload_n hx hb dL_law_1535 rfl (lv_at hl 3 rfl) ?_
  refine lv_iconst (v := nI 1) hx hb dL_law_1536 (by decide) ?_
  refine lv_iadd hx hb dL_law_1537 ?_
  refine va_sld hx hb hX hbl hbA hP.2 (pow6 (c := 1) hi hL (by decide)) dL_law_1538 ?_
  refine k_callVi C hP hap hAA (c_X4_move l ev (fun j => ad (j + 26)) σ (xs (nI i + nI 1).toNatClampNeg) _ _ h2) em_LM (apart_LM hap) gz_X4_move qML_RL_229 qIM_yX4_move qSE_yX4_move ⟨(Nat.le_of_ble_eq_true rfl), (Nat.le_of_ble_eq_true rfl)⟩ (q0 := 26) rfl (by decide) rfl rfl rfl rfl hl.1 rfl (Nat.le_of_ble_eq_true rfl) dL_law_1539 ⟨Nat.le_refl _, Nat.le_refl _⟩ (fun H locs hP => ?_)
  refine lv_icmp_eq (tgt := 1675) hx hb dL_law_1542 (by decide) (fun _ => ?_) (fun c => absurd rfl c)
  exact hn _ _ H locs _ hR hP hl
set_option maxHeartbeats 4000000 in
set_option maxRecDepth 100000 in
theorem law_c52 {p : Program} {l : Launch} {e : Env} {s : State} {m : MethodId} {below : List Frame} {meth : Method} {c : Code} {ev : EV} {ad : Nat → Nat} {b L i : Nat} {xs : Nat → Int32} (C : CX ev p s m #[Value.ref b] meth c code 4 ret R_law (fun q => s.heap.size ≤ q)) (hL : L ≤ 3072) (hX : va_X b L xs s s.heap) (hbl : b < s.heap.size) (hap : apart ad 39) (hAA : ∀ j, j < 39 → s.heap.size ≤ ad j) (hi : i + 6 ≤ L)
    (hn : ∀ (x : XX) (σ : MM) (H : Heap) (locs : List Loc) (ls : Array Slot), Rel x σ → PS ev 39 ad (LWf ev ad x σ) (fun q => s.heap.size ≤ q) s H locs → lv_has ls 4 [(0, .ref b), (1, .ref (ad 0)), (2, .ref (ad 26)), (3, .int (nI i))] → WL p l e s m b below meth c H locs 1675 ls [])
    {x : XX} {σ : MM} {H : Heap} {locs : List Loc} {ls : Array Slot} (hR : Rel x σ) (hP : PS ev 39 ad (LWf ev ad x σ) (fun q => s.heap.size ≤ q) s H locs) (hl : lv_has ls 4 [(0, .ref b), (1, .ref (ad 0)), (2, .ref (ad 26)), (3, .int (nI i))]) : WL p l e s m b below meth c H locs 1547 ls [] := by
  have hx := C.1
  have hb := C.2.1
  have hbA : ¬ (fun q : Nat => s.heap.size ≤ q) b := Nat.not_le.mpr hbl
  obtain ⟨r, x1, σ1, h1, h2, hR⟩ := B_goes hR (xs (nI i + nI 1).toNatClampNeg) (xs (nI i + nI 2).toNatClampNeg)
  refine lv_aload_n hx hb dL_law_1547 rfl (lv_at hl 1 rfl) ?_
  refine lv_aload_n hx hb dL_law_1548 rfl (lv_at hl 0 rfl) ?_
  refine lv_iload_n hx hb dL_law_1549 rfl (lv_at hl 3 rfl) ?_
  refine lv_iconst (v := nI 1) hx hb dL_law_1550 (by decide) ?_
  refine lv_iadd hx hb dL_law_1551 ?_
  refine va_sld hx hb hX hbl hbA hP.2 (pow6 (c := 1) hi hL (by decide)) dL_law_1552 ?_
  refine lv_aload_n hx hb dL_law_1553 rfl (lv_at hl 0 rfl) ?_
  refine lv_iload_n hx hb dL_law_1554 rfl (lv_at hl 3 rfl) ?_
  refine lv_iconst (v := nI 2) hx hb dL_law_1555 (by decide) ?_
  refine lv_iadd hx hb dL_law_1556 ?_
  refine va_sld hx hb hX hbl hbA hP.2 (pow6 (c := 2) hi hL (by decide)) dL_law_1557 ?_
  refine k_callVi C hP hap hAA (c_X3_goes l ev ad x (xs (nI i + nI 1).toNatClampNeg) (xs (nI i + nI 2).toNatClampNeg) _ _ h1) em_LX (apart_LX hap) gz_X3_goes qML_RL_230 qIM_yX3_goes qSE_yX3_goes ⟨(Nat.le_of_ble_eq_true rfl), (Nat.le_of_ble_eq_true rfl)⟩ (q0 := 0) rfl (by decide) rfl rfl rfl rfl hl.1 rfl (Nat.le_of_ble_eq_true rfl) dL_law_1558 ⟨Nat.le_refl _, Nat.le_refl _⟩ (fun H locs hP => ?_)
  refine lv_aload_n hx hb dL_law_1561 rfl (lv_at hl 2 rfl) ?_
  refine lv_aload_n hx hb dL_law_1562 rfl (lv_at hl 0 rfl) ?_
  refine lv_iload_n hx hb dL_law_1563 rfl (lv_at hl 3 rfl) ?_
  refine lv_iconst (v := nI 1) hx hb dL_law_1564 (by decide) ?_
  refine lv_iadd hx hb dL_law_1565 ?_
  refine va_sld hx hb hX hbl hbA hP.2 (pow6 (c := 1) hi hL (by decide)) dL_law_1566 ?_
  refine lv_aload_n hx hb dL_law_1567 rfl (lv_at hl 0 rfl) ?_
  refine lv_iload_n hx hb dL_law_1568 rfl (lv_at hl 3 rfl) ?_
  refine lv_iconst (v := nI 2) hx hb dL_law_1569 (by decide) ?_
  refine lv_iadd hx hb dL_law_1570 ?_
  refine va_sld hx hb hX hbl hbA hP.2 (pow6 (c := 2) hi hL (by decide)) dL_law_1571 ?_
  refine k_callVi C hP hap hAA (c_X4_goes l ev (fun j => ad (j + 26)) σ (xs (nI i + nI 1).toNatClampNeg) (xs (nI i + nI 2).toNatClampNeg) _ _ h2) em_LM (apart_LM hap) gz_X4_goes qML_RL_233 qIM_yX4_goes qSE_yX4_goes ⟨(Nat.le_of_ble_eq_true rfl), (Nat.le_of_ble_eq_true rfl)⟩ (q0 := 26) rfl (by decide) rfl rfl rfl rfl hl.1 rfl (Nat.le_of_ble_eq_true rfl) dL_law_1572 ⟨Nat.le_refl _, Nat.le_refl _⟩ (fun H locs hP => ?_)
  refine lv_icmp_eq (tgt := 1675) hx hb dL_law_1575 (by decide) (fun _ => ?_) (fun c => absurd rfl c)
  exact hn _ _ H locs _ hR hP hl
set_option maxHeartbeats 4000000 in
set_option maxRecDepth 100000 in
theorem law_c53 {p : Program} {l : Launch} {e : Env} {s : State} {m : MethodId} {below : List Frame} {meth : Method} {c : Code} {ev : EV} {ad : Nat → Nat} {b L i : Nat} {xs : Nat → Int32} (C : CX ev p s m #[Value.ref b] meth c code 4 ret R_law (fun q => s.heap.size ≤ q)) (hL : L ≤ 3072) (hX : va_X b L xs s s.heap) (hbl : b < s.heap.size) (hap : apart ad 39) (hAA : ∀ j, j < 39 → s.heap.size ≤ ad j) (hi : i + 6 ≤ L)
    (hn : ∀ (x : XX) (σ : MM) (H : Heap) (locs : List Loc) (ls : Array Slot), Rel x σ → PS ev 39 ad (LWf ev ad x σ) (fun q => s.heap.size ≤ q) s H locs → lv_has ls 4 [(0, .ref b), (1, .ref (ad 0)), (2, .ref (ad 26)), (3, .int (nI i))] → WL p l e s m b below meth c H locs 1675 ls [])
    {x : XX} {σ : MM} {H : Heap} {locs : List Loc} {ls : Array Slot} (hR : Rel x σ) (hP : PS ev 39 ad (LWf ev ad x σ) (fun q => s.heap.size ≤ q) s H locs) (hl : lv_has ls 4 [(0, .ref b), (1, .ref (ad 0)), (2, .ref (ad 26)), (3, .int (nI i))]) : WL p l e s m b below meth c H locs 1580 ls [] := by
  have hx := C.1
  have hb := C.2.1
  have hbA : ¬ (fun q : Nat => s.heap.size ≤ q) b := Nat.not_le.mpr hbl
  obtain ⟨r, x1, σ1, h1, h2, hR⟩ := B_games hR (xs (nI i + nI 1).toNatClampNeg)
  refine lv_aload_n hx hb dL_law_1580 rfl (lv_at hl 1 rfl) ?_
  refine lv_aload_n hx hb dL_law_1581 rfl (lv_at hl 0 rfl) ?_
  refine lv_iload_n hx hb dL_law_1582 rfl (lv_at hl 3 rfl) ?_
  refine lv_iconst (v := nI 1) hx hb dL_law_1583 (by decide) ?_
  refine lv_iadd hx hb dL_law_1584 ?_
  refine va_sld hx hb hX hbl hbA hP.2 (pow6 (c := 1) hi hL (by decide)) dL_law_1585 ?_
  refine k_callVi C hP hap hAA (c_X3_games l ev ad x (xs (nI i + nI 1).toNatClampNeg) _ _ h1) em_LX (apart_LX hap) gz_X3_games qML_RL_234 qIM_yX3_games qSE_yX3_games ⟨(Nat.le_of_ble_eq_true rfl), (Nat.le_of_ble_eq_true rfl)⟩ (q0 := 0) rfl (by decide) rfl rfl rfl rfl hl.1 rfl (Nat.le_of_ble_eq_true rfl) dL_law_1586 ⟨Nat.le_refl _, Nat.le_refl _⟩ (fun H locs hP => ?_)
  refine lv_aload_n hx hb dL_law_1589 rfl (lv_at hl 2 rfl) ?_
  refine lv_aload_n hx hb dL_law_1590 rfl (lv_at hl 0 rfl) ?_
  refine lv_iload_n hx hb dL_law_1591 rfl (lv_at hl 3 rfl) ?_
  refine lv_iconst (v := nI 1) hx hb dL_law_1592 (by decide) ?_
  refine lv_iadd hx hb dL_law_1593 ?_
  refine va_sld hx hb hX hbl hbA hP.2 (pow6 (c := 1) hi hL (by decide)) dL_law_1594 ?_
  refine k_callVi C hP hap hAA (c_X4_games l ev (fun j => ad (j + 26)) σ (xs (nI i + nI 1).toNatClampNeg) _ _ h2) em_LM (apart_LM hap) gz_X4_games qML_RL_237 qIM_yX4_games qSE_yX4_games ⟨(Nat.le_of_ble_eq_true rfl), (Nat.le_of_ble_eq_true rfl)⟩ (q0 := 26) rfl (by decide) rfl rfl rfl rfl hl.1 rfl (Nat.le_of_ble_eq_true rfl) dL_law_1595 ⟨Nat.le_refl _, Nat.le_refl _⟩ (fun H locs hP => ?_)
  refine lv_icmp_eq (tgt := 1675) hx hb dL_law_1598 (by decide) (fun _ => ?_) (fun c => absurd rfl c)
  exact hn _ _ H locs _ hR hP hl
set_option maxHeartbeats 4000000 in
set_option maxRecDepth 100000 in
theorem law_c54 {p : Program} {l : Launch} {e : Env} {s : State} {m : MethodId} {below : List Frame} {meth : Method} {c : Code} {ev : EV} {ad : Nat → Nat} {b L i : Nat} {xs : Nat → Int32} (C : CX ev p s m #[Value.ref b] meth c code 4 ret R_law (fun q => s.heap.size ≤ q)) (hL : L ≤ 3072) (hX : va_X b L xs s s.heap) (hbl : b < s.heap.size) (hap : apart ad 39) (hAA : ∀ j, j < 39 → s.heap.size ≤ ad j) (hi : i + 6 ≤ L)
    (hn : ∀ (x : XX) (σ : MM) (H : Heap) (locs : List Loc) (ls : Array Slot), Rel x σ → PS ev 39 ad (LWf ev ad x σ) (fun q => s.heap.size ≤ q) s H locs → lv_has ls 4 [(0, .ref b), (1, .ref (ad 0)), (2, .ref (ad 26)), (3, .int (nI i))] → WL p l e s m b below meth c H locs 1675 ls [])
    {x : XX} {σ : MM} {H : Heap} {locs : List Loc} {ls : Array Slot} (hR : Rel x σ) (hP : PS ev 39 ad (LWf ev ad x σ) (fun q => s.heap.size ≤ q) s H locs) (hl : lv_has ls 4 [(0, .ref b), (1, .ref (ad 0)), (2, .ref (ad 26)), (3, .int (nI i))]) : WL p l e s m b below meth c H locs 1603 ls [] := by
  have hx := C.1
  have hb := C.2.1
  have hbA : ¬ (fun q : Nat => s.heap.size ≤ q) b := Nat.not_le.mpr hbl
  obtain ⟨r, x1, σ1, h1, h2, hR⟩ := B_seed hR (xs (nI i + nI 1).toNatClampNeg)
  refine lv_aload_n hx hb dL_law_1603 rfl (lv_at hl 1 rfl) ?_
  refine lv_aload_n hx hb dL_law_1604 rfl (lv_at hl 0 rfl) ?_
  refine lv_iload_n hx hb dL_law_1605 rfl (lv_at hl 3 rfl) ?_
  refine lv_iconst (v := nI 1) hx hb dL_law_1606 (by decide) ?_
  refine lv_iadd hx hb dL_law_1607 ?_
  refine va_sld hx hb hX hbl hbA hP.2 (pow6 (c := 1) hi hL (by decide)) dL_law_1608 ?_
  refine k_callVi C hP hap hAA (c_X3_seed l ev ad x (xs (nI i + nI 1).toNatClampNeg) _ _ h1) em_LX (apart_LX hap) gz_X3_seed qML_RL_238 qIM_yX3_seed qSE_yX3_seed ⟨(Nat.le_of_ble_eq_true rfl), (Nat.le_of_ble_eq_true rfl)⟩ (q0 := 0) rfl (by decide) rfl rfl rfl rfl hl.1 rfl (Nat.le_of_ble_eq_true rfl) dL_law_1609 ⟨Nat.le_refl _, Nat.le_refl _⟩ (fun H locs hP => ?_)
  refine lv_aload_n hx hb dL_law_1612 rfl (lv_at hl 2 rfl) ?_
  refine lv_aload_n hx hb dL_law_1613 rfl (lv_at hl 0 rfl) ?_
  refine lv_iload_n hx hb dL_law_1614 rfl (lv_at hl 3 rfl) ?_
  refine lv_iconst (v := nI 1) hx hb dL_law_1615 (by decide) ?_
  refine lv_iadd hx hb dL_law_1616 ?_
  refine va_sld hx hb hX hbl hbA hP.2 (pow6 (c := 1) hi hL (by decide)) dL_law_1617 ?_
  refine k_callVi C hP hap hAA (c_X4_seed l ev (fun j => ad (j + 26)) σ (xs (nI i + nI 1).toNatClampNeg) _ _ h2) em_LM (apart_LM hap) gz_X4_seed qML_RL_241 qIM_yX4_seed qSE_yX4_seed ⟨(Nat.le_of_ble_eq_true rfl), (Nat.le_of_ble_eq_true rfl)⟩ (q0 := 26) rfl (by decide) rfl rfl rfl rfl hl.1 rfl (Nat.le_of_ble_eq_true rfl) dL_law_1618 ⟨Nat.le_refl _, Nat.le_refl _⟩ (fun H locs hP => ?_)
  refine lv_icmp_eq (tgt := 1675) hx hb dL_law_1621 (by decide) (fun _ => ?_) (fun c => absurd rfl c)
  exact hn _ _ H locs _ hR hP hl
set_option maxHeartbeats 4000000 in
set_option maxRecDepth 100000 in
theorem law_c55 {p : Program} {l : Launch} {e : Env} {s : State} {m : MethodId} {below : List Frame} {meth : Method} {c : Code} {ev : EV} {ad : Nat → Nat} {b L i : Nat} {xs : Nat → Int32} (C : CX ev p s m #[Value.ref b] meth c code 4 ret R_law (fun q => s.heap.size ≤ q)) (hL : L ≤ 3072) (hX : va_X b L xs s s.heap) (hbl : b < s.heap.size) (hap : apart ad 39) (hAA : ∀ j, j < 39 → s.heap.size ≤ ad j) (hi : i + 6 ≤ L)
    (hn : ∀ (x : XX) (σ : MM) (H : Heap) (locs : List Loc) (ls : Array Slot), Rel x σ → PS ev 39 ad (LWf ev ad x σ) (fun q => s.heap.size ≤ q) s H locs → lv_has ls 4 [(0, .ref b), (1, .ref (ad 0)), (2, .ref (ad 26)), (3, .int (nI i))] → WL p l e s m b below meth c H locs 1675 ls [])
    {x : XX} {σ : MM} {H : Heap} {locs : List Loc} {ls : Array Slot} (hR : Rel x σ) (hP : PS ev 39 ad (LWf ev ad x σ) (fun q => s.heap.size ≤ q) s H locs) (hl : lv_has ls 4 [(0, .ref b), (1, .ref (ad 0)), (2, .ref (ad 26)), (3, .int (nI i))]) : WL p l e s m b below meth c H locs 1626 ls [] := by
  have hx := C.1
  have hb := C.2.1
  have hbA : ¬ (fun q : Nat => s.heap.size ≤ q) b := Nat.not_le.mpr hbl
  obtain ⟨r, x1, σ1, h1, h2, hR⟩ := B_image hR 
  refine lv_aload_n hx hb dL_law_1626 rfl (lv_at hl 1 rfl) ?_
  refine k_callVi C hP hap hAA (c_X3_image l ev ad x  _ _ h1) em_LX (apart_LX hap) gz_X3_image qML_RL_242 qIM_yX3_image qSE_yX3_image ⟨(Nat.le_of_ble_eq_true rfl), (Nat.le_of_ble_eq_true rfl)⟩ (q0 := 0) rfl (by decide) rfl rfl rfl rfl hl.1 rfl (Nat.le_of_ble_eq_true rfl) dL_law_1627 ⟨Nat.le_refl _, Nat.le_refl _⟩ (fun H locs hP => ?_)
  refine lv_aload_n hx hb dL_law_1630 rfl (lv_at hl 2 rfl) ?_
  refine k_callVi C hP hap hAA (c_X4_image l ev (fun j => ad (j + 26)) σ  _ _ h2) em_LM (apart_LM hap) gz_X4_image qML_RL_245 qIM_yX4_image qSE_yX4_image ⟨(Nat.le_of_ble_eq_true rfl), (Nat.le_of_ble_eq_true rfl)⟩ (q0 := 26) rfl (by decide) rfl rfl rfl rfl hl.1 rfl (Nat.le_of_ble_eq_true rfl) dL_law_1631 ⟨Nat.le_refl _, Nat.le_refl _⟩ (fun H locs hP => ?_)
  refine lv_icmp_eq (tgt := 1675) hx hb dL_law_1634 (by decide) (fun _ => ?_) (fun c => absurd rfl c)
  exact hn _ _ H locs _ hR hP hl
set_option maxHeartbeats 4000000 in
set_option maxRecDepth 100000 in
theorem law_c56 {p : Program} {l : Launch} {e : Env} {s : State} {m : MethodId} {below : List Frame} {meth : Method} {c : Code} {ev : EV} {ad : Nat → Nat} {b L i : Nat} {xs : Nat → Int32} (C : CX ev p s m #[Value.ref b] meth c code 4 ret R_law (fun q => s.heap.size ≤ q)) (hL : L ≤ 3072) (hX : va_X b L xs s s.heap) (hbl : b < s.heap.size) (hap : apart ad 39) (hAA : ∀ j, j < 39 → s.heap.size ≤ ad j) (hi : i + 6 ≤ L)
    (hn : ∀ (x : XX) (σ : MM) (H : Heap) (locs : List Loc) (ls : Array Slot), Rel x σ → PS ev 39 ad (LWf ev ad x σ) (fun q => s.heap.size ≤ q) s H locs → lv_has ls 4 [(0, .ref b), (1, .ref (ad 0)), (2, .ref (ad 26)), (3, .int (nI i))] → WL p l e s m b below meth c H locs 1675 ls [])
    {x : XX} {σ : MM} {H : Heap} {locs : List Loc} {ls : Array Slot} (hR : Rel x σ) (hP : PS ev 39 ad (LWf ev ad x σ) (fun q => s.heap.size ≤ q) s H locs) (hl : lv_has ls 4 [(0, .ref b), (1, .ref (ad 0)), (2, .ref (ad 26)), (3, .int (nI i))]) : WL p l e s m b below meth c H locs 1639 ls [] := by
  have hx := C.1
  have hb := C.2.1
  have hbA : ¬ (fun q : Nat => s.heap.size ≤ q) b := Nat.not_le.mpr hbl
  obtain ⟨r, x1, σ1, h1, h2, hR⟩ := B_back hR 
  refine lv_aload_n hx hb dL_law_1639 rfl (lv_at hl 1 rfl) ?_
  refine k_callVi C hP hap hAA (c_X3_back l ev ad x  _ _ h1) em_LX (apart_LX hap) gz_X3_back qML_RL_246 qIM_yX3_back qSE_yX3_back ⟨(Nat.le_of_ble_eq_true rfl), (Nat.le_of_ble_eq_true rfl)⟩ (q0 := 0) rfl (by decide) rfl rfl rfl rfl hl.1 rfl (Nat.le_of_ble_eq_true rfl) dL_law_1640 ⟨Nat.le_refl _, Nat.le_refl _⟩ (fun H locs hP => ?_)
  refine lv_aload_n hx hb dL_law_1643 rfl (lv_at hl 2 rfl) ?_
  refine k_callVi C hP hap hAA (c_X4_back l ev (fun j => ad (j + 26)) σ  _ _ h2) em_LM (apart_LM hap) gz_X4_back qML_RL_249 qIM_yX4_back qSE_yX4_back ⟨(Nat.le_of_ble_eq_true rfl), (Nat.le_of_ble_eq_true rfl)⟩ (q0 := 26) rfl (by decide) rfl rfl rfl rfl hl.1 rfl (Nat.le_of_ble_eq_true rfl) dL_law_1644 ⟨Nat.le_refl _, Nat.le_refl _⟩ (fun H locs hP => ?_)
  refine lv_icmp_eq (tgt := 1675) hx hb dL_law_1647 (by decide) (fun _ => ?_) (fun c => absurd rfl c)
  exact hn _ _ H locs _ hR hP hl
set_option maxHeartbeats 4000000 in
set_option maxRecDepth 100000 in
theorem law_c57 {p : Program} {l : Launch} {e : Env} {s : State} {m : MethodId} {below : List Frame} {meth : Method} {c : Code} {ev : EV} {ad : Nat → Nat} {b L i : Nat} {xs : Nat → Int32} (C : CX ev p s m #[Value.ref b] meth c code 4 ret R_law (fun q => s.heap.size ≤ q)) (hL : L ≤ 3072) (hX : va_X b L xs s s.heap) (hbl : b < s.heap.size) (hap : apart ad 39) (hAA : ∀ j, j < 39 → s.heap.size ≤ ad j) (hi : i + 6 ≤ L)
    (hn : ∀ (x : XX) (σ : MM) (H : Heap) (locs : List Loc) (ls : Array Slot), Rel x σ → PS ev 39 ad (LWf ev ad x σ) (fun q => s.heap.size ≤ q) s H locs → lv_has ls 4 [(0, .ref b), (1, .ref (ad 0)), (2, .ref (ad 26)), (3, .int (nI i))] → WL p l e s m b below meth c H locs 1675 ls [])
    {x : XX} {σ : MM} {H : Heap} {locs : List Loc} {ls : Array Slot} (hR : Rel x σ) (hP : PS ev 39 ad (LWf ev ad x σ) (fun q => s.heap.size ≤ q) s H locs) (hl : lv_has ls 4 [(0, .ref b), (1, .ref (ad 0)), (2, .ref (ad 26)), (3, .int (nI i))]) : WL p l e s m b below meth c H locs 1652 ls [] := by
  have hx := C.1
  have hb := C.2.1
  have hbA : ¬ (fun q : Nat => s.heap.size ≤ q) b := Nat.not_le.mpr hbl
  obtain ⟨r, h1, h2, hR⟩ := B_status hR (xs (nI i + nI 1).toNatClampNeg)
  refine lv_aload_n hx hb dL_law_1652 rfl (lv_at hl 1 rfl) ?_
  refine lv_aload_n hx hb dL_law_1653 rfl (lv_at hl 0 rfl) ?_
  refine lv_iload_n hx hb dL_law_1654 rfl (lv_at hl 3 rfl) ?_
  refine lv_iconst (v := nI 1) hx hb dL_law_1655 (by decide) ?_
  refine lv_iadd hx hb dL_law_1656 ?_
  refine va_sld hx hb hX hbl hbA hP.2 (pow6 (c := 1) hi hL (by decide)) dL_law_1657 ?_
  refine k_callVi C hP hap hAA (c_X3_status l ev ad x (xs (nI i + nI 1).toNatClampNeg) _ h1) em_LX (apart_LX hap) gz_X3_status qML_RL_250 qIM_yX3_status qSE_yX3_status ⟨(Nat.le_of_ble_eq_true rfl), (Nat.le_of_ble_eq_true rfl)⟩ (q0 := 0) rfl (by decide) rfl rfl rfl rfl hl.1 rfl (Nat.le_of_ble_eq_true rfl) dL_law_1658 ⟨Nat.le_refl _, Nat.le_refl _⟩ (fun H locs hP => ?_)
  refine lv_aload_n hx hb dL_law_1661 rfl (lv_at hl 2 rfl) ?_
  refine lv_aload_n hx hb dL_law_1662 rfl (lv_at hl 0 rfl) ?_
  refine lv_iload_n hx hb dL_law_1663 rfl (lv_at hl 3 rfl) ?_
  refine lv_iconst (v := nI 1) hx hb dL_law_1664 (by decide) ?_
  refine lv_iadd hx hb dL_law_1665 ?_
  refine va_sld hx hb hX hbl hbA hP.2 (pow6 (c := 1) hi hL (by decide)) dL_law_1666 ?_
  refine k_callVi C hP hap hAA (c_X4_status l ev (fun j => ad (j + 26)) σ (xs (nI i + nI 1).toNatClampNeg) _ h2) em_LM (apart_LM hap) gz_X4_status qML_RL_253 qIM_yX4_status qSE_yX4_status ⟨(Nat.le_of_ble_eq_true rfl), (Nat.le_of_ble_eq_true rfl)⟩ (q0 := 26) rfl (by decide) rfl rfl rfl rfl hl.1 rfl (Nat.le_of_ble_eq_true rfl) dL_law_1667 ⟨Nat.le_refl _, Nat.le_refl _⟩ (fun H locs hP => ?_)
  refine lv_icmp_eq (tgt := 1675) hx hb dL_law_1670 (by decide) (fun _ => ?_) (fun c => absurd rfl c)
  exact hn _ _ H locs _ hR hP hl
set_option maxHeartbeats 16000000 in
set_option maxRecDepth 100000 in
/-- the switch of the law -/
theorem law_sw {p : Program} {l : Launch} {e : Env} {s : State} {m : MethodId} {below : List Frame} {meth : Method} {c : Code} {ev : EV} {ad : Nat → Nat} {b L i : Nat} {xs : Nat → Int32} (C : CX ev p s m #[Value.ref b] meth c code 4 ret R_law (fun q => s.heap.size ≤ q)) (hL : L ≤ 3072) (hX : va_X b L xs s s.heap) (hbl : b < s.heap.size) (hap : apart ad 39) (hAA : ∀ j, j < 39 → s.heap.size ≤ ad j) (hi : i + 6 ≤ L)
    (hn : ∀ (x : XX) (σ : MM) (H : Heap) (locs : List Loc) (ls : Array Slot), Rel x σ → PS ev 39 ad (LWf ev ad x σ) (fun q => s.heap.size ≤ q) s H locs → lv_has ls 4 [(0, .ref b), (1, .ref (ad 0)), (2, .ref (ad 26)), (3, .int (nI i))] → WL p l e s m b below meth c H locs 1675 ls [])
    {x : XX} {σ : MM} {H : Heap} {locs : List Loc} {ls : Array Slot} (hR : Rel x σ) (hP : PS ev 39 ad (LWf ev ad x σ) (fun q => s.heap.size ≤ q) s H locs) (hl : lv_has ls 4 [(0, .ref b), (1, .ref (ad 0)), (2, .ref (ad 26)), (3, .int (nI i))]) : WL p l e s m b below meth c H locs 33 ls [.int (xs (nI i).toNatClampNeg &&& 63)] := by
  have hx := C.1
  have hb := C.2.1
  by_cases cs0 : (xs (nI i).toNatClampNeg &&& 63) = 0
  · refine r_tabIn (tgt := 280) (off := 247) (i := 0) hx hb dL_law_33 cs0 (by decide) (by decide) (by decide) (by decide) ?_
    exact law_c0 C hL hX hbl hap hAA hi hn hR hP hl
  by_cases cs1 : (xs (nI i).toNatClampNeg &&& 63) = 1
  · refine r_tabIn (tgt := 323) (off := 290) (i := 1) hx hb dL_law_33 cs1 (by decide) (by decide) (by decide) (by decide) ?_
    exact law_c1 C hL hX hbl hap hAA hi hn hR hP hl
  by_cases cs2 : (xs (nI i).toNatClampNeg &&& 63) = 2
  · refine r_tabIn (tgt := 396) (off := 363) (i := 2) hx hb dL_law_33 cs2 (by decide) (by decide) (by decide) (by decide) ?_
    exact law_c2 C hL hX hbl hap hAA hi hn hR hP hl
  by_cases cs3 : (xs (nI i).toNatClampNeg &&& 63) = 3
  · refine r_tabIn (tgt := 459) (off := 426) (i := 3) hx hb dL_law_33 cs3 (by decide) (by decide) (by decide) (by decide) ?_
    exact law_c3 C hL hX hbl hap hAA hi hn hR hP hl
  by_cases cs4 : (xs (nI i).toNatClampNeg &&& 63) = 4
  · refine r_tabIn (tgt := 493) (off := 460) (i := 4) hx hb dL_law_33 cs4 (by decide) (by decide) (by decide) (by decide) ?_
    exact law_c4 C hL hX hbl hap hAA hi hn hR hP hl
  by_cases cs5 : (xs (nI i).toNatClampNeg &&& 63) = 5
  · refine r_tabIn (tgt := 516) (off := 483) (i := 5) hx hb dL_law_33 cs5 (by decide) (by decide) (by decide) (by decide) ?_
    exact law_c5 C hL hX hbl hap hAA hi hn hR hP hl
  by_cases cs6 : (xs (nI i).toNatClampNeg &&& 63) = 6
  · refine r_tabIn (tgt := 549) (off := 516) (i := 6) hx hb dL_law_33 cs6 (by decide) (by decide) (by decide) (by decide) ?_
    exact law_c6 C hL hX hbl hap hAA hi hn hR hP hl
  by_cases cs7 : (xs (nI i).toNatClampNeg &&& 63) = 7
  · refine r_tabIn (tgt := 582) (off := 549) (i := 7) hx hb dL_law_33 cs7 (by decide) (by decide) (by decide) (by decide) ?_
    exact law_c7 C hL hX hbl hap hAA hi hn hR hP hl
  by_cases cs8 : (xs (nI i).toNatClampNeg &&& 63) = 8
  · refine r_tabIn (tgt := 615) (off := 582) (i := 8) hx hb dL_law_33 cs8 (by decide) (by decide) (by decide) (by decide) ?_
    exact law_c8 C hL hX hbl hap hAA hi hn hR hP hl
  by_cases cs9 : (xs (nI i).toNatClampNeg &&& 63) = 9
  · refine r_tabIn (tgt := 648) (off := 615) (i := 9) hx hb dL_law_33 cs9 (by decide) (by decide) (by decide) (by decide) ?_
    exact law_c9 C hL hX hbl hap hAA hi hn hR hP hl
  by_cases cs10 : (xs (nI i).toNatClampNeg &&& 63) = 10
  · refine r_tabIn (tgt := 671) (off := 638) (i := 10) hx hb dL_law_33 cs10 (by decide) (by decide) (by decide) (by decide) ?_
    exact law_c10 C hL hX hbl hap hAA hi hn hR hP hl
  by_cases cs11 : (xs (nI i).toNatClampNeg &&& 63) = 11
  · refine r_tabIn (tgt := 694) (off := 661) (i := 11) hx hb dL_law_33 cs11 (by decide) (by decide) (by decide) (by decide) ?_
    exact law_c11 C hL hX hbl hap hAA hi hn hR hP hl
  by_cases cs12 : (xs (nI i).toNatClampNeg &&& 63) = 12
  · refine r_tabIn (tgt := 707) (off := 674) (i := 12) hx hb dL_law_33 cs12 (by decide) (by decide) (by decide) (by decide) ?_
    exact law_c12 C hL hX hbl hap hAA hi hn hR hP hl
  by_cases cs13 : (xs (nI i).toNatClampNeg &&& 63) = 13
  · refine r_tabIn (tgt := 720) (off := 687) (i := 13) hx hb dL_law_33 cs13 (by decide) (by decide) (by decide) (by decide) ?_
    exact law_c13 C hL hX hbl hap hAA hi hn hR hP hl
  by_cases cs14 : (xs (nI i).toNatClampNeg &&& 63) = 14
  · refine r_tabIn (tgt := 753) (off := 720) (i := 14) hx hb dL_law_33 cs14 (by decide) (by decide) (by decide) (by decide) ?_
    exact law_c14 C hL hX hbl hap hAA hi hn hR hP hl
  by_cases cs15 : (xs (nI i).toNatClampNeg &&& 63) = 15
  · refine r_tabIn (tgt := 786) (off := 753) (i := 15) hx hb dL_law_33 cs15 (by decide) (by decide) (by decide) (by decide) ?_
    exact law_c15 C hL hX hbl hap hAA hi hn hR hP hl
  by_cases cs16 : (xs (nI i).toNatClampNeg &&& 63) = 16
  · refine r_tabIn (tgt := 819) (off := 786) (i := 16) hx hb dL_law_33 cs16 (by decide) (by decide) (by decide) (by decide) ?_
    exact law_c16 C hL hX hbl hap hAA hi hn hR hP hl
  by_cases cs17 : (xs (nI i).toNatClampNeg &&& 63) = 17
  · refine r_tabIn (tgt := 842) (off := 809) (i := 17) hx hb dL_law_33 cs17 (by decide) (by decide) (by decide) (by decide) ?_
    exact law_c17 C hL hX hbl hap hAA hi hn hR hP hl
  by_cases cs18 : (xs (nI i).toNatClampNeg &&& 63) = 18
  · refine r_tabIn (tgt := 865) (off := 832) (i := 18) hx hb dL_law_33 cs18 (by decide) (by decide) (by decide) (by decide) ?_
    exact law_c18 C hL hX hbl hap hAA hi hn hR hP hl
  by_cases cs19 : (xs (nI i).toNatClampNeg &&& 63) = 19
  · refine r_tabIn (tgt := 888) (off := 855) (i := 19) hx hb dL_law_33 cs19 (by decide) (by decide) (by decide) (by decide) ?_
    exact law_c19 C hL hX hbl hap hAA hi hn hR hP hl
  by_cases cs20 : (xs (nI i).toNatClampNeg &&& 63) = 20
  · refine r_tabIn (tgt := 911) (off := 878) (i := 20) hx hb dL_law_33 cs20 (by decide) (by decide) (by decide) (by decide) ?_
    exact law_c20 C hL hX hbl hap hAA hi hn hR hP hl
  by_cases cs21 : (xs (nI i).toNatClampNeg &&& 63) = 21
  · refine r_tabIn (tgt := 934) (off := 901) (i := 21) hx hb dL_law_33 cs21 (by decide) (by decide) (by decide) (by decide) ?_
    exact law_c21 C hL hX hbl hap hAA hi hn hR hP hl
  by_cases cs22 : (xs (nI i).toNatClampNeg &&& 63) = 22
  · refine r_tabIn (tgt := 957) (off := 924) (i := 22) hx hb dL_law_33 cs22 (by decide) (by decide) (by decide) (by decide) ?_
    exact law_c22 C hL hX hbl hap hAA hi hn hR hP hl
  by_cases cs23 : (xs (nI i).toNatClampNeg &&& 63) = 23
  · refine r_tabIn (tgt := 970) (off := 937) (i := 23) hx hb dL_law_33 cs23 (by decide) (by decide) (by decide) (by decide) ?_
    exact law_c23 C hL hX hbl hap hAA hi hn hR hP hl
  by_cases cs24 : (xs (nI i).toNatClampNeg &&& 63) = 24
  · refine r_tabIn (tgt := 983) (off := 950) (i := 24) hx hb dL_law_33 cs24 (by decide) (by decide) (by decide) (by decide) ?_
    exact law_c24 C hL hX hbl hap hAA hi hn hR hP hl
  by_cases cs25 : (xs (nI i).toNatClampNeg &&& 63) = 25
  · refine r_tabIn (tgt := 1006) (off := 973) (i := 25) hx hb dL_law_33 cs25 (by decide) (by decide) (by decide) (by decide) ?_
    exact law_c25 C hL hX hbl hap hAA hi hn hR hP hl
  by_cases cs26 : (xs (nI i).toNatClampNeg &&& 63) = 26
  · refine r_tabIn (tgt := 1019) (off := 986) (i := 26) hx hb dL_law_33 cs26 (by decide) (by decide) (by decide) (by decide) ?_
    exact law_c26 C hL hX hbl hap hAA hi hn hR hP hl
  by_cases cs27 : (xs (nI i).toNatClampNeg &&& 63) = 27
  · refine r_tabIn (tgt := 1042) (off := 1009) (i := 27) hx hb dL_law_33 cs27 (by decide) (by decide) (by decide) (by decide) ?_
    exact law_c27 C hL hX hbl hap hAA hi hn hR hP hl
  by_cases cs28 : (xs (nI i).toNatClampNeg &&& 63) = 28
  · refine r_tabIn (tgt := 1055) (off := 1022) (i := 28) hx hb dL_law_33 cs28 (by decide) (by decide) (by decide) (by decide) ?_
    exact law_c28 C hL hX hbl hap hAA hi hn hR hP hl
  by_cases cs29 : (xs (nI i).toNatClampNeg &&& 63) = 29
  · refine r_tabIn (tgt := 1078) (off := 1045) (i := 29) hx hb dL_law_33 cs29 (by decide) (by decide) (by decide) (by decide) ?_
    exact law_c29 C hL hX hbl hap hAA hi hn hR hP hl
  by_cases cs30 : (xs (nI i).toNatClampNeg &&& 63) = 30
  · refine r_tabIn (tgt := 1091) (off := 1058) (i := 30) hx hb dL_law_33 cs30 (by decide) (by decide) (by decide) (by decide) ?_
    exact law_c30 C hL hX hbl hap hAA hi hn hR hP hl
  by_cases cs31 : (xs (nI i).toNatClampNeg &&& 63) = 31
  · refine r_tabIn (tgt := 1104) (off := 1071) (i := 31) hx hb dL_law_33 cs31 (by decide) (by decide) (by decide) (by decide) ?_
    exact law_c31 C hL hX hbl hap hAA hi hn hR hP hl
  by_cases cs32 : (xs (nI i).toNatClampNeg &&& 63) = 32
  · refine r_tabIn (tgt := 1127) (off := 1094) (i := 32) hx hb dL_law_33 cs32 (by decide) (by decide) (by decide) (by decide) ?_
    exact law_c32 C hL hX hbl hap hAA hi hn hR hP hl
  by_cases cs33 : (xs (nI i).toNatClampNeg &&& 63) = 33
  · refine r_tabIn (tgt := 1150) (off := 1117) (i := 33) hx hb dL_law_33 cs33 (by decide) (by decide) (by decide) (by decide) ?_
    exact law_c33 C hL hX hbl hap hAA hi hn hR hP hl
  by_cases cs34 : (xs (nI i).toNatClampNeg &&& 63) = 34
  · refine r_tabIn (tgt := 1173) (off := 1140) (i := 34) hx hb dL_law_33 cs34 (by decide) (by decide) (by decide) (by decide) ?_
    exact law_c34 C hL hX hbl hap hAA hi hn hR hP hl
  by_cases cs35 : (xs (nI i).toNatClampNeg &&& 63) = 35
  · refine r_tabIn (tgt := 1186) (off := 1153) (i := 35) hx hb dL_law_33 cs35 (by decide) (by decide) (by decide) (by decide) ?_
    exact law_c35 C hL hX hbl hap hAA hi hn hR hP hl
  by_cases cs36 : (xs (nI i).toNatClampNeg &&& 63) = 36
  · refine r_tabIn (tgt := 1199) (off := 1166) (i := 36) hx hb dL_law_33 cs36 (by decide) (by decide) (by decide) (by decide) ?_
    exact law_c36 C hL hX hbl hap hAA hi hn hR hP hl
  by_cases cs37 : (xs (nI i).toNatClampNeg &&& 63) = 37
  · refine r_tabIn (tgt := 1212) (off := 1179) (i := 37) hx hb dL_law_33 cs37 (by decide) (by decide) (by decide) (by decide) ?_
    exact law_c37 C hL hX hbl hap hAA hi hn hR hP hl
  by_cases cs38 : (xs (nI i).toNatClampNeg &&& 63) = 38
  · refine r_tabIn (tgt := 1225) (off := 1192) (i := 38) hx hb dL_law_33 cs38 (by decide) (by decide) (by decide) (by decide) ?_
    exact law_c38 C hL hX hbl hap hAA hi hn hR hP hl
  by_cases cs39 : (xs (nI i).toNatClampNeg &&& 63) = 39
  · refine r_tabIn (tgt := 1238) (off := 1205) (i := 39) hx hb dL_law_33 cs39 (by decide) (by decide) (by decide) (by decide) ?_
    exact law_c39 C hL hX hbl hap hAA hi hn hR hP hl
  by_cases cs40 : (xs (nI i).toNatClampNeg &&& 63) = 40
  · refine r_tabIn (tgt := 1261) (off := 1228) (i := 40) hx hb dL_law_33 cs40 (by decide) (by decide) (by decide) (by decide) ?_
    exact law_c40 C hL hX hbl hap hAA hi hn hR hP hl
  by_cases cs41 : (xs (nI i).toNatClampNeg &&& 63) = 41
  · refine r_tabIn (tgt := 1274) (off := 1241) (i := 41) hx hb dL_law_33 cs41 (by decide) (by decide) (by decide) (by decide) ?_
    exact law_c41 C hL hX hbl hap hAA hi hn hR hP hl
  by_cases cs42 : (xs (nI i).toNatClampNeg &&& 63) = 42
  · refine r_tabIn (tgt := 1287) (off := 1254) (i := 42) hx hb dL_law_33 cs42 (by decide) (by decide) (by decide) (by decide) ?_
    exact law_c42 C hL hX hbl hap hAA hi hn hR hP hl
  by_cases cs43 : (xs (nI i).toNatClampNeg &&& 63) = 43
  · refine r_tabIn (tgt := 1310) (off := 1277) (i := 43) hx hb dL_law_33 cs43 (by decide) (by decide) (by decide) (by decide) ?_
    exact law_c43 C hL hX hbl hap hAA hi hn hR hP hl
  by_cases cs44 : (xs (nI i).toNatClampNeg &&& 63) = 44
  · refine r_tabIn (tgt := 1353) (off := 1320) (i := 44) hx hb dL_law_33 cs44 (by decide) (by decide) (by decide) (by decide) ?_
    exact law_c44 C hL hX hbl hap hAA hi hn hR hP hl
  by_cases cs45 : (xs (nI i).toNatClampNeg &&& 63) = 45
  · refine r_tabIn (tgt := 1376) (off := 1343) (i := 45) hx hb dL_law_33 cs45 (by decide) (by decide) (by decide) (by decide) ?_
    exact law_c45 C hL hX hbl hap hAA hi hn hR hP hl
  by_cases cs46 : (xs (nI i).toNatClampNeg &&& 63) = 46
  · refine r_tabIn (tgt := 1389) (off := 1356) (i := 46) hx hb dL_law_33 cs46 (by decide) (by decide) (by decide) (by decide) ?_
    exact law_c46 C hL hX hbl hap hAA hi hn hR hP hl
  by_cases cs47 : (xs (nI i).toNatClampNeg &&& 63) = 47
  · refine r_tabIn (tgt := 1402) (off := 1369) (i := 47) hx hb dL_law_33 cs47 (by decide) (by decide) (by decide) (by decide) ?_
    exact law_c47 C hL hX hbl hap hAA hi hn hR hP hl
  by_cases cs48 : (xs (nI i).toNatClampNeg &&& 63) = 48
  · refine r_tabIn (tgt := 1425) (off := 1392) (i := 48) hx hb dL_law_33 cs48 (by decide) (by decide) (by decide) (by decide) ?_
    exact law_c48 C hL hX hbl hap hAA hi hn hR hP hl
  by_cases cs49 : (xs (nI i).toNatClampNeg &&& 63) = 49
  · refine r_tabIn (tgt := 1458) (off := 1425) (i := 49) hx hb dL_law_33 cs49 (by decide) (by decide) (by decide) (by decide) ?_
    exact law_c49 C hL hX hbl hap hAA hi hn hR hP hl
  by_cases cs50 : (xs (nI i).toNatClampNeg &&& 63) = 50
  · refine r_tabIn (tgt := 1491) (off := 1458) (i := 50) hx hb dL_law_33 cs50 (by decide) (by decide) (by decide) (by decide) ?_
    exact law_c50 C hL hX hbl hap hAA hi hn hR hP hl
  by_cases cs51 : (xs (nI i).toNatClampNeg &&& 63) = 51
  · refine r_tabIn (tgt := 1524) (off := 1491) (i := 51) hx hb dL_law_33 cs51 (by decide) (by decide) (by decide) (by decide) ?_
    exact law_c51 C hL hX hbl hap hAA hi hn hR hP hl
  by_cases cs52 : (xs (nI i).toNatClampNeg &&& 63) = 52
  · refine r_tabIn (tgt := 1547) (off := 1514) (i := 52) hx hb dL_law_33 cs52 (by decide) (by decide) (by decide) (by decide) ?_
    exact law_c52 C hL hX hbl hap hAA hi hn hR hP hl
  by_cases cs53 : (xs (nI i).toNatClampNeg &&& 63) = 53
  · refine r_tabIn (tgt := 1580) (off := 1547) (i := 53) hx hb dL_law_33 cs53 (by decide) (by decide) (by decide) (by decide) ?_
    exact law_c53 C hL hX hbl hap hAA hi hn hR hP hl
  by_cases cs54 : (xs (nI i).toNatClampNeg &&& 63) = 54
  · refine r_tabIn (tgt := 1603) (off := 1570) (i := 54) hx hb dL_law_33 cs54 (by decide) (by decide) (by decide) (by decide) ?_
    exact law_c54 C hL hX hbl hap hAA hi hn hR hP hl
  by_cases cs55 : (xs (nI i).toNatClampNeg &&& 63) = 55
  · refine r_tabIn (tgt := 1626) (off := 1593) (i := 55) hx hb dL_law_33 cs55 (by decide) (by decide) (by decide) (by decide) ?_
    exact law_c55 C hL hX hbl hap hAA hi hn hR hP hl
  by_cases cs56 : (xs (nI i).toNatClampNeg &&& 63) = 56
  · refine r_tabIn (tgt := 1639) (off := 1606) (i := 56) hx hb dL_law_33 cs56 (by decide) (by decide) (by decide) (by decide) ?_
    exact law_c56 C hL hX hbl hap hAA hi hn hR hP hl
  by_cases cs57 : (xs (nI i).toNatClampNeg &&& 63) = 57
  · refine r_tabIn (tgt := 1652) (off := 1619) (i := 57) hx hb dL_law_33 cs57 (by decide) (by decide) (by decide) (by decide) ?_
    exact law_c57 C hL hX hbl hap hAA hi hn hR hP hl
  refine r_tabOut (tgt := 1675) hx hb dL_law_33 (fun z h1 h2 => by
    have h3 : z = 0 ∨ z = 1 ∨ z = 2 ∨ z = 3 ∨ z = 4 ∨ z = 5 ∨ z = 6 ∨ z = 7 ∨ z = 8 ∨ z = 9 ∨ z = 10 ∨ z = 11 ∨ z = 12 ∨ z = 13 ∨ z = 14 ∨ z = 15 ∨ z = 16 ∨ z = 17 ∨ z = 18 ∨ z = 19 ∨ z = 20 ∨ z = 21 ∨ z = 22 ∨ z = 23 ∨ z = 24 ∨ z = 25 ∨ z = 26 ∨ z = 27 ∨ z = 28 ∨ z = 29 ∨ z = 30 ∨ z = 31 ∨ z = 32 ∨ z = 33 ∨ z = 34 ∨ z = 35 ∨ z = 36 ∨ z = 37 ∨ z = 38 ∨ z = 39 ∨ z = 40 ∨ z = 41 ∨ z = 42 ∨ z = 43 ∨ z = 44 ∨ z = 45 ∨ z = 46 ∨ z = 47 ∨ z = 48 ∨ z = 49 ∨ z = 50 ∨ z = 51 ∨ z = 52 ∨ z = 53 ∨ z = 54 ∨ z = 55 ∨ z = 56 ∨ z = 57 := by omega
    rcases h3 with rfl | rfl | rfl | rfl | rfl | rfl | rfl | rfl | rfl | rfl | rfl | rfl | rfl | rfl | rfl | rfl | rfl | rfl | rfl | rfl | rfl | rfl | rfl | rfl | rfl | rfl | rfl | rfl | rfl | rfl | rfl | rfl | rfl | rfl | rfl | rfl | rfl | rfl | rfl | rfl | rfl | rfl | rfl | rfl | rfl | rfl | rfl | rfl | rfl | rfl | rfl | rfl | rfl | rfl | rfl | rfl | rfl | rfl
    · exact cs0
    · exact cs1
    · exact cs2
    · exact cs3
    · exact cs4
    · exact cs5
    · exact cs6
    · exact cs7
    · exact cs8
    · exact cs9
    · exact cs10
    · exact cs11
    · exact cs12
    · exact cs13
    · exact cs14
    · exact cs15
    · exact cs16
    · exact cs17
    · exact cs18
    · exact cs19
    · exact cs20
    · exact cs21
    · exact cs22
    · exact cs23
    · exact cs24
    · exact cs25
    · exact cs26
    · exact cs27
    · exact cs28
    · exact cs29
    · exact cs30
    · exact cs31
    · exact cs32
    · exact cs33
    · exact cs34
    · exact cs35
    · exact cs36
    · exact cs37
    · exact cs38
    · exact cs39
    · exact cs40
    · exact cs41
    · exact cs42
    · exact cs43
    · exact cs44
    · exact cs45
    · exact cs46
    · exact cs47
    · exact cs48
    · exact cs49
    · exact cs50
    · exact cs51
    · exact cs52
    · exact cs53
    · exact cs54
    · exact cs55
    · exact cs56
    · exact cs57
    ) (by decide) ?_
  exact hn _ _ H locs ls hR hP hl

set_option maxHeartbeats 4000000 in
set_option maxRecDepth 100000 in
/-- the loop of the law: with i ints read, class and reference belong together -/
theorem law_loop {p : Program} {l : Launch} {e : Env} {s : State} {m : MethodId} {below : List Frame} {meth : Method} {c : Code} {ev : EV} {ad : Nat → Nat} {b L : Nat} {xs : Nat → Int32} (C : CX ev p s m #[Value.ref b] meth c code 4 ret R_law (fun q => s.heap.size ≤ q)) (hL : L ≤ 3072) (hX : va_X b L xs s s.heap) (hbl : b < s.heap.size) (hap : apart ad 39) (hAA : ∀ j, j < 39 → s.heap.size ≤ ad j) :
    ∀ (n i : Nat), i ≤ L → L + 1 ≤ i + n → ∀ (x : XX) (σ : MM) (H : Heap) (locs : List Loc) (ls : Array Slot), Rel x σ → PS ev 39 ad (LWf ev ad x σ) (fun q => s.heap.size ≤ q) s H locs → lv_has ls 4 [(0, .ref b), (1, .ref (ad 0)), (2, .ref (ad 26)), (3, .int (nI i))] → WL p l e s m b below meth c H locs 18 ls [] := by
  have hx := C.1
  have hb := C.2.1
  have hbA : ¬ (fun q : Nat => s.heap.size ≤ q) b := Nat.not_le.mpr hbl
  intro n
  induction n with
  | zero =>
    intro i h1 h2
    exact absurd h2 (by omega)
  | succ n ih =>
    intro i hiL hin x σ H locs ls hR hP hl
    refine lv_iload_n hx hb dL_law_18 rfl (lv_at hl 3 rfl) ?_
    refine lv_aload_n hx hb dL_law_19 rfl (lv_at hl 0 rfl) ?_
    refine va_slen hx hb hX hbl hbA hP.2 dL_law_20 ?_
    refine lv_bipush (v := nI 6) hx hb dL_law_21 (by decide) ?_
    refine lv_isub hx hb dL_law_23 ?_
    refine lv_icmp_gt (tgt := 1681) hx hb dL_law_24 (by decide) (fun c_10 => ?_) (fun c_10 => ?_)
    · refine lv_iconst (v := 1) hx hb dL_law_1681 (by decide) ?_
      refine va_forget (fun q hq => hP.2.2.2 q hq) ?_
      exact lw_ret hx hb C.2.2.2.1 C.2.2.2.2.2.2.1 dL_law_1682
    · have hi : i + 6 ≤ L := by
        rcases Nat.lt_or_ge L (i + 6) with q | q
        · refine absurd ?_ c_10
          have h1 : (nI L - nI 6).toInt = (L : Int) - (6 : Nat) := pk_sub_toInt (by omega) (by omega)
          have h2 : (nI i).toInt = (i : Int) := nI_toInt (by omega)
          rw [Int32.lt_iff_toInt_lt]
          first | (rw [h1, h2]; omega) | (show (nI L - nI 6).toInt < (nI i).toInt; rw [h1, h2]; omega)
        · exact q
      have h_11 : vp_in (nI i) L := vp_in_nI (by omega) (by omega)
      refine lv_aload_n hx hb dL_law_27 rfl (lv_at hl 0 rfl) ?_
      refine lv_iload_n hx hb dL_law_28 rfl (lv_at hl 3 rfl) ?_
      refine va_sld hx hb hX hbl hbA hP.2 h_11 dL_law_29 ?_
      refine lv_bipush (v := 63) hx hb dL_law_30 (by decide) ?_
      refine lv_iand hx hb dL_law_32 ?_
      refine law_sw C hL hX hbl hap hAA hi (fun x σ H locs ls hR hP hl => ?_) hR hP hl
      refine lv_iinc (v := nI (i + 6)) (lv' := [(3, .int (nI (i + 6))), (0, .ref b), (1, .ref (ad 0)), (2, .ref (ad 26))]) hx hb dL_law_1675 hl (k := 3) rfl (by rw [← nI_add]; rfl) (by decide) rfl (fun ls hl => ?_)
      refine lv_goto (tgt := 18) hx hb dL_law_1678 (by decide) ?_
      exact ih (i + 6) hi (by omega) x σ H locs ls hR hP (lv_sub hl [1, 2, 3, 0] rfl)
