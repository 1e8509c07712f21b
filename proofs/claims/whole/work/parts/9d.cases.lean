/-! ===== the law, case by case ===== -/
theorem lgc (x : Int64) : lg_cmp x x = 0 := by unfold lg_cmp; simp
theorem KCa_v {A A' : AH} {T : Nat} {neg v : Value} {Pp : AH → Prop} {o1 : Option Value} (h : KCa A T neg v Pp o1 A') (h1 : ∃ x, neg = .int x) (h2 : ∃ x, v = .int x) : ∃ u : Int32, o1 = some (.int u) := by
  obtain ⟨x, rfl⟩ := h1
  obtain ⟨y, rfl⟩ := h2
  rcases h with ⟨-, h⟩ | ⟨-, -, -, -, h⟩
  · exact ⟨x, h.2.2⟩
  · exact ⟨y, h⟩
theorem KFc_v {A A' : AH} {f : Nat} {pl : Int32} {n : Nat} {tp : Nat → Int32} {a b c d e : Int32} {o1 : Option Value} (h : KFc A f pl n tp a b c d e o1 A') : ∃ u : Int32, o1 = some (.int u) := by
  rcases h with ⟨-, -, h⟩ | ⟨-, -, -, h⟩
  · exact ⟨_, h⟩
  · exact ⟨_, h⟩
set_option maxRecDepth 4000 in
theorem law_0 {p : Program} {l : Launch} {e : Env} {s : State} {m : MethodId} {below : List Frame} {meth : Method} {c : Code} {b L i : Nat} {xs : Nat → Int32} {H : Heap} {locs : List Loc} {ce sl : Nat} {Q : State → Prop} {D : va_G} {aC : Nat → ClassId} {ρ : Nat → Nat} {ls : Array Slot} {r : Value} {hw : Bool} {Ac Am : AH} {qo : Nat} {f : Nat → Int64} {w : WT} {sN : Nat → Nat} {HH II : Nat → Nat → Nat} {nx cN mN fN : Nat} {pl : Int32} {n0 : Nat} {tp : Nat → Int32} {tN : Nat} (hF : CallFix p m c code 7 s #[Value.ref b] TW RL) (hX : va_X b L xs s s.heap) (hbl : b < s.heap.size) (hL : L ≤ 3072) (hi : i + 5 < L) (hI : LI D aC s ρ r hw Ac Am qo f H) (hJ : JT w sN HH II nx cN mN fN pl n0 tp tN hw Ac Am) (hS : va_S (BL s) s.heap H locs) (hv : lv_has ls 7 (lvL b ρ qo i)) (hR : ce + 22 ≤ room_1.cells ∧ sl + 181 ≤ room_1.slots) (nxt : NX p l e s m below meth c b D aC qo i ce sl Q) : W p l e room_1 s m #[Value.ref b] below meth c H locs ce sl Q (F0 m 280 ls []) := by
  have hR0 : ce ≤ room_1.cells ∧ sl ≤ room_1.slots := ⟨by omega, by omega⟩
  refine lv_aload_n hF.1 hF.2.1 dL_law_280 rfl (lv_at hv 3 rfl) ?_
  refine ls_arg (k := 1) (q := 287) hF hX hbl hS hv (by omega) hL rfl rfl dL_law_281 dL_law_282 dL_law_284 dL_law_285 dL_law_286 ?_
  refine ls_arg (k := 2) (q := 293) hF hX hbl hS hv (by omega) hL rfl rfl dL_law_287 dL_law_288 dL_law_290 dL_law_291 dL_law_292 ?_
  refine ls_arg (k := 3) (q := 299) hF hX hbl hS hv (by omega) hL rfl rfl dL_law_293 dL_law_294 dL_law_296 dL_law_297 dL_law_298 ?_
  refine ls_arg (k := 4) (q := 305) hF hX hbl hS hv (by omega) hL rfl rfl dL_law_299 dL_law_300 dL_law_302 dL_law_303 dL_law_304 ?_
  refine ls_arg (k := 5) (q := 311) hF hX hbl hS hv (by omega) hL rfl rfl dL_law_305 dL_law_306 dL_law_308 dL_law_309 dL_law_310 ?_
  refine lC (As := [.int (xs (i + 1)), .int (xs (i + 2)), .int (xs (i + 3)), .int (xs (i + 4)), .int (xs (i + 5))]) (rest := []) hF hI hS hv.1 hR0 (ec_feed hJ) mlL_19 rfl rfl ⟨by decide, by decide⟩ (Nat.le_of_ble_eq_true rfl) dL_law_311 (fun v1 A1 H1 locs1 hk1 hI1 hS1 => ?_)
  obtain ⟨u1, hu1⟩ := KFc_v hk1
  rw [hu1]
  refine W.eq (g2 := F0 m 314 ls [_]) rfl ?_
  refine lv_aload_n hF.1 hF.2.1 dL_law_314 rfl (lv_at hv 2 rfl) ?_
  refine ls_arg (k := 1) (q := 321) hF hX hbl hS1 hv (by omega) hL rfl rfl dL_law_315 dL_law_316 dL_law_318 dL_law_319 dL_law_320 ?_
  refine ls_arg (k := 2) (q := 327) hF hX hbl hS1 hv (by omega) hL rfl rfl dL_law_321 dL_law_322 dL_law_324 dL_law_325 dL_law_326 ?_
  refine ls_arg (k := 3) (q := 333) hF hX hbl hS1 hv (by omega) hL rfl rfl dL_law_327 dL_law_328 dL_law_330 dL_law_331 dL_law_332 ?_
  refine ls_arg (k := 4) (q := 339) hF hX hbl hS1 hv (by omega) hL rfl rfl dL_law_333 dL_law_334 dL_law_336 dL_law_337 dL_law_338 ?_
  refine ls_arg (k := 5) (q := 345) hF hX hbl hS1 hv (by omega) hL rfl rfl dL_law_339 dL_law_340 dL_law_342 dL_law_343 dL_law_344 ?_
  refine lM (As := [.int (xs (i + 1)), .int (xs (i + 2)), .int (xs (i + 3)), .int (xs (i + 4)), .int (xs (i + 5))]) (rest := [_]) hF hI1 hS1 hv.1 hR0 (em_feed hJ) mlL_23 rfl rfl ⟨by decide, by decide⟩ (Nat.le_of_ble_eq_true rfl) dL_law_345 (fun v2 A2 H2 locs2 hk2 hI2 hS2 => ?_)
  obtain ⟨hJS, u, e1, e2⟩ := hJ.fd hk1 hk2
  rw [hu1] at e1
  cases e1
  subst e2
  refine W.eq (g2 := F0 m 348 ls [_, _]) rfl ?_
  refine lv_icmp_eq (tgt := 2007) hF.1 hF.2.1 dL_law_348 (by decide) (fun _ => ?_) (fun z => absurd rfl z)
  exact nxt _ _ _ _ _ _ _ _ _ _ _ hI2 hJS hS2 hv (Nat.le_add_right _ _) (Nat.le_add_right _ _)
set_option maxRecDepth 4000 in
theorem law_2 {p : Program} {l : Launch} {e : Env} {s : State} {m : MethodId} {below : List Frame} {meth : Method} {c : Code} {b L i : Nat} {xs : Nat → Int32} {H : Heap} {locs : List Loc} {ce sl : Nat} {Q : State → Prop} {D : va_G} {aC : Nat → ClassId} {ρ : Nat → Nat} {ls : Array Slot} {r : Value} {hw : Bool} {Ac Am : AH} {qo : Nat} {f : Nat → Int64} {w : WT} {sN : Nat → Nat} {HH II : Nat → Nat → Nat} {nx cN mN fN : Nat} {pl : Int32} {n0 : Nat} {tp : Nat → Int32} {tN : Nat} (hF : CallFix p m c code 7 s #[Value.ref b] TW RL) (hX : va_X b L xs s s.heap) (hbl : b < s.heap.size) (hL : L ≤ 3072) (hi : i + 5 < L) (hI : LI D aC s ρ r hw Ac Am qo f H) (hJ : JT w sN HH II nx cN mN fN pl n0 tp tN hw Ac Am) (hS : va_S (BL s) s.heap H locs) (hv : lv_has ls 7 (lvL b ρ qo i)) (hR : ce + 22 ≤ room_1.cells ∧ sl + 181 ≤ room_1.slots) (nxt : NX p l e s m below meth c b D aC qo i ce sl Q) : W p l e room_1 s m #[Value.ref b] below meth c H locs ce sl Q (F0 m 378 ls []) := by
  have hR0 : ce ≤ room_1.cells ∧ sl ≤ room_1.slots := ⟨by omega, by omega⟩
  refine lv_aload_n hF.1 hF.2.1 dL_law_378 rfl (lv_at hv 3 rfl) ?_
  refine lC (As := []) (rest := []) hF hI hS hv.1 hR0 (ec_fault hJ) mlL_28 rfl rfl ⟨by decide, by decide⟩ (Nat.le_of_ble_eq_true rfl) dL_law_379 (fun v1 A1 H1 locs1 hk1 hI1 hS1 => ?_)
  obtain ⟨rfl, rfl⟩ := hk1
  refine W.eq (g2 := F0 m 382 ls [_]) rfl ?_
  refine lv_aload_n hF.1 hF.2.1 dL_law_382 rfl (lv_at hv 2 rfl) ?_
  refine lM (As := []) (rest := [_]) hF hI1 hS1 hv.1 hR0 (em_fault hJ) mlL_32 rfl rfl ⟨by decide, by decide⟩ (Nat.le_of_ble_eq_true rfl) dL_law_383 (fun v2 A2 H2 locs2 hk2 hI2 hS2 => ?_)
  obtain ⟨rfl, rfl⟩ := hk2
  refine W.eq (g2 := F0 m 386 ls [_, _]) rfl ?_
  refine lv_icmp_eq (tgt := 2007) hF.1 hF.2.1 dL_law_386 (by decide) (fun _ => ?_) (fun z => absurd rfl z)
  exact nxt _ _ _ _ _ _ _ _ _ _ _ hI2 ⟨_, _, _, _, _, _, _, _, _, _, _, _, hJ.m0⟩ hS2 hv (Nat.le_add_right _ _) (Nat.le_add_right _ _)
set_option maxRecDepth 4000 in
theorem law_3 {p : Program} {l : Launch} {e : Env} {s : State} {m : MethodId} {below : List Frame} {meth : Method} {c : Code} {b L i : Nat} {xs : Nat → Int32} {H : Heap} {locs : List Loc} {ce sl : Nat} {Q : State → Prop} {D : va_G} {aC : Nat → ClassId} {ρ : Nat → Nat} {ls : Array Slot} {r : Value} {hw : Bool} {Ac Am : AH} {qo : Nat} {f : Nat → Int64} {w : WT} {sN : Nat → Nat} {HH II : Nat → Nat → Nat} {nx cN mN fN : Nat} {pl : Int32} {n0 : Nat} {tp : Nat → Int32} {tN : Nat} (hF : CallFix p m c code 7 s #[Value.ref b] TW RL) (hX : va_X b L xs s s.heap) (hbl : b < s.heap.size) (hL : L ≤ 3072) (hi : i + 5 < L) (hI : LI D aC s ρ r hw Ac Am qo f H) (hJ : JT w sN HH II nx cN mN fN pl n0 tp tN hw Ac Am) (hS : va_S (BL s) s.heap H locs) (hv : lv_has ls 7 (lvL b ρ qo i)) (hR : ce + 22 ≤ room_1.cells ∧ sl + 181 ≤ room_1.slots) (nxt : NX p l e s m below meth c b D aC qo i ce sl Q) : W p l e room_1 s m #[Value.ref b] below meth c H locs ce sl Q (F0 m 391 ls []) := by
  have hR0 : ce ≤ room_1.cells ∧ sl ≤ room_1.slots := ⟨by omega, by omega⟩
  refine lv_aload_n hF.1 hF.2.1 dL_law_391 rfl (lv_at hv 3 rfl) ?_
  refine lC (As := []) (rest := []) hF hI hS hv.1 hR0 (ec_where hJ) mlL_33 rfl rfl ⟨by decide, by decide⟩ (Nat.le_of_ble_eq_true rfl) dL_law_392 (fun v1 A1 H1 locs1 hk1 hI1 hS1 => ?_)
  obtain ⟨rfl, rfl⟩ := hk1
  refine W.eq (g2 := F0 m 395 ls [_]) rfl ?_
  refine lv_aload_n hF.1 hF.2.1 dL_law_395 rfl (lv_at hv 2 rfl) ?_
  refine lM (As := []) (rest := [_]) hF hI1 hS1 hv.1 hR0 (em_where hJ) mlL_36 rfl rfl ⟨by decide, by decide⟩ (Nat.le_of_ble_eq_true rfl) dL_law_396 (fun v2 A2 H2 locs2 hk2 hI2 hS2 => ?_)
  obtain ⟨rfl, rfl⟩ := hk2
  refine W.eq (g2 := F0 m 399 ls [_, _]) rfl ?_
  refine lv_icmp_eq (tgt := 2007) hF.1 hF.2.1 dL_law_399 (by decide) (fun _ => ?_) (fun z => absurd rfl z)
  exact nxt _ _ _ _ _ _ _ _ _ _ _ hI2 ⟨_, _, _, _, _, _, _, _, _, _, _, _, hJ.m0⟩ hS2 hv (Nat.le_add_right _ _) (Nat.le_add_right _ _)
set_option maxRecDepth 4000 in
theorem law_4 {p : Program} {l : Launch} {e : Env} {s : State} {m : MethodId} {below : List Frame} {meth : Method} {c : Code} {b L i : Nat} {xs : Nat → Int32} {H : Heap} {locs : List Loc} {ce sl : Nat} {Q : State → Prop} {D : va_G} {aC : Nat → ClassId} {ρ : Nat → Nat} {ls : Array Slot} {r : Value} {hw : Bool} {Ac Am : AH} {qo : Nat} {f : Nat → Int64} {w : WT} {sN : Nat → Nat} {HH II : Nat → Nat → Nat} {nx cN mN fN : Nat} {pl : Int32} {n0 : Nat} {tp : Nat → Int32} {tN : Nat} (hF : CallFix p m c code 7 s #[Value.ref b] TW RL) (hX : va_X b L xs s s.heap) (hbl : b < s.heap.size) (hL : L ≤ 3072) (hi : i + 5 < L) (hI : LI D aC s ρ r hw Ac Am qo f H) (hJ : JT w sN HH II nx cN mN fN pl n0 tp tN hw Ac Am) (hS : va_S (BL s) s.heap H locs) (hv : lv_has ls 7 (lvL b ρ qo i)) (hR : ce + 22 ≤ room_1.cells ∧ sl + 181 ≤ room_1.slots) (nxt : NX p l e s m below meth c b D aC qo i ce sl Q) : W p l e room_1 s m #[Value.ref b] below meth c H locs ce sl Q (F0 m 404 ls []) := by
  have hR0 : ce ≤ room_1.cells ∧ sl ≤ room_1.slots := ⟨by omega, by omega⟩
  refine lv_aload_n hF.1 hF.2.1 dL_law_404 rfl (lv_at hv 3 rfl) ?_
  refine ls_arg (k := 1) (q := 411) hF hX hbl hS hv (by omega) hL rfl rfl dL_law_405 dL_law_406 dL_law_408 dL_law_409 dL_law_410 ?_
  refine ls_arg (k := 2) (q := 417) hF hX hbl hS hv (by omega) hL rfl rfl dL_law_411 dL_law_412 dL_law_414 dL_law_415 dL_law_416 ?_
  refine lC (As := [.int (xs (i + 1)), .int (xs (i + 2))]) (rest := []) hF hI hS hv.1 hR0 (qc_thread hJ.1.1 hJ.1.2.2.2.1) mlL_37 rfl rfl ⟨by decide, by decide⟩ (Nat.le_of_ble_eq_true rfl) dL_law_417 (fun v1 A1 H1 locs1 hk1 hI1 hS1 => ?_)
  obtain ⟨-, -, rfl⟩ := id hk1
  refine W.eq (g2 := F0 m 420 ls [_]) rfl ?_
  refine lv_aload_n hF.1 hF.2.1 dL_law_420 rfl (lv_at hv 2 rfl) ?_
  refine ls_arg (k := 1) (q := 427) hF hX hbl hS1 hv (by omega) hL rfl rfl dL_law_421 dL_law_422 dL_law_424 dL_law_425 dL_law_426 ?_
  refine ls_arg (k := 2) (q := 433) hF hX hbl hS1 hv (by omega) hL rfl rfl dL_law_427 dL_law_428 dL_law_430 dL_law_431 dL_law_432 ?_
  refine lM (As := [.int (xs (i + 1)), .int (xs (i + 2))]) (rest := [_]) hF hI1 hS1 hv.1 hR0 (pm_thread hJ.1.1.2.2.2.1 hJ.1.1.2.1.2.2.1 (fun z => (hJ.2.2.2.2.1 z).1) hJ.2.2.2.2.2) mlL_41 rfl rfl ⟨by decide, by decide⟩ (Nat.le_of_ble_eq_true rfl) dL_law_433 (fun v2 A2 H2 locs2 hk2 hI2 hS2 => ?_)
  obtain ⟨-, -, -, rfl⟩ := id hk2
  refine W.eq (g2 := F0 m 436 ls [_, _]) rfl ?_
  refine lv_icmp_eq (tgt := 2007) hF.1 hF.2.1 dL_law_436 (by decide) (fun _ => ?_) (fun z => absurd rfl z)
  exact nxt _ _ _ _ _ _ _ _ _ _ _ hI2 (hJ.q hk1 hk2 (n4_t1 _)) hS2 hv (Nat.le_add_right _ _) (Nat.le_add_right _ _)
set_option maxRecDepth 4000 in
theorem law_5 {p : Program} {l : Launch} {e : Env} {s : State} {m : MethodId} {below : List Frame} {meth : Method} {c : Code} {b L i : Nat} {xs : Nat → Int32} {H : Heap} {locs : List Loc} {ce sl : Nat} {Q : State → Prop} {D : va_G} {aC : Nat → ClassId} {ρ : Nat → Nat} {ls : Array Slot} {r : Value} {hw : Bool} {Ac Am : AH} {qo : Nat} {f : Nat → Int64} {w : WT} {sN : Nat → Nat} {HH II : Nat → Nat → Nat} {nx cN mN fN : Nat} {pl : Int32} {n0 : Nat} {tp : Nat → Int32} {tN : Nat} (hF : CallFix p m c code 7 s #[Value.ref b] TW RL) (hX : va_X b L xs s s.heap) (hbl : b < s.heap.size) (hL : L ≤ 3072) (hi : i + 5 < L) (hI : LI D aC s ρ r hw Ac Am qo f H) (hJ : JT w sN HH II nx cN mN fN pl n0 tp tN hw Ac Am) (hS : va_S (BL s) s.heap H locs) (hv : lv_has ls 7 (lvL b ρ qo i)) (hR : ce + 22 ≤ room_1.cells ∧ sl + 181 ≤ room_1.slots) (nxt : NX p l e s m below meth c b D aC qo i ce sl Q) : W p l e room_1 s m #[Value.ref b] below meth c H locs ce sl Q (F0 m 441 ls []) := by
  have hR0 : ce ≤ room_1.cells ∧ sl ≤ room_1.slots := ⟨by omega, by omega⟩
  refine lv_aload_n hF.1 hF.2.1 dL_law_441 rfl (lv_at hv 3 rfl) ?_
  refine ls_arg (k := 1) (q := 448) hF hX hbl hS hv (by omega) hL rfl rfl dL_law_442 dL_law_443 dL_law_445 dL_law_446 dL_law_447 ?_
  refine ls_arg (k := 2) (q := 454) hF hX hbl hS hv (by omega) hL rfl rfl dL_law_448 dL_law_449 dL_law_451 dL_law_452 dL_law_453 ?_
  refine lC (As := [.int (xs (i + 1)), .int (xs (i + 2))]) (rest := []) hF hI hS hv.1 hR0 (qc_nail hJ.1.1 hJ.1.2.2.2.1) mlL_42 rfl rfl ⟨by decide, by decide⟩ (Nat.le_of_ble_eq_true rfl) dL_law_454 (fun v1 A1 H1 locs1 hk1 hI1 hS1 => ?_)
  obtain ⟨-, -, rfl⟩ := id hk1
  refine W.eq (g2 := F0 m 457 ls [_]) rfl ?_
  refine lv_aload_n hF.1 hF.2.1 dL_law_457 rfl (lv_at hv 2 rfl) ?_
  refine ls_arg (k := 1) (q := 464) hF hX hbl hS1 hv (by omega) hL rfl rfl dL_law_458 dL_law_459 dL_law_461 dL_law_462 dL_law_463 ?_
  refine ls_arg (k := 2) (q := 470) hF hX hbl hS1 hv (by omega) hL rfl rfl dL_law_464 dL_law_465 dL_law_467 dL_law_468 dL_law_469 ?_
  refine lM (As := [.int (xs (i + 1)), .int (xs (i + 2))]) (rest := [_]) hF hI1 hS1 hv.1 hR0 (pm_nail hJ.1.1.2.2.2.1 hJ.1.1.2.1.2.2.1 (fun z => (hJ.2.2.2.2.1 z).1) hJ.2.2.2.2.2) mlL_45 rfl rfl ⟨by decide, by decide⟩ (Nat.le_of_ble_eq_true rfl) dL_law_470 (fun v2 A2 H2 locs2 hk2 hI2 hS2 => ?_)
  obtain ⟨-, -, -, rfl⟩ := id hk2
  refine W.eq (g2 := F0 m 473 ls [_, _]) rfl ?_
  refine lv_icmp_eq (tgt := 2007) hF.1 hF.2.1 dL_law_473 (by decide) (fun _ => ?_) (fun z => absurd rfl z)
  exact nxt _ _ _ _ _ _ _ _ _ _ _ hI2 (hJ.q hk1 hk2 (n4_t1 _)) hS2 hv (Nat.le_add_right _ _) (Nat.le_add_right _ _)
set_option maxRecDepth 4000 in
theorem law_6 {p : Program} {l : Launch} {e : Env} {s : State} {m : MethodId} {below : List Frame} {meth : Method} {c : Code} {b L i : Nat} {xs : Nat → Int32} {H : Heap} {locs : List Loc} {ce sl : Nat} {Q : State → Prop} {D : va_G} {aC : Nat → ClassId} {ρ : Nat → Nat} {ls : Array Slot} {r : Value} {hw : Bool} {Ac Am : AH} {qo : Nat} {f : Nat → Int64} {w : WT} {sN : Nat → Nat} {HH II : Nat → Nat → Nat} {nx cN mN fN : Nat} {pl : Int32} {n0 : Nat} {tp : Nat → Int32} {tN : Nat} (hF : CallFix p m c code 7 s #[Value.ref b] TW RL) (hX : va_X b L xs s s.heap) (hbl : b < s.heap.size) (hL : L ≤ 3072) (hi : i + 5 < L) (hI : LI D aC s ρ r hw Ac Am qo f H) (hJ : JT w sN HH II nx cN mN fN pl n0 tp tN hw Ac Am) (hS : va_S (BL s) s.heap H locs) (hv : lv_has ls 7 (lvL b ρ qo i)) (hR : ce + 22 ≤ room_1.cells ∧ sl + 181 ≤ room_1.slots) (nxt : NX p l e s m below meth c b D aC qo i ce sl Q) : W p l e room_1 s m #[Value.ref b] below meth c H locs ce sl Q (F0 m 478 ls []) := by
  have hR0 : ce ≤ room_1.cells ∧ sl ≤ room_1.slots := ⟨by omega, by omega⟩
  refine lv_aload_n hF.1 hF.2.1 dL_law_478 rfl (lv_at hv 3 rfl) ?_
  refine ls_arg (k := 1) (q := 485) hF hX hbl hS hv (by omega) hL rfl rfl dL_law_479 dL_law_480 dL_law_482 dL_law_483 dL_law_484 ?_
  refine ls_arg (k := 2) (q := 491) hF hX hbl hS hv (by omega) hL rfl rfl dL_law_485 dL_law_486 dL_law_488 dL_law_489 dL_law_490 ?_
  refine lC (As := [.int (xs (i + 1)), .int (xs (i + 2))]) (rest := []) hF hI hS hv.1 hR0 (qc_strong hJ.1.1 hJ.1.2.2.2.1) mlL_46 rfl rfl ⟨by decide, by decide⟩ (Nat.le_of_ble_eq_true rfl) dL_law_491 (fun v1 A1 H1 locs1 hk1 hI1 hS1 => ?_)
  obtain ⟨-, -, rfl⟩ := id hk1
  refine W.eq (g2 := F0 m 494 ls [_]) rfl ?_
  refine lv_aload_n hF.1 hF.2.1 dL_law_494 rfl (lv_at hv 2 rfl) ?_
  refine ls_arg (k := 1) (q := 501) hF hX hbl hS1 hv (by omega) hL rfl rfl dL_law_495 dL_law_496 dL_law_498 dL_law_499 dL_law_500 ?_
  refine ls_arg (k := 2) (q := 507) hF hX hbl hS1 hv (by omega) hL rfl rfl dL_law_501 dL_law_502 dL_law_504 dL_law_505 dL_law_506 ?_
  refine lM (As := [.int (xs (i + 1)), .int (xs (i + 2))]) (rest := [_]) hF hI1 hS1 hv.1 hR0 (pm_strong hJ.1.1.2.2.2.1 hJ.1.1.2.1.2.2.1 (fun z => (hJ.2.2.2.2.1 z).1) hJ.2.2.2.2.2) mlL_49 rfl rfl ⟨by decide, by decide⟩ (Nat.le_of_ble_eq_true rfl) dL_law_507 (fun v2 A2 H2 locs2 hk2 hI2 hS2 => ?_)
  obtain ⟨-, -, -, rfl⟩ := id hk2
  refine W.eq (g2 := F0 m 510 ls [_, _]) rfl ?_
  refine lv_icmp_eq (tgt := 2007) hF.1 hF.2.1 dL_law_510 (by decide) (fun _ => ?_) (fun z => absurd rfl z)
  exact nxt _ _ _ _ _ _ _ _ _ _ _ hI2 (hJ.q hk1 hk2 (n4_tY _ _)) hS2 hv (Nat.le_add_right _ _) (Nat.le_add_right _ _)
set_option maxRecDepth 4000 in
theorem law_7 {p : Program} {l : Launch} {e : Env} {s : State} {m : MethodId} {below : List Frame} {meth : Method} {c : Code} {b L i : Nat} {xs : Nat → Int32} {H : Heap} {locs : List Loc} {ce sl : Nat} {Q : State → Prop} {D : va_G} {aC : Nat → ClassId} {ρ : Nat → Nat} {ls : Array Slot} {r : Value} {hw : Bool} {Ac Am : AH} {qo : Nat} {f : Nat → Int64} {w : WT} {sN : Nat → Nat} {HH II : Nat → Nat → Nat} {nx cN mN fN : Nat} {pl : Int32} {n0 : Nat} {tp : Nat → Int32} {tN : Nat} (hF : CallFix p m c code 7 s #[Value.ref b] TW RL) (hX : va_X b L xs s s.heap) (hbl : b < s.heap.size) (hL : L ≤ 3072) (hi : i + 5 < L) (hI : LI D aC s ρ r hw Ac Am qo f H) (hJ : JT w sN HH II nx cN mN fN pl n0 tp tN hw Ac Am) (hS : va_S (BL s) s.heap H locs) (hv : lv_has ls 7 (lvL b ρ qo i)) (hR : ce + 22 ≤ room_1.cells ∧ sl + 181 ≤ room_1.slots) (nxt : NX p l e s m below meth c b D aC qo i ce sl Q) : W p l e room_1 s m #[Value.ref b] below meth c H locs ce sl Q (F0 m 515 ls []) := by
  have hR0 : ce ≤ room_1.cells ∧ sl ≤ room_1.slots := ⟨by omega, by omega⟩
  refine lv_aload_n hF.1 hF.2.1 dL_law_515 rfl (lv_at hv 3 rfl) ?_
  refine ls_arg (k := 1) (q := 522) hF hX hbl hS hv (by omega) hL rfl rfl dL_law_516 dL_law_517 dL_law_519 dL_law_520 dL_law_521 ?_
  refine lC (As := [.int (xs (i + 1))]) (rest := []) hF hI hS hv.1 hR0 (qc_breaksIn hJ.1.1 hJ.1.2.2.2.1) mlL_50 rfl rfl ⟨by decide, by decide⟩ (Nat.le_of_ble_eq_true rfl) dL_law_522 (fun v1 A1 H1 locs1 hk1 hI1 hS1 => ?_)
  obtain ⟨-, -, rfl⟩ := id hk1
  refine W.eq (g2 := F0 m 525 ls [_]) rfl ?_
  refine lv_aload_n hF.1 hF.2.1 dL_law_525 rfl (lv_at hv 2 rfl) ?_
  refine ls_arg (k := 1) (q := 532) hF hX hbl hS1 hv (by omega) hL rfl rfl dL_law_526 dL_law_527 dL_law_529 dL_law_530 dL_law_531 ?_
  refine lM (As := [.int (xs (i + 1))]) (rest := [_]) hF hI1 hS1 hv.1 hR0 (pm_breaksIn hJ.1.1.2.2.2.1 hJ.1.1.2.1.2.2.1 (fun z => (hJ.2.2.2.2.1 z).1) hJ.2.2.2.2.2) mlL_53 rfl rfl ⟨by decide, by decide⟩ (Nat.le_of_ble_eq_true rfl) dL_law_532 (fun v2 A2 H2 locs2 hk2 hI2 hS2 => ?_)
  obtain ⟨-, -, -, rfl⟩ := id hk2
  refine W.eq (g2 := F0 m 535 ls [_, _]) rfl ?_
  refine lv_icmp_eq (tgt := 2007) hF.1 hF.2.1 dL_law_535 (by decide) (fun _ => ?_) (fun z => absurd rfl z)
  exact nxt _ _ _ _ _ _ _ _ _ _ _ hI2 (hJ.q hk1 hk2 (n4_t1 _)) hS2 hv (Nat.le_add_right _ _) (Nat.le_add_right _ _)
set_option maxRecDepth 4000 in
theorem law_8 {p : Program} {l : Launch} {e : Env} {s : State} {m : MethodId} {below : List Frame} {meth : Method} {c : Code} {b L i : Nat} {xs : Nat → Int32} {H : Heap} {locs : List Loc} {ce sl : Nat} {Q : State → Prop} {D : va_G} {aC : Nat → ClassId} {ρ : Nat → Nat} {ls : Array Slot} {r : Value} {hw : Bool} {Ac Am : AH} {qo : Nat} {f : Nat → Int64} {w : WT} {sN : Nat → Nat} {HH II : Nat → Nat → Nat} {nx cN mN fN : Nat} {pl : Int32} {n0 : Nat} {tp : Nat → Int32} {tN : Nat} (hF : CallFix p m c code 7 s #[Value.ref b] TW RL) (hX : va_X b L xs s s.heap) (hbl : b < s.heap.size) (hL : L ≤ 3072) (hi : i + 5 < L) (hI : LI D aC s ρ r hw Ac Am qo f H) (hJ : JT w sN HH II nx cN mN fN pl n0 tp tN hw Ac Am) (hS : va_S (BL s) s.heap H locs) (hv : lv_has ls 7 (lvL b ρ qo i)) (hR : ce + 22 ≤ room_1.cells ∧ sl + 181 ≤ room_1.slots) (nxt : NX p l e s m below meth c b D aC qo i ce sl Q) : W p l e room_1 s m #[Value.ref b] below meth c H locs ce sl Q (F0 m 540 ls []) := by
  have hR0 : ce ≤ room_1.cells ∧ sl ≤ room_1.slots := ⟨by omega, by omega⟩
  refine lv_aload_n hF.1 hF.2.1 dL_law_540 rfl (lv_at hv 3 rfl) ?_
  refine ls_arg (k := 1) (q := 547) hF hX hbl hS hv (by omega) hL rfl rfl dL_law_541 dL_law_542 dL_law_544 dL_law_545 dL_law_546 ?_
  refine lC (As := [.int (xs (i + 1))]) (rest := []) hF hI hS hv.1 hR0 (qc_holding hJ.1.1 hJ.1.2.2.2.1) mlL_54 rfl rfl ⟨by decide, by decide⟩ (Nat.le_of_ble_eq_true rfl) dL_law_547 (fun v1 A1 H1 locs1 hk1 hI1 hS1 => ?_)
  obtain ⟨-, -, rfl⟩ := id hk1
  refine W.eq (g2 := F0 m 550 ls [_]) rfl ?_
  refine lv_aload_n hF.1 hF.2.1 dL_law_550 rfl (lv_at hv 2 rfl) ?_
  refine ls_arg (k := 1) (q := 557) hF hX hbl hS1 hv (by omega) hL rfl rfl dL_law_551 dL_law_552 dL_law_554 dL_law_555 dL_law_556 ?_
  refine lM (As := [.int (xs (i + 1))]) (rest := [_]) hF hI1 hS1 hv.1 hR0 (pm_holding hJ.1.1.2.2.2.1 hJ.1.1.2.1.2.2.1 (fun z => (hJ.2.2.2.2.1 z).1) hJ.2.2.2.2.2) mlL_57 rfl rfl ⟨by decide, by decide⟩ (Nat.le_of_ble_eq_true rfl) dL_law_557 (fun v2 A2 H2 locs2 hk2 hI2 hS2 => ?_)
  obtain ⟨-, -, -, rfl⟩ := id hk2
  refine W.eq (g2 := F0 m 560 ls [_, _]) rfl ?_
  refine lv_icmp_eq (tgt := 2007) hF.1 hF.2.1 dL_law_560 (by decide) (fun _ => ?_) (fun z => absurd rfl z)
  exact nxt _ _ _ _ _ _ _ _ _ _ _ hI2 (hJ.q hk1 hk2 (n4_tY _ _)) hS2 hv (Nat.le_add_right _ _) (Nat.le_add_right _ _)
set_option maxRecDepth 4000 in
theorem law_9 {p : Program} {l : Launch} {e : Env} {s : State} {m : MethodId} {below : List Frame} {meth : Method} {c : Code} {b L i : Nat} {xs : Nat → Int32} {H : Heap} {locs : List Loc} {ce sl : Nat} {Q : State → Prop} {D : va_G} {aC : Nat → ClassId} {ρ : Nat → Nat} {ls : Array Slot} {r : Value} {hw : Bool} {Ac Am : AH} {qo : Nat} {f : Nat → Int64} {w : WT} {sN : Nat → Nat} {HH II : Nat → Nat → Nat} {nx cN mN fN : Nat} {pl : Int32} {n0 : Nat} {tp : Nat → Int32} {tN : Nat} (hF : CallFix p m c code 7 s #[Value.ref b] TW RL) (hX : va_X b L xs s s.heap) (hbl : b < s.heap.size) (hL : L ≤ 3072) (hi : i + 5 < L) (hI : LI D aC s ρ r hw Ac Am qo f H) (hJ : JT w sN HH II nx cN mN fN pl n0 tp tN hw Ac Am) (hS : va_S (BL s) s.heap H locs) (hv : lv_has ls 7 (lvL b ρ qo i)) (hR : ce + 22 ≤ room_1.cells ∧ sl + 181 ≤ room_1.slots) (nxt : NX p l e s m below meth c b D aC qo i ce sl Q) : W p l e room_1 s m #[Value.ref b] below meth c H locs ce sl Q (F0 m 565 ls []) := by
  have hR0 : ce ≤ room_1.cells ∧ sl ≤ room_1.slots := ⟨by omega, by omega⟩
  refine lv_aload_n hF.1 hF.2.1 dL_law_565 rfl (lv_at hv 3 rfl) ?_
  refine ls_arg (k := 1) (q := 572) hF hX hbl hS hv (by omega) hL rfl rfl dL_law_566 dL_law_567 dL_law_569 dL_law_570 dL_law_571 ?_
  refine lC (As := [.int (xs (i + 1))]) (rest := []) hF hI hS hv.1 hR0 (qc_strongest hJ.1.1 hJ.1.2.2.2.1) mlL_58 rfl rfl ⟨by decide, by decide⟩ (Nat.le_of_ble_eq_true rfl) dL_law_572 (fun v1 A1 H1 locs1 hk1 hI1 hS1 => ?_)
  obtain ⟨-, -, rfl⟩ := id hk1
  refine W.eq (g2 := F0 m 575 ls [_]) rfl ?_
  refine lv_aload_n hF.1 hF.2.1 dL_law_575 rfl (lv_at hv 2 rfl) ?_
  refine ls_arg (k := 1) (q := 582) hF hX hbl hS1 hv (by omega) hL rfl rfl dL_law_576 dL_law_577 dL_law_579 dL_law_580 dL_law_581 ?_
  refine lM (As := [.int (xs (i + 1))]) (rest := [_]) hF hI1 hS1 hv.1 hR0 (pm_strongest hJ.1.1.2.2.2.1 hJ.1.1.2.1.2.2.1 (fun z => (hJ.2.2.2.2.1 z).1) hJ.2.2.2.2.2) mlL_61 rfl rfl ⟨by decide, by decide⟩ (Nat.le_of_ble_eq_true rfl) dL_law_582 (fun v2 A2 H2 locs2 hk2 hI2 hS2 => ?_)
  obtain ⟨-, -, -, rfl⟩ := id hk2
  refine W.eq (g2 := F0 m 585 ls [_, _]) rfl ?_
  refine lv_icmp_eq (tgt := 2007) hF.1 hF.2.1 dL_law_585 (by decide) (fun _ => ?_) (fun z => absurd rfl z)
  exact nxt _ _ _ _ _ _ _ _ _ _ _ hI2 (hJ.q hk1 hk2 (n4_tY _ _)) hS2 hv (Nat.le_add_right _ _) (Nat.le_add_right _ _)
set_option maxRecDepth 4000 in
theorem law_10 {p : Program} {l : Launch} {e : Env} {s : State} {m : MethodId} {below : List Frame} {meth : Method} {c : Code} {b L i : Nat} {xs : Nat → Int32} {H : Heap} {locs : List Loc} {ce sl : Nat} {Q : State → Prop} {D : va_G} {aC : Nat → ClassId} {ρ : Nat → Nat} {ls : Array Slot} {r : Value} {hw : Bool} {Ac Am : AH} {qo : Nat} {f : Nat → Int64} {w : WT} {sN : Nat → Nat} {HH II : Nat → Nat → Nat} {nx cN mN fN : Nat} {pl : Int32} {n0 : Nat} {tp : Nat → Int32} {tN : Nat} (hF : CallFix p m c code 7 s #[Value.ref b] TW RL) (hX : va_X b L xs s s.heap) (hbl : b < s.heap.size) (hL : L ≤ 3072) (hi : i + 5 < L) (hI : LI D aC s ρ r hw Ac Am qo f H) (hJ : JT w sN HH II nx cN mN fN pl n0 tp tN hw Ac Am) (hS : va_S (BL s) s.heap H locs) (hv : lv_has ls 7 (lvL b ρ qo i)) (hR : ce + 22 ≤ room_1.cells ∧ sl + 181 ≤ room_1.slots) (nxt : NX p l e s m below meth c b D aC qo i ce sl Q) : W p l e room_1 s m #[Value.ref b] below meth c H locs ce sl Q (F0 m 590 ls []) := by
  have hR0 : ce ≤ room_1.cells ∧ sl ≤ room_1.slots := ⟨by omega, by omega⟩
  refine lv_aload_n hF.1 hF.2.1 dL_law_590 rfl (lv_at hv 3 rfl) ?_
  refine ls_arg (k := 1) (q := 597) hF hX hbl hS hv (by omega) hL rfl rfl dL_law_591 dL_law_592 dL_law_594 dL_law_595 dL_law_596 ?_
  refine ls_arg (k := 2) (q := 603) hF hX hbl hS hv (by omega) hL rfl rfl dL_law_597 dL_law_598 dL_law_600 dL_law_601 dL_law_602 ?_
  refine ls_arg (k := 3) (q := 609) hF hX hbl hS hv (by omega) hL rfl rfl dL_law_603 dL_law_604 dL_law_606 dL_law_607 dL_law_608 ?_
  refine lC (As := [.int (xs (i + 1)), .int (xs (i + 2)), .int (xs (i + 3))]) (rest := []) hF hI hS hv.1 hR0 (qc_bears hJ.1.1 hJ.1.2.2.2.1) mlL_62 rfl rfl ⟨by decide, by decide⟩ (Nat.le_of_ble_eq_true rfl) dL_law_609 (fun v1 A1 H1 locs1 hk1 hI1 hS1 => ?_)
  obtain ⟨-, -, rfl⟩ := id hk1
  refine W.eq (g2 := F0 m 612 ls [_]) rfl ?_
  refine lv_aload_n hF.1 hF.2.1 dL_law_612 rfl (lv_at hv 2 rfl) ?_
  refine ls_arg (k := 1) (q := 619) hF hX hbl hS1 hv (by omega) hL rfl rfl dL_law_613 dL_law_614 dL_law_616 dL_law_617 dL_law_618 ?_
  refine ls_arg (k := 2) (q := 625) hF hX hbl hS1 hv (by omega) hL rfl rfl dL_law_619 dL_law_620 dL_law_622 dL_law_623 dL_law_624 ?_
  refine ls_arg (k := 3) (q := 631) hF hX hbl hS1 hv (by omega) hL rfl rfl dL_law_625 dL_law_626 dL_law_628 dL_law_629 dL_law_630 ?_
  refine lM (As := [.int (xs (i + 1)), .int (xs (i + 2)), .int (xs (i + 3))]) (rest := [_]) hF hI1 hS1 hv.1 hR0 (pm_bears hJ.1.1.2.2.2.1 hJ.1.1.2.1.2.2.1 (fun z => (hJ.2.2.2.2.1 z).1) hJ.2.2.2.2.2) mlL_66 rfl rfl ⟨by decide, by decide⟩ (Nat.le_of_ble_eq_true rfl) dL_law_631 (fun v2 A2 H2 locs2 hk2 hI2 hS2 => ?_)
  obtain ⟨-, -, -, rfl⟩ := id hk2
  refine W.eq (g2 := F0 m 634 ls [_, _]) rfl ?_
  refine lv_icmp_eq (tgt := 2007) hF.1 hF.2.1 dL_law_634 (by decide) (fun _ => ?_) (fun z => absurd rfl z)
  exact nxt _ _ _ _ _ _ _ _ _ _ _ hI2 (hJ.q hk1 hk2 (n4_tY _ _)) hS2 hv (Nat.le_add_right _ _) (Nat.le_add_right _ _)
set_option maxRecDepth 4000 in
theorem law_11 {p : Program} {l : Launch} {e : Env} {s : State} {m : MethodId} {below : List Frame} {meth : Method} {c : Code} {b L i : Nat} {xs : Nat → Int32} {H : Heap} {locs : List Loc} {ce sl : Nat} {Q : State → Prop} {D : va_G} {aC : Nat → ClassId} {ρ : Nat → Nat} {ls : Array Slot} {r : Value} {hw : Bool} {Ac Am : AH} {qo : Nat} {f : Nat → Int64} {w : WT} {sN : Nat → Nat} {HH II : Nat → Nat → Nat} {nx cN mN fN : Nat} {pl : Int32} {n0 : Nat} {tp : Nat → Int32} {tN : Nat} (hF : CallFix p m c code 7 s #[Value.ref b] TW RL) (hX : va_X b L xs s s.heap) (hbl : b < s.heap.size) (hL : L ≤ 3072) (hi : i + 5 < L) (hI : LI D aC s ρ r hw Ac Am qo f H) (hJ : JT w sN HH II nx cN mN fN pl n0 tp tN hw Ac Am) (hS : va_S (BL s) s.heap H locs) (hv : lv_has ls 7 (lvL b ρ qo i)) (hR : ce + 22 ≤ room_1.cells ∧ sl + 181 ≤ room_1.slots) (nxt : NX p l e s m below meth c b D aC qo i ce sl Q) : W p l e room_1 s m #[Value.ref b] below meth c H locs ce sl Q (F0 m 639 ls []) := by
  have hR0 : ce ≤ room_1.cells ∧ sl ≤ room_1.slots := ⟨by omega, by omega⟩
  refine lv_aload_n hF.1 hF.2.1 dL_law_639 rfl (lv_at hv 3 rfl) ?_
  refine ls_arg (k := 1) (q := 646) hF hX hbl hS hv (by omega) hL rfl rfl dL_law_640 dL_law_641 dL_law_643 dL_law_644 dL_law_645 ?_
  refine ls_arg (k := 2) (q := 652) hF hX hbl hS hv (by omega) hL rfl rfl dL_law_646 dL_law_647 dL_law_649 dL_law_650 dL_law_651 ?_
  refine ls_arg (k := 3) (q := 658) hF hX hbl hS hv (by omega) hL rfl rfl dL_law_652 dL_law_653 dL_law_655 dL_law_656 dL_law_657 ?_
  refine lC (As := [.int (xs (i + 1)), .int (xs (i + 2)), .int (xs (i + 3))]) (rest := []) hF hI hS hv.1 hR0 (qc_cut hJ.1.1 hJ.1.2.2.2.1) mlL_67 rfl rfl ⟨by decide, by decide⟩ (Nat.le_of_ble_eq_true rfl) dL_law_658 (fun v1 A1 H1 locs1 hk1 hI1 hS1 => ?_)
  obtain ⟨-, -, rfl⟩ := id hk1
  refine W.eq (g2 := F0 m 661 ls [_]) rfl ?_
  refine lv_aload_n hF.1 hF.2.1 dL_law_661 rfl (lv_at hv 2 rfl) ?_
  refine ls_arg (k := 1) (q := 668) hF hX hbl hS1 hv (by omega) hL rfl rfl dL_law_662 dL_law_663 dL_law_665 dL_law_666 dL_law_667 ?_
  refine ls_arg (k := 2) (q := 674) hF hX hbl hS1 hv (by omega) hL rfl rfl dL_law_668 dL_law_669 dL_law_671 dL_law_672 dL_law_673 ?_
  refine ls_arg (k := 3) (q := 680) hF hX hbl hS1 hv (by omega) hL rfl rfl dL_law_674 dL_law_675 dL_law_677 dL_law_678 dL_law_679 ?_
  refine lM (As := [.int (xs (i + 1)), .int (xs (i + 2)), .int (xs (i + 3))]) (rest := [_]) hF hI1 hS1 hv.1 hR0 (pm_cut hJ.1.1.2.2.2.1 hJ.1.1.2.1.2.2.1 (fun z => (hJ.2.2.2.2.1 z).1) hJ.2.2.2.2.2) mlL_70 rfl rfl ⟨by decide, by decide⟩ (Nat.le_of_ble_eq_true rfl) dL_law_680 (fun v2 A2 H2 locs2 hk2 hI2 hS2 => ?_)
  obtain ⟨-, -, -, rfl⟩ := id hk2
  refine W.eq (g2 := F0 m 683 ls [_, _]) rfl ?_
  refine lv_icmp_eq (tgt := 2007) hF.1 hF.2.1 dL_law_683 (by decide) (fun _ => ?_) (fun z => absurd rfl z)
  exact nxt _ _ _ _ _ _ _ _ _ _ _ hI2 (hJ.q hk1 hk2 (n4_tY _ _)) hS2 hv (Nat.le_add_right _ _) (Nat.le_add_right _ _)
set_option maxRecDepth 4000 in
theorem law_12 {p : Program} {l : Launch} {e : Env} {s : State} {m : MethodId} {below : List Frame} {meth : Method} {c : Code} {b L i : Nat} {xs : Nat → Int32} {H : Heap} {locs : List Loc} {ce sl : Nat} {Q : State → Prop} {D : va_G} {aC : Nat → ClassId} {ρ : Nat → Nat} {ls : Array Slot} {r : Value} {hw : Bool} {Ac Am : AH} {qo : Nat} {f : Nat → Int64} {w : WT} {sN : Nat → Nat} {HH II : Nat → Nat → Nat} {nx cN mN fN : Nat} {pl : Int32} {n0 : Nat} {tp : Nat → Int32} {tN : Nat} (hF : CallFix p m c code 7 s #[Value.ref b] TW RL) (hX : va_X b L xs s s.heap) (hbl : b < s.heap.size) (hL : L ≤ 3072) (hi : i + 5 < L) (hI : LI D aC s ρ r hw Ac Am qo f H) (hJ : JT w sN HH II nx cN mN fN pl n0 tp tN hw Ac Am) (hS : va_S (BL s) s.heap H locs) (hv : lv_has ls 7 (lvL b ρ qo i)) (hR : ce + 22 ≤ room_1.cells ∧ sl + 181 ≤ room_1.slots) (nxt : NX p l e s m below meth c b D aC qo i ce sl Q) : W p l e room_1 s m #[Value.ref b] below meth c H locs ce sl Q (F0 m 688 ls []) := by
  have hR0 : ce ≤ room_1.cells ∧ sl ≤ room_1.slots := ⟨by omega, by omega⟩
  refine lv_aload_n hF.1 hF.2.1 dL_law_688 rfl (lv_at hv 3 rfl) ?_
  refine ls_arg (k := 1) (q := 695) hF hX hbl hS hv (by omega) hL rfl rfl dL_law_689 dL_law_690 dL_law_692 dL_law_693 dL_law_694 ?_
  refine ls_arg (k := 2) (q := 701) hF hX hbl hS hv (by omega) hL rfl rfl dL_law_695 dL_law_696 dL_law_698 dL_law_699 dL_law_700 ?_
  refine ls_arg (k := 3) (q := 707) hF hX hbl hS hv (by omega) hL rfl rfl dL_law_701 dL_law_702 dL_law_704 dL_law_705 dL_law_706 ?_
  refine lC (As := [.int (xs (i + 1)), .int (xs (i + 2)), .int (xs (i + 3))]) (rest := []) hF hI hS hv.1 hR0 (qc_vital hJ.1.1 hJ.1.2.2.2.1) mlL_71 rfl rfl ⟨by decide, by decide⟩ (Nat.le_of_ble_eq_true rfl) dL_law_707 (fun v1 A1 H1 locs1 hk1 hI1 hS1 => ?_)
  obtain ⟨-, -, rfl⟩ := id hk1
  refine W.eq (g2 := F0 m 710 ls [_]) rfl ?_
  refine lv_aload_n hF.1 hF.2.1 dL_law_710 rfl (lv_at hv 2 rfl) ?_
  refine ls_arg (k := 1) (q := 717) hF hX hbl hS1 hv (by omega) hL rfl rfl dL_law_711 dL_law_712 dL_law_714 dL_law_715 dL_law_716 ?_
  refine ls_arg (k := 2) (q := 723) hF hX hbl hS1 hv (by omega) hL rfl rfl dL_law_717 dL_law_718 dL_law_720 dL_law_721 dL_law_722 ?_
  refine ls_arg (k := 3) (q := 729) hF hX hbl hS1 hv (by omega) hL rfl rfl dL_law_723 dL_law_724 dL_law_726 dL_law_727 dL_law_728 ?_
  refine lM (As := [.int (xs (i + 1)), .int (xs (i + 2)), .int (xs (i + 3))]) (rest := [_]) hF hI1 hS1 hv.1 hR0 (pm_vital hJ.1.1.2.2.2.1 hJ.1.1.2.1.2.2.1 (fun z => (hJ.2.2.2.2.1 z).1) hJ.2.2.2.2.2) mlL_74 rfl rfl ⟨by decide, by decide⟩ (Nat.le_of_ble_eq_true rfl) dL_law_729 (fun v2 A2 H2 locs2 hk2 hI2 hS2 => ?_)
  obtain ⟨-, -, -, rfl⟩ := id hk2
  refine W.eq (g2 := F0 m 732 ls [_, _]) rfl ?_
  refine lv_icmp_eq (tgt := 2007) hF.1 hF.2.1 dL_law_732 (by decide) (fun _ => ?_) (fun z => absurd rfl z)
  exact nxt _ _ _ _ _ _ _ _ _ _ _ hI2 (hJ.q hk1 hk2 (n4_tY _ _)) hS2 hv (Nat.le_add_right _ _) (Nat.le_add_right _ _)
set_option maxRecDepth 4000 in
theorem law_13 {p : Program} {l : Launch} {e : Env} {s : State} {m : MethodId} {below : List Frame} {meth : Method} {c : Code} {b L i : Nat} {xs : Nat → Int32} {H : Heap} {locs : List Loc} {ce sl : Nat} {Q : State → Prop} {D : va_G} {aC : Nat → ClassId} {ρ : Nat → Nat} {ls : Array Slot} {r : Value} {hw : Bool} {Ac Am : AH} {qo : Nat} {f : Nat → Int64} {w : WT} {sN : Nat → Nat} {HH II : Nat → Nat → Nat} {nx cN mN fN : Nat} {pl : Int32} {n0 : Nat} {tp : Nat → Int32} {tN : Nat} (hF : CallFix p m c code 7 s #[Value.ref b] TW RL) (hX : va_X b L xs s s.heap) (hbl : b < s.heap.size) (hL : L ≤ 3072) (hi : i + 5 < L) (hI : LI D aC s ρ r hw Ac Am qo f H) (hJ : JT w sN HH II nx cN mN fN pl n0 tp tN hw Ac Am) (hS : va_S (BL s) s.heap H locs) (hv : lv_has ls 7 (lvL b ρ qo i)) (hR : ce + 22 ≤ room_1.cells ∧ sl + 181 ≤ room_1.slots) (nxt : NX p l e s m below meth c b D aC qo i ce sl Q) : W p l e room_1 s m #[Value.ref b] below meth c H locs ce sl Q (F0 m 737 ls []) := by
  have hR0 : ce ≤ room_1.cells ∧ sl ≤ room_1.slots := ⟨by omega, by omega⟩
  refine lv_aload_n hF.1 hF.2.1 dL_law_737 rfl (lv_at hv 3 rfl) ?_
  refine ls_arg (k := 1) (q := 744) hF hX hbl hS hv (by omega) hL rfl rfl dL_law_738 dL_law_739 dL_law_741 dL_law_742 dL_law_743 ?_
  refine ls_arg (k := 2) (q := 750) hF hX hbl hS hv (by omega) hL rfl rfl dL_law_744 dL_law_745 dL_law_747 dL_law_748 dL_law_749 ?_
  refine ls_arg (k := 3) (q := 756) hF hX hbl hS hv (by omega) hL rfl rfl dL_law_750 dL_law_751 dL_law_753 dL_law_754 dL_law_755 ?_
  refine lC (As := [.int (xs (i + 1)), .int (xs (i + 2)), .int (xs (i + 3))]) (rest := []) hF hI hS hv.1 hR0 (qc_needed hJ.1.1 hJ.1.2.2.2.1) mlL_75 rfl rfl ⟨by decide, by decide⟩ (Nat.le_of_ble_eq_true rfl) dL_law_756 (fun v1 A1 H1 locs1 hk1 hI1 hS1 => ?_)
  obtain ⟨-, -, rfl⟩ := id hk1
  refine W.eq (g2 := F0 m 759 ls [_]) rfl ?_
  refine lv_aload_n hF.1 hF.2.1 dL_law_759 rfl (lv_at hv 2 rfl) ?_
  refine ls_arg (k := 1) (q := 766) hF hX hbl hS1 hv (by omega) hL rfl rfl dL_law_760 dL_law_761 dL_law_763 dL_law_764 dL_law_765 ?_
  refine ls_arg (k := 2) (q := 772) hF hX hbl hS1 hv (by omega) hL rfl rfl dL_law_766 dL_law_767 dL_law_769 dL_law_770 dL_law_771 ?_
  refine ls_arg (k := 3) (q := 778) hF hX hbl hS1 hv (by omega) hL rfl rfl dL_law_772 dL_law_773 dL_law_775 dL_law_776 dL_law_777 ?_
  refine lM (As := [.int (xs (i + 1)), .int (xs (i + 2)), .int (xs (i + 3))]) (rest := [_]) hF hI1 hS1 hv.1 hR0 (pm_needed hJ.1.1.2.2.2.1 hJ.1.1.2.1.2.2.1 (fun z => (hJ.2.2.2.2.1 z).1) hJ.2.2.2.2.2) mlL_78 rfl rfl ⟨by decide, by decide⟩ (Nat.le_of_ble_eq_true rfl) dL_law_778 (fun v2 A2 H2 locs2 hk2 hI2 hS2 => ?_)
  obtain ⟨-, -, -, rfl⟩ := id hk2
  refine W.eq (g2 := F0 m 781 ls [_, _]) rfl ?_
  refine lv_icmp_eq (tgt := 2007) hF.1 hF.2.1 dL_law_781 (by decide) (fun _ => ?_) (fun z => absurd rfl z)
  exact nxt _ _ _ _ _ _ _ _ _ _ _ hI2 (hJ.q hk1 hk2 (n4_tY _ _)) hS2 hv (Nat.le_add_right _ _) (Nat.le_add_right _ _)
set_option maxRecDepth 4000 in
theorem law_14 {p : Program} {l : Launch} {e : Env} {s : State} {m : MethodId} {below : List Frame} {meth : Method} {c : Code} {b L i : Nat} {xs : Nat → Int32} {H : Heap} {locs : List Loc} {ce sl : Nat} {Q : State → Prop} {D : va_G} {aC : Nat → ClassId} {ρ : Nat → Nat} {ls : Array Slot} {r : Value} {hw : Bool} {Ac Am : AH} {qo : Nat} {f : Nat → Int64} {w : WT} {sN : Nat → Nat} {HH II : Nat → Nat → Nat} {nx cN mN fN : Nat} {pl : Int32} {n0 : Nat} {tp : Nat → Int32} {tN : Nat} (hF : CallFix p m c code 7 s #[Value.ref b] TW RL) (hX : va_X b L xs s s.heap) (hbl : b < s.heap.size) (hL : L ≤ 3072) (hi : i + 5 < L) (hI : LI D aC s ρ r hw Ac Am qo f H) (hJ : JT w sN HH II nx cN mN fN pl n0 tp tN hw Ac Am) (hS : va_S (BL s) s.heap H locs) (hv : lv_has ls 7 (lvL b ρ qo i)) (hR : ce + 22 ≤ room_1.cells ∧ sl + 181 ≤ room_1.slots) (nxt : NX p l e s m below meth c b D aC qo i ce sl Q) : W p l e room_1 s m #[Value.ref b] below meth c H locs ce sl Q (F0 m 786 ls []) := by
  have hR0 : ce ≤ room_1.cells ∧ sl ≤ room_1.slots := ⟨by omega, by omega⟩
  refine lv_aload_n hF.1 hF.2.1 dL_law_786 rfl (lv_at hv 3 rfl) ?_
  refine ls_arg (k := 1) (q := 793) hF hX hbl hS hv (by omega) hL rfl rfl dL_law_787 dL_law_788 dL_law_790 dL_law_791 dL_law_792 ?_
  refine lC (As := [.int (xs (i + 1))]) (rest := []) hF hI hS hv.1 hR0 (qc_weakest hJ.1.1 hJ.1.2.2.2.1) mlL_79 rfl rfl ⟨by decide, by decide⟩ (Nat.le_of_ble_eq_true rfl) dL_law_793 (fun v1 A1 H1 locs1 hk1 hI1 hS1 => ?_)
  obtain ⟨-, -, rfl⟩ := id hk1
  refine W.eq (g2 := F0 m 796 ls [_]) rfl ?_
  refine lv_aload_n hF.1 hF.2.1 dL_law_796 rfl (lv_at hv 2 rfl) ?_
  refine ls_arg (k := 1) (q := 803) hF hX hbl hS1 hv (by omega) hL rfl rfl dL_law_797 dL_law_798 dL_law_800 dL_law_801 dL_law_802 ?_
  refine lM (As := [.int (xs (i + 1))]) (rest := [_]) hF hI1 hS1 hv.1 hR0 (pm_weakest hJ.1.1.2.2.2.1 hJ.1.1.2.1.2.2.1 (fun z => (hJ.2.2.2.2.1 z).1) hJ.2.2.2.2.2) mlL_82 rfl rfl ⟨by decide, by decide⟩ (Nat.le_of_ble_eq_true rfl) dL_law_803 (fun v2 A2 H2 locs2 hk2 hI2 hS2 => ?_)
  obtain ⟨-, -, -, rfl⟩ := id hk2
  refine W.eq (g2 := F0 m 806 ls [_, _]) rfl ?_
  refine lv_icmp_eq (tgt := 2007) hF.1 hF.2.1 dL_law_806 (by decide) (fun _ => ?_) (fun z => absurd rfl z)
  exact nxt _ _ _ _ _ _ _ _ _ _ _ hI2 (hJ.q hk1 hk2 (n4_tY _ _)) hS2 hv (Nat.le_add_right _ _) (Nat.le_add_right _ _)
set_option maxRecDepth 4000 in
theorem law_15 {p : Program} {l : Launch} {e : Env} {s : State} {m : MethodId} {below : List Frame} {meth : Method} {c : Code} {b L i : Nat} {xs : Nat → Int32} {H : Heap} {locs : List Loc} {ce sl : Nat} {Q : State → Prop} {D : va_G} {aC : Nat → ClassId} {ρ : Nat → Nat} {ls : Array Slot} {r : Value} {hw : Bool} {Ac Am : AH} {qo : Nat} {f : Nat → Int64} {w : WT} {sN : Nat → Nat} {HH II : Nat → Nat → Nat} {nx cN mN fN : Nat} {pl : Int32} {n0 : Nat} {tp : Nat → Int32} {tN : Nat} (hF : CallFix p m c code 7 s #[Value.ref b] TW RL) (hX : va_X b L xs s s.heap) (hbl : b < s.heap.size) (hL : L ≤ 3072) (hi : i + 5 < L) (hI : LI D aC s ρ r hw Ac Am qo f H) (hJ : JT w sN HH II nx cN mN fN pl n0 tp tN hw Ac Am) (hS : va_S (BL s) s.heap H locs) (hv : lv_has ls 7 (lvL b ρ qo i)) (hR : ce + 22 ≤ room_1.cells ∧ sl + 181 ≤ room_1.slots) (nxt : NX p l e s m below meth c b D aC qo i ce sl Q) : W p l e room_1 s m #[Value.ref b] below meth c H locs ce sl Q (F0 m 811 ls []) := by
  have hR0 : ce ≤ room_1.cells ∧ sl ≤ room_1.slots := ⟨by omega, by omega⟩
  refine lv_aload_n hF.1 hF.2.1 dL_law_811 rfl (lv_at hv 3 rfl) ?_
  refine ls_arg (k := 1) (q := 818) hF hX hbl hS hv (by omega) hL rfl rfl dL_law_812 dL_law_813 dL_law_815 dL_law_816 dL_law_817 ?_
  refine ls_arg (k := 2) (q := 824) hF hX hbl hS hv (by omega) hL rfl rfl dL_law_818 dL_law_819 dL_law_821 dL_law_822 dL_law_823 ?_
  refine ls_arg (k := 3) (q := 830) hF hX hbl hS hv (by omega) hL rfl rfl dL_law_824 dL_law_825 dL_law_827 dL_law_828 dL_law_829 ?_
  refine lC (As := [.int (xs (i + 1)), .int (xs (i + 2)), .int (xs (i + 3))]) (rest := []) hF hI hS hv.1 hR0 (qc_apart hJ.1.1 hJ.1.2.2.2.1) mlL_83 rfl rfl ⟨by decide, by decide⟩ (Nat.le_of_ble_eq_true rfl) dL_law_830 (fun v1 A1 H1 locs1 hk1 hI1 hS1 => ?_)
  obtain ⟨-, -, rfl⟩ := id hk1
  refine W.eq (g2 := F0 m 833 ls [_]) rfl ?_
  refine lv_aload_n hF.1 hF.2.1 dL_law_833 rfl (lv_at hv 2 rfl) ?_
  refine ls_arg (k := 1) (q := 840) hF hX hbl hS1 hv (by omega) hL rfl rfl dL_law_834 dL_law_835 dL_law_837 dL_law_838 dL_law_839 ?_
  refine ls_arg (k := 2) (q := 846) hF hX hbl hS1 hv (by omega) hL rfl rfl dL_law_840 dL_law_841 dL_law_843 dL_law_844 dL_law_845 ?_
  refine ls_arg (k := 3) (q := 852) hF hX hbl hS1 hv (by omega) hL rfl rfl dL_law_846 dL_law_847 dL_law_849 dL_law_850 dL_law_851 ?_
  refine lM (As := [.int (xs (i + 1)), .int (xs (i + 2)), .int (xs (i + 3))]) (rest := [_]) hF hI1 hS1 hv.1 hR0 (pm_apart hJ.1.1.2.2.2.1 hJ.1.1.2.1.2.2.1 (fun z => (hJ.2.2.2.2.1 z).1) hJ.2.2.2.2.2) mlL_86 rfl rfl ⟨by decide, by decide⟩ (Nat.le_of_ble_eq_true rfl) dL_law_852 (fun v2 A2 H2 locs2 hk2 hI2 hS2 => ?_)
  obtain ⟨-, -, -, rfl⟩ := id hk2
  refine W.eq (g2 := F0 m 855 ls [_, _]) rfl ?_
  refine lv_icmp_eq (tgt := 2007) hF.1 hF.2.1 dL_law_855 (by decide) (fun _ => ?_) (fun z => absurd rfl z)
  exact nxt _ _ _ _ _ _ _ _ _ _ _ hI2 (hJ.q hk1 hk2 (n4_tY _ _)) hS2 hv (Nat.le_add_right _ _) (Nat.le_add_right _ _)
set_option maxRecDepth 4000 in
theorem law_16 {p : Program} {l : Launch} {e : Env} {s : State} {m : MethodId} {below : List Frame} {meth : Method} {c : Code} {b L i : Nat} {xs : Nat → Int32} {H : Heap} {locs : List Loc} {ce sl : Nat} {Q : State → Prop} {D : va_G} {aC : Nat → ClassId} {ρ : Nat → Nat} {ls : Array Slot} {r : Value} {hw : Bool} {Ac Am : AH} {qo : Nat} {f : Nat → Int64} {w : WT} {sN : Nat → Nat} {HH II : Nat → Nat → Nat} {nx cN mN fN : Nat} {pl : Int32} {n0 : Nat} {tp : Nat → Int32} {tN : Nat} (hF : CallFix p m c code 7 s #[Value.ref b] TW RL) (hX : va_X b L xs s s.heap) (hbl : b < s.heap.size) (hL : L ≤ 3072) (hi : i + 5 < L) (hI : LI D aC s ρ r hw Ac Am qo f H) (hJ : JT w sN HH II nx cN mN fN pl n0 tp tN hw Ac Am) (hS : va_S (BL s) s.heap H locs) (hv : lv_has ls 7 (lvL b ρ qo i)) (hR : ce + 22 ≤ room_1.cells ∧ sl + 181 ≤ room_1.slots) (nxt : NX p l e s m below meth c b D aC qo i ce sl Q) : W p l e room_1 s m #[Value.ref b] below meth c H locs ce sl Q (F0 m 860 ls []) := by
  have hR0 : ce ≤ room_1.cells ∧ sl ≤ room_1.slots := ⟨by omega, by omega⟩
  refine lv_aload_n hF.1 hF.2.1 dL_law_860 rfl (lv_at hv 3 rfl) ?_
  refine ls_arg (k := 1) (q := 867) hF hX hbl hS hv (by omega) hL rfl rfl dL_law_861 dL_law_862 dL_law_864 dL_law_865 dL_law_866 ?_
  refine lC (As := [.int (xs (i + 1))]) (rest := []) hF hI hS hv.1 hR0 (qc_parts hJ.1.1 hJ.1.2.2.2.1) mlL_87 rfl rfl ⟨by decide, by decide⟩ (Nat.le_of_ble_eq_true rfl) dL_law_867 (fun v1 A1 H1 locs1 hk1 hI1 hS1 => ?_)
  obtain ⟨-, -, rfl⟩ := id hk1
  refine W.eq (g2 := F0 m 870 ls [_]) rfl ?_
  refine lv_aload_n hF.1 hF.2.1 dL_law_870 rfl (lv_at hv 2 rfl) ?_
  refine ls_arg (k := 1) (q := 877) hF hX hbl hS1 hv (by omega) hL rfl rfl dL_law_871 dL_law_872 dL_law_874 dL_law_875 dL_law_876 ?_
  refine lM (As := [.int (xs (i + 1))]) (rest := [_]) hF hI1 hS1 hv.1 hR0 (pm_parts hJ.1.1.2.2.2.1 hJ.1.1.2.1.2.2.1 (fun z => (hJ.2.2.2.2.1 z).1) hJ.2.2.2.2.2) mlL_90 rfl rfl ⟨by decide, by decide⟩ (Nat.le_of_ble_eq_true rfl) dL_law_877 (fun v2 A2 H2 locs2 hk2 hI2 hS2 => ?_)
  obtain ⟨-, -, -, rfl⟩ := id hk2
  refine W.eq (g2 := F0 m 880 ls [_, _]) rfl ?_
  refine lv_icmp_eq (tgt := 2007) hF.1 hF.2.1 dL_law_880 (by decide) (fun _ => ?_) (fun z => absurd rfl z)
  exact nxt _ _ _ _ _ _ _ _ _ _ _ hI2 (hJ.q hk1 hk2 (n4_tY _ _)) hS2 hv (Nat.le_add_right _ _) (Nat.le_add_right _ _)
set_option maxRecDepth 4000 in
theorem law_17 {p : Program} {l : Launch} {e : Env} {s : State} {m : MethodId} {below : List Frame} {meth : Method} {c : Code} {b L i : Nat} {xs : Nat → Int32} {H : Heap} {locs : List Loc} {ce sl : Nat} {Q : State → Prop} {D : va_G} {aC : Nat → ClassId} {ρ : Nat → Nat} {ls : Array Slot} {r : Value} {hw : Bool} {Ac Am : AH} {qo : Nat} {f : Nat → Int64} {w : WT} {sN : Nat → Nat} {HH II : Nat → Nat → Nat} {nx cN mN fN : Nat} {pl : Int32} {n0 : Nat} {tp : Nat → Int32} {tN : Nat} (hF : CallFix p m c code 7 s #[Value.ref b] TW RL) (hX : va_X b L xs s s.heap) (hbl : b < s.heap.size) (hL : L ≤ 3072) (hi : i + 5 < L) (hI : LI D aC s ρ r hw Ac Am qo f H) (hJ : JT w sN HH II nx cN mN fN pl n0 tp tN hw Ac Am) (hS : va_S (BL s) s.heap H locs) (hv : lv_has ls 7 (lvL b ρ qo i)) (hR : ce + 22 ≤ room_1.cells ∧ sl + 181 ≤ room_1.slots) (nxt : NX p l e s m below meth c b D aC qo i ce sl Q) : W p l e room_1 s m #[Value.ref b] below meth c H locs ce sl Q (F0 m 885 ls []) := by
  have hR0 : ce ≤ room_1.cells ∧ sl ≤ room_1.slots := ⟨by omega, by omega⟩
  refine lv_aload_n hF.1 hF.2.1 dL_law_885 rfl (lv_at hv 3 rfl) ?_
  refine ls_arg (k := 1) (q := 892) hF hX hbl hS hv (by omega) hL rfl rfl dL_law_886 dL_law_887 dL_law_889 dL_law_890 dL_law_891 ?_
  refine lC (As := [.int (xs (i + 1))]) (rest := []) hF hI hS hv.1 hR0 (qc_bridges hJ.1.1 hJ.1.2.2.2.1) mlL_91 rfl rfl ⟨by decide, by decide⟩ (Nat.le_of_ble_eq_true rfl) dL_law_892 (fun v1 A1 H1 locs1 hk1 hI1 hS1 => ?_)
  obtain ⟨-, -, rfl⟩ := id hk1
  refine W.eq (g2 := F0 m 895 ls [_]) rfl ?_
  refine lv_aload_n hF.1 hF.2.1 dL_law_895 rfl (lv_at hv 2 rfl) ?_
  refine ls_arg (k := 1) (q := 902) hF hX hbl hS1 hv (by omega) hL rfl rfl dL_law_896 dL_law_897 dL_law_899 dL_law_900 dL_law_901 ?_
  refine lM (As := [.int (xs (i + 1))]) (rest := [_]) hF hI1 hS1 hv.1 hR0 (pm_bridges hJ.1.1.2.2.2.1 hJ.1.1.2.1.2.2.1 (fun z => (hJ.2.2.2.2.1 z).1) hJ.2.2.2.2.2) mlL_94 rfl rfl ⟨by decide, by decide⟩ (Nat.le_of_ble_eq_true rfl) dL_law_902 (fun v2 A2 H2 locs2 hk2 hI2 hS2 => ?_)
  obtain ⟨-, -, -, rfl⟩ := id hk2
  refine W.eq (g2 := F0 m 905 ls [_, _]) rfl ?_
  refine lv_icmp_eq (tgt := 2007) hF.1 hF.2.1 dL_law_905 (by decide) (fun _ => ?_) (fun z => absurd rfl z)
  exact nxt _ _ _ _ _ _ _ _ _ _ _ hI2 (hJ.q hk1 hk2 (n4_tY _ _)) hS2 hv (Nat.le_add_right _ _) (Nat.le_add_right _ _)
set_option maxRecDepth 4000 in
theorem law_18 {p : Program} {l : Launch} {e : Env} {s : State} {m : MethodId} {below : List Frame} {meth : Method} {c : Code} {b L i : Nat} {xs : Nat → Int32} {H : Heap} {locs : List Loc} {ce sl : Nat} {Q : State → Prop} {D : va_G} {aC : Nat → ClassId} {ρ : Nat → Nat} {ls : Array Slot} {r : Value} {hw : Bool} {Ac Am : AH} {qo : Nat} {f : Nat → Int64} {w : WT} {sN : Nat → Nat} {HH II : Nat → Nat → Nat} {nx cN mN fN : Nat} {pl : Int32} {n0 : Nat} {tp : Nat → Int32} {tN : Nat} (hF : CallFix p m c code 7 s #[Value.ref b] TW RL) (hX : va_X b L xs s s.heap) (hbl : b < s.heap.size) (hL : L ≤ 3072) (hi : i + 5 < L) (hI : LI D aC s ρ r hw Ac Am qo f H) (hJ : JT w sN HH II nx cN mN fN pl n0 tp tN hw Ac Am) (hS : va_S (BL s) s.heap H locs) (hv : lv_has ls 7 (lvL b ρ qo i)) (hR : ce + 22 ≤ room_1.cells ∧ sl + 181 ≤ room_1.slots) (nxt : NX p l e s m below meth c b D aC qo i ce sl Q) : W p l e room_1 s m #[Value.ref b] below meth c H locs ce sl Q (F0 m 910 ls []) := by
  have hR0 : ce ≤ room_1.cells ∧ sl ≤ room_1.slots := ⟨by omega, by omega⟩
  refine lv_aload_n hF.1 hF.2.1 dL_law_910 rfl (lv_at hv 3 rfl) ?_
  refine ls_arg (k := 1) (q := 917) hF hX hbl hS hv (by omega) hL rfl rfl dL_law_911 dL_law_912 dL_law_914 dL_law_915 dL_law_916 ?_
  refine lC (As := [.int (xs (i + 1))]) (rest := []) hF hI hS hv.1 hR0 (qc_borne hJ.1.1 hJ.1.2.2.2.1) mlL_95 rfl rfl ⟨by decide, by decide⟩ (Nat.le_of_ble_eq_true rfl) dL_law_917 (fun v1 A1 H1 locs1 hk1 hI1 hS1 => ?_)
  obtain ⟨-, -, rfl⟩ := id hk1
  refine W.eq (g2 := F0 m 920 ls [_]) rfl ?_
  refine lv_aload_n hF.1 hF.2.1 dL_law_920 rfl (lv_at hv 2 rfl) ?_
  refine ls_arg (k := 1) (q := 927) hF hX hbl hS1 hv (by omega) hL rfl rfl dL_law_921 dL_law_922 dL_law_924 dL_law_925 dL_law_926 ?_
  refine lM (As := [.int (xs (i + 1))]) (rest := [_]) hF hI1 hS1 hv.1 hR0 (pm_borne hJ.1.1.2.2.2.1 hJ.1.1.2.1.2.2.1 (fun z => (hJ.2.2.2.2.1 z).1) hJ.2.2.2.2.2) mlL_98 rfl rfl ⟨by decide, by decide⟩ (Nat.le_of_ble_eq_true rfl) dL_law_927 (fun v2 A2 H2 locs2 hk2 hI2 hS2 => ?_)
  obtain ⟨-, -, -, rfl⟩ := id hk2
  refine W.eq (g2 := F0 m 930 ls [_, _]) rfl ?_
  refine lv_icmp_eq (tgt := 2007) hF.1 hF.2.1 dL_law_930 (by decide) (fun _ => ?_) (fun z => absurd rfl z)
  exact nxt _ _ _ _ _ _ _ _ _ _ _ hI2 (hJ.q hk1 hk2 (n4_tY _ _)) hS2 hv (Nat.le_add_right _ _) (Nat.le_add_right _ _)
set_option maxRecDepth 4000 in
theorem law_19 {p : Program} {l : Launch} {e : Env} {s : State} {m : MethodId} {below : List Frame} {meth : Method} {c : Code} {b L i : Nat} {xs : Nat → Int32} {H : Heap} {locs : List Loc} {ce sl : Nat} {Q : State → Prop} {D : va_G} {aC : Nat → ClassId} {ρ : Nat → Nat} {ls : Array Slot} {r : Value} {hw : Bool} {Ac Am : AH} {qo : Nat} {f : Nat → Int64} {w : WT} {sN : Nat → Nat} {HH II : Nat → Nat → Nat} {nx cN mN fN : Nat} {pl : Int32} {n0 : Nat} {tp : Nat → Int32} {tN : Nat} (hF : CallFix p m c code 7 s #[Value.ref b] TW RL) (hX : va_X b L xs s s.heap) (hbl : b < s.heap.size) (hL : L ≤ 3072) (hi : i + 5 < L) (hI : LI D aC s ρ r hw Ac Am qo f H) (hJ : JT w sN HH II nx cN mN fN pl n0 tp tN hw Ac Am) (hS : va_S (BL s) s.heap H locs) (hv : lv_has ls 7 (lvL b ρ qo i)) (hR : ce + 22 ≤ room_1.cells ∧ sl + 181 ≤ room_1.slots) (nxt : NX p l e s m below meth c b D aC qo i ce sl Q) : W p l e room_1 s m #[Value.ref b] below meth c H locs ce sl Q (F0 m 935 ls []) := by
  have hR0 : ce ≤ room_1.cells ∧ sl ≤ room_1.slots := ⟨by omega, by omega⟩
  refine lv_aload_n hF.1 hF.2.1 dL_law_935 rfl (lv_at hv 3 rfl) ?_
  refine ls_arg (k := 1) (q := 942) hF hX hbl hS hv (by omega) hL rfl rfl dL_law_936 dL_law_937 dL_law_939 dL_law_940 dL_law_941 ?_
  refine lC (As := [.int (xs (i + 1))]) (rest := []) hF hI hS hv.1 hR0 (qc_fallsIn hJ.1.1 hJ.1.2.2.2.1) mlL_99 rfl rfl ⟨by decide, by decide⟩ (Nat.le_of_ble_eq_true rfl) dL_law_942 (fun v1 A1 H1 locs1 hk1 hI1 hS1 => ?_)
  obtain ⟨-, -, rfl⟩ := id hk1
  refine W.eq (g2 := F0 m 945 ls [_]) rfl ?_
  refine lv_aload_n hF.1 hF.2.1 dL_law_945 rfl (lv_at hv 2 rfl) ?_
  refine ls_arg (k := 1) (q := 952) hF hX hbl hS1 hv (by omega) hL rfl rfl dL_law_946 dL_law_947 dL_law_949 dL_law_950 dL_law_951 ?_
  refine lM (As := [.int (xs (i + 1))]) (rest := [_]) hF hI1 hS1 hv.1 hR0 (pm_fallsIn hJ.1.1.2.2.2.1 hJ.1.1.2.1.2.2.1 (fun z => (hJ.2.2.2.2.1 z).1) hJ.2.2.2.2.2) mlL_102 rfl rfl ⟨by decide, by decide⟩ (Nat.le_of_ble_eq_true rfl) dL_law_952 (fun v2 A2 H2 locs2 hk2 hI2 hS2 => ?_)
  obtain ⟨-, -, -, rfl⟩ := id hk2
  refine W.eq (g2 := F0 m 955 ls [_, _]) rfl ?_
  refine lv_icmp_eq (tgt := 2007) hF.1 hF.2.1 dL_law_955 (by decide) (fun _ => ?_) (fun z => absurd rfl z)
  exact nxt _ _ _ _ _ _ _ _ _ _ _ hI2 (hJ.q hk1 hk2 (n4_t1 _)) hS2 hv (Nat.le_add_right _ _) (Nat.le_add_right _ _)
set_option maxRecDepth 4000 in
theorem law_20 {p : Program} {l : Launch} {e : Env} {s : State} {m : MethodId} {below : List Frame} {meth : Method} {c : Code} {b L i : Nat} {xs : Nat → Int32} {H : Heap} {locs : List Loc} {ce sl : Nat} {Q : State → Prop} {D : va_G} {aC : Nat → ClassId} {ρ : Nat → Nat} {ls : Array Slot} {r : Value} {hw : Bool} {Ac Am : AH} {qo : Nat} {f : Nat → Int64} {w : WT} {sN : Nat → Nat} {HH II : Nat → Nat → Nat} {nx cN mN fN : Nat} {pl : Int32} {n0 : Nat} {tp : Nat → Int32} {tN : Nat} (hF : CallFix p m c code 7 s #[Value.ref b] TW RL) (hX : va_X b L xs s s.heap) (hbl : b < s.heap.size) (hL : L ≤ 3072) (hi : i + 5 < L) (hI : LI D aC s ρ r hw Ac Am qo f H) (hJ : JT w sN HH II nx cN mN fN pl n0 tp tN hw Ac Am) (hS : va_S (BL s) s.heap H locs) (hv : lv_has ls 7 (lvL b ρ qo i)) (hR : ce + 22 ≤ room_1.cells ∧ sl + 181 ≤ room_1.slots) (nxt : NX p l e s m below meth c b D aC qo i ce sl Q) : W p l e room_1 s m #[Value.ref b] below meth c H locs ce sl Q (F0 m 960 ls []) := by
  have hR0 : ce ≤ room_1.cells ∧ sl ≤ room_1.slots := ⟨by omega, by omega⟩
  refine lv_aload_n hF.1 hF.2.1 dL_law_960 rfl (lv_at hv 3 rfl) ?_
  refine ls_arg (k := 1) (q := 967) hF hX hbl hS hv (by omega) hL rfl rfl dL_law_961 dL_law_962 dL_law_964 dL_law_965 dL_law_966 ?_
  refine lC (As := [.int (xs (i + 1))]) (rest := []) hF hI hS hv.1 hR0 (qc_spare hJ.1.1 hJ.1.2.2.2.1) mlL_103 rfl rfl ⟨by decide, by decide⟩ (Nat.le_of_ble_eq_true rfl) dL_law_967 (fun v1 A1 H1 locs1 hk1 hI1 hS1 => ?_)
  obtain ⟨-, -, rfl⟩ := id hk1
  refine W.eq (g2 := F0 m 970 ls [_]) rfl ?_
  refine lv_aload_n hF.1 hF.2.1 dL_law_970 rfl (lv_at hv 2 rfl) ?_
  refine ls_arg (k := 1) (q := 977) hF hX hbl hS1 hv (by omega) hL rfl rfl dL_law_971 dL_law_972 dL_law_974 dL_law_975 dL_law_976 ?_
  refine lM (As := [.int (xs (i + 1))]) (rest := [_]) hF hI1 hS1 hv.1 hR0 (pm_spare hJ.1.1.2.2.2.1 hJ.1.1.2.1.2.2.1 (fun z => (hJ.2.2.2.2.1 z).1) hJ.2.2.2.2.2) mlL_106 rfl rfl ⟨by decide, by decide⟩ (Nat.le_of_ble_eq_true rfl) dL_law_977 (fun v2 A2 H2 locs2 hk2 hI2 hS2 => ?_)
  obtain ⟨-, -, -, rfl⟩ := id hk2
  refine W.eq (g2 := F0 m 980 ls [_, _]) rfl ?_
  refine lv_icmp_eq (tgt := 2007) hF.1 hF.2.1 dL_law_980 (by decide) (fun _ => ?_) (fun z => absurd rfl z)
  exact nxt _ _ _ _ _ _ _ _ _ _ _ hI2 (hJ.q hk1 hk2 (n4_t1 _)) hS2 hv (Nat.le_add_right _ _) (Nat.le_add_right _ _)
set_option maxRecDepth 4000 in
theorem law_21 {p : Program} {l : Launch} {e : Env} {s : State} {m : MethodId} {below : List Frame} {meth : Method} {c : Code} {b L i : Nat} {xs : Nat → Int32} {H : Heap} {locs : List Loc} {ce sl : Nat} {Q : State → Prop} {D : va_G} {aC : Nat → ClassId} {ρ : Nat → Nat} {ls : Array Slot} {r : Value} {hw : Bool} {Ac Am : AH} {qo : Nat} {f : Nat → Int64} {w : WT} {sN : Nat → Nat} {HH II : Nat → Nat → Nat} {nx cN mN fN : Nat} {pl : Int32} {n0 : Nat} {tp : Nat → Int32} {tN : Nat} (hF : CallFix p m c code 7 s #[Value.ref b] TW RL) (hX : va_X b L xs s s.heap) (hbl : b < s.heap.size) (hL : L ≤ 3072) (hi : i + 5 < L) (hI : LI D aC s ρ r hw Ac Am qo f H) (hJ : JT w sN HH II nx cN mN fN pl n0 tp tN hw Ac Am) (hS : va_S (BL s) s.heap H locs) (hv : lv_has ls 7 (lvL b ρ qo i)) (hR : ce + 22 ≤ room_1.cells ∧ sl + 181 ≤ room_1.slots) (nxt : NX p l e s m below meth c b D aC qo i ce sl Q) : W p l e room_1 s m #[Value.ref b] below meth c H locs ce sl Q (F0 m 985 ls []) := by
  have hR0 : ce ≤ room_1.cells ∧ sl ≤ room_1.slots := ⟨by omega, by omega⟩
  refine lv_aload_n hF.1 hF.2.1 dL_law_985 rfl (lv_at hv 3 rfl) ?_
  refine lC (As := []) (rest := []) hF hI hS hv.1 hR0 (qc_mend hJ.1.1 hJ.1.2.2.2.1) mlL_107 rfl rfl ⟨by decide, by decide⟩ (Nat.le_of_ble_eq_true rfl) dL_law_986 (fun v1 A1 H1 locs1 hk1 hI1 hS1 => ?_)
  obtain ⟨-, -, rfl⟩ := id hk1
  refine W.eq (g2 := F0 m 989 ls [_]) rfl ?_
  refine lv_aload_n hF.1 hF.2.1 dL_law_989 rfl (lv_at hv 2 rfl) ?_
  refine lM (As := []) (rest := [_]) hF hI1 hS1 hv.1 hR0 (pm_mend hJ.1.1.2.2.2.1 hJ.1.1.2.1.2.2.1 (fun z => (hJ.2.2.2.2.1 z).1) hJ.2.2.2.2.2) mlL_110 rfl rfl ⟨by decide, by decide⟩ (Nat.le_of_ble_eq_true rfl) dL_law_990 (fun v2 A2 H2 locs2 hk2 hI2 hS2 => ?_)
  obtain ⟨-, -, -, rfl⟩ := id hk2
  refine W.eq (g2 := F0 m 993 ls [_, _]) rfl ?_
  refine lv_icmp_eq (tgt := 2007) hF.1 hF.2.1 dL_law_993 (by decide) (fun _ => ?_) (fun z => absurd rfl z)
  exact nxt _ _ _ _ _ _ _ _ _ _ _ hI2 (hJ.q hk1 hk2 (n4_t1 _)) hS2 hv (Nat.le_add_right _ _) (Nat.le_add_right _ _)
set_option maxRecDepth 4000 in
theorem law_22 {p : Program} {l : Launch} {e : Env} {s : State} {m : MethodId} {below : List Frame} {meth : Method} {c : Code} {b L i : Nat} {xs : Nat → Int32} {H : Heap} {locs : List Loc} {ce sl : Nat} {Q : State → Prop} {D : va_G} {aC : Nat → ClassId} {ρ : Nat → Nat} {ls : Array Slot} {r : Value} {hw : Bool} {Ac Am : AH} {qo : Nat} {f : Nat → Int64} {w : WT} {sN : Nat → Nat} {HH II : Nat → Nat → Nat} {nx cN mN fN : Nat} {pl : Int32} {n0 : Nat} {tp : Nat → Int32} {tN : Nat} (hF : CallFix p m c code 7 s #[Value.ref b] TW RL) (hX : va_X b L xs s s.heap) (hbl : b < s.heap.size) (hL : L ≤ 3072) (hi : i + 5 < L) (hI : LI D aC s ρ r hw Ac Am qo f H) (hJ : JT w sN HH II nx cN mN fN pl n0 tp tN hw Ac Am) (hS : va_S (BL s) s.heap H locs) (hv : lv_has ls 7 (lvL b ρ qo i)) (hR : ce + 22 ≤ room_1.cells ∧ sl + 181 ≤ room_1.slots) (nxt : NX p l e s m below meth c b D aC qo i ce sl Q) : W p l e room_1 s m #[Value.ref b] below meth c H locs ce sl Q (F0 m 998 ls []) := by
  have hR0 : ce ≤ room_1.cells ∧ sl ≤ room_1.slots := ⟨by omega, by omega⟩
  refine lv_aload_n hF.1 hF.2.1 dL_law_998 rfl (lv_at hv 3 rfl) ?_
  refine lC (As := []) (rest := []) hF hI hS hv.1 hR0 (qc_mendCost hJ.1.1 hJ.1.2.2.2.1) mlL_111 rfl rfl ⟨by decide, by decide⟩ (Nat.le_of_ble_eq_true rfl) dL_law_999 (fun v1 A1 H1 locs1 hk1 hI1 hS1 => ?_)
  obtain ⟨-, -, rfl⟩ := id hk1
  refine W.eq (g2 := F0 m 1002 ls [_]) rfl ?_
  refine lv_aload_n hF.1 hF.2.1 dL_law_1002 rfl (lv_at hv 2 rfl) ?_
  refine lM (As := []) (rest := [_]) hF hI1 hS1 hv.1 hR0 (pm_mendCost hJ.1.1.2.2.2.1 hJ.1.1.2.1.2.2.1 (fun z => (hJ.2.2.2.2.1 z).1) hJ.2.2.2.2.2) mlL_114 rfl rfl ⟨by decide, by decide⟩ (Nat.le_of_ble_eq_true rfl) dL_law_1003 (fun v2 A2 H2 locs2 hk2 hI2 hS2 => ?_)
  obtain ⟨-, -, -, rfl⟩ := id hk2
  refine W.eq (g2 := F0 m 1006 ls [_, _]) rfl ?_
  refine lv_icmp_eq (tgt := 2007) hF.1 hF.2.1 dL_law_1006 (by decide) (fun _ => ?_) (fun z => absurd rfl z)
  exact nxt _ _ _ _ _ _ _ _ _ _ _ hI2 (hJ.q hk1 hk2 (n4_t1 _)) hS2 hv (Nat.le_add_right _ _) (Nat.le_add_right _ _)
set_option maxRecDepth 4000 in
theorem law_23 {p : Program} {l : Launch} {e : Env} {s : State} {m : MethodId} {below : List Frame} {meth : Method} {c : Code} {b L i : Nat} {xs : Nat → Int32} {H : Heap} {locs : List Loc} {ce sl : Nat} {Q : State → Prop} {D : va_G} {aC : Nat → ClassId} {ρ : Nat → Nat} {ls : Array Slot} {r : Value} {hw : Bool} {Ac Am : AH} {qo : Nat} {f : Nat → Int64} {w : WT} {sN : Nat → Nat} {HH II : Nat → Nat → Nat} {nx cN mN fN : Nat} {pl : Int32} {n0 : Nat} {tp : Nat → Int32} {tN : Nat} (hF : CallFix p m c code 7 s #[Value.ref b] TW RL) (hX : va_X b L xs s s.heap) (hbl : b < s.heap.size) (hL : L ≤ 3072) (hi : i + 5 < L) (hI : LI D aC s ρ r hw Ac Am qo f H) (hJ : JT w sN HH II nx cN mN fN pl n0 tp tN hw Ac Am) (hS : va_S (BL s) s.heap H locs) (hv : lv_has ls 7 (lvL b ρ qo i)) (hR : ce + 22 ≤ room_1.cells ∧ sl + 181 ≤ room_1.slots) (nxt : NX p l e s m below meth c b D aC qo i ce sl Q) : W p l e room_1 s m #[Value.ref b] below meth c H locs ce sl Q (F0 m 1011 ls []) := by
  have hR0 : ce ≤ room_1.cells ∧ sl ≤ room_1.slots := ⟨by omega, by omega⟩
  refine lv_aload_n hF.1 hF.2.1 dL_law_1011 rfl (lv_at hv 3 rfl) ?_
  refine lC (As := []) (rest := []) hF hI hS hv.1 hR0 (qc_bestOffer hJ.1.1 hJ.1.2.2.2.1) mlL_115 rfl rfl ⟨by decide, by decide⟩ (Nat.le_of_ble_eq_true rfl) dL_law_1012 (fun v1 A1 H1 locs1 hk1 hI1 hS1 => ?_)
  obtain ⟨-, -, rfl⟩ := id hk1
  refine W.eq (g2 := F0 m 1015 ls [_]) rfl ?_
  refine lv_aload_n hF.1 hF.2.1 dL_law_1015 rfl (lv_at hv 2 rfl) ?_
  refine lM (As := []) (rest := [_]) hF hI1 hS1 hv.1 hR0 (pm_bestOffer hJ.1.1.2.2.2.1 hJ.1.1.2.1.2.2.1 (fun z => (hJ.2.2.2.2.1 z).1) hJ.2.2.2.2.2) mlL_118 rfl rfl ⟨by decide, by decide⟩ (Nat.le_of_ble_eq_true rfl) dL_law_1016 (fun v2 A2 H2 locs2 hk2 hI2 hS2 => ?_)
  obtain ⟨-, -, -, rfl⟩ := id hk2
  refine W.eq (g2 := F0 m 1019 ls [_, _]) rfl ?_
  refine lv_icmp_eq (tgt := 2007) hF.1 hF.2.1 dL_law_1019 (by decide) (fun _ => ?_) (fun z => absurd rfl z)
  exact nxt _ _ _ _ _ _ _ _ _ _ _ hI2 (hJ.q hk1 hk2 (n4_t1 _)) hS2 hv (Nat.le_add_right _ _) (Nat.le_add_right _ _)
set_option maxRecDepth 4000 in
theorem law_24 {p : Program} {l : Launch} {e : Env} {s : State} {m : MethodId} {below : List Frame} {meth : Method} {c : Code} {b L i : Nat} {xs : Nat → Int32} {H : Heap} {locs : List Loc} {ce sl : Nat} {Q : State → Prop} {D : va_G} {aC : Nat → ClassId} {ρ : Nat → Nat} {ls : Array Slot} {r : Value} {hw : Bool} {Ac Am : AH} {qo : Nat} {f : Nat → Int64} {w : WT} {sN : Nat → Nat} {HH II : Nat → Nat → Nat} {nx cN mN fN : Nat} {pl : Int32} {n0 : Nat} {tp : Nat → Int32} {tN : Nat} (hF : CallFix p m c code 7 s #[Value.ref b] TW RL) (hX : va_X b L xs s s.heap) (hbl : b < s.heap.size) (hL : L ≤ 3072) (hi : i + 5 < L) (hI : LI D aC s ρ r hw Ac Am qo f H) (hJ : JT w sN HH II nx cN mN fN pl n0 tp tN hw Ac Am) (hS : va_S (BL s) s.heap H locs) (hv : lv_has ls 7 (lvL b ρ qo i)) (hR : ce + 22 ≤ room_1.cells ∧ sl + 181 ≤ room_1.slots) (nxt : NX p l e s m below meth c b D aC qo i ce sl Q) : W p l e room_1 s m #[Value.ref b] below meth c H locs ce sl Q (F0 m 1024 ls []) := by
  have hR0 : ce ≤ room_1.cells ∧ sl ≤ room_1.slots := ⟨by omega, by omega⟩
  refine lv_aload_n hF.1 hF.2.1 dL_law_1024 rfl (lv_at hv 3 rfl) ?_
  refine ls_arg (k := 1) (q := 1031) hF hX hbl hS hv (by omega) hL rfl rfl dL_law_1025 dL_law_1026 dL_law_1028 dL_law_1029 dL_law_1030 ?_
  refine lC (As := [.int (xs (i + 1))]) (rest := []) hF hI hS hv.1 hR0 (qc_clashes hJ.1.1 hJ.1.2.2.2.1) mlL_119 rfl rfl ⟨by decide, by decide⟩ (Nat.le_of_ble_eq_true rfl) dL_law_1031 (fun v1 A1 H1 locs1 hk1 hI1 hS1 => ?_)
  obtain ⟨-, -, rfl⟩ := id hk1
  refine W.eq (g2 := F0 m 1034 ls [_]) rfl ?_
  refine lv_aload_n hF.1 hF.2.1 dL_law_1034 rfl (lv_at hv 2 rfl) ?_
  refine ls_arg (k := 1) (q := 1041) hF hX hbl hS1 hv (by omega) hL rfl rfl dL_law_1035 dL_law_1036 dL_law_1038 dL_law_1039 dL_law_1040 ?_
  refine lM (As := [.int (xs (i + 1))]) (rest := [_]) hF hI1 hS1 hv.1 hR0 (pm_clashes hJ.1.1.2.2.2.1 hJ.1.1.2.1.2.2.1 (fun z => (hJ.2.2.2.2.1 z).1) hJ.2.2.2.2.2) mlL_122 rfl rfl ⟨by decide, by decide⟩ (Nat.le_of_ble_eq_true rfl) dL_law_1041 (fun v2 A2 H2 locs2 hk2 hI2 hS2 => ?_)
  obtain ⟨-, -, -, rfl⟩ := id hk2
  refine W.eq (g2 := F0 m 1044 ls [_, _]) rfl ?_
  refine lv_icmp_eq (tgt := 2007) hF.1 hF.2.1 dL_law_1044 (by decide) (fun _ => ?_) (fun z => absurd rfl z)
  exact nxt _ _ _ _ _ _ _ _ _ _ _ hI2 (hJ.q hk1 hk2 (n4_tY _ _)) hS2 hv (Nat.le_add_right _ _) (Nat.le_add_right _ _)
set_option maxRecDepth 4000 in
theorem law_25 {p : Program} {l : Launch} {e : Env} {s : State} {m : MethodId} {below : List Frame} {meth : Method} {c : Code} {b L i : Nat} {xs : Nat → Int32} {H : Heap} {locs : List Loc} {ce sl : Nat} {Q : State → Prop} {D : va_G} {aC : Nat → ClassId} {ρ : Nat → Nat} {ls : Array Slot} {r : Value} {hw : Bool} {Ac Am : AH} {qo : Nat} {f : Nat → Int64} {w : WT} {sN : Nat → Nat} {HH II : Nat → Nat → Nat} {nx cN mN fN : Nat} {pl : Int32} {n0 : Nat} {tp : Nat → Int32} {tN : Nat} (hF : CallFix p m c code 7 s #[Value.ref b] TW RL) (hX : va_X b L xs s s.heap) (hbl : b < s.heap.size) (hL : L ≤ 3072) (hi : i + 5 < L) (hI : LI D aC s ρ r hw Ac Am qo f H) (hJ : JT w sN HH II nx cN mN fN pl n0 tp tN hw Ac Am) (hS : va_S (BL s) s.heap H locs) (hv : lv_has ls 7 (lvL b ρ qo i)) (hR : ce + 22 ≤ room_1.cells ∧ sl + 181 ≤ room_1.slots) (nxt : NX p l e s m below meth c b D aC qo i ce sl Q) : W p l e room_1 s m #[Value.ref b] below meth c H locs ce sl Q (F0 m 1049 ls []) := by
  have hR0 : ce ≤ room_1.cells ∧ sl ≤ room_1.slots := ⟨by omega, by omega⟩
  refine lv_aload_n hF.1 hF.2.1 dL_law_1049 rfl (lv_at hv 3 rfl) ?_
  refine lC (As := []) (rest := []) hF hI hS hv.1 hR0 (qc_breakFew hJ.1.1 hJ.1.2.2.2.1) mlL_123 rfl rfl ⟨by decide, by decide⟩ (Nat.le_of_ble_eq_true rfl) dL_law_1050 (fun v1 A1 H1 locs1 hk1 hI1 hS1 => ?_)
  obtain ⟨-, -, rfl⟩ := id hk1
  refine W.eq (g2 := F0 m 1053 ls [_]) rfl ?_
  refine lv_aload_n hF.1 hF.2.1 dL_law_1053 rfl (lv_at hv 2 rfl) ?_
  refine lM (As := []) (rest := [_]) hF hI1 hS1 hv.1 hR0 (pm_breakFew hJ.1.1.2.2.2.1 hJ.1.1.2.1.2.2.1 (fun z => (hJ.2.2.2.2.1 z).1) hJ.2.2.2.2.2) mlL_126 rfl rfl ⟨by decide, by decide⟩ (Nat.le_of_ble_eq_true rfl) dL_law_1054 (fun v2 A2 H2 locs2 hk2 hI2 hS2 => ?_)
  obtain ⟨-, -, -, rfl⟩ := id hk2
  refine W.eq (g2 := F0 m 1057 ls [_, _]) rfl ?_
  refine lv_icmp_eq (tgt := 2007) hF.1 hF.2.1 dL_law_1057 (by decide) (fun _ => ?_) (fun z => absurd rfl z)
  exact nxt _ _ _ _ _ _ _ _ _ _ _ hI2 (hJ.q hk1 hk2 (n4_t1 _)) hS2 hv (Nat.le_add_right _ _) (Nat.le_add_right _ _)
set_option maxRecDepth 4000 in
theorem law_26 {p : Program} {l : Launch} {e : Env} {s : State} {m : MethodId} {below : List Frame} {meth : Method} {c : Code} {b L i : Nat} {xs : Nat → Int32} {H : Heap} {locs : List Loc} {ce sl : Nat} {Q : State → Prop} {D : va_G} {aC : Nat → ClassId} {ρ : Nat → Nat} {ls : Array Slot} {r : Value} {hw : Bool} {Ac Am : AH} {qo : Nat} {f : Nat → Int64} {w : WT} {sN : Nat → Nat} {HH II : Nat → Nat → Nat} {nx cN mN fN : Nat} {pl : Int32} {n0 : Nat} {tp : Nat → Int32} {tN : Nat} (hF : CallFix p m c code 7 s #[Value.ref b] TW RL) (hX : va_X b L xs s s.heap) (hbl : b < s.heap.size) (hL : L ≤ 3072) (hi : i + 5 < L) (hI : LI D aC s ρ r hw Ac Am qo f H) (hJ : JT w sN HH II nx cN mN fN pl n0 tp tN hw Ac Am) (hS : va_S (BL s) s.heap H locs) (hv : lv_has ls 7 (lvL b ρ qo i)) (hR : ce + 22 ≤ room_1.cells ∧ sl + 181 ≤ room_1.slots) (nxt : NX p l e s m below meth c b D aC qo i ce sl Q) : W p l e room_1 s m #[Value.ref b] below meth c H locs ce sl Q (F0 m 1062 ls []) := by
  have hR0 : ce ≤ room_1.cells ∧ sl ≤ room_1.slots := ⟨by omega, by omega⟩
  refine lv_aload_n hF.1 hF.2.1 dL_law_1062 rfl (lv_at hv 3 rfl) ?_
  refine lC (As := []) (rest := []) hF hI hS hv.1 hR0 (qc_breakRued hJ.1.1 hJ.1.2.2.2.1) mlL_127 rfl rfl ⟨by decide, by decide⟩ (Nat.le_of_ble_eq_true rfl) dL_law_1063 (fun v1 A1 H1 locs1 hk1 hI1 hS1 => ?_)
  obtain ⟨-, -, rfl⟩ := id hk1
  refine W.eq (g2 := F0 m 1066 ls [_]) rfl ?_
  refine lv_aload_n hF.1 hF.2.1 dL_law_1066 rfl (lv_at hv 2 rfl) ?_
  refine lM (As := []) (rest := [_]) hF hI1 hS1 hv.1 hR0 (pm_breakRued hJ.1.1.2.2.2.1 hJ.1.1.2.1.2.2.1 (fun z => (hJ.2.2.2.2.1 z).1) hJ.2.2.2.2.2) mlL_130 rfl rfl ⟨by decide, by decide⟩ (Nat.le_of_ble_eq_true rfl) dL_law_1067 (fun v2 A2 H2 locs2 hk2 hI2 hS2 => ?_)
  obtain ⟨-, -, -, rfl⟩ := id hk2
  refine W.eq (g2 := F0 m 1070 ls [_, _]) rfl ?_
  refine lv_icmp_eq (tgt := 2007) hF.1 hF.2.1 dL_law_1070 (by decide) (fun _ => ?_) (fun z => absurd rfl z)
  exact nxt _ _ _ _ _ _ _ _ _ _ _ hI2 (hJ.q hk1 hk2 (n4_t1 _)) hS2 hv (Nat.le_add_right _ _) (Nat.le_add_right _ _)
set_option maxRecDepth 4000 in
theorem law_27 {p : Program} {l : Launch} {e : Env} {s : State} {m : MethodId} {below : List Frame} {meth : Method} {c : Code} {b L i : Nat} {xs : Nat → Int32} {H : Heap} {locs : List Loc} {ce sl : Nat} {Q : State → Prop} {D : va_G} {aC : Nat → ClassId} {ρ : Nat → Nat} {ls : Array Slot} {r : Value} {hw : Bool} {Ac Am : AH} {qo : Nat} {f : Nat → Int64} {w : WT} {sN : Nat → Nat} {HH II : Nat → Nat → Nat} {nx cN mN fN : Nat} {pl : Int32} {n0 : Nat} {tp : Nat → Int32} {tN : Nat} (hF : CallFix p m c code 7 s #[Value.ref b] TW RL) (hX : va_X b L xs s s.heap) (hbl : b < s.heap.size) (hL : L ≤ 3072) (hi : i + 5 < L) (hI : LI D aC s ρ r hw Ac Am qo f H) (hJ : JT w sN HH II nx cN mN fN pl n0 tp tN hw Ac Am) (hS : va_S (BL s) s.heap H locs) (hv : lv_has ls 7 (lvL b ρ qo i)) (hR : ce + 22 ≤ room_1.cells ∧ sl + 181 ≤ room_1.slots) (nxt : NX p l e s m below meth c b D aC qo i ce sl Q) : W p l e room_1 s m #[Value.ref b] below meth c H locs ce sl Q (F0 m 1075 ls []) := by
  have hR0 : ce ≤ room_1.cells ∧ sl ≤ room_1.slots := ⟨by omega, by omega⟩
  refine lv_aload_n hF.1 hF.2.1 dL_law_1075 rfl (lv_at hv 3 rfl) ?_
  refine lC (As := []) (rest := []) hF hI hS hv.1 hR0 (qc_rue hJ.1.1 hJ.1.2.2.2.1) mlL_131 rfl rfl ⟨by decide, by decide⟩ (Nat.le_of_ble_eq_true rfl) dL_law_1076 (fun v1 A1 H1 locs1 hk1 hI1 hS1 => ?_)
  obtain ⟨-, -, rfl⟩ := id hk1
  refine W.eq (g2 := F0 m 1079 ls [_]) rfl ?_
  refine lv_aload_n hF.1 hF.2.1 dL_law_1079 rfl (lv_at hv 2 rfl) ?_
  refine lM (As := []) (rest := [_]) hF hI1 hS1 hv.1 hR0 (pm_rue hJ.1.1.2.2.2.1 hJ.1.1.2.1.2.2.1 (fun z => (hJ.2.2.2.2.1 z).1) hJ.2.2.2.2.2) mlL_134 rfl rfl ⟨by decide, by decide⟩ (Nat.le_of_ble_eq_true rfl) dL_law_1080 (fun v2 A2 H2 locs2 hk2 hI2 hS2 => ?_)
  obtain ⟨-, -, -, rfl⟩ := id hk2
  refine W.eq (g2 := F0 m 1083 ls [_, _]) rfl ?_
  refine lv_icmp_eq (tgt := 2007) hF.1 hF.2.1 dL_law_1083 (by decide) (fun _ => ?_) (fun z => absurd rfl z)
  exact nxt _ _ _ _ _ _ _ _ _ _ _ hI2 (hJ.q hk1 hk2 (n4_t1 _)) hS2 hv (Nat.le_add_right _ _) (Nat.le_add_right _ _)
set_option maxRecDepth 4000 in
theorem law_28 {p : Program} {l : Launch} {e : Env} {s : State} {m : MethodId} {below : List Frame} {meth : Method} {c : Code} {b L i : Nat} {xs : Nat → Int32} {H : Heap} {locs : List Loc} {ce sl : Nat} {Q : State → Prop} {D : va_G} {aC : Nat → ClassId} {ρ : Nat → Nat} {ls : Array Slot} {r : Value} {hw : Bool} {Ac Am : AH} {qo : Nat} {f : Nat → Int64} {w : WT} {sN : Nat → Nat} {HH II : Nat → Nat → Nat} {nx cN mN fN : Nat} {pl : Int32} {n0 : Nat} {tp : Nat → Int32} {tN : Nat} (hF : CallFix p m c code 7 s #[Value.ref b] TW RL) (hX : va_X b L xs s s.heap) (hbl : b < s.heap.size) (hL : L ≤ 3072) (hi : i + 5 < L) (hI : LI D aC s ρ r hw Ac Am qo f H) (hJ : JT w sN HH II nx cN mN fN pl n0 tp tN hw Ac Am) (hS : va_S (BL s) s.heap H locs) (hv : lv_has ls 7 (lvL b ρ qo i)) (hR : ce + 22 ≤ room_1.cells ∧ sl + 181 ≤ room_1.slots) (nxt : NX p l e s m below meth c b D aC qo i ce sl Q) : W p l e room_1 s m #[Value.ref b] below meth c H locs ce sl Q (F0 m 1088 ls []) := by
  have hR0 : ce ≤ room_1.cells ∧ sl ≤ room_1.slots := ⟨by omega, by omega⟩
  refine lv_aload_n hF.1 hF.2.1 dL_law_1088 rfl (lv_at hv 3 rfl) ?_
  refine lC (As := []) (rest := []) hF hI hS hv.1 hR0 (qc_peaces hJ.1.1 hJ.1.2.2.2.1) mlL_135 rfl rfl ⟨by decide, by decide⟩ (Nat.le_of_ble_eq_true rfl) dL_law_1089 (fun v1 A1 H1 locs1 hk1 hI1 hS1 => ?_)
  obtain ⟨-, -, rfl⟩ := id hk1
  refine W.eq (g2 := F0 m 1092 ls [_]) rfl ?_
  refine lv_aload_n hF.1 hF.2.1 dL_law_1092 rfl (lv_at hv 2 rfl) ?_
  refine lM (As := []) (rest := [_]) hF hI1 hS1 hv.1 hR0 (pm_peaces hJ.1.1.2.2.2.1 hJ.1.1.2.1.2.2.1 (fun z => (hJ.2.2.2.2.1 z).1) hJ.2.2.2.2.2) mlL_138 rfl rfl ⟨by decide, by decide⟩ (Nat.le_of_ble_eq_true rfl) dL_law_1093 (fun v2 A2 H2 locs2 hk2 hI2 hS2 => ?_)
  obtain ⟨-, -, -, rfl⟩ := id hk2
  refine W.eq (g2 := F0 m 1096 ls [_, _]) rfl ?_
  refine lv_icmp_eq (tgt := 2007) hF.1 hF.2.1 dL_law_1096 (by decide) (fun _ => ?_) (fun z => absurd rfl z)
  exact nxt _ _ _ _ _ _ _ _ _ _ _ hI2 (hJ.q hk1 hk2 (n4_t1 _)) hS2 hv (Nat.le_add_right _ _) (Nat.le_add_right _ _)
set_option maxRecDepth 4000 in
theorem law_29 {p : Program} {l : Launch} {e : Env} {s : State} {m : MethodId} {below : List Frame} {meth : Method} {c : Code} {b L i : Nat} {xs : Nat → Int32} {H : Heap} {locs : List Loc} {ce sl : Nat} {Q : State → Prop} {D : va_G} {aC : Nat → ClassId} {ρ : Nat → Nat} {ls : Array Slot} {r : Value} {hw : Bool} {Ac Am : AH} {qo : Nat} {f : Nat → Int64} {w : WT} {sN : Nat → Nat} {HH II : Nat → Nat → Nat} {nx cN mN fN : Nat} {pl : Int32} {n0 : Nat} {tp : Nat → Int32} {tN : Nat} (hF : CallFix p m c code 7 s #[Value.ref b] TW RL) (hX : va_X b L xs s s.heap) (hbl : b < s.heap.size) (hL : L ≤ 3072) (hi : i + 5 < L) (hI : LI D aC s ρ r hw Ac Am qo f H) (hJ : JT w sN HH II nx cN mN fN pl n0 tp tN hw Ac Am) (hS : va_S (BL s) s.heap H locs) (hv : lv_has ls 7 (lvL b ρ qo i)) (hR : ce + 22 ≤ room_1.cells ∧ sl + 181 ≤ room_1.slots) (nxt : NX p l e s m below meth c b D aC qo i ce sl Q) : W p l e room_1 s m #[Value.ref b] below meth c H locs ce sl Q (F0 m 1101 ls []) := by
  have hR0 : ce ≤ room_1.cells ∧ sl ≤ room_1.slots := ⟨by omega, by omega⟩
  refine lv_aload_n hF.1 hF.2.1 dL_law_1101 rfl (lv_at hv 3 rfl) ?_
  refine lC (As := []) (rest := []) hF hI hS hv.1 hR0 (qc_fits hJ.1.1 hJ.1.2.2.2.1) mlL_139 rfl rfl ⟨by decide, by decide⟩ (Nat.le_of_ble_eq_true rfl) dL_law_1102 (fun v1 A1 H1 locs1 hk1 hI1 hS1 => ?_)
  obtain ⟨-, -, rfl⟩ := id hk1
  refine W.eq (g2 := F0 m 1105 ls [_]) rfl ?_
  refine lv_aload_n hF.1 hF.2.1 dL_law_1105 rfl (lv_at hv 2 rfl) ?_
  refine lM (As := []) (rest := [_]) hF hI1 hS1 hv.1 hR0 (pm_fits hJ.1.1.2.2.2.1 hJ.1.1.2.1.2.2.1 (fun z => (hJ.2.2.2.2.1 z).1) hJ.2.2.2.2.2) mlL_142 rfl rfl ⟨by decide, by decide⟩ (Nat.le_of_ble_eq_true rfl) dL_law_1106 (fun v2 A2 H2 locs2 hk2 hI2 hS2 => ?_)
  obtain ⟨-, -, -, rfl⟩ := id hk2
  refine W.eq (g2 := F0 m 1109 ls [_, _]) rfl ?_
  refine lv_icmp_eq (tgt := 2007) hF.1 hF.2.1 dL_law_1109 (by decide) (fun _ => ?_) (fun z => absurd rfl z)
  exact nxt _ _ _ _ _ _ _ _ _ _ _ hI2 (hJ.q hk1 hk2 (n4_t1 _)) hS2 hv (Nat.le_add_right _ _) (Nat.le_add_right _ _)
set_option maxRecDepth 4000 in
theorem law_30 {p : Program} {l : Launch} {e : Env} {s : State} {m : MethodId} {below : List Frame} {meth : Method} {c : Code} {b L i : Nat} {xs : Nat → Int32} {H : Heap} {locs : List Loc} {ce sl : Nat} {Q : State → Prop} {D : va_G} {aC : Nat → ClassId} {ρ : Nat → Nat} {ls : Array Slot} {r : Value} {hw : Bool} {Ac Am : AH} {qo : Nat} {f : Nat → Int64} {w : WT} {sN : Nat → Nat} {HH II : Nat → Nat → Nat} {nx cN mN fN : Nat} {pl : Int32} {n0 : Nat} {tp : Nat → Int32} {tN : Nat} (hF : CallFix p m c code 7 s #[Value.ref b] TW RL) (hX : va_X b L xs s s.heap) (hbl : b < s.heap.size) (hL : L ≤ 3072) (hi : i + 5 < L) (hI : LI D aC s ρ r hw Ac Am qo f H) (hJ : JT w sN HH II nx cN mN fN pl n0 tp tN hw Ac Am) (hS : va_S (BL s) s.heap H locs) (hv : lv_has ls 7 (lvL b ρ qo i)) (hR : ce + 22 ≤ room_1.cells ∧ sl + 181 ≤ room_1.slots) (nxt : NX p l e s m below meth c b D aC qo i ce sl Q) : W p l e room_1 s m #[Value.ref b] below meth c H locs ce sl Q (F0 m 1114 ls []) := by
  have hR0 : ce ≤ room_1.cells ∧ sl ≤ room_1.slots := ⟨by omega, by omega⟩
  refine lv_aload_n hF.1 hF.2.1 dL_law_1114 rfl (lv_at hv 3 rfl) ?_
  refine ls_arg (k := 1) (q := 1121) hF hX hbl hS hv (by omega) hL rfl rfl dL_law_1115 dL_law_1116 dL_law_1118 dL_law_1119 dL_law_1120 ?_
  refine lC (As := [.int (xs (i + 1))]) (rest := []) hF hI hS hv.1 hR0 (qc_fitAt hJ.1.1 hJ.1.2.2.2.1) mlL_143 rfl rfl ⟨by decide, by decide⟩ (Nat.le_of_ble_eq_true rfl) dL_law_1121 (fun v1 A1 H1 locs1 hk1 hI1 hS1 => ?_)
  obtain ⟨-, -, rfl⟩ := id hk1
  refine W.eq (g2 := F0 m 1124 ls [_]) rfl ?_
  refine lv_aload_n hF.1 hF.2.1 dL_law_1124 rfl (lv_at hv 2 rfl) ?_
  refine ls_arg (k := 1) (q := 1131) hF hX hbl hS1 hv (by omega) hL rfl rfl dL_law_1125 dL_law_1126 dL_law_1128 dL_law_1129 dL_law_1130 ?_
  refine lM (As := [.int (xs (i + 1))]) (rest := [_]) hF hI1 hS1 hv.1 hR0 (pm_fitAt hJ.1.1.2.2.2.1 hJ.1.1.2.1.2.2.1 (fun z => (hJ.2.2.2.2.1 z).1) hJ.2.2.2.2.2) mlL_146 rfl rfl ⟨by decide, by decide⟩ (Nat.le_of_ble_eq_true rfl) dL_law_1131 (fun v2 A2 H2 locs2 hk2 hI2 hS2 => ?_)
  obtain ⟨-, -, -, rfl⟩ := id hk2
  refine W.eq (g2 := F0 m 1134 ls [_, _]) rfl ?_
  refine lv_icmp_eq (tgt := 2007) hF.1 hF.2.1 dL_law_1134 (by decide) (fun _ => ?_) (fun z => absurd rfl z)
  exact nxt _ _ _ _ _ _ _ _ _ _ _ hI2 (hJ.q hk1 hk2 (n4_t1 _)) hS2 hv (Nat.le_add_right _ _) (Nat.le_add_right _ _)
set_option maxRecDepth 4000 in
theorem law_31 {p : Program} {l : Launch} {e : Env} {s : State} {m : MethodId} {below : List Frame} {meth : Method} {c : Code} {b L i : Nat} {xs : Nat → Int32} {H : Heap} {locs : List Loc} {ce sl : Nat} {Q : State → Prop} {D : va_G} {aC : Nat → ClassId} {ρ : Nat → Nat} {ls : Array Slot} {r : Value} {hw : Bool} {Ac Am : AH} {qo : Nat} {f : Nat → Int64} {w : WT} {sN : Nat → Nat} {HH II : Nat → Nat → Nat} {nx cN mN fN : Nat} {pl : Int32} {n0 : Nat} {tp : Nat → Int32} {tN : Nat} (hF : CallFix p m c code 7 s #[Value.ref b] TW RL) (hX : va_X b L xs s s.heap) (hbl : b < s.heap.size) (hL : L ≤ 3072) (hi : i + 5 < L) (hI : LI D aC s ρ r hw Ac Am qo f H) (hJ : JT w sN HH II nx cN mN fN pl n0 tp tN hw Ac Am) (hS : va_S (BL s) s.heap H locs) (hv : lv_has ls 7 (lvL b ρ qo i)) (hR : ce + 22 ≤ room_1.cells ∧ sl + 181 ≤ room_1.slots) (nxt : NX p l e s m below meth c b D aC qo i ce sl Q) : W p l e room_1 s m #[Value.ref b] below meth c H locs ce sl Q (F0 m 1139 ls []) := by
  have hR0 : ce ≤ room_1.cells ∧ sl ≤ room_1.slots := ⟨by omega, by omega⟩
  refine lv_aload_n hF.1 hF.2.1 dL_law_1139 rfl (lv_at hv 3 rfl) ?_
  refine ls_arg (k := 1) (q := 1146) hF hX hbl hS hv (by omega) hL rfl rfl dL_law_1140 dL_law_1141 dL_law_1143 dL_law_1144 dL_law_1145 ?_
  refine ls_arg (k := 2) (q := 1152) hF hX hbl hS hv (by omega) hL rfl rfl dL_law_1146 dL_law_1147 dL_law_1149 dL_law_1150 dL_law_1151 ?_
  refine ls_bool (q := 1160) hF rfl dL_law_1152 dL_law_1155 dL_law_1156 dL_law_1159 ?_
  refine lC (As := [.int (xs (i + 1)), .int (b2i (decide (xs (i + 2) ≠ 0)))]) (rest := []) hF hI hS hv.1 hR0 (qc_odds hJ.1.1 hJ.1.2.2.2.1) mlL_147 rfl rfl ⟨by decide, by decide⟩ (Nat.le_of_ble_eq_true rfl) dL_law_1160 (fun v1 A1 H1 locs1 hk1 hI1 hS1 => ?_)
  obtain ⟨-, -, rfl⟩ := id hk1
  refine W.eq (g2 := F0 m 1163 ls [_]) rfl ?_
  refine lv_aload_n hF.1 hF.2.1 dL_law_1163 rfl (lv_at hv 2 rfl) ?_
  refine ls_arg (k := 1) (q := 1170) hF hX hbl hS1 hv (by omega) hL rfl rfl dL_law_1164 dL_law_1165 dL_law_1167 dL_law_1168 dL_law_1169 ?_
  refine ls_arg (k := 2) (q := 1176) hF hX hbl hS1 hv (by omega) hL rfl rfl dL_law_1170 dL_law_1171 dL_law_1173 dL_law_1174 dL_law_1175 ?_
  refine ls_bool (q := 1184) hF rfl dL_law_1176 dL_law_1179 dL_law_1180 dL_law_1183 ?_
  refine lM (As := [.int (xs (i + 1)), .int (b2i (decide (xs (i + 2) ≠ 0)))]) (rest := [_]) hF hI1 hS1 hv.1 hR0 (pm_odds hJ.1.1.2.2.2.1 hJ.1.1.2.1.2.2.1 (fun z => (hJ.2.2.2.2.1 z).1) hJ.2.2.2.2.2) mlL_151 rfl rfl ⟨by decide, by decide⟩ (Nat.le_of_ble_eq_true rfl) dL_law_1184 (fun v2 A2 H2 locs2 hk2 hI2 hS2 => ?_)
  obtain ⟨-, -, -, rfl⟩ := id hk2
  refine W.eq (g2 := F0 m 1187 ls [_, _]) rfl ?_
  refine W.lcmp hF.1 hF.2.1 dL_law_1187 ?_
  refine lv_if_eq (tgt := 2007) hF.1 hF.2.1 dL_law_1188 (by decide) (fun _ => ?_) (fun z => absurd (lgc _) z)
  exact nxt _ _ _ _ _ _ _ _ _ _ _ hI2 (hJ.q hk1 hk2 (n4_t1 _)) hS2 hv (Nat.le_add_right _ _) (Nat.le_add_right _ _)
set_option maxRecDepth 4000 in
theorem law_32 {p : Program} {l : Launch} {e : Env} {s : State} {m : MethodId} {below : List Frame} {meth : Method} {c : Code} {b L i : Nat} {xs : Nat → Int32} {H : Heap} {locs : List Loc} {ce sl : Nat} {Q : State → Prop} {D : va_G} {aC : Nat → ClassId} {ρ : Nat → Nat} {ls : Array Slot} {r : Value} {hw : Bool} {Ac Am : AH} {qo : Nat} {f : Nat → Int64} {w : WT} {sN : Nat → Nat} {HH II : Nat → Nat → Nat} {nx cN mN fN : Nat} {pl : Int32} {n0 : Nat} {tp : Nat → Int32} {tN : Nat} (hF : CallFix p m c code 7 s #[Value.ref b] TW RL) (hX : va_X b L xs s s.heap) (hbl : b < s.heap.size) (hL : L ≤ 3072) (hi : i + 5 < L) (hI : LI D aC s ρ r hw Ac Am qo f H) (hJ : JT w sN HH II nx cN mN fN pl n0 tp tN hw Ac Am) (hS : va_S (BL s) s.heap H locs) (hv : lv_has ls 7 (lvL b ρ qo i)) (hR : ce + 22 ≤ room_1.cells ∧ sl + 181 ≤ room_1.slots) (nxt : NX p l e s m below meth c b D aC qo i ce sl Q) : W p l e room_1 s m #[Value.ref b] below meth c H locs ce sl Q (F0 m 1193 ls []) := by
  have hR0 : ce ≤ room_1.cells ∧ sl ≤ room_1.slots := ⟨by omega, by omega⟩
  refine lv_aload_n hF.1 hF.2.1 dL_law_1193 rfl (lv_at hv 3 rfl) ?_
  refine lC (As := []) (rest := []) hF hI hS hv.1 hR0 (qc_likeliest hJ.1.1 hJ.1.2.2.2.1) mlL_152 rfl rfl ⟨by decide, by decide⟩ (Nat.le_of_ble_eq_true rfl) dL_law_1194 (fun v1 A1 H1 locs1 hk1 hI1 hS1 => ?_)
  obtain ⟨-, -, rfl⟩ := id hk1
  refine W.eq (g2 := F0 m 1197 ls [_]) rfl ?_
  refine lv_aload_n hF.1 hF.2.1 dL_law_1197 rfl (lv_at hv 2 rfl) ?_
  refine lM (As := []) (rest := [_]) hF hI1 hS1 hv.1 hR0 (pm_likeliest hJ.1.1.2.2.2.1 hJ.1.1.2.1.2.2.1 (fun z => (hJ.2.2.2.2.1 z).1) hJ.2.2.2.2.2) mlL_155 rfl rfl ⟨by decide, by decide⟩ (Nat.le_of_ble_eq_true rfl) dL_law_1198 (fun v2 A2 H2 locs2 hk2 hI2 hS2 => ?_)
  obtain ⟨-, -, -, rfl⟩ := id hk2
  refine W.eq (g2 := F0 m 1201 ls [_, _]) rfl ?_
  refine lv_icmp_eq (tgt := 2007) hF.1 hF.2.1 dL_law_1201 (by decide) (fun _ => ?_) (fun z => absurd rfl z)
  exact nxt _ _ _ _ _ _ _ _ _ _ _ hI2 (hJ.q hk1 hk2 (n4_t1 _)) hS2 hv (Nat.le_add_right _ _) (Nat.le_add_right _ _)
set_option maxRecDepth 4000 in
theorem law_33 {p : Program} {l : Launch} {e : Env} {s : State} {m : MethodId} {below : List Frame} {meth : Method} {c : Code} {b L i : Nat} {xs : Nat → Int32} {H : Heap} {locs : List Loc} {ce sl : Nat} {Q : State → Prop} {D : va_G} {aC : Nat → ClassId} {ρ : Nat → Nat} {ls : Array Slot} {r : Value} {hw : Bool} {Ac Am : AH} {qo : Nat} {f : Nat → Int64} {w : WT} {sN : Nat → Nat} {HH II : Nat → Nat → Nat} {nx cN mN fN : Nat} {pl : Int32} {n0 : Nat} {tp : Nat → Int32} {tN : Nat} (hF : CallFix p m c code 7 s #[Value.ref b] TW RL) (hX : va_X b L xs s s.heap) (hbl : b < s.heap.size) (hL : L ≤ 3072) (hi : i + 5 < L) (hI : LI D aC s ρ r hw Ac Am qo f H) (hJ : JT w sN HH II nx cN mN fN pl n0 tp tN hw Ac Am) (hS : va_S (BL s) s.heap H locs) (hv : lv_has ls 7 (lvL b ρ qo i)) (hR : ce + 22 ≤ room_1.cells ∧ sl + 181 ≤ room_1.slots) (nxt : NX p l e s m below meth c b D aC qo i ce sl Q) : W p l e room_1 s m #[Value.ref b] below meth c H locs ce sl Q (F0 m 1206 ls []) := by
  have hR0 : ce ≤ room_1.cells ∧ sl ≤ room_1.slots := ⟨by omega, by omega⟩
  refine lv_aload_n hF.1 hF.2.1 dL_law_1206 rfl (lv_at hv 3 rfl) ?_
  refine lC (As := []) (rest := []) hF hI hS hv.1 hR0 (qc_test hJ.1.1 hJ.1.2.2.2.1) mlL_156 rfl rfl ⟨by decide, by decide⟩ (Nat.le_of_ble_eq_true rfl) dL_law_1207 (fun v1 A1 H1 locs1 hk1 hI1 hS1 => ?_)
  obtain ⟨-, -, rfl⟩ := id hk1
  refine W.eq (g2 := F0 m 1210 ls [_]) rfl ?_
  refine lv_aload_n hF.1 hF.2.1 dL_law_1210 rfl (lv_at hv 2 rfl) ?_
  refine lM (As := []) (rest := [_]) hF hI1 hS1 hv.1 hR0 (pm_test hJ.1.1.2.2.2.1 hJ.1.1.2.1.2.2.1 (fun z => (hJ.2.2.2.2.1 z).1) hJ.2.2.2.2.2) mlL_159 rfl rfl ⟨by decide, by decide⟩ (Nat.le_of_ble_eq_true rfl) dL_law_1211 (fun v2 A2 H2 locs2 hk2 hI2 hS2 => ?_)
  obtain ⟨-, -, -, rfl⟩ := id hk2
  refine W.eq (g2 := F0 m 1214 ls [_, _]) rfl ?_
  refine lv_icmp_eq (tgt := 2007) hF.1 hF.2.1 dL_law_1214 (by decide) (fun _ => ?_) (fun z => absurd rfl z)
  exact nxt _ _ _ _ _ _ _ _ _ _ _ hI2 (hJ.q hk1 hk2 (n4_t1 _)) hS2 hv (Nat.le_add_right _ _) (Nat.le_add_right _ _)
set_option maxRecDepth 4000 in
theorem law_34 {p : Program} {l : Launch} {e : Env} {s : State} {m : MethodId} {below : List Frame} {meth : Method} {c : Code} {b L i : Nat} {xs : Nat → Int32} {H : Heap} {locs : List Loc} {ce sl : Nat} {Q : State → Prop} {D : va_G} {aC : Nat → ClassId} {ρ : Nat → Nat} {ls : Array Slot} {r : Value} {hw : Bool} {Ac Am : AH} {qo : Nat} {f : Nat → Int64} {w : WT} {sN : Nat → Nat} {HH II : Nat → Nat → Nat} {nx cN mN fN : Nat} {pl : Int32} {n0 : Nat} {tp : Nat → Int32} {tN : Nat} (hF : CallFix p m c code 7 s #[Value.ref b] TW RL) (hX : va_X b L xs s s.heap) (hbl : b < s.heap.size) (hL : L ≤ 3072) (hi : i + 5 < L) (hI : LI D aC s ρ r hw Ac Am qo f H) (hJ : JT w sN HH II nx cN mN fN pl n0 tp tN hw Ac Am) (hS : va_S (BL s) s.heap H locs) (hv : lv_has ls 7 (lvL b ρ qo i)) (hR : ce + 22 ≤ room_1.cells ∧ sl + 181 ≤ room_1.slots) (nxt : NX p l e s m below meth c b D aC qo i ce sl Q) : W p l e room_1 s m #[Value.ref b] below meth c H locs ce sl Q (F0 m 1219 ls []) := by
  have hR0 : ce ≤ room_1.cells ∧ sl ≤ room_1.slots := ⟨by omega, by omega⟩
  refine lv_aload_n hF.1 hF.2.1 dL_law_1219 rfl (lv_at hv 3 rfl) ?_
  refine lC (As := []) (rest := []) hF hI hS hv.1 hR0 (qc_testLeaves hJ.1.1 hJ.1.2.2.2.1) mlL_160 rfl rfl ⟨by decide, by decide⟩ (Nat.le_of_ble_eq_true rfl) dL_law_1220 (fun v1 A1 H1 locs1 hk1 hI1 hS1 => ?_)
  obtain ⟨-, -, rfl⟩ := id hk1
  refine W.eq (g2 := F0 m 1223 ls [_]) rfl ?_
  refine lv_aload_n hF.1 hF.2.1 dL_law_1223 rfl (lv_at hv 2 rfl) ?_
  refine lM (As := []) (rest := [_]) hF hI1 hS1 hv.1 hR0 (pm_testLeaves hJ.1.1.2.2.2.1 hJ.1.1.2.1.2.2.1 (fun z => (hJ.2.2.2.2.1 z).1) hJ.2.2.2.2.2) mlL_163 rfl rfl ⟨by decide, by decide⟩ (Nat.le_of_ble_eq_true rfl) dL_law_1224 (fun v2 A2 H2 locs2 hk2 hI2 hS2 => ?_)
  obtain ⟨-, -, -, rfl⟩ := id hk2
  refine W.eq (g2 := F0 m 1227 ls [_, _]) rfl ?_
  refine lv_icmp_eq (tgt := 2007) hF.1 hF.2.1 dL_law_1227 (by decide) (fun _ => ?_) (fun z => absurd rfl z)
  exact nxt _ _ _ _ _ _ _ _ _ _ _ hI2 (hJ.q hk1 hk2 (n4_t1 _)) hS2 hv (Nat.le_add_right _ _) (Nat.le_add_right _ _)
set_option maxRecDepth 4000 in
theorem law_35 {p : Program} {l : Launch} {e : Env} {s : State} {m : MethodId} {below : List Frame} {meth : Method} {c : Code} {b L i : Nat} {xs : Nat → Int32} {H : Heap} {locs : List Loc} {ce sl : Nat} {Q : State → Prop} {D : va_G} {aC : Nat → ClassId} {ρ : Nat → Nat} {ls : Array Slot} {r : Value} {hw : Bool} {Ac Am : AH} {qo : Nat} {f : Nat → Int64} {w : WT} {sN : Nat → Nat} {HH II : Nat → Nat → Nat} {nx cN mN fN : Nat} {pl : Int32} {n0 : Nat} {tp : Nat → Int32} {tN : Nat} (hF : CallFix p m c code 7 s #[Value.ref b] TW RL) (hX : va_X b L xs s s.heap) (hbl : b < s.heap.size) (hL : L ≤ 3072) (hi : i + 5 < L) (hI : LI D aC s ρ r hw Ac Am qo f H) (hJ : JT w sN HH II nx cN mN fN pl n0 tp tN hw Ac Am) (hS : va_S (BL s) s.heap H locs) (hv : lv_has ls 7 (lvL b ρ qo i)) (hR : ce + 22 ≤ room_1.cells ∧ sl + 181 ≤ room_1.slots) (nxt : NX p l e s m below meth c b D aC qo i ce sl Q) : W p l e room_1 s m #[Value.ref b] below meth c H locs ce sl Q (F0 m 1232 ls []) := by
  have hR0 : ce ≤ room_1.cells ∧ sl ≤ room_1.slots := ⟨by omega, by omega⟩
  refine lv_aload_n hF.1 hF.2.1 dL_law_1232 rfl (lv_at hv 3 rfl) ?_
  refine ls_arg (k := 1) (q := 1239) hF hX hbl hS hv (by omega) hL rfl rfl dL_law_1233 dL_law_1234 dL_law_1236 dL_law_1237 dL_law_1238 ?_
  refine ls_arg (k := 2) (q := 1245) hF hX hbl hS hv (by omega) hL rfl rfl dL_law_1239 dL_law_1240 dL_law_1242 dL_law_1243 dL_law_1244 ?_
  refine ls_arg (k := 3) (q := 1251) hF hX hbl hS hv (by omega) hL rfl rfl dL_law_1245 dL_law_1246 dL_law_1248 dL_law_1249 dL_law_1250 ?_
  refine ls_bool (q := 1259) hF rfl dL_law_1251 dL_law_1254 dL_law_1255 dL_law_1258 ?_
  refine lC (As := [.int (xs (i + 1)), .int (xs (i + 2)), .int (b2i (decide (xs (i + 3) ≠ 0)))]) (rest := []) hF hI hS hv.1 hR0 (qc_brown hJ.1.1 hJ.1.2.2.2.1) mlL_164 rfl rfl ⟨by decide, by decide⟩ (Nat.le_of_ble_eq_true rfl) dL_law_1259 (fun v1 A1 H1 locs1 hk1 hI1 hS1 => ?_)
  obtain ⟨-, -, rfl⟩ := id hk1
  refine W.eq (g2 := F0 m 1262 ls [_]) rfl ?_
  refine lv_aload_n hF.1 hF.2.1 dL_law_1262 rfl (lv_at hv 2 rfl) ?_
  refine ls_arg (k := 1) (q := 1269) hF hX hbl hS1 hv (by omega) hL rfl rfl dL_law_1263 dL_law_1264 dL_law_1266 dL_law_1267 dL_law_1268 ?_
  refine ls_arg (k := 2) (q := 1275) hF hX hbl hS1 hv (by omega) hL rfl rfl dL_law_1269 dL_law_1270 dL_law_1272 dL_law_1273 dL_law_1274 ?_
  refine ls_arg (k := 3) (q := 1281) hF hX hbl hS1 hv (by omega) hL rfl rfl dL_law_1275 dL_law_1276 dL_law_1278 dL_law_1279 dL_law_1280 ?_
  refine ls_bool (q := 1289) hF rfl dL_law_1281 dL_law_1284 dL_law_1285 dL_law_1288 ?_
  refine lM (As := [.int (xs (i + 1)), .int (xs (i + 2)), .int (b2i (decide (xs (i + 3) ≠ 0)))]) (rest := [_]) hF hI1 hS1 hv.1 hR0 (pm_brown hJ.1.1.2.2.2.1 hJ.1.1.2.1.2.2.1 (fun z => (hJ.2.2.2.2.1 z).1) hJ.2.2.2.2.2) mlL_168 rfl rfl ⟨by decide, by decide⟩ (Nat.le_of_ble_eq_true rfl) dL_law_1289 (fun v2 A2 H2 locs2 hk2 hI2 hS2 => ?_)
  obtain ⟨-, -, -, rfl⟩ := id hk2
  refine W.eq (g2 := F0 m 1292 ls [_, _]) rfl ?_
  refine W.lcmp hF.1 hF.2.1 dL_law_1292 ?_
  refine lv_if_eq (tgt := 2007) hF.1 hF.2.1 dL_law_1293 (by decide) (fun _ => ?_) (fun z => absurd (lgc _) z)
  exact nxt _ _ _ _ _ _ _ _ _ _ _ hI2 (hJ.q hk1 hk2 (n4_t1 _)) hS2 hv (Nat.le_add_right _ _) (Nat.le_add_right _ _)
set_option maxRecDepth 4000 in
theorem law_36 {p : Program} {l : Launch} {e : Env} {s : State} {m : MethodId} {below : List Frame} {meth : Method} {c : Code} {b L i : Nat} {xs : Nat → Int32} {H : Heap} {locs : List Loc} {ce sl : Nat} {Q : State → Prop} {D : va_G} {aC : Nat → ClassId} {ρ : Nat → Nat} {ls : Array Slot} {r : Value} {hw : Bool} {Ac Am : AH} {qo : Nat} {f : Nat → Int64} {w : WT} {sN : Nat → Nat} {HH II : Nat → Nat → Nat} {nx cN mN fN : Nat} {pl : Int32} {n0 : Nat} {tp : Nat → Int32} {tN : Nat} (hF : CallFix p m c code 7 s #[Value.ref b] TW RL) (hX : va_X b L xs s s.heap) (hbl : b < s.heap.size) (hL : L ≤ 3072) (hi : i + 5 < L) (hI : LI D aC s ρ r hw Ac Am qo f H) (hJ : JT w sN HH II nx cN mN fN pl n0 tp tN hw Ac Am) (hS : va_S (BL s) s.heap H locs) (hv : lv_has ls 7 (lvL b ρ qo i)) (hR : ce + 22 ≤ room_1.cells ∧ sl + 181 ≤ room_1.slots) (nxt : NX p l e s m below meth c b D aC qo i ce sl Q) : W p l e room_1 s m #[Value.ref b] below meth c H locs ce sl Q (F0 m 1298 ls []) := by
  have hR0 : ce ≤ room_1.cells ∧ sl ≤ room_1.slots := ⟨by omega, by omega⟩
  refine lv_aload_n hF.1 hF.2.1 dL_law_1298 rfl (lv_at hv 3 rfl) ?_
  refine lC (As := []) (rest := []) hF hI hS hv.1 hR0 (qc_judge hJ.1.1 hJ.1.2.2.2.1) mlL_169 rfl rfl ⟨by decide, by decide⟩ (Nat.le_of_ble_eq_true rfl) dL_law_1299 (fun v1 A1 H1 locs1 hk1 hI1 hS1 => ?_)
  obtain ⟨-, -, rfl⟩ := id hk1
  refine W.eq (g2 := F0 m 1302 ls [_]) rfl ?_
  refine lv_aload_n hF.1 hF.2.1 dL_law_1302 rfl (lv_at hv 2 rfl) ?_
  refine lM (As := []) (rest := [_]) hF hI1 hS1 hv.1 hR0 (pm_judge hJ.1.1.2.2.2.1 hJ.1.1.2.1.2.2.1 (fun z => (hJ.2.2.2.2.1 z).1) hJ.2.2.2.2.2) mlL_172 rfl rfl ⟨by decide, by decide⟩ (Nat.le_of_ble_eq_true rfl) dL_law_1303 (fun v2 A2 H2 locs2 hk2 hI2 hS2 => ?_)
  obtain ⟨-, -, -, rfl⟩ := id hk2
  refine W.eq (g2 := F0 m 1306 ls [_, _]) rfl ?_
  refine lv_icmp_eq (tgt := 2007) hF.1 hF.2.1 dL_law_1306 (by decide) (fun _ => ?_) (fun z => absurd rfl z)
  exact nxt _ _ _ _ _ _ _ _ _ _ _ hI2 (hJ.q hk1 hk2 (n4_t1 _)) hS2 hv (Nat.le_add_right _ _) (Nat.le_add_right _ _)
set_option maxRecDepth 4000 in
theorem law_37 {p : Program} {l : Launch} {e : Env} {s : State} {m : MethodId} {below : List Frame} {meth : Method} {c : Code} {b L i : Nat} {xs : Nat → Int32} {H : Heap} {locs : List Loc} {ce sl : Nat} {Q : State → Prop} {D : va_G} {aC : Nat → ClassId} {ρ : Nat → Nat} {ls : Array Slot} {r : Value} {hw : Bool} {Ac Am : AH} {qo : Nat} {f : Nat → Int64} {w : WT} {sN : Nat → Nat} {HH II : Nat → Nat → Nat} {nx cN mN fN : Nat} {pl : Int32} {n0 : Nat} {tp : Nat → Int32} {tN : Nat} (hF : CallFix p m c code 7 s #[Value.ref b] TW RL) (hX : va_X b L xs s s.heap) (hbl : b < s.heap.size) (hL : L ≤ 3072) (hi : i + 5 < L) (hI : LI D aC s ρ r hw Ac Am qo f H) (hJ : JT w sN HH II nx cN mN fN pl n0 tp tN hw Ac Am) (hS : va_S (BL s) s.heap H locs) (hv : lv_has ls 7 (lvL b ρ qo i)) (hR : ce + 22 ≤ room_1.cells ∧ sl + 181 ≤ room_1.slots) (nxt : NX p l e s m below meth c b D aC qo i ce sl Q) : W p l e room_1 s m #[Value.ref b] below meth c H locs ce sl Q (F0 m 1311 ls []) := by
  have hR0 : ce ≤ room_1.cells ∧ sl ≤ room_1.slots := ⟨by omega, by omega⟩
  refine lv_aload_n hF.1 hF.2.1 dL_law_1311 rfl (lv_at hv 3 rfl) ?_
  refine ls_arg (k := 1) (q := 1318) hF hX hbl hS hv (by omega) hL rfl rfl dL_law_1312 dL_law_1313 dL_law_1315 dL_law_1316 dL_law_1317 ?_
  refine ls_arg (k := 2) (q := 1324) hF hX hbl hS hv (by omega) hL rfl rfl dL_law_1318 dL_law_1319 dL_law_1321 dL_law_1322 dL_law_1323 ?_
  refine lC (As := [.int (xs (i + 1)), .int (xs (i + 2))]) (rest := []) hF hI hS hv.1 hR0 (qc_snaps hJ.1.1 hJ.1.2.2.2.1) mlL_173 rfl rfl ⟨by decide, by decide⟩ (Nat.le_of_ble_eq_true rfl) dL_law_1324 (fun v1 A1 H1 locs1 hk1 hI1 hS1 => ?_)
  obtain ⟨-, -, rfl⟩ := id hk1
  refine W.eq (g2 := F0 m 1327 ls [_]) rfl ?_
  refine lv_aload_n hF.1 hF.2.1 dL_law_1327 rfl (lv_at hv 2 rfl) ?_
  refine ls_arg (k := 1) (q := 1334) hF hX hbl hS1 hv (by omega) hL rfl rfl dL_law_1328 dL_law_1329 dL_law_1331 dL_law_1332 dL_law_1333 ?_
  refine ls_arg (k := 2) (q := 1340) hF hX hbl hS1 hv (by omega) hL rfl rfl dL_law_1334 dL_law_1335 dL_law_1337 dL_law_1338 dL_law_1339 ?_
  refine lM (As := [.int (xs (i + 1)), .int (xs (i + 2))]) (rest := [_]) hF hI1 hS1 hv.1 hR0 (pm_snaps hJ.1.1.2.2.2.1 hJ.1.1.2.1.2.2.1 (fun z => (hJ.2.2.2.2.1 z).1) hJ.2.2.2.2.2) mlL_176 rfl rfl ⟨by decide, by decide⟩ (Nat.le_of_ble_eq_true rfl) dL_law_1340 (fun v2 A2 H2 locs2 hk2 hI2 hS2 => ?_)
  obtain ⟨-, -, -, rfl⟩ := id hk2
  refine W.eq (g2 := F0 m 1343 ls [_, _]) rfl ?_
  refine lv_icmp_eq (tgt := 2007) hF.1 hF.2.1 dL_law_1343 (by decide) (fun _ => ?_) (fun z => absurd rfl z)
  exact nxt _ _ _ _ _ _ _ _ _ _ _ hI2 (hJ.q hk1 hk2 (n4_t1 _)) hS2 hv (Nat.le_add_right _ _) (Nat.le_add_right _ _)
set_option maxRecDepth 4000 in
theorem law_38 {p : Program} {l : Launch} {e : Env} {s : State} {m : MethodId} {below : List Frame} {meth : Method} {c : Code} {b L i : Nat} {xs : Nat → Int32} {H : Heap} {locs : List Loc} {ce sl : Nat} {Q : State → Prop} {D : va_G} {aC : Nat → ClassId} {ρ : Nat → Nat} {ls : Array Slot} {r : Value} {hw : Bool} {Ac Am : AH} {qo : Nat} {f : Nat → Int64} {w : WT} {sN : Nat → Nat} {HH II : Nat → Nat → Nat} {nx cN mN fN : Nat} {pl : Int32} {n0 : Nat} {tp : Nat → Int32} {tN : Nat} (hF : CallFix p m c code 7 s #[Value.ref b] TW RL) (hX : va_X b L xs s s.heap) (hbl : b < s.heap.size) (hL : L ≤ 3072) (hi : i + 5 < L) (hI : LI D aC s ρ r hw Ac Am qo f H) (hJ : JT w sN HH II nx cN mN fN pl n0 tp tN hw Ac Am) (hS : va_S (BL s) s.heap H locs) (hv : lv_has ls 7 (lvL b ρ qo i)) (hR : ce + 22 ≤ room_1.cells ∧ sl + 181 ≤ room_1.slots) (nxt : NX p l e s m below meth c b D aC qo i ce sl Q) : W p l e room_1 s m #[Value.ref b] below meth c H locs ce sl Q (F0 m 1348 ls []) := by
  have hR0 : ce ≤ room_1.cells ∧ sl ≤ room_1.slots := ⟨by omega, by omega⟩
  refine lv_aload_n hF.1 hF.2.1 dL_law_1348 rfl (lv_at hv 3 rfl) ?_
  refine ls_arg (k := 1) (q := 1355) hF hX hbl hS hv (by omega) hL rfl rfl dL_law_1349 dL_law_1350 dL_law_1352 dL_law_1353 dL_law_1354 ?_
  refine ls_arg (k := 2) (q := 1361) hF hX hbl hS hv (by omega) hL rfl rfl dL_law_1355 dL_law_1356 dL_law_1358 dL_law_1359 dL_law_1360 ?_
  refine lC (As := [.int (xs (i + 1)), .int (xs (i + 2))]) (rest := []) hF hI hS hv.1 hR0 (qc_snapsBy hJ.1.1 hJ.1.2.2.2.1) mlL_177 rfl rfl ⟨by decide, by decide⟩ (Nat.le_of_ble_eq_true rfl) dL_law_1361 (fun v1 A1 H1 locs1 hk1 hI1 hS1 => ?_)
  obtain ⟨-, -, rfl⟩ := id hk1
  refine W.eq (g2 := F0 m 1364 ls [_]) rfl ?_
  refine lv_aload_n hF.1 hF.2.1 dL_law_1364 rfl (lv_at hv 2 rfl) ?_
  refine ls_arg (k := 1) (q := 1371) hF hX hbl hS1 hv (by omega) hL rfl rfl dL_law_1365 dL_law_1366 dL_law_1368 dL_law_1369 dL_law_1370 ?_
  refine ls_arg (k := 2) (q := 1377) hF hX hbl hS1 hv (by omega) hL rfl rfl dL_law_1371 dL_law_1372 dL_law_1374 dL_law_1375 dL_law_1376 ?_
  refine lM (As := [.int (xs (i + 1)), .int (xs (i + 2))]) (rest := [_]) hF hI1 hS1 hv.1 hR0 (pm_snapsBy hJ.1.1.2.2.2.1 hJ.1.1.2.1.2.2.1 (fun z => (hJ.2.2.2.2.1 z).1) hJ.2.2.2.2.2) mlL_180 rfl rfl ⟨by decide, by decide⟩ (Nat.le_of_ble_eq_true rfl) dL_law_1377 (fun v2 A2 H2 locs2 hk2 hI2 hS2 => ?_)
  obtain ⟨-, -, -, rfl⟩ := id hk2
  refine W.eq (g2 := F0 m 1380 ls [_, _]) rfl ?_
  refine lv_icmp_eq (tgt := 2007) hF.1 hF.2.1 dL_law_1380 (by decide) (fun _ => ?_) (fun z => absurd rfl z)
  exact nxt _ _ _ _ _ _ _ _ _ _ _ hI2 (hJ.q hk1 hk2 (n4_t1 _)) hS2 hv (Nat.le_add_right _ _) (Nat.le_add_right _ _)
set_option maxRecDepth 4000 in
theorem law_39 {p : Program} {l : Launch} {e : Env} {s : State} {m : MethodId} {below : List Frame} {meth : Method} {c : Code} {b L i : Nat} {xs : Nat → Int32} {H : Heap} {locs : List Loc} {ce sl : Nat} {Q : State → Prop} {D : va_G} {aC : Nat → ClassId} {ρ : Nat → Nat} {ls : Array Slot} {r : Value} {hw : Bool} {Ac Am : AH} {qo : Nat} {f : Nat → Int64} {w : WT} {sN : Nat → Nat} {HH II : Nat → Nat → Nat} {nx cN mN fN : Nat} {pl : Int32} {n0 : Nat} {tp : Nat → Int32} {tN : Nat} (hF : CallFix p m c code 7 s #[Value.ref b] TW RL) (hX : va_X b L xs s s.heap) (hbl : b < s.heap.size) (hL : L ≤ 3072) (hi : i + 5 < L) (hI : LI D aC s ρ r hw Ac Am qo f H) (hJ : JT w sN HH II nx cN mN fN pl n0 tp tN hw Ac Am) (hS : va_S (BL s) s.heap H locs) (hv : lv_has ls 7 (lvL b ρ qo i)) (hR : ce + 22 ≤ room_1.cells ∧ sl + 181 ≤ room_1.slots) (nxt : NX p l e s m below meth c b D aC qo i ce sl Q) : W p l e room_1 s m #[Value.ref b] below meth c H locs ce sl Q (F0 m 1385 ls []) := by
  have hR0 : ce ≤ room_1.cells ∧ sl ≤ room_1.slots := ⟨by omega, by omega⟩
  refine lv_aload_n hF.1 hF.2.1 dL_law_1385 rfl (lv_at hv 3 rfl) ?_
  refine ls_arg (k := 1) (q := 1392) hF hX hbl hS hv (by omega) hL rfl rfl dL_law_1386 dL_law_1387 dL_law_1389 dL_law_1390 dL_law_1391 ?_
  refine ls_arg (k := 2) (q := 1398) hF hX hbl hS hv (by omega) hL rfl rfl dL_law_1392 dL_law_1393 dL_law_1395 dL_law_1396 dL_law_1397 ?_
  refine ls_bool (q := 1406) hF rfl dL_law_1398 dL_law_1401 dL_law_1402 dL_law_1405 ?_
  refine ls_arg (k := 3) (q := 1412) hF hX hbl hS hv (by omega) hL rfl rfl dL_law_1406 dL_law_1407 dL_law_1409 dL_law_1410 dL_law_1411 ?_
  refine ls_bool (q := 1420) hF rfl dL_law_1412 dL_law_1415 dL_law_1416 dL_law_1419 ?_
  refine ls_arg (k := 4) (q := 1426) hF hX hbl hS hv (by omega) hL rfl rfl dL_law_1420 dL_law_1421 dL_law_1423 dL_law_1424 dL_law_1425 ?_
  refine ls_bool (q := 1434) hF rfl dL_law_1426 dL_law_1429 dL_law_1430 dL_law_1433 ?_
  refine lC (As := [.int (xs (i + 1)), .int (b2i (decide (xs (i + 2) ≠ 0))), .int (b2i (decide (xs (i + 3) ≠ 0))), .int (b2i (decide (xs (i + 4) ≠ 0)))]) (rest := []) hF hI hS hv.1 hR0 (qc_blows hJ.1.1 hJ.1.2.2.2.1) mlL_181 rfl rfl ⟨by decide, by decide⟩ (Nat.le_of_ble_eq_true rfl) dL_law_1434 (fun v1 A1 H1 locs1 hk1 hI1 hS1 => ?_)
  obtain ⟨-, -, rfl⟩ := id hk1
  refine W.eq (g2 := F0 m 1437 ls [_]) rfl ?_
  refine lv_aload_n hF.1 hF.2.1 dL_law_1437 rfl (lv_at hv 2 rfl) ?_
  refine ls_arg (k := 1) (q := 1444) hF hX hbl hS1 hv (by omega) hL rfl rfl dL_law_1438 dL_law_1439 dL_law_1441 dL_law_1442 dL_law_1443 ?_
  refine ls_arg (k := 2) (q := 1450) hF hX hbl hS1 hv (by omega) hL rfl rfl dL_law_1444 dL_law_1445 dL_law_1447 dL_law_1448 dL_law_1449 ?_
  refine ls_bool (q := 1458) hF rfl dL_law_1450 dL_law_1453 dL_law_1454 dL_law_1457 ?_
  refine ls_arg (k := 3) (q := 1464) hF hX hbl hS1 hv (by omega) hL rfl rfl dL_law_1458 dL_law_1459 dL_law_1461 dL_law_1462 dL_law_1463 ?_
  refine ls_bool (q := 1472) hF rfl dL_law_1464 dL_law_1467 dL_law_1468 dL_law_1471 ?_
  refine ls_arg (k := 4) (q := 1478) hF hX hbl hS1 hv (by omega) hL rfl rfl dL_law_1472 dL_law_1473 dL_law_1475 dL_law_1476 dL_law_1477 ?_
  refine ls_bool (q := 1486) hF rfl dL_law_1478 dL_law_1481 dL_law_1482 dL_law_1485 ?_
  refine lM (As := [.int (xs (i + 1)), .int (b2i (decide (xs (i + 2) ≠ 0))), .int (b2i (decide (xs (i + 3) ≠ 0))), .int (b2i (decide (xs (i + 4) ≠ 0)))]) (rest := [_]) hF hI1 hS1 hv.1 hR0 (pm_blows hJ.1.1.2.2.2.1 hJ.1.1.2.1.2.2.1 (fun z => (hJ.2.2.2.2.1 z).1) hJ.2.2.2.2.2) mlL_185 rfl rfl ⟨by decide, by decide⟩ (Nat.le_of_ble_eq_true rfl) dL_law_1486 (fun v2 A2 H2 locs2 hk2 hI2 hS2 => ?_)
  obtain ⟨-, -, -, rfl⟩ := id hk2
  refine W.eq (g2 := F0 m 1489 ls [_, _]) rfl ?_
  refine lv_icmp_eq (tgt := 2007) hF.1 hF.2.1 dL_law_1489 (by decide) (fun _ => ?_) (fun z => absurd rfl z)
  exact nxt _ _ _ _ _ _ _ _ _ _ _ hI2 (hJ.q hk1 hk2 (n4_tX (n4_tB _ _))) hS2 hv (Nat.le_add_right _ _) (Nat.le_add_right _ _)
set_option maxRecDepth 4000 in
theorem law_40 {p : Program} {l : Launch} {e : Env} {s : State} {m : MethodId} {below : List Frame} {meth : Method} {c : Code} {b L i : Nat} {xs : Nat → Int32} {H : Heap} {locs : List Loc} {ce sl : Nat} {Q : State → Prop} {D : va_G} {aC : Nat → ClassId} {ρ : Nat → Nat} {ls : Array Slot} {r : Value} {hw : Bool} {Ac Am : AH} {qo : Nat} {f : Nat → Int64} {w : WT} {sN : Nat → Nat} {HH II : Nat → Nat → Nat} {nx cN mN fN : Nat} {pl : Int32} {n0 : Nat} {tp : Nat → Int32} {tN : Nat} (hF : CallFix p m c code 7 s #[Value.ref b] TW RL) (hX : va_X b L xs s s.heap) (hbl : b < s.heap.size) (hL : L ≤ 3072) (hi : i + 5 < L) (hI : LI D aC s ρ r hw Ac Am qo f H) (hJ : JT w sN HH II nx cN mN fN pl n0 tp tN hw Ac Am) (hS : va_S (BL s) s.heap H locs) (hv : lv_has ls 7 (lvL b ρ qo i)) (hR : ce + 22 ≤ room_1.cells ∧ sl + 181 ≤ room_1.slots) (nxt : NX p l e s m below meth c b D aC qo i ce sl Q) : W p l e room_1 s m #[Value.ref b] below meth c H locs ce sl Q (F0 m 1494 ls []) := by
  have hR0 : ce ≤ room_1.cells ∧ sl ≤ room_1.slots := ⟨by omega, by omega⟩
  refine lv_aload_n hF.1 hF.2.1 dL_law_1494 rfl (lv_at hv 3 rfl) ?_
  refine ls_arg (k := 1) (q := 1501) hF hX hbl hS hv (by omega) hL rfl rfl dL_law_1495 dL_law_1496 dL_law_1498 dL_law_1499 dL_law_1500 ?_
  refine lC (As := [.int (xs (i + 1))]) (rest := []) hF hI hS hv.1 hR0 (qc_rests hJ.1.1 hJ.1.2.2.2.1) mlL_186 rfl rfl ⟨by decide, by decide⟩ (Nat.le_of_ble_eq_true rfl) dL_law_1501 (fun v1 A1 H1 locs1 hk1 hI1 hS1 => ?_)
  obtain ⟨-, -, rfl⟩ := id hk1
  refine W.eq (g2 := F0 m 1504 ls [_]) rfl ?_
  refine lv_aload_n hF.1 hF.2.1 dL_law_1504 rfl (lv_at hv 2 rfl) ?_
  refine ls_arg (k := 1) (q := 1511) hF hX hbl hS1 hv (by omega) hL rfl rfl dL_law_1505 dL_law_1506 dL_law_1508 dL_law_1509 dL_law_1510 ?_
  refine lM (As := [.int (xs (i + 1))]) (rest := [_]) hF hI1 hS1 hv.1 hR0 (pm_rests hJ.1.1.2.2.2.1 hJ.1.1.2.1.2.2.1 (fun z => (hJ.2.2.2.2.1 z).1) hJ.2.2.2.2.2) mlL_189 rfl rfl ⟨by decide, by decide⟩ (Nat.le_of_ble_eq_true rfl) dL_law_1511 (fun v2 A2 H2 locs2 hk2 hI2 hS2 => ?_)
  obtain ⟨-, -, -, rfl⟩ := id hk2
  refine W.eq (g2 := F0 m 1514 ls [_, _]) rfl ?_
  refine lv_icmp_eq (tgt := 2007) hF.1 hF.2.1 dL_law_1514 (by decide) (fun _ => ?_) (fun z => absurd rfl z)
  exact nxt _ _ _ _ _ _ _ _ _ _ _ hI2 (hJ.q hk1 hk2 (n4_tX (n4_tB _ _))) hS2 hv (Nat.le_add_right _ _) (Nat.le_add_right _ _)
set_option maxRecDepth 4000 in
theorem law_41 {p : Program} {l : Launch} {e : Env} {s : State} {m : MethodId} {below : List Frame} {meth : Method} {c : Code} {b L i : Nat} {xs : Nat → Int32} {H : Heap} {locs : List Loc} {ce sl : Nat} {Q : State → Prop} {D : va_G} {aC : Nat → ClassId} {ρ : Nat → Nat} {ls : Array Slot} {r : Value} {hw : Bool} {Ac Am : AH} {qo : Nat} {f : Nat → Int64} {w : WT} {sN : Nat → Nat} {HH II : Nat → Nat → Nat} {nx cN mN fN : Nat} {pl : Int32} {n0 : Nat} {tp : Nat → Int32} {tN : Nat} (hF : CallFix p m c code 7 s #[Value.ref b] TW RL) (hX : va_X b L xs s s.heap) (hbl : b < s.heap.size) (hL : L ≤ 3072) (hi : i + 5 < L) (hI : LI D aC s ρ r hw Ac Am qo f H) (hJ : JT w sN HH II nx cN mN fN pl n0 tp tN hw Ac Am) (hS : va_S (BL s) s.heap H locs) (hv : lv_has ls 7 (lvL b ρ qo i)) (hR : ce + 22 ≤ room_1.cells ∧ sl + 181 ≤ room_1.slots) (nxt : NX p l e s m below meth c b D aC qo i ce sl Q) : W p l e room_1 s m #[Value.ref b] below meth c H locs ce sl Q (F0 m 1519 ls []) := by
  have hR0 : ce ≤ room_1.cells ∧ sl ≤ room_1.slots := ⟨by omega, by omega⟩
  refine lv_aload_n hF.1 hF.2.1 dL_law_1519 rfl (lv_at hv 3 rfl) ?_
  refine ls_arg (k := 1) (q := 1526) hF hX hbl hS hv (by omega) hL rfl rfl dL_law_1520 dL_law_1521 dL_law_1523 dL_law_1524 dL_law_1525 ?_
  refine lC (As := [.int (xs (i + 1))]) (rest := []) hF hI hS hv.1 hR0 (qc_rest hJ.1.1 hJ.1.2.2.2.1) mlL_190 rfl rfl ⟨by decide, by decide⟩ (Nat.le_of_ble_eq_true rfl) dL_law_1526 (fun v1 A1 H1 locs1 hk1 hI1 hS1 => ?_)
  obtain ⟨-, -, rfl⟩ := id hk1
  refine W.eq (g2 := F0 m 1529 ls [_]) rfl ?_
  refine lv_aload_n hF.1 hF.2.1 dL_law_1529 rfl (lv_at hv 2 rfl) ?_
  refine ls_arg (k := 1) (q := 1536) hF hX hbl hS1 hv (by omega) hL rfl rfl dL_law_1530 dL_law_1531 dL_law_1533 dL_law_1534 dL_law_1535 ?_
  refine lM (As := [.int (xs (i + 1))]) (rest := [_]) hF hI1 hS1 hv.1 hR0 (pm_rest hJ.1.1.2.2.2.1 hJ.1.1.2.1.2.2.1 (fun z => (hJ.2.2.2.2.1 z).1) hJ.2.2.2.2.2) mlL_193 rfl rfl ⟨by decide, by decide⟩ (Nat.le_of_ble_eq_true rfl) dL_law_1536 (fun v2 A2 H2 locs2 hk2 hI2 hS2 => ?_)
  obtain ⟨-, -, -, rfl⟩ := id hk2
  refine W.eq (g2 := F0 m 1539 ls [_, _]) rfl ?_
  refine lv_icmp_eq (tgt := 2007) hF.1 hF.2.1 dL_law_1539 (by decide) (fun _ => ?_) (fun z => absurd rfl z)
  exact nxt _ _ _ _ _ _ _ _ _ _ _ hI2 (hJ.q hk1 hk2 (n4_tX (n4_tB _ _))) hS2 hv (Nat.le_add_right _ _) (Nat.le_add_right _ _)
set_option maxRecDepth 4000 in
theorem law_42 {p : Program} {l : Launch} {e : Env} {s : State} {m : MethodId} {below : List Frame} {meth : Method} {c : Code} {b L i : Nat} {xs : Nat → Int32} {H : Heap} {locs : List Loc} {ce sl : Nat} {Q : State → Prop} {D : va_G} {aC : Nat → ClassId} {ρ : Nat → Nat} {ls : Array Slot} {r : Value} {hw : Bool} {Ac Am : AH} {qo : Nat} {f : Nat → Int64} {w : WT} {sN : Nat → Nat} {HH II : Nat → Nat → Nat} {nx cN mN fN : Nat} {pl : Int32} {n0 : Nat} {tp : Nat → Int32} {tN : Nat} (hF : CallFix p m c code 7 s #[Value.ref b] TW RL) (hX : va_X b L xs s s.heap) (hbl : b < s.heap.size) (hL : L ≤ 3072) (hi : i + 5 < L) (hI : LI D aC s ρ r hw Ac Am qo f H) (hJ : JT w sN HH II nx cN mN fN pl n0 tp tN hw Ac Am) (hS : va_S (BL s) s.heap H locs) (hv : lv_has ls 7 (lvL b ρ qo i)) (hR : ce + 22 ≤ room_1.cells ∧ sl + 181 ≤ room_1.slots) (nxt : NX p l e s m below meth c b D aC qo i ce sl Q) : W p l e room_1 s m #[Value.ref b] below meth c H locs ce sl Q (F0 m 1544 ls []) := by
  have hR0 : ce ≤ room_1.cells ∧ sl ≤ room_1.slots := ⟨by omega, by omega⟩
  refine lv_aload_n hF.1 hF.2.1 dL_law_1544 rfl (lv_at hv 3 rfl) ?_
  refine ls_arg (k := 1) (q := 1551) hF hX hbl hS hv (by omega) hL rfl rfl dL_law_1545 dL_law_1546 dL_law_1548 dL_law_1549 dL_law_1550 ?_
  refine ls_arg (k := 2) (q := 1557) hF hX hbl hS hv (by omega) hL rfl rfl dL_law_1551 dL_law_1552 dL_law_1554 dL_law_1555 dL_law_1556 ?_
  refine ls_arg (k := 3) (q := 1563) hF hX hbl hS hv (by omega) hL rfl rfl dL_law_1557 dL_law_1558 dL_law_1560 dL_law_1561 dL_law_1562 ?_
  refine ls_arg (k := 4) (q := 1569) hF hX hbl hS hv (by omega) hL rfl rfl dL_law_1563 dL_law_1564 dL_law_1566 dL_law_1567 dL_law_1568 ?_
  refine ls_bool (q := 1577) hF rfl dL_law_1569 dL_law_1572 dL_law_1573 dL_law_1576 ?_
  refine lC (As := [.int (xs (i + 1)), .int (xs (i + 2)), .int (xs (i + 3)), .int (b2i (decide (xs (i + 4) ≠ 0)))]) (rest := []) hF hI hS hv.1 hR0 (qc_bearOdds hJ.1.1 hJ.1.2.2.2.1) mlL_194 rfl rfl ⟨by decide, by decide⟩ (Nat.le_of_ble_eq_true rfl) dL_law_1577 (fun v1 A1 H1 locs1 hk1 hI1 hS1 => ?_)
  obtain ⟨-, -, rfl⟩ := id hk1
  refine W.eq (g2 := F0 m 1580 ls [_]) rfl ?_
  refine lv_aload_n hF.1 hF.2.1 dL_law_1580 rfl (lv_at hv 2 rfl) ?_
  refine ls_arg (k := 1) (q := 1587) hF hX hbl hS1 hv (by omega) hL rfl rfl dL_law_1581 dL_law_1582 dL_law_1584 dL_law_1585 dL_law_1586 ?_
  refine ls_arg (k := 2) (q := 1593) hF hX hbl hS1 hv (by omega) hL rfl rfl dL_law_1587 dL_law_1588 dL_law_1590 dL_law_1591 dL_law_1592 ?_
  refine ls_arg (k := 3) (q := 1599) hF hX hbl hS1 hv (by omega) hL rfl rfl dL_law_1593 dL_law_1594 dL_law_1596 dL_law_1597 dL_law_1598 ?_
  refine ls_arg (k := 4) (q := 1605) hF hX hbl hS1 hv (by omega) hL rfl rfl dL_law_1599 dL_law_1600 dL_law_1602 dL_law_1603 dL_law_1604 ?_
  refine ls_bool (q := 1613) hF rfl dL_law_1605 dL_law_1608 dL_law_1609 dL_law_1612 ?_
  refine lM (As := [.int (xs (i + 1)), .int (xs (i + 2)), .int (xs (i + 3)), .int (b2i (decide (xs (i + 4) ≠ 0)))]) (rest := [_]) hF hI1 hS1 hv.1 hR0 (pm_bearOdds hJ.1.1.2.2.2.1 hJ.1.1.2.1.2.2.1 (fun z => (hJ.2.2.2.2.1 z).1) hJ.2.2.2.2.2) mlL_198 rfl rfl ⟨by decide, by decide⟩ (Nat.le_of_ble_eq_true rfl) dL_law_1613 (fun v2 A2 H2 locs2 hk2 hI2 hS2 => ?_)
  obtain ⟨-, -, -, rfl⟩ := id hk2
  refine W.eq (g2 := F0 m 1616 ls [_, _]) rfl ?_
  refine W.lcmp hF.1 hF.2.1 dL_law_1616 ?_
  refine lv_if_eq (tgt := 2007) hF.1 hF.2.1 dL_law_1617 (by decide) (fun _ => ?_) (fun z => absurd (lgc _) z)
  exact nxt _ _ _ _ _ _ _ _ _ _ _ hI2 (hJ.q hk1 hk2 (n4_tX (n4_tB _ _))) hS2 hv (Nat.le_add_right _ _) (Nat.le_add_right _ _)
set_option maxRecDepth 4000 in
theorem law_43 {p : Program} {l : Launch} {e : Env} {s : State} {m : MethodId} {below : List Frame} {meth : Method} {c : Code} {b L i : Nat} {xs : Nat → Int32} {H : Heap} {locs : List Loc} {ce sl : Nat} {Q : State → Prop} {D : va_G} {aC : Nat → ClassId} {ρ : Nat → Nat} {ls : Array Slot} {r : Value} {hw : Bool} {Ac Am : AH} {qo : Nat} {f : Nat → Int64} {w : WT} {sN : Nat → Nat} {HH II : Nat → Nat → Nat} {nx cN mN fN : Nat} {pl : Int32} {n0 : Nat} {tp : Nat → Int32} {tN : Nat} (hF : CallFix p m c code 7 s #[Value.ref b] TW RL) (hX : va_X b L xs s s.heap) (hbl : b < s.heap.size) (hL : L ≤ 3072) (hi : i + 5 < L) (hI : LI D aC s ρ r hw Ac Am qo f H) (hJ : JT w sN HH II nx cN mN fN pl n0 tp tN hw Ac Am) (hS : va_S (BL s) s.heap H locs) (hv : lv_has ls 7 (lvL b ρ qo i)) (hR : ce + 22 ≤ room_1.cells ∧ sl + 181 ≤ room_1.slots) (nxt : NX p l e s m below meth c b D aC qo i ce sl Q) : W p l e room_1 s m #[Value.ref b] below meth c H locs ce sl Q (F0 m 1622 ls []) := by
  have hR0 : ce ≤ room_1.cells ∧ sl ≤ room_1.slots := ⟨by omega, by omega⟩
  refine lv_aload_n hF.1 hF.2.1 dL_law_1622 rfl (lv_at hv 3 rfl) ?_
  refine ls_arg (k := 1) (q := 1629) hF hX hbl hS hv (by omega) hL rfl rfl dL_law_1623 dL_law_1624 dL_law_1626 dL_law_1627 dL_law_1628 ?_
  refine ls_arg (k := 2) (q := 1635) hF hX hbl hS hv (by omega) hL rfl rfl dL_law_1629 dL_law_1630 dL_law_1632 dL_law_1633 dL_law_1634 ?_
  refine ls_arg (k := 3) (q := 1641) hF hX hbl hS hv (by omega) hL rfl rfl dL_law_1635 dL_law_1636 dL_law_1638 dL_law_1639 dL_law_1640 ?_
  refine ls_bool (q := 1649) hF rfl dL_law_1641 dL_law_1644 dL_law_1645 dL_law_1648 ?_
  refine lC (As := [.int (xs (i + 1)), .int (xs (i + 2)), .int (b2i (decide (xs (i + 3) ≠ 0)))]) (rest := []) hF hI hS hv.1 hR0 (qc_mean hJ.1.1 hJ.1.2.2.2.1) mlL_199 rfl rfl ⟨by decide, by decide⟩ (Nat.le_of_ble_eq_true rfl) dL_law_1649 (fun v1 A1 H1 locs1 hk1 hI1 hS1 => ?_)
  obtain ⟨-, -, rfl⟩ := id hk1
  refine W.eq (g2 := F0 m 1652 ls [_]) rfl ?_
  refine lv_aload_n hF.1 hF.2.1 dL_law_1652 rfl (lv_at hv 2 rfl) ?_
  refine ls_arg (k := 1) (q := 1659) hF hX hbl hS1 hv (by omega) hL rfl rfl dL_law_1653 dL_law_1654 dL_law_1656 dL_law_1657 dL_law_1658 ?_
  refine ls_arg (k := 2) (q := 1665) hF hX hbl hS1 hv (by omega) hL rfl rfl dL_law_1659 dL_law_1660 dL_law_1662 dL_law_1663 dL_law_1664 ?_
  refine ls_arg (k := 3) (q := 1671) hF hX hbl hS1 hv (by omega) hL rfl rfl dL_law_1665 dL_law_1666 dL_law_1668 dL_law_1669 dL_law_1670 ?_
  refine ls_bool (q := 1679) hF rfl dL_law_1671 dL_law_1674 dL_law_1675 dL_law_1678 ?_
  refine lM (As := [.int (xs (i + 1)), .int (xs (i + 2)), .int (b2i (decide (xs (i + 3) ≠ 0)))]) (rest := [_]) hF hI1 hS1 hv.1 hR0 (pm_mean hJ.1.1.2.2.2.1 hJ.1.1.2.1.2.2.1 (fun z => (hJ.2.2.2.2.1 z).1) hJ.2.2.2.2.2) mlL_202 rfl rfl ⟨by decide, by decide⟩ (Nat.le_of_ble_eq_true rfl) dL_law_1679 (fun v2 A2 H2 locs2 hk2 hI2 hS2 => ?_)
  obtain ⟨-, -, -, rfl⟩ := id hk2
  refine W.eq (g2 := F0 m 1682 ls [_, _]) rfl ?_
  refine W.lcmp hF.1 hF.2.1 dL_law_1682 ?_
  refine lv_if_eq (tgt := 2007) hF.1 hF.2.1 dL_law_1683 (by decide) (fun _ => ?_) (fun z => absurd (lgc _) z)
  exact nxt _ _ _ _ _ _ _ _ _ _ _ hI2 (hJ.q hk1 hk2 (n4_t1 _)) hS2 hv (Nat.le_add_right _ _) (Nat.le_add_right _ _)
set_option maxRecDepth 4000 in
theorem law_44 {p : Program} {l : Launch} {e : Env} {s : State} {m : MethodId} {below : List Frame} {meth : Method} {c : Code} {b L i : Nat} {xs : Nat → Int32} {H : Heap} {locs : List Loc} {ce sl : Nat} {Q : State → Prop} {D : va_G} {aC : Nat → ClassId} {ρ : Nat → Nat} {ls : Array Slot} {r : Value} {hw : Bool} {Ac Am : AH} {qo : Nat} {f : Nat → Int64} {w : WT} {sN : Nat → Nat} {HH II : Nat → Nat → Nat} {nx cN mN fN : Nat} {pl : Int32} {n0 : Nat} {tp : Nat → Int32} {tN : Nat} (hF : CallFix p m c code 7 s #[Value.ref b] TW RL) (hX : va_X b L xs s s.heap) (hbl : b < s.heap.size) (hL : L ≤ 3072) (hi : i + 5 < L) (hI : LI D aC s ρ r hw Ac Am qo f H) (hJ : JT w sN HH II nx cN mN fN pl n0 tp tN hw Ac Am) (hS : va_S (BL s) s.heap H locs) (hv : lv_has ls 7 (lvL b ρ qo i)) (hR : ce + 22 ≤ room_1.cells ∧ sl + 181 ≤ room_1.slots) (nxt : NX p l e s m below meth c b D aC qo i ce sl Q) : W p l e room_1 s m #[Value.ref b] below meth c H locs ce sl Q (F0 m 1688 ls []) := by
  have hR0 : ce ≤ room_1.cells ∧ sl ≤ room_1.slots := ⟨by omega, by omega⟩
  refine lv_aload_n hF.1 hF.2.1 dL_law_1688 rfl (lv_at hv 3 rfl) ?_
  refine ls_arg (k := 1) (q := 1695) hF hX hbl hS hv (by omega) hL rfl rfl dL_law_1689 dL_law_1690 dL_law_1692 dL_law_1693 dL_law_1694 ?_
  refine ls_arg (k := 2) (q := 1701) hF hX hbl hS hv (by omega) hL rfl rfl dL_law_1695 dL_law_1696 dL_law_1698 dL_law_1699 dL_law_1700 ?_
  refine lC (As := [.int (xs (i + 1)), .int (xs (i + 2))]) (rest := []) hF hI hS hv.1 hR0 (qc_years hJ.1.1 hJ.1.2.2.2.1) mlL_203 rfl rfl ⟨by decide, by decide⟩ (Nat.le_of_ble_eq_true rfl) dL_law_1701 (fun v1 A1 H1 locs1 hk1 hI1 hS1 => ?_)
  obtain ⟨-, -, rfl⟩ := id hk1
  refine W.eq (g2 := F0 m 1704 ls [_]) rfl ?_
  refine lv_aload_n hF.1 hF.2.1 dL_law_1704 rfl (lv_at hv 2 rfl) ?_
  refine ls_arg (k := 1) (q := 1711) hF hX hbl hS1 hv (by omega) hL rfl rfl dL_law_1705 dL_law_1706 dL_law_1708 dL_law_1709 dL_law_1710 ?_
  refine ls_arg (k := 2) (q := 1717) hF hX hbl hS1 hv (by omega) hL rfl rfl dL_law_1711 dL_law_1712 dL_law_1714 dL_law_1715 dL_law_1716 ?_
  refine lM (As := [.int (xs (i + 1)), .int (xs (i + 2))]) (rest := [_]) hF hI1 hS1 hv.1 hR0 (pm_years hJ.1.1.2.2.2.1 hJ.1.1.2.1.2.2.1 (fun z => (hJ.2.2.2.2.1 z).1) hJ.2.2.2.2.2) mlL_206 rfl rfl ⟨by decide, by decide⟩ (Nat.le_of_ble_eq_true rfl) dL_law_1717 (fun v2 A2 H2 locs2 hk2 hI2 hS2 => ?_)
  obtain ⟨-, -, -, rfl⟩ := id hk2
  refine W.eq (g2 := F0 m 1720 ls [_, _]) rfl ?_
  refine lv_icmp_eq (tgt := 2007) hF.1 hF.2.1 dL_law_1720 (by decide) (fun _ => ?_) (fun z => absurd rfl z)
  exact nxt _ _ _ _ _ _ _ _ _ _ _ hI2 (hJ.q hk1 hk2 (n4_tSY _ _ _)) hS2 hv (Nat.le_add_right _ _) (Nat.le_add_right _ _)
set_option maxRecDepth 4000 in
theorem law_45 {p : Program} {l : Launch} {e : Env} {s : State} {m : MethodId} {below : List Frame} {meth : Method} {c : Code} {b L i : Nat} {xs : Nat → Int32} {H : Heap} {locs : List Loc} {ce sl : Nat} {Q : State → Prop} {D : va_G} {aC : Nat → ClassId} {ρ : Nat → Nat} {ls : Array Slot} {r : Value} {hw : Bool} {Ac Am : AH} {qo : Nat} {f : Nat → Int64} {w : WT} {sN : Nat → Nat} {HH II : Nat → Nat → Nat} {nx cN mN fN : Nat} {pl : Int32} {n0 : Nat} {tp : Nat → Int32} {tN : Nat} (hF : CallFix p m c code 7 s #[Value.ref b] TW RL) (hX : va_X b L xs s s.heap) (hbl : b < s.heap.size) (hL : L ≤ 3072) (hi : i + 5 < L) (hI : LI D aC s ρ r hw Ac Am qo f H) (hJ : JT w sN HH II nx cN mN fN pl n0 tp tN hw Ac Am) (hS : va_S (BL s) s.heap H locs) (hv : lv_has ls 7 (lvL b ρ qo i)) (hR : ce + 22 ≤ room_1.cells ∧ sl + 181 ≤ room_1.slots) (nxt : NX p l e s m below meth c b D aC qo i ce sl Q) : W p l e room_1 s m #[Value.ref b] below meth c H locs ce sl Q (F0 m 1725 ls []) := by
  have hR0 : ce ≤ room_1.cells ∧ sl ≤ room_1.slots := ⟨by omega, by omega⟩
  refine lv_aload_n hF.1 hF.2.1 dL_law_1725 rfl (lv_at hv 3 rfl) ?_
  refine ls_arg (k := 1) (q := 1732) hF hX hbl hS hv (by omega) hL rfl rfl dL_law_1726 dL_law_1727 dL_law_1729 dL_law_1730 dL_law_1731 ?_
  refine ls_arg (k := 2) (q := 1738) hF hX hbl hS hv (by omega) hL rfl rfl dL_law_1732 dL_law_1733 dL_law_1735 dL_law_1736 dL_law_1737 ?_
  refine ls_arg (k := 3) (q := 1744) hF hX hbl hS hv (by omega) hL rfl rfl dL_law_1738 dL_law_1739 dL_law_1741 dL_law_1742 dL_law_1743 ?_
  refine lC (As := [.int (xs (i + 1)), .int (xs (i + 2)), .int (xs (i + 3))]) (rest := []) hF hI hS hv.1 hR0 (qc_fallsBy hJ.1.1 hJ.1.2.2.2.1) mlL_207 rfl rfl ⟨by decide, by decide⟩ (Nat.le_of_ble_eq_true rfl) dL_law_1744 (fun v1 A1 H1 locs1 hk1 hI1 hS1 => ?_)
  obtain ⟨-, -, rfl⟩ := id hk1
  refine W.eq (g2 := F0 m 1747 ls [_]) rfl ?_
  refine lv_aload_n hF.1 hF.2.1 dL_law_1747 rfl (lv_at hv 2 rfl) ?_
  refine ls_arg (k := 1) (q := 1754) hF hX hbl hS1 hv (by omega) hL rfl rfl dL_law_1748 dL_law_1749 dL_law_1751 dL_law_1752 dL_law_1753 ?_
  refine ls_arg (k := 2) (q := 1760) hF hX hbl hS1 hv (by omega) hL rfl rfl dL_law_1754 dL_law_1755 dL_law_1757 dL_law_1758 dL_law_1759 ?_
  refine ls_arg (k := 3) (q := 1766) hF hX hbl hS1 hv (by omega) hL rfl rfl dL_law_1760 dL_law_1761 dL_law_1763 dL_law_1764 dL_law_1765 ?_
  refine lM (As := [.int (xs (i + 1)), .int (xs (i + 2)), .int (xs (i + 3))]) (rest := [_]) hF hI1 hS1 hv.1 hR0 (pm_fallsBy hJ.1.1.2.2.2.1 hJ.1.1.2.1.2.2.1 (fun z => (hJ.2.2.2.2.1 z).1) hJ.2.2.2.2.2) mlL_210 rfl rfl ⟨by decide, by decide⟩ (Nat.le_of_ble_eq_true rfl) dL_law_1766 (fun v2 A2 H2 locs2 hk2 hI2 hS2 => ?_)
  obtain ⟨-, -, -, rfl⟩ := id hk2
  refine W.eq (g2 := F0 m 1769 ls [_, _]) rfl ?_
  refine lv_icmp_eq (tgt := 2007) hF.1 hF.2.1 dL_law_1769 (by decide) (fun _ => ?_) (fun z => absurd rfl z)
  exact nxt _ _ _ _ _ _ _ _ _ _ _ hI2 (hJ.q hk1 hk2 (n4_tSY _ _ _)) hS2 hv (Nat.le_add_right _ _) (Nat.le_add_right _ _)
set_option maxRecDepth 4000 in
theorem law_46 {p : Program} {l : Launch} {e : Env} {s : State} {m : MethodId} {below : List Frame} {meth : Method} {c : Code} {b L i : Nat} {xs : Nat → Int32} {H : Heap} {locs : List Loc} {ce sl : Nat} {Q : State → Prop} {D : va_G} {aC : Nat → ClassId} {ρ : Nat → Nat} {ls : Array Slot} {r : Value} {hw : Bool} {Ac Am : AH} {qo : Nat} {f : Nat → Int64} {w : WT} {sN : Nat → Nat} {HH II : Nat → Nat → Nat} {nx cN mN fN : Nat} {pl : Int32} {n0 : Nat} {tp : Nat → Int32} {tN : Nat} (hF : CallFix p m c code 7 s #[Value.ref b] TW RL) (hX : va_X b L xs s s.heap) (hbl : b < s.heap.size) (hL : L ≤ 3072) (hi : i + 5 < L) (hI : LI D aC s ρ r hw Ac Am qo f H) (hJ : JT w sN HH II nx cN mN fN pl n0 tp tN hw Ac Am) (hS : va_S (BL s) s.heap H locs) (hv : lv_has ls 7 (lvL b ρ qo i)) (hR : ce + 22 ≤ room_1.cells ∧ sl + 181 ≤ room_1.slots) (nxt : NX p l e s m below meth c b D aC qo i ce sl Q) : W p l e room_1 s m #[Value.ref b] below meth c H locs ce sl Q (F0 m 1774 ls []) := by
  have hR0 : ce ≤ room_1.cells ∧ sl ≤ room_1.slots := ⟨by omega, by omega⟩
  refine lv_aload_n hF.1 hF.2.1 dL_law_1774 rfl (lv_at hv 3 rfl) ?_
  refine lC (As := []) (rest := []) hF hI hS hv.1 hR0 (ac_year hJ.1.1 hJ.1.2.1 hJ.hH) mlL_211 rfl rfl ⟨by decide, by decide⟩ (Nat.le_of_ble_eq_true rfl) dL_law_1775 (fun v1 A1 H1 locs1 hk1 hI1 hS1 => ?_)
  obtain ⟨u1, hu1⟩ := KCa_v hk1 ⟨_, rfl⟩ ⟨_, rfl⟩
  rw [hu1]
  refine W.eq (g2 := F0 m 1778 ls [_]) rfl ?_
  refine lv_aload_n hF.1 hF.2.1 dL_law_1778 rfl (lv_at hv 2 rfl) ?_
  refine lM (As := []) (rest := [_]) hF hI1 hS1 hv.1 hR0 (am_year hJ.2.2.2.2.1 hJ.2.2.2.2.2) mlL_214 rfl rfl ⟨by decide, by decide⟩ (Nat.le_of_ble_eq_true rfl) dL_law_1779 (fun v2 A2 H2 locs2 hk2 hI2 hS2 => ?_)
  obtain ⟨hJS, u, -, e1, e2⟩ := hJ.a hk1 hk2 (n4_tX (by split <;> decide)) (fun z => by rw [an_year (hJ.2.2.2.2.2 z)]; decide)
  rw [hu1] at e1
  cases e1
  subst e2
  refine W.eq (g2 := F0 m 1782 ls [_, _]) rfl ?_
  refine lv_icmp_eq (tgt := 2007) hF.1 hF.2.1 dL_law_1782 (by decide) (fun _ => ?_) (fun z => absurd rfl z)
  exact nxt _ _ _ _ _ _ _ _ _ _ _ hI2 hJS hS2 hv (Nat.le_add_right _ _) (Nat.le_add_right _ _)
set_option maxRecDepth 4000 in
theorem law_47 {p : Program} {l : Launch} {e : Env} {s : State} {m : MethodId} {below : List Frame} {meth : Method} {c : Code} {b L i : Nat} {xs : Nat → Int32} {H : Heap} {locs : List Loc} {ce sl : Nat} {Q : State → Prop} {D : va_G} {aC : Nat → ClassId} {ρ : Nat → Nat} {ls : Array Slot} {r : Value} {hw : Bool} {Ac Am : AH} {qo : Nat} {f : Nat → Int64} {w : WT} {sN : Nat → Nat} {HH II : Nat → Nat → Nat} {nx cN mN fN : Nat} {pl : Int32} {n0 : Nat} {tp : Nat → Int32} {tN : Nat} (hF : CallFix p m c code 7 s #[Value.ref b] TW RL) (hX : va_X b L xs s s.heap) (hbl : b < s.heap.size) (hL : L ≤ 3072) (hi : i + 5 < L) (hI : LI D aC s ρ r hw Ac Am qo f H) (hJ : JT w sN HH II nx cN mN fN pl n0 tp tN hw Ac Am) (hS : va_S (BL s) s.heap H locs) (hv : lv_has ls 7 (lvL b ρ qo i)) (hR : ce + 22 ≤ room_1.cells ∧ sl + 181 ≤ room_1.slots) (nxt : NX p l e s m below meth c b D aC qo i ce sl Q) : W p l e room_1 s m #[Value.ref b] below meth c H locs ce sl Q (F0 m 1787 ls []) := by
  have hR0 : ce ≤ room_1.cells ∧ sl ≤ room_1.slots := ⟨by omega, by omega⟩
  refine lv_aload_n hF.1 hF.2.1 dL_law_1787 rfl (lv_at hv 3 rfl) ?_
  refine ls_arg (k := 1) (q := 1794) hF hX hbl hS hv (by omega) hL rfl rfl dL_law_1788 dL_law_1789 dL_law_1791 dL_law_1792 dL_law_1793 ?_
  refine lC (As := [.int (xs (i + 1))]) (rest := []) hF hI hS hv.1 hR0 (ac_snap hJ.1.1 hJ.1.2.1 hJ.hH) mlL_215 rfl rfl ⟨by decide, by decide⟩ (Nat.le_of_ble_eq_true rfl) dL_law_1794 (fun v1 A1 H1 locs1 hk1 hI1 hS1 => ?_)
  obtain ⟨u1, hu1⟩ := KCa_v hk1 ⟨_, rfl⟩ ⟨_, rfl⟩
  rw [hu1]
  refine W.eq (g2 := F0 m 1797 ls [_]) rfl ?_
  refine lv_aload_n hF.1 hF.2.1 dL_law_1797 rfl (lv_at hv 2 rfl) ?_
  refine ls_arg (k := 1) (q := 1804) hF hX hbl hS1 hv (by omega) hL rfl rfl dL_law_1798 dL_law_1799 dL_law_1801 dL_law_1802 dL_law_1803 ?_
  refine lM (As := [.int (xs (i + 1))]) (rest := [_]) hF hI1 hS1 hv.1 hR0 (am_snap hJ.2.2.2.2.1 hJ.2.2.2.2.2) mlL_219 rfl rfl ⟨by decide, by decide⟩ (Nat.le_of_ble_eq_true rfl) dL_law_1804 (fun v2 A2 H2 locs2 hk2 hI2 hS2 => ?_)
  obtain ⟨hJS, u, -, e1, e2⟩ := hJ.a hk1 hk2 (n4_tX (by split <;> decide)) (fun z => by rw [an_snap (t0 := xs (i + 1)) (hJ.2.2.2.2.2 z)]; decide)
  rw [hu1] at e1
  cases e1
  subst e2
  refine W.eq (g2 := F0 m 1807 ls [_, _]) rfl ?_
  refine lv_icmp_eq (tgt := 2007) hF.1 hF.2.1 dL_law_1807 (by decide) (fun _ => ?_) (fun z => absurd rfl z)
  exact nxt _ _ _ _ _ _ _ _ _ _ _ hI2 hJS hS2 hv (Nat.le_add_right _ _) (Nat.le_add_right _ _)
set_option maxRecDepth 4000 in
theorem law_48 {p : Program} {l : Launch} {e : Env} {s : State} {m : MethodId} {below : List Frame} {meth : Method} {c : Code} {b L i : Nat} {xs : Nat → Int32} {H : Heap} {locs : List Loc} {ce sl : Nat} {Q : State → Prop} {D : va_G} {aC : Nat → ClassId} {ρ : Nat → Nat} {ls : Array Slot} {r : Value} {hw : Bool} {Ac Am : AH} {qo : Nat} {f : Nat → Int64} {w : WT} {sN : Nat → Nat} {HH II : Nat → Nat → Nat} {nx cN mN fN : Nat} {pl : Int32} {n0 : Nat} {tp : Nat → Int32} {tN : Nat} (hF : CallFix p m c code 7 s #[Value.ref b] TW RL) (hX : va_X b L xs s s.heap) (hbl : b < s.heap.size) (hL : L ≤ 3072) (hi : i + 5 < L) (hI : LI D aC s ρ r hw Ac Am qo f H) (hJ : JT w sN HH II nx cN mN fN pl n0 tp tN hw Ac Am) (hS : va_S (BL s) s.heap H locs) (hv : lv_has ls 7 (lvL b ρ qo i)) (hR : ce + 22 ≤ room_1.cells ∧ sl + 181 ≤ room_1.slots) (nxt : NX p l e s m below meth c b D aC qo i ce sl Q) : W p l e room_1 s m #[Value.ref b] below meth c H locs ce sl Q (F0 m 1812 ls []) := by
  have hR0 : ce ≤ room_1.cells ∧ sl ≤ room_1.slots := ⟨by omega, by omega⟩
  refine lv_aload_n hF.1 hF.2.1 dL_law_1812 rfl (lv_at hv 3 rfl) ?_
  refine ls_arg (k := 1) (q := 1819) hF hX hbl hS hv (by omega) hL rfl rfl dL_law_1813 dL_law_1814 dL_law_1816 dL_law_1817 dL_law_1818 ?_
  refine lC (As := [.int (xs (i + 1))]) (rest := []) hF hI hS hv.1 hR0 (ac_spin hJ.1.1 hJ.1.2.1 hJ.hH) mlL_220 rfl rfl ⟨by decide, by decide⟩ (Nat.le_of_ble_eq_true rfl) dL_law_1819 (fun v1 A1 H1 locs1 hk1 hI1 hS1 => ?_)
  obtain ⟨u1, hu1⟩ := KCa_v hk1 ⟨_, rfl⟩ ⟨_, rfl⟩
  rw [hu1]
  refine W.eq (g2 := F0 m 1822 ls [_]) rfl ?_
  refine lv_aload_n hF.1 hF.2.1 dL_law_1822 rfl (lv_at hv 2 rfl) ?_
  refine ls_arg (k := 1) (q := 1829) hF hX hbl hS1 hv (by omega) hL rfl rfl dL_law_1823 dL_law_1824 dL_law_1826 dL_law_1827 dL_law_1828 ?_
  refine lM (As := [.int (xs (i + 1))]) (rest := [_]) hF hI1 hS1 hv.1 hR0 (am_spin hJ.2.2.2.2.1 hJ.2.2.2.2.2) mlL_223 rfl rfl ⟨by decide, by decide⟩ (Nat.le_of_ble_eq_true rfl) dL_law_1829 (fun v2 A2 H2 locs2 hk2 hI2 hS2 => ?_)
  obtain ⟨hJS, u, -, e1, e2⟩ := hJ.a hk1 hk2 (n4_tX (by split <;> decide)) (fun z => by rw [an_spin (t0 := xs (i + 1)) (hJ.2.2.2.2.2 z)]; decide)
  rw [hu1] at e1
  cases e1
  subst e2
  refine W.eq (g2 := F0 m 1832 ls [_, _]) rfl ?_
  refine lv_icmp_eq (tgt := 2007) hF.1 hF.2.1 dL_law_1832 (by decide) (fun _ => ?_) (fun z => absurd rfl z)
  exact nxt _ _ _ _ _ _ _ _ _ _ _ hI2 hJS hS2 hv (Nat.le_add_right _ _) (Nat.le_add_right _ _)
set_option maxRecDepth 4000 in
theorem law_49 {p : Program} {l : Launch} {e : Env} {s : State} {m : MethodId} {below : List Frame} {meth : Method} {c : Code} {b L i : Nat} {xs : Nat → Int32} {H : Heap} {locs : List Loc} {ce sl : Nat} {Q : State → Prop} {D : va_G} {aC : Nat → ClassId} {ρ : Nat → Nat} {ls : Array Slot} {r : Value} {hw : Bool} {Ac Am : AH} {qo : Nat} {f : Nat → Int64} {w : WT} {sN : Nat → Nat} {HH II : Nat → Nat → Nat} {nx cN mN fN : Nat} {pl : Int32} {n0 : Nat} {tp : Nat → Int32} {tN : Nat} (hF : CallFix p m c code 7 s #[Value.ref b] TW RL) (hX : va_X b L xs s s.heap) (hbl : b < s.heap.size) (hL : L ≤ 3072) (hi : i + 5 < L) (hI : LI D aC s ρ r hw Ac Am qo f H) (hJ : JT w sN HH II nx cN mN fN pl n0 tp tN hw Ac Am) (hS : va_S (BL s) s.heap H locs) (hv : lv_has ls 7 (lvL b ρ qo i)) (hR : ce + 22 ≤ room_1.cells ∧ sl + 181 ≤ room_1.slots) (nxt : NX p l e s m below meth c b D aC qo i ce sl Q) : W p l e room_1 s m #[Value.ref b] below meth c H locs ce sl Q (F0 m 1837 ls []) := by
  have hR0 : ce ≤ room_1.cells ∧ sl ≤ room_1.slots := ⟨by omega, by omega⟩
  refine lv_aload_n hF.1 hF.2.1 dL_law_1837 rfl (lv_at hv 3 rfl) ?_
  refine ls_arg (k := 1) (q := 1844) hF hX hbl hS hv (by omega) hL rfl rfl dL_law_1838 dL_law_1839 dL_law_1841 dL_law_1842 dL_law_1843 ?_
  refine lC (As := [.int (xs (i + 1))]) (rest := []) hF hI hS hv.1 hR0 (ac_darn hJ.1.1 hJ.1.2.1 hJ.hH) mlL_224 rfl rfl ⟨by decide, by decide⟩ (Nat.le_of_ble_eq_true rfl) dL_law_1844 (fun v1 A1 H1 locs1 hk1 hI1 hS1 => ?_)
  obtain ⟨u1, hu1⟩ := KCa_v hk1 ⟨_, rfl⟩ ⟨_, rfl⟩
  rw [hu1]
  refine W.eq (g2 := F0 m 1847 ls [_]) rfl ?_
  refine lv_aload_n hF.1 hF.2.1 dL_law_1847 rfl (lv_at hv 2 rfl) ?_
  refine ls_arg (k := 1) (q := 1854) hF hX hbl hS1 hv (by omega) hL rfl rfl dL_law_1848 dL_law_1849 dL_law_1851 dL_law_1852 dL_law_1853 ?_
  refine lM (As := [.int (xs (i + 1))]) (rest := [_]) hF hI1 hS1 hv.1 hR0 (am_darn hJ.2.2.2.2.1 hJ.2.2.2.2.2) mlL_227 rfl rfl ⟨by decide, by decide⟩ (Nat.le_of_ble_eq_true rfl) dL_law_1854 (fun v2 A2 H2 locs2 hk2 hI2 hS2 => ?_)
  obtain ⟨hJS, u, -, e1, e2⟩ := hJ.a hk1 hk2 (n4_tX (by split <;> decide)) (fun z => by rw [an_darn (t0 := xs (i + 1)) (hJ.2.2.2.2.2 z)]; decide)
  rw [hu1] at e1
  cases e1
  subst e2
  refine W.eq (g2 := F0 m 1857 ls [_, _]) rfl ?_
  refine lv_icmp_eq (tgt := 2007) hF.1 hF.2.1 dL_law_1857 (by decide) (fun _ => ?_) (fun z => absurd rfl z)
  exact nxt _ _ _ _ _ _ _ _ _ _ _ hI2 hJS hS2 hv (Nat.le_add_right _ _) (Nat.le_add_right _ _)
set_option maxRecDepth 4000 in
theorem law_50 {p : Program} {l : Launch} {e : Env} {s : State} {m : MethodId} {below : List Frame} {meth : Method} {c : Code} {b L i : Nat} {xs : Nat → Int32} {H : Heap} {locs : List Loc} {ce sl : Nat} {Q : State → Prop} {D : va_G} {aC : Nat → ClassId} {ρ : Nat → Nat} {ls : Array Slot} {r : Value} {hw : Bool} {Ac Am : AH} {qo : Nat} {f : Nat → Int64} {w : WT} {sN : Nat → Nat} {HH II : Nat → Nat → Nat} {nx cN mN fN : Nat} {pl : Int32} {n0 : Nat} {tp : Nat → Int32} {tN : Nat} (hF : CallFix p m c code 7 s #[Value.ref b] TW RL) (hX : va_X b L xs s s.heap) (hbl : b < s.heap.size) (hL : L ≤ 3072) (hi : i + 5 < L) (hI : LI D aC s ρ r hw Ac Am qo f H) (hJ : JT w sN HH II nx cN mN fN pl n0 tp tN hw Ac Am) (hS : va_S (BL s) s.heap H locs) (hv : lv_has ls 7 (lvL b ρ qo i)) (hR : ce + 22 ≤ room_1.cells ∧ sl + 181 ≤ room_1.slots) (nxt : NX p l e s m below meth c b D aC qo i ce sl Q) : W p l e room_1 s m #[Value.ref b] below meth c H locs ce sl Q (F0 m 1862 ls []) := by
  have hR0 : ce ≤ room_1.cells ∧ sl ≤ room_1.slots := ⟨by omega, by omega⟩
  refine lv_aload_n hF.1 hF.2.1 dL_law_1862 rfl (lv_at hv 3 rfl) ?_
  refine lC (As := []) (rest := []) hF hI hS hv.1 hR0 (ac_undo hJ.1.1 hJ.1.2.1 hJ.hH) mlL_228 rfl rfl ⟨by decide, by decide⟩ (Nat.le_of_ble_eq_true rfl) dL_law_1863 (fun v1 A1 H1 locs1 hk1 hI1 hS1 => ?_)
  obtain ⟨u1, hu1⟩ := KCa_v hk1 ⟨_, rfl⟩ ⟨_, rfl⟩
  rw [hu1]
  refine W.eq (g2 := F0 m 1866 ls [_]) rfl ?_
  refine lv_aload_n hF.1 hF.2.1 dL_law_1866 rfl (lv_at hv 2 rfl) ?_
  refine lM (As := []) (rest := [_]) hF hI1 hS1 hv.1 hR0 (am_undo hJ.2.2.2.2.1 hJ.2.2.2.2.2) mlL_232 rfl rfl ⟨by decide, by decide⟩ (Nat.le_of_ble_eq_true rfl) dL_law_1867 (fun v2 A2 H2 locs2 hk2 hI2 hS2 => ?_)
  obtain ⟨hJS, u, -, e1, e2⟩ := hJ.a hk1 hk2 ((by unfold tUndo; split <;> decide)) (fun z => by rw [an_undo (hJ.2.2.2.2.2 z)]; decide)
  rw [hu1] at e1
  cases e1
  subst e2
  refine W.eq (g2 := F0 m 1870 ls [_, _]) rfl ?_
  refine lv_icmp_eq (tgt := 2007) hF.1 hF.2.1 dL_law_1870 (by decide) (fun _ => ?_) (fun z => absurd rfl z)
  exact nxt _ _ _ _ _ _ _ _ _ _ _ hI2 hJS hS2 hv (Nat.le_add_right _ _) (Nat.le_add_right _ _)
set_option maxRecDepth 4000 in
theorem law_51 {p : Program} {l : Launch} {e : Env} {s : State} {m : MethodId} {below : List Frame} {meth : Method} {c : Code} {b L i : Nat} {xs : Nat → Int32} {H : Heap} {locs : List Loc} {ce sl : Nat} {Q : State → Prop} {D : va_G} {aC : Nat → ClassId} {ρ : Nat → Nat} {ls : Array Slot} {r : Value} {hw : Bool} {Ac Am : AH} {qo : Nat} {f : Nat → Int64} {w : WT} {sN : Nat → Nat} {HH II : Nat → Nat → Nat} {nx cN mN fN : Nat} {pl : Int32} {n0 : Nat} {tp : Nat → Int32} {tN : Nat} (hF : CallFix p m c code 7 s #[Value.ref b] TW RL) (hX : va_X b L xs s s.heap) (hbl : b < s.heap.size) (hL : L ≤ 3072) (hi : i + 5 < L) (hI : LI D aC s ρ r hw Ac Am qo f H) (hJ : JT w sN HH II nx cN mN fN pl n0 tp tN hw Ac Am) (hS : va_S (BL s) s.heap H locs) (hv : lv_has ls 7 (lvL b ρ qo i)) (hR : ce + 22 ≤ room_1.cells ∧ sl + 181 ≤ room_1.slots) (nxt : NX p l e s m below meth c b D aC qo i ce sl Q) : W p l e room_1 s m #[Value.ref b] below meth c H locs ce sl Q (F0 m 1875 ls []) := by
  have hR0 : ce ≤ room_1.cells ∧ sl ≤ room_1.slots := ⟨by omega, by omega⟩
  refine lv_aload_n hF.1 hF.2.1 dL_law_1875 rfl (lv_at hv 3 rfl) ?_
  refine lC (As := []) (rest := []) hF hI hS hv.1 hR0 (ac_image hJ.1.1 hJ.1.2.1 hJ.hH) mlL_233 rfl rfl ⟨by decide, by decide⟩ (Nat.le_of_ble_eq_true rfl) dL_law_1876 (fun v1 A1 H1 locs1 hk1 hI1 hS1 => ?_)
  obtain ⟨u1, hu1⟩ := KCa_v hk1 ⟨_, rfl⟩ ⟨_, rfl⟩
  rw [hu1]
  refine W.eq (g2 := F0 m 1879 ls [_]) rfl ?_
  refine lv_aload_n hF.1 hF.2.1 dL_law_1879 rfl (lv_at hv 2 rfl) ?_
  refine lM (As := []) (rest := [_]) hF hI1 hS1 hv.1 hR0 (am_image hJ.2.2.2.2.1 hJ.2.2.2.2.2) mlL_236 rfl rfl ⟨by decide, by decide⟩ (Nat.le_of_ble_eq_true rfl) dL_law_1880 (fun v2 A2 H2 locs2 hk2 hI2 hS2 => ?_)
  obtain ⟨hJS, u, -, e1, e2⟩ := hJ.a hk1 hk2 (n4_tX (by split <;> decide)) (fun z => by rw [an_image (hJ.2.2.2.2.2 z)]; decide)
  rw [hu1] at e1
  cases e1
  subst e2
  refine W.eq (g2 := F0 m 1883 ls [_, _]) rfl ?_
  refine lv_icmp_eq (tgt := 2007) hF.1 hF.2.1 dL_law_1883 (by decide) (fun _ => ?_) (fun z => absurd rfl z)
  exact nxt _ _ _ _ _ _ _ _ _ _ _ hI2 hJS hS2 hv (Nat.le_add_right _ _) (Nat.le_add_right _ _)
set_option maxRecDepth 4000 in
theorem law_52 {p : Program} {l : Launch} {e : Env} {s : State} {m : MethodId} {below : List Frame} {meth : Method} {c : Code} {b L i : Nat} {xs : Nat → Int32} {H : Heap} {locs : List Loc} {ce sl : Nat} {Q : State → Prop} {D : va_G} {aC : Nat → ClassId} {ρ : Nat → Nat} {ls : Array Slot} {r : Value} {hw : Bool} {Ac Am : AH} {qo : Nat} {f : Nat → Int64} {w : WT} {sN : Nat → Nat} {HH II : Nat → Nat → Nat} {nx cN mN fN : Nat} {pl : Int32} {n0 : Nat} {tp : Nat → Int32} {tN : Nat} (hF : CallFix p m c code 7 s #[Value.ref b] TW RL) (hX : va_X b L xs s s.heap) (hbl : b < s.heap.size) (hL : L ≤ 3072) (hi : i + 5 < L) (hI : LI D aC s ρ r hw Ac Am qo f H) (hJ : JT w sN HH II nx cN mN fN pl n0 tp tN hw Ac Am) (hS : va_S (BL s) s.heap H locs) (hv : lv_has ls 7 (lvL b ρ qo i)) (hR : ce + 22 ≤ room_1.cells ∧ sl + 181 ≤ room_1.slots) (nxt : NX p l e s m below meth c b D aC qo i ce sl Q) : W p l e room_1 s m #[Value.ref b] below meth c H locs ce sl Q (F0 m 1888 ls []) := by
  have hR0 : ce ≤ room_1.cells ∧ sl ≤ room_1.slots := ⟨by omega, by omega⟩
  refine lv_aload_n hF.1 hF.2.1 dL_law_1888 rfl (lv_at hv 3 rfl) ?_
  refine ls_arg (k := 1) (q := 1895) hF hX hbl hS hv (by omega) hL rfl rfl dL_law_1889 dL_law_1890 dL_law_1892 dL_law_1893 dL_law_1894 ?_
  refine lC (As := [.int (xs (i + 1))]) (rest := []) hF hI hS hv.1 hR0 (ac_back hJ.1.1 hJ.1.2.1 hJ.hH) mlL_237 rfl rfl ⟨by decide, by decide⟩ (Nat.le_of_ble_eq_true rfl) dL_law_1895 (fun v1 A1 H1 locs1 hk1 hI1 hS1 => ?_)
  obtain ⟨u1, hu1⟩ := KCa_v hk1 ⟨_, rfl⟩ ⟨_, rfl⟩
  rw [hu1]
  refine W.eq (g2 := F0 m 1898 ls [_]) rfl ?_
  refine lv_aload_n hF.1 hF.2.1 dL_law_1898 rfl (lv_at hv 2 rfl) ?_
  refine ls_arg (k := 1) (q := 1905) hF hX hbl hS1 hv (by omega) hL rfl rfl dL_law_1899 dL_law_1900 dL_law_1902 dL_law_1903 dL_law_1904 ?_
  refine lM (As := [.int (xs (i + 1))]) (rest := [_]) hF hI1 hS1 hv.1 hR0 (am_back hJ.2.2.2.2.1 hJ.2.2.2.2.2) mlL_240 rfl rfl ⟨by decide, by decide⟩ (Nat.le_of_ble_eq_true rfl) dL_law_1905 (fun v2 A2 H2 locs2 hk2 hI2 hS2 => ?_)
  obtain ⟨hJS, u, -, e1, e2⟩ := hJ.a hk1 hk2 (n4_t1 _) (fun z => by rw [an_back (t0 := xs (i + 1)) (hJ.2.2.2.2.2 z)]; decide)
  rw [hu1] at e1
  cases e1
  subst e2
  refine W.eq (g2 := F0 m 1908 ls [_, _]) rfl ?_
  refine lv_icmp_eq (tgt := 2007) hF.1 hF.2.1 dL_law_1908 (by decide) (fun _ => ?_) (fun z => absurd rfl z)
  exact nxt _ _ _ _ _ _ _ _ _ _ _ hI2 hJS hS2 hv (Nat.le_add_right _ _) (Nat.le_add_right _ _)
set_option maxRecDepth 4000 in
theorem law_54 {p : Program} {l : Launch} {e : Env} {s : State} {m : MethodId} {below : List Frame} {meth : Method} {c : Code} {b L i : Nat} {xs : Nat → Int32} {H : Heap} {locs : List Loc} {ce sl : Nat} {Q : State → Prop} {D : va_G} {aC : Nat → ClassId} {ρ : Nat → Nat} {ls : Array Slot} {r : Value} {hw : Bool} {Ac Am : AH} {qo : Nat} {f : Nat → Int64} {w : WT} {sN : Nat → Nat} {HH II : Nat → Nat → Nat} {nx cN mN fN : Nat} {pl : Int32} {n0 : Nat} {tp : Nat → Int32} {tN : Nat} (hF : CallFix p m c code 7 s #[Value.ref b] TW RL) (hX : va_X b L xs s s.heap) (hbl : b < s.heap.size) (hL : L ≤ 3072) (hi : i + 5 < L) (hI : LI D aC s ρ r hw Ac Am qo f H) (hJ : JT w sN HH II nx cN mN fN pl n0 tp tN hw Ac Am) (hS : va_S (BL s) s.heap H locs) (hv : lv_has ls 7 (lvL b ρ qo i)) (hR : ce + 22 ≤ room_1.cells ∧ sl + 181 ≤ room_1.slots) (nxt : NX p l e s m below meth c b D aC qo i ce sl Q) : W p l e room_1 s m #[Value.ref b] below meth c H locs ce sl Q (F0 m 1969 ls []) := by
  have hR0 : ce ≤ room_1.cells ∧ sl ≤ room_1.slots := ⟨by omega, by omega⟩
  refine lv_aload_n hF.1 hF.2.1 dL_law_1969 rfl (lv_at hv 3 rfl) ?_
  refine ls_arg (k := 1) (q := 1976) hF hX hbl hS hv (by omega) hL rfl rfl dL_law_1970 dL_law_1971 dL_law_1973 dL_law_1974 dL_law_1975 ?_
  refine lC (As := [.int (xs (i + 1))]) (rest := []) hF hI hS hv.1 hR0 (ec_size hJ) mlL_250 rfl rfl ⟨by decide, by decide⟩ (Nat.le_of_ble_eq_true rfl) dL_law_1976 (fun v1 A1 H1 locs1 hk1 hI1 hS1 => ?_)
  obtain ⟨rfl, rfl⟩ := hk1
  refine W.eq (g2 := F0 m 1979 ls [_]) rfl ?_
  refine lv_aload_n hF.1 hF.2.1 dL_law_1979 rfl (lv_at hv 2 rfl) ?_
  refine ls_arg (k := 1) (q := 1986) hF hX hbl hS1 hv (by omega) hL rfl rfl dL_law_1980 dL_law_1981 dL_law_1983 dL_law_1984 dL_law_1985 ?_
  refine lM (As := [.int (xs (i + 1))]) (rest := [_]) hF hI1 hS1 hv.1 hR0 (em_size hJ) mlL_253 rfl rfl ⟨by decide, by decide⟩ (Nat.le_of_ble_eq_true rfl) dL_law_1986 (fun v2 A2 H2 locs2 hk2 hI2 hS2 => ?_)
  obtain ⟨rfl, rfl⟩ := hk2
  refine W.eq (g2 := F0 m 1989 ls [_, _]) rfl ?_
  refine lv_icmp_eq (tgt := 2007) hF.1 hF.2.1 dL_law_1989 (by decide) (fun _ => ?_) (fun z => absurd rfl z)
  exact nxt _ _ _ _ _ _ _ _ _ _ _ hI2 ⟨_, _, _, _, _, _, _, _, _, _, _, _, hJ.m0⟩ hS2 hv (Nat.le_add_right _ _) (Nat.le_add_right _ _)
set_option maxRecDepth 4000 in
theorem law_55 {p : Program} {l : Launch} {e : Env} {s : State} {m : MethodId} {below : List Frame} {meth : Method} {c : Code} {b L i : Nat} {xs : Nat → Int32} {H : Heap} {locs : List Loc} {ce sl : Nat} {Q : State → Prop} {D : va_G} {aC : Nat → ClassId} {ρ : Nat → Nat} {ls : Array Slot} {r : Value} {hw : Bool} {Ac Am : AH} {qo : Nat} {f : Nat → Int64} {w : WT} {sN : Nat → Nat} {HH II : Nat → Nat → Nat} {nx cN mN fN : Nat} {pl : Int32} {n0 : Nat} {tp : Nat → Int32} {tN : Nat} (hF : CallFix p m c code 7 s #[Value.ref b] TW RL) (hX : va_X b L xs s s.heap) (hbl : b < s.heap.size) (hL : L ≤ 3072) (hi : i + 5 < L) (hI : LI D aC s ρ r hw Ac Am qo f H) (hJ : JT w sN HH II nx cN mN fN pl n0 tp tN hw Ac Am) (hS : va_S (BL s) s.heap H locs) (hv : lv_has ls 7 (lvL b ρ qo i)) (hR : ce + 22 ≤ room_1.cells ∧ sl + 181 ≤ room_1.slots) (nxt : NX p l e s m below meth c b D aC qo i ce sl Q) : W p l e room_1 s m #[Value.ref b] below meth c H locs ce sl Q (F0 m 1994 ls []) := by
  have hR0 : ce ≤ room_1.cells ∧ sl ≤ room_1.slots := ⟨by omega, by omega⟩
  refine lv_aload_n hF.1 hF.2.1 dL_law_1994 rfl (lv_at hv 3 rfl) ?_
  refine lC (As := []) (rest := []) hF hI hS hv.1 hR0 (ec_trouble hJ) mlL_254 rfl rfl ⟨by decide, by decide⟩ (Nat.le_of_ble_eq_true rfl) dL_law_1995 (fun v1 A1 H1 locs1 hk1 hI1 hS1 => ?_)
  obtain ⟨rfl, rfl⟩ := hk1
  refine W.eq (g2 := F0 m 1998 ls [_]) rfl ?_
  refine lv_aload_n hF.1 hF.2.1 dL_law_1998 rfl (lv_at hv 2 rfl) ?_
  refine lM (As := []) (rest := [_]) hF hI1 hS1 hv.1 hR0 (em_trouble hJ) mlL_257 rfl rfl ⟨by decide, by decide⟩ (Nat.le_of_ble_eq_true rfl) dL_law_1999 (fun v2 A2 H2 locs2 hk2 hI2 hS2 => ?_)
  obtain ⟨rfl, rfl⟩ := hk2
  refine W.eq (g2 := F0 m 2002 ls [_, _]) rfl ?_
  refine lv_icmp_eq (tgt := 2007) hF.1 hF.2.1 dL_law_2002 (by decide) (fun _ => ?_) (fun z => absurd rfl z)
  exact nxt _ _ _ _ _ _ _ _ _ _ _ hI2 ⟨_, _, _, _, _, _, _, _, _, _, _, _, hJ.m0⟩ hS2 hv (Nat.le_add_right _ _) (Nat.le_add_right _ _)
