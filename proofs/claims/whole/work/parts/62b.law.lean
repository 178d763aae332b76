set_option maxHeartbeats 4000000 in
set_option maxRecDepth 100000 in
/-- the turn that calls spoil -/
theorem l_spoil {p : Program} {e : Env} {s : State} {m : MethodId} {below : List Frame} {meth : Method} {c : Code} (l : Launch) {b L : Nat} {xs : Nat → Int32} (hL : L ≤ 2560) (C0 : lw_At p s m meth c b L xs) (G : mm_G) (hC : mm_C G (fun q : Nat => s.heap.size ≤ q) s) (X Y k : Nat) (hk : k < 512) (hkL : 5 * k + 5 ≤ L) (M1 : mm_M) (H : Heap) (locs : List Loc) (ls : Array Slot) (hj : jI G M1 X Y k) (hR : mm_R G s (fun q : Nat => s.heap.size ≤ q) M1 H locs) (hl : lv_has ls 4 [(0, .ref b), (1, .ref X), (2, .ref Y), (3, .int (nI (5 * k)))]) (kk : ∀ (M2 : mm_M) (H : Heap) (locs : List Loc) (ls : Array Slot), jI G M2 X Y (k + 1) → mm_R G s (fun q : Nat => s.heap.size ≤ q) M2 H locs → lv_has ls 4 [(0, .ref b), (1, .ref X), (2, .ref Y), (3, .int (nI (5 * k)))] → W p l e room_1 s m #[Value.ref b] below meth c H locs (100 + 16 * (k + 1)) (10000 + 2582 * (k + 1)) (lw_Z below #[Value.ref b] s) (F0 m 603 ls [])) : W p l e room_1 s m #[Value.ref b] below meth c H locs (100 + 16 * k) (10000 + 2582 * k) (lw_Z below #[Value.ref b] s) (F0 m 372 ls []) := by
  obtain ⟨hx, hb, hr, hml, hown, hts, hX, hbl, hlocks, hgv⟩ := id C0
  have S : CallFix p m c cL_law 4 s ([.ref b] : List Value).toArray wsL_law RL := ⟨hx, hb, hml, hown, fun w hw => hts w (wsL_law_in w hw)⟩
  have hA : ∀ q : Nat, s.heap.size ≤ q → (fun q : Nat => s.heap.size ≤ q) q := fun _ h => h
  obtain ⟨ad, md, cl, ll, chg, wl, sp, co, lr, sh, rem, nw, wst, wfc, wfl, wtn, wln, no, op, dc, eX, eY, hno, hj⟩ := hj
  subst eX eY
  obtain ⟨hxa, hI, hN, h18, hya, hJ, hyN, hd, hh⟩ := id hj
  have hX0 := hxa.1
  have hF : mm_fr [] M1 M1 := mm_fr.rf
  refine lv_aload_n hx hb dL_law_372 rfl (lv_at hl 1 rfl) ?_
  refine lv_aload_n hx hb dL_law_373 rfl (lv_at hl 0 rfl) ?_
  refine lv_iload_n hx hb dL_law_374 rfl (lv_at hl 3 rfl) ?_
  refine lv_iconst (v := nI 1) hx hb dL_law_375 (by decide) ?_
  refine lv_iadd hx hb dL_law_376 ?_
  refine mm_eqi (nI_add _ _) ?_
  refine lw_sld hx hb hX hbl hR (j := (5 * k + 1)) (by omega) hL dL_law_377 ?_
  refine lv_aload_n hx hb dL_law_378 rfl (lv_at hl 0 rfl) ?_
  refine lv_iload_n hx hb dL_law_379 rfl (lv_at hl 3 rfl) ?_
  refine lv_iconst (v := nI 2) hx hb dL_law_380 (by decide) ?_
  refine lv_iadd hx hb dL_law_381 ?_
  refine mm_eqi (nI_add _ _) ?_
  refine lw_sld hx hb hX hbl hR (j := (5 * k + 2)) (by omega) hL dL_law_382 ?_
  refine lv_aload_n hx hb dL_law_383 rfl (lv_at hl 0 rfl) ?_
  refine lv_iload_n hx hb dL_law_384 rfl (lv_at hl 3 rfl) ?_
  refine lv_iconst (v := nI 3) hx hb dL_law_385 (by decide) ?_
  refine lv_iadd hx hb dL_law_386 ?_
  refine mm_eqi (nI_add _ _) ?_
  refine lw_sld hx hb hX hbl hR (j := (5 * k + 3)) (by omega) hL dL_law_387 ?_
  refine lv_aload_n hx hb dL_law_388 rfl (lv_at hl 0 rfl) ?_
  refine lv_iload_n hx hb dL_law_389 rfl (lv_at hl 3 rfl) ?_
  refine lv_iconst (v := nI 4) hx hb dL_law_390 (by decide) ?_
  refine lv_iadd hx hb dL_law_391 ?_
  refine mm_eqi (nI_add _ _) ?_
  refine lw_sld hx hb hX hbl hR (j := (5 * k + 4)) (by omega) hL dL_law_392 ?_
  refine mm_calli hA hR (va_runV (As := [.int (xs (5 * k + 1)), .int (xs (5 * k + 2)), .int (xs (5 * k + 3)), .int (xs (5 * k + 4))]) (rest := []) S (c_X8_spoil l G M1 _ ad cl ll chg wl sp co lr sh rem nw wst wfc wfl wtn wln no op dc (xs (5 * k + 1)) (xs (5 * k + 2)) (xs (5 * k + 3)) (xs (5 * k + 4)) hxa hI hN h18) (cwV 4 S.2.2.2.2 gL_law_X8_spoil rfl rfl rfl (by decide +kernel) ⟨Nat.le_of_ble_eq_true rfl, Nat.le_of_ble_eq_true rfl⟩) (mm_preV hC hA hR _ hX0 rfl) rfl rfl hl.1 rfl (lv_room (Nat.le_of_ble_eq_true rfl)) dL_law_393 ⟨by show 100 + 16 * k + 0 ≤ 763966; omega, by show 10000 + 2582 * k + 0 ≤ 6810350; omega⟩) (fun r33 M34 H locs hp hR => ?_)
  have hyk := fun (r2 : Int32) (M2 : mm_M) => j_spoil (r2 := r2) (M2 := M2) hj rfl rfl hno hk hp
  have hy1 := (hyk 0 M34).1
  obtain ⟨⟨v22, f9, d9, hS9⟩, -⟩ := id hy1
  have hY0 := hS9.1
  refine lv_aload_n hx hb dL_law_396 rfl (lv_at hl 2 rfl) ?_
  refine lv_aload_n hx hb dL_law_397 rfl (lv_at hl 0 rfl) ?_
  refine lv_iload_n hx hb dL_law_398 rfl (lv_at hl 3 rfl) ?_
  refine lv_iconst (v := nI 1) hx hb dL_law_399 (by decide) ?_
  refine lv_iadd hx hb dL_law_400 ?_
  refine mm_eqi (nI_add _ _) ?_
  refine lw_sld hx hb hX hbl hR (j := (5 * k + 1)) (by omega) hL dL_law_401 ?_
  refine lv_aload_n hx hb dL_law_402 rfl (lv_at hl 0 rfl) ?_
  refine lv_iload_n hx hb dL_law_403 rfl (lv_at hl 3 rfl) ?_
  refine lv_iconst (v := nI 2) hx hb dL_law_404 (by decide) ?_
  refine lv_iadd hx hb dL_law_405 ?_
  refine mm_eqi (nI_add _ _) ?_
  refine lw_sld hx hb hX hbl hR (j := (5 * k + 2)) (by omega) hL dL_law_406 ?_
  refine lv_aload_n hx hb dL_law_407 rfl (lv_at hl 0 rfl) ?_
  refine lv_iload_n hx hb dL_law_408 rfl (lv_at hl 3 rfl) ?_
  refine lv_iconst (v := nI 3) hx hb dL_law_409 (by decide) ?_
  refine lv_iadd hx hb dL_law_410 ?_
  refine mm_eqi (nI_add _ _) ?_
  refine lw_sld hx hb hX hbl hR (j := (5 * k + 3)) (by omega) hL dL_law_411 ?_
  refine lv_aload_n hx hb dL_law_412 rfl (lv_at hl 0 rfl) ?_
  refine lv_iload_n hx hb dL_law_413 rfl (lv_at hl 3 rfl) ?_
  refine lv_iconst (v := nI 4) hx hb dL_law_414 (by decide) ?_
  refine lv_iadd hx hb dL_law_415 ?_
  refine mm_eqi (nI_add _ _) ?_
  refine lw_sld hx hb hX hbl hR (j := (5 * k + 4)) (by omega) hL dL_law_416 ?_
  refine mm_calli hA hR (va_runV (As := [.int (xs (5 * k + 1)), .int (xs (5 * k + 2)), .int (xs (5 * k + 3)), .int (xs (5 * k + 4))]) (rest := [.int r33]) S (c_X9_spoil l G M34 _ md cl ll wl sp co lr sh rem nw wst wfc wln (xs (5 * k + 1)) (xs (5 * k + 2)) (xs (5 * k + 3)) (xs (5 * k + 4)) hy1 hJ hyN) (cwV 4 S.2.2.2.2 gL_law_X9_spoil rfl rfl rfl (by decide +kernel) ⟨Nat.le_of_ble_eq_true rfl, Nat.le_of_ble_eq_true rfl⟩) (mm_preV hC hA hR _ hY0 rfl) rfl rfl hl.1 rfl (lv_room (Nat.le_of_ble_eq_true rfl)) dL_law_417 ⟨by show 100 + 16 * k + 0 + 0 ≤ 763966; omega, by show 10000 + 2582 * k + 0 + 0 ≤ 6810350; omega⟩) (fun r35 M36 H locs hp2 hR => ?_)
  obtain ⟨er, hj2⟩ := (hyk _ _).2 hp2
  subst er
  refine lv_icmp_eq (tgt := 603) hx hb dL_law_420 (by decide) (fun _ => ?_) (fun z => absurd rfl z)
  refine W.widen (k := 100 + 16 * (k + 1)) (n := 10000 + 2582 * (k + 1)) (by show 100 + 16 * k + 0 + 0 ≤ 100 + 16 * (k + 1); omega) (by show 10000 + 2582 * k + 0 + 0 ≤ 10000 + 2582 * (k + 1); omega) ?_
  exact kk _ H locs ls hj2 hR hl

set_option maxHeartbeats 4000000 in
set_option maxRecDepth 100000 in
/-- the turn that calls exchange -/
theorem l_exchange {p : Program} {e : Env} {s : State} {m : MethodId} {below : List Frame} {meth : Method} {c : Code} (l : Launch) {b L : Nat} {xs : Nat → Int32} (hL : L ≤ 2560) (C0 : lw_At p s m meth c b L xs) (G : mm_G) (hC : mm_C G (fun q : Nat => s.heap.size ≤ q) s) (X Y k : Nat) (hk : k < 512) (hkL : 5 * k + 5 ≤ L) (M1 : mm_M) (H : Heap) (locs : List Loc) (ls : Array Slot) (hj : jI G M1 X Y k) (hR : mm_R G s (fun q : Nat => s.heap.size ≤ q) M1 H locs) (hl : lv_has ls 4 [(0, .ref b), (1, .ref X), (2, .ref Y), (3, .int (nI (5 * k)))]) (kk : ∀ (M2 : mm_M) (H : Heap) (locs : List Loc) (ls : Array Slot), jI G M2 X Y (k + 1) → mm_R G s (fun q : Nat => s.heap.size ≤ q) M2 H locs → lv_has ls 4 [(0, .ref b), (1, .ref X), (2, .ref Y), (3, .int (nI (5 * k)))] → W p l e room_1 s m #[Value.ref b] below meth c H locs (100 + 16 * (k + 1)) (10000 + 2582 * (k + 1)) (lw_Z below #[Value.ref b] s) (F0 m 603 ls [])) : W p l e room_1 s m #[Value.ref b] below meth c H locs (100 + 16 * k) (10000 + 2582 * k) (lw_Z below #[Value.ref b] s) (F0 m 425 ls []) := by
  obtain ⟨hx, hb, hr, hml, hown, hts, hX, hbl, hlocks, hgv⟩ := id C0
  have S : CallFix p m c cL_law 4 s ([.ref b] : List Value).toArray wsL_law RL := ⟨hx, hb, hml, hown, fun w hw => hts w (wsL_law_in w hw)⟩
  have hA : ∀ q : Nat, s.heap.size ≤ q → (fun q : Nat => s.heap.size ≤ q) q := fun _ h => h
  obtain ⟨ad, md, cl, ll, chg, wl, sp, co, lr, sh, rem, nw, wst, wfc, wfl, wtn, wln, no, op, dc, eX, eY, hno, hj⟩ := hj
  subst eX eY
  obtain ⟨hxa, hI, hN, h18, hya, hJ, hyN, hd, hh⟩ := id hj
  have hX0 := hxa.1
  have hF : mm_fr [] M1 M1 := mm_fr.rf
  refine lv_aload_n hx hb dL_law_425 rfl (lv_at hl 1 rfl) ?_
  refine lv_aload_n hx hb dL_law_426 rfl (lv_at hl 0 rfl) ?_
  refine lv_iload_n hx hb dL_law_427 rfl (lv_at hl 3 rfl) ?_
  refine lv_iconst (v := nI 1) hx hb dL_law_428 (by decide) ?_
  refine lv_iadd hx hb dL_law_429 ?_
  refine mm_eqi (nI_add _ _) ?_
  refine lw_sld hx hb hX hbl hR (j := (5 * k + 1)) (by omega) hL dL_law_430 ?_
  refine lv_aload_n hx hb dL_law_431 rfl (lv_at hl 0 rfl) ?_
  refine lv_iload_n hx hb dL_law_432 rfl (lv_at hl 3 rfl) ?_
  refine lv_iconst (v := nI 2) hx hb dL_law_433 (by decide) ?_
  refine lv_iadd hx hb dL_law_434 ?_
  refine mm_eqi (nI_add _ _) ?_
  refine lw_sld hx hb hX hbl hR (j := (5 * k + 2)) (by omega) hL dL_law_435 ?_
  refine mm_calli hA hR (va_runV (As := [.int (xs (5 * k + 1)), .int (xs (5 * k + 2))]) (rest := []) S (c_X8_exchange l G M1 _ ad cl ll chg wl sp co lr sh rem nw wst wfc wfl wtn wln no op dc (xs (5 * k + 1)) (xs (5 * k + 2)) hxa hI hN h18) (cwV 2 S.2.2.2.2 gL_law_X8_exchange rfl rfl rfl (by decide +kernel) ⟨Nat.le_of_ble_eq_true rfl, Nat.le_of_ble_eq_true rfl⟩) (mm_preV hC hA hR _ hX0 rfl) rfl rfl hl.1 rfl (lv_room (Nat.le_of_ble_eq_true rfl)) dL_law_436 ⟨by show 100 + 16 * k + 0 ≤ 763966; omega, by show 10000 + 2582 * k + 0 ≤ 6810350; omega⟩) (fun r37 M38 H locs hp hR => ?_)
  have hyk := fun (r2 : Int32) (M2 : mm_M) => j_exchange (r2 := r2) (M2 := M2) hj rfl rfl hno hk hp
  have hy1 := (hyk 0 M38).1
  obtain ⟨⟨v22, f9, d9, hS9⟩, -⟩ := id hy1
  have hY0 := hS9.1
  refine lv_aload_n hx hb dL_law_439 rfl (lv_at hl 2 rfl) ?_
  refine lv_aload_n hx hb dL_law_440 rfl (lv_at hl 0 rfl) ?_
  refine lv_iload_n hx hb dL_law_441 rfl (lv_at hl 3 rfl) ?_
  refine lv_iconst (v := nI 1) hx hb dL_law_442 (by decide) ?_
  refine lv_iadd hx hb dL_law_443 ?_
  refine mm_eqi (nI_add _ _) ?_
  refine lw_sld hx hb hX hbl hR (j := (5 * k + 1)) (by omega) hL dL_law_444 ?_
  refine lv_aload_n hx hb dL_law_445 rfl (lv_at hl 0 rfl) ?_
  refine lv_iload_n hx hb dL_law_446 rfl (lv_at hl 3 rfl) ?_
  refine lv_iconst (v := nI 2) hx hb dL_law_447 (by decide) ?_
  refine lv_iadd hx hb dL_law_448 ?_
  refine mm_eqi (nI_add _ _) ?_
  refine lw_sld hx hb hX hbl hR (j := (5 * k + 2)) (by omega) hL dL_law_449 ?_
  refine mm_calli hA hR (va_runV (As := [.int (xs (5 * k + 1)), .int (xs (5 * k + 2))]) (rest := [.int r37]) S (c_X9_exchange l G M38 _ md cl ll wl sp co lr sh rem nw wst wfc wln (xs (5 * k + 1)) (xs (5 * k + 2)) hy1 hJ hyN) (cwV 2 S.2.2.2.2 gL_law_X9_exchange rfl rfl rfl (by decide +kernel) ⟨Nat.le_of_ble_eq_true rfl, Nat.le_of_ble_eq_true rfl⟩) (mm_preV hC hA hR _ hY0 rfl) rfl rfl hl.1 rfl (lv_room (Nat.le_of_ble_eq_true rfl)) dL_law_450 ⟨by show 100 + 16 * k + 0 + 0 ≤ 763966; omega, by show 10000 + 2582 * k + 0 + 0 ≤ 6810350; omega⟩) (fun r39 M40 H locs hp2 hR => ?_)
  obtain ⟨er, hj2⟩ := (hyk _ _).2 hp2
  subst er
  refine lv_icmp_eq (tgt := 603) hx hb dL_law_453 (by decide) (fun _ => ?_) (fun z => absurd rfl z)
  refine W.widen (k := 100 + 16 * (k + 1)) (n := 10000 + 2582 * (k + 1)) (by show 100 + 16 * k + 0 + 0 ≤ 100 + 16 * (k + 1); omega) (by show 10000 + 2582 * k + 0 + 0 ≤ 10000 + 2582 * (k + 1); omega) ?_
  exact kk _ H locs ls hj2 hR hl

set_option maxHeartbeats 4000000 in
set_option maxRecDepth 100000 in
/-- the turn that calls statement -/
theorem l_statement {p : Program} {e : Env} {s : State} {m : MethodId} {below : List Frame} {meth : Method} {c : Code} (l : Launch) {b L : Nat} {xs : Nat → Int32} (hL : L ≤ 2560) (C0 : lw_At p s m meth c b L xs) (G : mm_G) (hC : mm_C G (fun q : Nat => s.heap.size ≤ q) s) (X Y k : Nat) (hk : k < 512) (hkL : 5 * k + 5 ≤ L) (M1 : mm_M) (H : Heap) (locs : List Loc) (ls : Array Slot) (hj : jI G M1 X Y k) (hR : mm_R G s (fun q : Nat => s.heap.size ≤ q) M1 H locs) (hl : lv_has ls 4 [(0, .ref b), (1, .ref X), (2, .ref Y), (3, .int (nI (5 * k)))]) (kk : ∀ (M2 : mm_M) (H : Heap) (locs : List Loc) (ls : Array Slot), jI G M2 X Y (k + 1) → mm_R G s (fun q : Nat => s.heap.size ≤ q) M2 H locs → lv_has ls 4 [(0, .ref b), (1, .ref X), (2, .ref Y), (3, .int (nI (5 * k)))] → W p l e room_1 s m #[Value.ref b] below meth c H locs (100 + 16 * (k + 1)) (10000 + 2582 * (k + 1)) (lw_Z below #[Value.ref b] s) (F0 m 603 ls [])) : W p l e room_1 s m #[Value.ref b] below meth c H locs (100 + 16 * k) (10000 + 2582 * k) (lw_Z below #[Value.ref b] s) (F0 m 458 ls []) := by
  obtain ⟨hx, hb, hr, hml, hown, hts, hX, hbl, hlocks, hgv⟩ := id C0
  have S : CallFix p m c cL_law 4 s ([.ref b] : List Value).toArray wsL_law RL := ⟨hx, hb, hml, hown, fun w hw => hts w (wsL_law_in w hw)⟩
  have hA : ∀ q : Nat, s.heap.size ≤ q → (fun q : Nat => s.heap.size ≤ q) q := fun _ h => h
  obtain ⟨ad, md, cl, ll, chg, wl, sp, co, lr, sh, rem, nw, wst, wfc, wfl, wtn, wln, no, op, dc, eX, eY, hno, hj⟩ := hj
  subst eX eY
  obtain ⟨hxa, hI, hN, h18, hya, hJ, hyN, hd, hh⟩ := id hj
  have hX0 := hxa.1
  have hF : mm_fr [] M1 M1 := mm_fr.rf
  refine lv_aload_n hx hb dL_law_458 rfl (lv_at hl 1 rfl) ?_
  refine lv_aload_n hx hb dL_law_459 rfl (lv_at hl 0 rfl) ?_
  refine lv_iload_n hx hb dL_law_460 rfl (lv_at hl 3 rfl) ?_
  refine lv_iconst (v := nI 1) hx hb dL_law_461 (by decide) ?_
  refine lv_iadd hx hb dL_law_462 ?_
  refine mm_eqi (nI_add _ _) ?_
  refine lw_sld hx hb hX hbl hR (j := (5 * k + 1)) (by omega) hL dL_law_463 ?_
  refine lv_aload_n hx hb dL_law_464 rfl (lv_at hl 0 rfl) ?_
  refine lv_iload_n hx hb dL_law_465 rfl (lv_at hl 3 rfl) ?_
  refine lv_iconst (v := nI 2) hx hb dL_law_466 (by decide) ?_
  refine lv_iadd hx hb dL_law_467 ?_
  refine mm_eqi (nI_add _ _) ?_
  refine lw_sld hx hb hX hbl hR (j := (5 * k + 2)) (by omega) hL dL_law_468 ?_
  refine lv_aload_n hx hb dL_law_469 rfl (lv_at hl 0 rfl) ?_
  refine lv_iload_n hx hb dL_law_470 rfl (lv_at hl 3 rfl) ?_
  refine lv_iconst (v := nI 3) hx hb dL_law_471 (by decide) ?_
  refine lv_iadd hx hb dL_law_472 ?_
  refine mm_eqi (nI_add _ _) ?_
  refine lw_sld hx hb hX hbl hR (j := (5 * k + 3)) (by omega) hL dL_law_473 ?_
  refine mm_calli hA hR (va_runV (As := [.int (xs (5 * k + 1)), .int (xs (5 * k + 2)), .int (xs (5 * k + 3))]) (rest := []) S (c_X8_statement l G M1 _ ad cl ll chg wl sp co lr sh rem nw wst wfc wfl wtn wln no op dc (xs (5 * k + 1)) (xs (5 * k + 2)) (xs (5 * k + 3)) hxa hI hN h18) (cwV 3 S.2.2.2.2 gL_law_X8_statement rfl rfl rfl (by decide +kernel) ⟨Nat.le_of_ble_eq_true rfl, Nat.le_of_ble_eq_true rfl⟩) (mm_preV hC hA hR _ hX0 rfl) rfl rfl hl.1 rfl (lv_room (Nat.le_of_ble_eq_true rfl)) dL_law_474 ⟨by show 100 + 16 * k + 0 ≤ 763966; omega, by show 10000 + 2582 * k + 0 ≤ 6810350; omega⟩) (fun r41 M42 H locs hp hR => ?_)
  have hyk := fun (r2 : Int32) (M2 : mm_M) => j_statement (r2 := r2) (M2 := M2) hj rfl rfl hno hk hp
  have hy1 := (hyk 0 M42).1
  obtain ⟨⟨v22, f9, d9, hS9⟩, -⟩ := id hy1
  have hY0 := hS9.1
  refine lv_aload_n hx hb dL_law_477 rfl (lv_at hl 2 rfl) ?_
  refine lv_aload_n hx hb dL_law_478 rfl (lv_at hl 0 rfl) ?_
  refine lv_iload_n hx hb dL_law_479 rfl (lv_at hl 3 rfl) ?_
  refine lv_iconst (v := nI 1) hx hb dL_law_480 (by decide) ?_
  refine lv_iadd hx hb dL_law_481 ?_
  refine mm_eqi (nI_add _ _) ?_
  refine lw_sld hx hb hX hbl hR (j := (5 * k + 1)) (by omega) hL dL_law_482 ?_
  refine lv_aload_n hx hb dL_law_483 rfl (lv_at hl 0 rfl) ?_
  refine lv_iload_n hx hb dL_law_484 rfl (lv_at hl 3 rfl) ?_
  refine lv_iconst (v := nI 2) hx hb dL_law_485 (by decide) ?_
  refine lv_iadd hx hb dL_law_486 ?_
  refine mm_eqi (nI_add _ _) ?_
  refine lw_sld hx hb hX hbl hR (j := (5 * k + 2)) (by omega) hL dL_law_487 ?_
  refine lv_aload_n hx hb dL_law_488 rfl (lv_at hl 0 rfl) ?_
  refine lv_iload_n hx hb dL_law_489 rfl (lv_at hl 3 rfl) ?_
  refine lv_iconst (v := nI 3) hx hb dL_law_490 (by decide) ?_
  refine lv_iadd hx hb dL_law_491 ?_
  refine mm_eqi (nI_add _ _) ?_
  refine lw_sld hx hb hX hbl hR (j := (5 * k + 3)) (by omega) hL dL_law_492 ?_
  refine mm_calli hA hR (va_runV (As := [.int (xs (5 * k + 1)), .int (xs (5 * k + 2)), .int (xs (5 * k + 3))]) (rest := [.int r41]) S (c_X9_statement l G M42 _ md cl ll wl sp co lr sh rem nw wst wfc wln (xs (5 * k + 1)) (xs (5 * k + 2)) (xs (5 * k + 3)) hy1 hJ hyN) (cwV 3 S.2.2.2.2 gL_law_X9_statement rfl rfl rfl (by decide +kernel) ⟨Nat.le_of_ble_eq_true rfl, Nat.le_of_ble_eq_true rfl⟩) (mm_preV hC hA hR _ hY0 rfl) rfl rfl hl.1 rfl (lv_room (Nat.le_of_ble_eq_true rfl)) dL_law_493 ⟨by show 100 + 16 * k + 0 + 0 ≤ 763966; omega, by show 10000 + 2582 * k + 0 + 0 ≤ 6810350; omega⟩) (fun r43 M44 H locs hp2 hR => ?_)
  obtain ⟨er, hj2⟩ := (hyk _ _).2 hp2
  subst er
  refine lv_icmp_eq (tgt := 603) hx hb dL_law_496 (by decide) (fun _ => ?_) (fun z => absurd rfl z)
  refine W.widen (k := 100 + 16 * (k + 1)) (n := 10000 + 2582 * (k + 1)) (by show 100 + 16 * k + 0 + 0 ≤ 100 + 16 * (k + 1); omega) (by show 10000 + 2582 * k + 0 + 0 ≤ 10000 + 2582 * (k + 1); omega) ?_
  exact kk _ H locs ls hj2 hR hl

set_option maxHeartbeats 4000000 in
set_option maxRecDepth 100000 in
/-- the turn that calls seen -/
theorem l_seen {p : Program} {e : Env} {s : State} {m : MethodId} {below : List Frame} {meth : Method} {c : Code} (l : Launch) {b L : Nat} {xs : Nat → Int32} (hL : L ≤ 2560) (C0 : lw_At p s m meth c b L xs) (G : mm_G) (hC : mm_C G (fun q : Nat => s.heap.size ≤ q) s) (X Y k : Nat) (hk : k < 512) (hkL : 5 * k + 5 ≤ L) (M1 : mm_M) (H : Heap) (locs : List Loc) (ls : Array Slot) (hj : jI G M1 X Y k) (hR : mm_R G s (fun q : Nat => s.heap.size ≤ q) M1 H locs) (hl : lv_has ls 4 [(0, .ref b), (1, .ref X), (2, .ref Y), (3, .int (nI (5 * k)))]) (kk : ∀ (M2 : mm_M) (H : Heap) (locs : List Loc) (ls : Array Slot), jI G M2 X Y (k + 1) → mm_R G s (fun q : Nat => s.heap.size ≤ q) M2 H locs → lv_has ls 4 [(0, .ref b), (1, .ref X), (2, .ref Y), (3, .int (nI (5 * k)))] → W p l e room_1 s m #[Value.ref b] below meth c H locs (100 + 16 * (k + 1)) (10000 + 2582 * (k + 1)) (lw_Z below #[Value.ref b] s) (F0 m 603 ls [])) : W p l e room_1 s m #[Value.ref b] below meth c H locs (100 + 16 * k) (10000 + 2582 * k) (lw_Z below #[Value.ref b] s) (F0 m 501 ls []) := by
  obtain ⟨hx, hb, hr, hml, hown, hts, hX, hbl, hlocks, hgv⟩ := id C0
  have S : CallFix p m c cL_law 4 s ([.ref b] : List Value).toArray wsL_law RL := ⟨hx, hb, hml, hown, fun w hw => hts w (wsL_law_in w hw)⟩
  have hA : ∀ q : Nat, s.heap.size ≤ q → (fun q : Nat => s.heap.size ≤ q) q := fun _ h => h
  obtain ⟨ad, md, cl, ll, chg, wl, sp, co, lr, sh, rem, nw, wst, wfc, wfl, wtn, wln, no, op, dc, eX, eY, hno, hj⟩ := hj
  subst eX eY
  obtain ⟨hxa, hI, hN, h18, hya, hJ, hyN, hd, hh⟩ := id hj
  have hX0 := hxa.1
  have hF : mm_fr [] M1 M1 := mm_fr.rf
  refine lv_aload_n hx hb dL_law_501 rfl (lv_at hl 1 rfl) ?_
  refine lv_aload_n hx hb dL_law_502 rfl (lv_at hl 0 rfl) ?_
  refine lv_iload_n hx hb dL_law_503 rfl (lv_at hl 3 rfl) ?_
  refine lv_iconst (v := nI 1) hx hb dL_law_504 (by decide) ?_
  refine lv_iadd hx hb dL_law_505 ?_
  refine mm_eqi (nI_add _ _) ?_
  refine lw_sld hx hb hX hbl hR (j := (5 * k + 1)) (by omega) hL dL_law_506 ?_
  refine lv_aload_n hx hb dL_law_507 rfl (lv_at hl 0 rfl) ?_
  refine lv_iload_n hx hb dL_law_508 rfl (lv_at hl 3 rfl) ?_
  refine lv_iconst (v := nI 2) hx hb dL_law_509 (by decide) ?_
  refine lv_iadd hx hb dL_law_510 ?_
  refine mm_eqi (nI_add _ _) ?_
  refine lw_sld hx hb hX hbl hR (j := (5 * k + 2)) (by omega) hL dL_law_511 ?_
  refine mm_calli hA hR (va_runV (As := [.int (xs (5 * k + 1)), .int (xs (5 * k + 2))]) (rest := []) S (c_X8_seen l G M1 _ ad cl ll chg wl sp co lr sh rem nw wst wfc wfl wtn wln no op dc (xs (5 * k + 1)) (xs (5 * k + 2)) hxa hI hN h18) (cwV 2 S.2.2.2.2 gL_law_X8_seen rfl rfl rfl (by decide +kernel) ⟨Nat.le_of_ble_eq_true rfl, Nat.le_of_ble_eq_true rfl⟩) (mm_preV hC hA hR _ hX0 rfl) rfl rfl hl.1 rfl (lv_room (Nat.le_of_ble_eq_true rfl)) dL_law_512 ⟨by show 100 + 16 * k + 0 ≤ 763966; omega, by show 10000 + 2582 * k + 0 ≤ 6810350; omega⟩) (fun r45 M46 H locs hp hR => ?_)
  have hyk := fun (r2 : Int32) (M2 : mm_M) => j_seen (r2 := r2) (M2 := M2) hj rfl rfl hno hk hp
  have hy1 := (hyk 0 M46).1
  obtain ⟨⟨v22, f9, d9, hS9⟩, -⟩ := id hy1
  have hY0 := hS9.1
  refine lv_aload_n hx hb dL_law_515 rfl (lv_at hl 2 rfl) ?_
  refine lv_aload_n hx hb dL_law_516 rfl (lv_at hl 0 rfl) ?_
  refine lv_iload_n hx hb dL_law_517 rfl (lv_at hl 3 rfl) ?_
  refine lv_iconst (v := nI 1) hx hb dL_law_518 (by decide) ?_
  refine lv_iadd hx hb dL_law_519 ?_
  refine mm_eqi (nI_add _ _) ?_
  refine lw_sld hx hb hX hbl hR (j := (5 * k + 1)) (by omega) hL dL_law_520 ?_
  refine lv_aload_n hx hb dL_law_521 rfl (lv_at hl 0 rfl) ?_
  refine lv_iload_n hx hb dL_law_522 rfl (lv_at hl 3 rfl) ?_
  refine lv_iconst (v := nI 2) hx hb dL_law_523 (by decide) ?_
  refine lv_iadd hx hb dL_law_524 ?_
  refine mm_eqi (nI_add _ _) ?_
  refine lw_sld hx hb hX hbl hR (j := (5 * k + 2)) (by omega) hL dL_law_525 ?_
  refine mm_calli hA hR (va_runV (As := [.int (xs (5 * k + 1)), .int (xs (5 * k + 2))]) (rest := [.int r45]) S (c_X9_seen l G M46 _ md cl ll wl sp co lr sh rem nw wst wfc wln (xs (5 * k + 1)) (xs (5 * k + 2)) hy1 hJ hyN) (cwV 2 S.2.2.2.2 gL_law_X9_seen rfl rfl rfl (by decide +kernel) ⟨Nat.le_of_ble_eq_true rfl, Nat.le_of_ble_eq_true rfl⟩) (mm_preV hC hA hR _ hY0 rfl) rfl rfl hl.1 rfl (lv_room (Nat.le_of_ble_eq_true rfl)) dL_law_526 ⟨by show 100 + 16 * k + 0 + 0 ≤ 763966; omega, by show 10000 + 2582 * k + 0 + 0 ≤ 6810350; omega⟩) (fun r47 M48 H locs hp2 hR => ?_)
  obtain ⟨er, hj2⟩ := (hyk _ _).2 hp2
  subst er
  refine lv_icmp_eq (tgt := 603) hx hb dL_law_529 (by decide) (fun _ => ?_) (fun z => absurd rfl z)
  refine W.widen (k := 100 + 16 * (k + 1)) (n := 10000 + 2582 * (k + 1)) (by show 100 + 16 * k + 0 + 0 ≤ 100 + 16 * (k + 1); omega) (by show 10000 + 2582 * k + 0 + 0 ≤ 10000 + 2582 * (k + 1); omega) ?_
  exact kk _ H locs ls hj2 hR hl

set_option maxHeartbeats 4000000 in
set_option maxRecDepth 100000 in
/-- the turn that calls digest -/
theorem l_digest {p : Program} {e : Env} {s : State} {m : MethodId} {below : List Frame} {meth : Method} {c : Code} (l : Launch) {b L : Nat} {xs : Nat → Int32} (hL : L ≤ 2560) (C0 : lw_At p s m meth c b L xs) (G : mm_G) (hC : mm_C G (fun q : Nat => s.heap.size ≤ q) s) (X Y k : Nat) (hk : k < 512) (hkL : 5 * k + 5 ≤ L) (M1 : mm_M) (H : Heap) (locs : List Loc) (ls : Array Slot) (hj : jI G M1 X Y k) (hR : mm_R G s (fun q : Nat => s.heap.size ≤ q) M1 H locs) (hl : lv_has ls 4 [(0, .ref b), (1, .ref X), (2, .ref Y), (3, .int (nI (5 * k)))]) (kk : ∀ (M2 : mm_M) (H : Heap) (locs : List Loc) (ls : Array Slot), jI G M2 X Y (k + 1) → mm_R G s (fun q : Nat => s.heap.size ≤ q) M2 H locs → lv_has ls 4 [(0, .ref b), (1, .ref X), (2, .ref Y), (3, .int (nI (5 * k)))] → W p l e room_1 s m #[Value.ref b] below meth c H locs (100 + 16 * (k + 1)) (10000 + 2582 * (k + 1)) (lw_Z below #[Value.ref b] s) (F0 m 603 ls [])) : W p l e room_1 s m #[Value.ref b] below meth c H locs (100 + 16 * k) (10000 + 2582 * k) (lw_Z below #[Value.ref b] s) (F0 m 534 ls []) := by
  obtain ⟨hx, hb, hr, hml, hown, hts, hX, hbl, hlocks, hgv⟩ := id C0
  have S : CallFix p m c cL_law 4 s ([.ref b] : List Value).toArray wsL_law RL := ⟨hx, hb, hml, hown, fun w hw => hts w (wsL_law_in w hw)⟩
  have hA : ∀ q : Nat, s.heap.size ≤ q → (fun q : Nat => s.heap.size ≤ q) q := fun _ h => h
  obtain ⟨ad, md, cl, ll, chg, wl, sp, co, lr, sh, rem, nw, wst, wfc, wfl, wtn, wln, no, op, dc, eX, eY, hno, hj⟩ := hj
  subst eX eY
  obtain ⟨hxa, hI, hN, h18, hya, hJ, hyN, hd, hh⟩ := id hj
  have hX0 := hxa.1
  have hF : mm_fr [] M1 M1 := mm_fr.rf
  refine lv_aload_n hx hb dL_law_534 rfl (lv_at hl 1 rfl) ?_
  refine lv_aload_n hx hb dL_law_535 rfl (lv_at hl 0 rfl) ?_
  refine lv_iload_n hx hb dL_law_536 rfl (lv_at hl 3 rfl) ?_
  refine lv_iconst (v := nI 1) hx hb dL_law_537 (by decide) ?_
  refine lv_iadd hx hb dL_law_538 ?_
  refine mm_eqi (nI_add _ _) ?_
  refine lw_sld hx hb hX hbl hR (j := (5 * k + 1)) (by omega) hL dL_law_539 ?_
  refine lv_aload_n hx hb dL_law_540 rfl (lv_at hl 0 rfl) ?_
  refine lv_iload_n hx hb dL_law_541 rfl (lv_at hl 3 rfl) ?_
  refine lv_iconst (v := nI 2) hx hb dL_law_542 (by decide) ?_
  refine lv_iadd hx hb dL_law_543 ?_
  refine mm_eqi (nI_add _ _) ?_
  refine lw_sld hx hb hX hbl hR (j := (5 * k + 2)) (by omega) hL dL_law_544 ?_
  refine mm_calli hA hR (va_runV (As := [.int (xs (5 * k + 1)), .int (xs (5 * k + 2))]) (rest := []) S (c_X8_digest l G M1 _ ad cl ll chg wl sp co lr sh rem nw wst wfc wfl wtn wln no op dc (xs (5 * k + 1)) (xs (5 * k + 2)) hxa hI hN h18) (cwV 2 S.2.2.2.2 gL_law_X8_digest rfl rfl rfl (by decide +kernel) ⟨Nat.le_of_ble_eq_true rfl, Nat.le_of_ble_eq_true rfl⟩) (mm_preV hC hA hR _ hX0 rfl) rfl rfl hl.1 rfl (lv_room (Nat.le_of_ble_eq_true rfl)) dL_law_545 ⟨by show 100 + 16 * k + 0 ≤ 763966; omega, by show 10000 + 2582 * k + 0 ≤ 6810350; omega⟩) (fun r49 M50 H locs hp hR => ?_)
  have hyk := fun (r2 : Int32) (M2 : mm_M) => j_digest (r2 := r2) (M2 := M2) hj rfl rfl hno hk hp
  have hy1 := (hyk 0 M50).1
  obtain ⟨⟨v22, f9, d9, hS9⟩, -⟩ := id hy1
  have hY0 := hS9.1
  refine lv_aload_n hx hb dL_law_548 rfl (lv_at hl 2 rfl) ?_
  refine lv_aload_n hx hb dL_law_549 rfl (lv_at hl 0 rfl) ?_
  refine lv_iload_n hx hb dL_law_550 rfl (lv_at hl 3 rfl) ?_
  refine lv_iconst (v := nI 1) hx hb dL_law_551 (by decide) ?_
  refine lv_iadd hx hb dL_law_552 ?_
  refine mm_eqi (nI_add _ _) ?_
  refine lw_sld hx hb hX hbl hR (j := (5 * k + 1)) (by omega) hL dL_law_553 ?_
  refine lv_aload_n hx hb dL_law_554 rfl (lv_at hl 0 rfl) ?_
  refine lv_iload_n hx hb dL_law_555 rfl (lv_at hl 3 rfl) ?_
  refine lv_iconst (v := nI 2) hx hb dL_law_556 (by decide) ?_
  refine lv_iadd hx hb dL_law_557 ?_
  refine mm_eqi (nI_add _ _) ?_
  refine lw_sld hx hb hX hbl hR (j := (5 * k + 2)) (by omega) hL dL_law_558 ?_
  refine mm_calli hA hR (va_runV (As := [.int (xs (5 * k + 1)), .int (xs (5 * k + 2))]) (rest := [.int r49]) S (c_X9_digest l G M50 _ md cl ll wl sp co lr sh rem nw wst wfc wln (xs (5 * k + 1)) (xs (5 * k + 2)) hy1 hJ hyN) (cwV 2 S.2.2.2.2 gL_law_X9_digest rfl rfl rfl (by decide +kernel) ⟨Nat.le_of_ble_eq_true rfl, Nat.le_of_ble_eq_true rfl⟩) (mm_preV hC hA hR _ hY0 rfl) rfl rfl hl.1 rfl (lv_room (Nat.le_of_ble_eq_true rfl)) dL_law_559 ⟨by show 100 + 16 * k + 0 + 0 ≤ 763966; omega, by show 10000 + 2582 * k + 0 + 0 ≤ 6810350; omega⟩) (fun r51 M52 H locs hp2 hR => ?_)
  obtain ⟨er, hj2⟩ := (hyk _ _).2 hp2
  subst er
  refine lv_icmp_eq (tgt := 603) hx hb dL_law_562 (by decide) (fun _ => ?_) (fun z => absurd rfl z)
  refine W.widen (k := 100 + 16 * (k + 1)) (n := 10000 + 2582 * (k + 1)) (by show 100 + 16 * k + 0 + 0 ≤ 100 + 16 * (k + 1); omega) (by show 10000 + 2582 * k + 0 + 0 ≤ 10000 + 2582 * (k + 1); omega) ?_
  exact kk _ H locs ls hj2 hR hl

set_option maxHeartbeats 4000000 in
set_option maxRecDepth 100000 in
/-- the turn that calls plain -/
theorem l_plain {p : Program} {e : Env} {s : State} {m : MethodId} {below : List Frame} {meth : Method} {c : Code} (l : Launch) {b L : Nat} {xs : Nat → Int32} (hL : L ≤ 2560) (C0 : lw_At p s m meth c b L xs) (G : mm_G) (hC : mm_C G (fun q : Nat => s.heap.size ≤ q) s) (X Y k : Nat) (hk : k < 512) (hkL : 5 * k + 5 ≤ L) (M1 : mm_M) (H : Heap) (locs : List Loc) (ls : Array Slot) (hj : jI G M1 X Y k) (hR : mm_R G s (fun q : Nat => s.heap.size ≤ q) M1 H locs) (hl : lv_has ls 4 [(0, .ref b), (1, .ref X), (2, .ref Y), (3, .int (nI (5 * k)))]) (kk : ∀ (M2 : mm_M) (H : Heap) (locs : List Loc) (ls : Array Slot), jI G M2 X Y (k + 1) → mm_R G s (fun q : Nat => s.heap.size ≤ q) M2 H locs → lv_has ls 4 [(0, .ref b), (1, .ref X), (2, .ref Y), (3, .int (nI (5 * k)))] → W p l e room_1 s m #[Value.ref b] below meth c H locs (100 + 16 * (k + 1)) (10000 + 2582 * (k + 1)) (lw_Z below #[Value.ref b] s) (F0 m 603 ls [])) : W p l e room_1 s m #[Value.ref b] below meth c H locs (100 + 16 * k) (10000 + 2582 * k) (lw_Z below #[Value.ref b] s) (F0 m 567 ls []) := by
  obtain ⟨hx, hb, hr, hml, hown, hts, hX, hbl, hlocks, hgv⟩ := id C0
  have S : CallFix p m c cL_law 4 s ([.ref b] : List Value).toArray wsL_law RL := ⟨hx, hb, hml, hown, fun w hw => hts w (wsL_law_in w hw)⟩
  have hA : ∀ q : Nat, s.heap.size ≤ q → (fun q : Nat => s.heap.size ≤ q) q := fun _ h => h
  obtain ⟨ad, md, cl, ll, chg, wl, sp, co, lr, sh, rem, nw, wst, wfc, wfl, wtn, wln, no, op, dc, eX, eY, hno, hj⟩ := hj
  subst eX eY
  obtain ⟨hxa, hI, hN, h18, hya, hJ, hyN, hd, hh⟩ := id hj
  have hX0 := hxa.1
  have hF : mm_fr [] M1 M1 := mm_fr.rf
  refine lv_aload_n hx hb dL_law_567 rfl (lv_at hl 1 rfl) ?_
  refine mm_calli hA hR (va_runV (As := []) (rest := []) S (c_X8_plain l G M1 _ ad cl ll chg wl sp co lr sh rem nw wst wfc wfl wtn wln no op dc  hxa hI hN h18 (by omega)) (cwV 0 S.2.2.2.2 gL_law_X8_plain rfl rfl rfl (by decide +kernel) ⟨Nat.le_of_ble_eq_true rfl, Nat.le_of_ble_eq_true rfl⟩) (mm_preV hC hA hR _ hX0 rfl) rfl rfl hl.1 rfl (lv_room (Nat.le_of_ble_eq_true rfl)) dL_law_568 ⟨by show 100 + 16 * k + 0 ≤ 763966; omega, by show 10000 + 2582 * k + 0 ≤ 6810350; omega⟩) (fun r53 M54 H locs hp hR => ?_)
  have hyk := fun (r2 : Int32) (M2 : mm_M) => j_plain (r2 := r2) (M2 := M2) hj rfl rfl hno hk hp
  have hy1 := (hyk 0 M54).1
  obtain ⟨⟨v22, f9, d9, hS9⟩, -⟩ := id hy1
  have hY0 := hS9.1
  refine lv_aload_n hx hb dL_law_571 rfl (lv_at hl 2 rfl) ?_
  refine mm_calli hA hR (va_runV (As := []) (rest := [.int r53]) S (c_X9_plain l G M54 _ md cl ll wl sp co lr sh rem nw wst wfc wln  hy1 hJ hyN) (cwV 0 S.2.2.2.2 gL_law_X9_plain rfl rfl rfl (by decide +kernel) ⟨Nat.le_of_ble_eq_true rfl, Nat.le_of_ble_eq_true rfl⟩) (mm_preV hC hA hR _ hY0 rfl) rfl rfl hl.1 rfl (lv_room (Nat.le_of_ble_eq_true rfl)) dL_law_572 ⟨by show 100 + 16 * k + 0 + 0 ≤ 763966; omega, by show 10000 + 2582 * k + 0 + 0 ≤ 6810350; omega⟩) (fun r55 M56 H locs hp2 hR => ?_)
  obtain ⟨er, hj2⟩ := (hyk _ _).2 hp2
  subst er
  refine lv_icmp_eq (tgt := 603) hx hb dL_law_575 (by decide) (fun _ => ?_) (fun z => absurd rfl z)
  refine W.widen (k := 100 + 16 * (k + 1)) (n := 10000 + 2582 * (k + 1)) (by show 100 + 16 * k + 0 + 0 ≤ 100 + 16 * (k + 1); omega) (by show 10000 + 2582 * k + 0 + 0 ≤ 10000 + 2582 * (k + 1); omega) ?_
  exact kk _ H locs ls hj2 hR hl

set_option maxHeartbeats 4000000 in
set_option maxRecDepth 100000 in
/-- the turn that calls count -/
theorem l_count {p : Program} {e : Env} {s : State} {m : MethodId} {below : List Frame} {meth : Method} {c : Code} (l : Launch) {b L : Nat} {xs : Nat → Int32} (hL : L ≤ 2560) (C0 : lw_At p s m meth c b L xs) (G : mm_G) (hC : mm_C G (fun q : Nat => s.heap.size ≤ q) s) (X Y k : Nat) (hk : k < 512) (hkL : 5 * k + 5 ≤ L) (M1 : mm_M) (H : Heap) (locs : List Loc) (ls : Array Slot) (hj : jI G M1 X Y k) (hR : mm_R G s (fun q : Nat => s.heap.size ≤ q) M1 H locs) (hl : lv_has ls 4 [(0, .ref b), (1, .ref X), (2, .ref Y), (3, .int (nI (5 * k)))]) (kk : ∀ (M2 : mm_M) (H : Heap) (locs : List Loc) (ls : Array Slot), jI G M2 X Y (k + 1) → mm_R G s (fun q : Nat => s.heap.size ≤ q) M2 H locs → lv_has ls 4 [(0, .ref b), (1, .ref X), (2, .ref Y), (3, .int (nI (5 * k)))] → W p l e room_1 s m #[Value.ref b] below meth c H locs (100 + 16 * (k + 1)) (10000 + 2582 * (k + 1)) (lw_Z below #[Value.ref b] s) (F0 m 603 ls [])) : W p l e room_1 s m #[Value.ref b] below meth c H locs (100 + 16 * k) (10000 + 2582 * k) (lw_Z below #[Value.ref b] s) (F0 m 580 ls []) := by
  obtain ⟨hx, hb, hr, hml, hown, hts, hX, hbl, hlocks, hgv⟩ := id C0
  have S : CallFix p m c cL_law 4 s ([.ref b] : List Value).toArray wsL_law RL := ⟨hx, hb, hml, hown, fun w hw => hts w (wsL_law_in w hw)⟩
  have hA : ∀ q : Nat, s.heap.size ≤ q → (fun q : Nat => s.heap.size ≤ q) q := fun _ h => h
  obtain ⟨ad, md, cl, ll, chg, wl, sp, co, lr, sh, rem, nw, wst, wfc, wfl, wtn, wln, no, op, dc, eX, eY, hno, hj⟩ := hj
  subst eX eY
  obtain ⟨hxa, hI, hN, h18, hya, hJ, hyN, hd, hh⟩ := id hj
  have hX0 := hxa.1
  have hF : mm_fr [] M1 M1 := mm_fr.rf
  refine lv_aload_n hx hb dL_law_580 rfl (lv_at hl 1 rfl) ?_
  refine lv_aload_n hx hb dL_law_581 rfl (lv_at hl 0 rfl) ?_
  refine lv_iload_n hx hb dL_law_582 rfl (lv_at hl 3 rfl) ?_
  refine lv_iconst (v := nI 1) hx hb dL_law_583 (by decide) ?_
  refine lv_iadd hx hb dL_law_584 ?_
  refine mm_eqi (nI_add _ _) ?_
  refine lw_sld hx hb hX hbl hR (j := (5 * k + 1)) (by omega) hL dL_law_585 ?_
  refine mm_calli hA hR (va_runV (As := [.int (xs (5 * k + 1))]) (rest := []) S (c_X8_count l G M1 _ ad cl ll chg wl sp co lr sh rem nw wst wfc wfl wtn wln no op dc (xs (5 * k + 1)) hxa hI hN h18) (cwV 1 S.2.2.2.2 gL_law_X8_count rfl rfl rfl (by decide +kernel) ⟨Nat.le_of_ble_eq_true rfl, Nat.le_of_ble_eq_true rfl⟩) (mm_preV hC hA hR _ hX0 rfl) rfl rfl hl.1 rfl (lv_room (Nat.le_of_ble_eq_true rfl)) dL_law_586 ⟨by show 100 + 16 * k + 0 ≤ 763966; omega, by show 10000 + 2582 * k + 0 ≤ 6810350; omega⟩) (fun r57 M58 H locs hp hR => ?_)
  have hyk := fun (r2 : Int32) (M2 : mm_M) => j_count (r2 := r2) (M2 := M2) hj rfl rfl hno hk hp
  have hy1 := (hyk 0 M58).1
  obtain ⟨⟨v22, f9, d9, hS9⟩, -⟩ := id hy1
  have hY0 := hS9.1
  refine lv_aload_n hx hb dL_law_589 rfl (lv_at hl 2 rfl) ?_
  refine lv_aload_n hx hb dL_law_590 rfl (lv_at hl 0 rfl) ?_
  refine lv_iload_n hx hb dL_law_591 rfl (lv_at hl 3 rfl) ?_
  refine lv_iconst (v := nI 1) hx hb dL_law_592 (by decide) ?_
  refine lv_iadd hx hb dL_law_593 ?_
  refine mm_eqi (nI_add _ _) ?_
  refine lw_sld hx hb hX hbl hR (j := (5 * k + 1)) (by omega) hL dL_law_594 ?_
  refine mm_calli hA hR (va_runV (As := [.int (xs (5 * k + 1))]) (rest := [.int r57]) S (c_X9_count l G M58 _ md cl ll wl sp co lr sh rem nw wst wfc wln (xs (5 * k + 1)) hy1 hJ hyN) (cwV 1 S.2.2.2.2 gL_law_X9_count rfl rfl rfl (by decide +kernel) ⟨Nat.le_of_ble_eq_true rfl, Nat.le_of_ble_eq_true rfl⟩) (mm_preV hC hA hR _ hY0 rfl) rfl rfl hl.1 rfl (lv_room (Nat.le_of_ble_eq_true rfl)) dL_law_595 ⟨by show 100 + 16 * k + 0 + 0 ≤ 763966; omega, by show 10000 + 2582 * k + 0 + 0 ≤ 6810350; omega⟩) (fun r59 M60 H locs hp2 hR => ?_)
  obtain ⟨er, hj2⟩ := (hyk _ _).2 hp2
  subst er
  refine lv_icmp_eq (tgt := 603) hx hb dL_law_598 (by decide) (fun _ => ?_) (fun z => absurd rfl z)
  refine W.widen (k := 100 + 16 * (k + 1)) (n := 10000 + 2582 * (k + 1)) (by show 100 + 16 * k + 0 + 0 ≤ 100 + 16 * (k + 1); omega) (by show 10000 + 2582 * k + 0 + 0 ≤ 10000 + 2582 * (k + 1); omega) ?_
  exact kk _ H locs ls hj2 hR hl
