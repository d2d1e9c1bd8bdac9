set_option maxHeartbeats 8000000 in
set_option maxRecDepth 100000 in
theorem lk_tell {p : Program} {l : Launch} {e : Env} {s : State} {m : MethodId} {below : List Frame} {meth : Method} {c : Code} {b L : Nat} {xs : Nat → Int32} {D : va_G} {cB cI cJ cO : ClassId} {ad mi z0 m0 o0 i cells slots : Nat} {ws : va_W} {H : Heap} {locs : List Loc} {ls : Array Slot} (C : LC p l s m meth c b L xs D cB cI cJ cO ad mi) (hL : L ≤ 3072) (hi : i + 6 ≤ L) (hc : cells + 50 ≤ 601024) (hs : slots + 2400 ≤ 7293034) (hG : LGo p l e s m below meth c b D cB cI cJ cO ad z0 m0 o0 i (cells + 50) (slots + 2400)) (hI : LwI cB cI cJ cO ad z0 m0 o0 ws) (hP : va_P D vwCl ws H) (hD : va_D (fun q : Nat => s.heap.size ≤ q) ws) (hS : va_S (fun q : Nat => s.heap.size ≤ q) s.heap H locs) (hl : lv_has ls 7 [(0, .ref b), (1, .ref z0), (2, .ref m0), (3, .ref o0), (4, .int (nI i))]) : W p l e room_1 s m #[Value.ref b] below meth c H locs cells slots (lw_Z below #[Value.ref b] s) (F0 m 336 ls []) := by
  obtain ⟨hx, hb, hr, hml, hown, hts, hX, hbl, hlocks, hlt, hK, hXT⟩ := id C
  have hA : ∀ q : Nat, s.heap.size ≤ q → (fun q : Nat => s.heap.size ≤ q) q := fun _ h => h
  have hbA : ¬ (fun q : Nat => s.heap.size ≤ q) b := Nat.not_le.mpr hbl
  obtain ⟨T, sh, so, wi, ta, tb, E, docs, ca, bb, rr, pp, qq, hO, hC, ⟨th, hM⟩, vv, g50⟩ := id hI
  obtain ⟨a1, t0, d0, s0, e0, k0, al, s1, s2, s3, eh, es, er, nd, dd, HS, SS, RS, g0, -⟩ := id hC
  refine lv_aload_n hx hb dL_law_336 rfl (lv_at hl 1 rfl) ?_
  refine lw_arg hx hb hX hbl hbA hS (lv_at hl 0 rfl) (lv_at hl 4 rfl) 1 (by omega) (by omega) (by decide) dL_law_337 dL_law_338 dL_law_340 dL_law_341 dL_law_342 ?_
  refine lw_arg hx hb hX hbl hbA hS (lv_at hl 0 rfl) (lv_at hl 4 rfl) 2 (by omega) (by omega) (by decide) dL_law_343 dL_law_344 dL_law_346 dL_law_347 dL_law_348 ?_
  refine lw_arg hx hb hX hbl hbA hS (lv_at hl 0 rfl) (lv_at hl 4 rfl) 3 (by omega) (by omega) (by decide) dL_law_349 dL_law_350 dL_law_352 dL_law_353 dL_law_354 ?_
  refine CI.go (va_runV (As := [.int (xs (i + 1)), .int (xs (i + 2)), .int (xs (i + 3))]) (rest := []) ⟨hx, hb, hml, hown, hts⟩ (o_tell hO hC _) (cwV 3 hts gL_law_X8_tell rfl rfl rfl (by decide +kernel) ⟨Nat.le_of_ble_eq_true rfl, Nat.le_of_ble_eq_true rfl⟩) ⟨pw_blind, va_recv hK hP (ci := 9) (q0 := 0) rfl g0, fun U hU hW => pw_pre hK hP hD hU hW⟩ rfl rfl hl.1 rfl (lv_room (Nat.le_of_ble_eq_true rfl)) dL_law_355 ⟨by show cells + 0 ≤ 601024; omega, by show slots + 0 ≤ 7293034; omega⟩) hD hS hA (fun r ws1 H1 locs1 hp hP hD hS => ?_)
  obtain ⟨rfl, hO1, hC1, sm1⟩ := hp
  have hM1 := hM.fr sm1 (fun k h9 => by have h8 : k ≤ 32 ∨ 51 ≤ k := h9; omega)
  have g50 := sm1.get g50 (fun h9 => by have h8 : 50 ≤ 32 ∨ 51 ≤ 50 := h9; omega)
  obtain ⟨b1, b2, b5, b6, b7, b12, b14, b15, b16, b20, b21, b22, b23, b24, b26, b31, ps, fm, sta, f, fp, lf, ff, zf, fr, gn, gm, gs, gw, go, gt, gl, fa, g33, -⟩ := id hM1
  refine lv_aload_n hx hb dL_law_358 rfl (lv_at hl 2 rfl) ?_
  refine lw_arg hx hb hX hbl hbA hS (lv_at hl 0 rfl) (lv_at hl 4 rfl) 1 (by omega) (by omega) (by decide) dL_law_359 dL_law_360 dL_law_362 dL_law_363 dL_law_364 ?_
  refine lw_arg hx hb hX hbl hbA hS (lv_at hl 0 rfl) (lv_at hl 4 rfl) 2 (by omega) (by omega) (by decide) dL_law_365 dL_law_366 dL_law_368 dL_law_369 dL_law_370 ?_
  refine lw_arg hx hb hX hbl hbA hS (lv_at hl 0 rfl) (lv_at hl 4 rfl) 3 (by omega) (by omega) (by decide) dL_law_371 dL_law_372 dL_law_374 dL_law_375 dL_law_376 ?_
  refine CI.go (va_runV (As := [.int (xs (i + 1)), .int (xs (i + 2)), .int (xs (i + 3))]) (rest := [.int _]) ⟨hx, hb, hml, hown, hts⟩ (p_tell hO hM1 _) (cwV 3 hts gL_law_X9_tell rfl rfl rfl (by decide +kernel) ⟨Nat.le_of_ble_eq_true rfl, Nat.le_of_ble_eq_true rfl⟩) ⟨pw_blind, va_recv hK hP (ci := 10) (q0 := 33) rfl g33, fun U hU hW => pw_pre hK hP hD hU hW⟩ rfl rfl hl.1 rfl (lv_room (Nat.le_of_ble_eq_true rfl)) dL_law_377 ⟨by show cells + 0 + 0 ≤ 601024; omega, by show slots + 0 + 0 ≤ 7293034; omega⟩) hD hS hA (fun r ws2 H2 locs2 hp hP hD hS => ?_)
  obtain ⟨rfl, hM2, sm2⟩ := hp
  have hC2 := hC1.fr sm2 (fun k h9 => by have h8 : 33 ≤ k ∧ k ≤ 49 := h9; omega)
  have g50 := sm2.get g50 (fun h9 => by have h8 : 33 ≤ 50 ∧ 50 ≤ 49 := h9; omega)
  refine lv_icmp_eq (tgt := 1033) hx hb dL_law_380 (by decide) (fun _ => ?_) (fun h9 => absurd rfl h9)
  refine W.widen (k := cells + 50) (n := slots + 2400) (by show cells + 0 + 0 ≤ cells + 50; omega) (by show slots + 0 + 0 ≤ slots + 2400; omega) ?_
  exact hG ws2 H2 locs2 ls ⟨_, _, _, _, _, _, _, _, _, _, _, _, _, hO1, hC2, ⟨_, hM2⟩, vv, g50⟩ hP hD hS hl
set_option maxHeartbeats 8000000 in
set_option maxRecDepth 100000 in
theorem lk_exchange {p : Program} {l : Launch} {e : Env} {s : State} {m : MethodId} {below : List Frame} {meth : Method} {c : Code} {b L : Nat} {xs : Nat → Int32} {D : va_G} {cB cI cJ cO : ClassId} {ad mi z0 m0 o0 i cells slots : Nat} {ws : va_W} {H : Heap} {locs : List Loc} {ls : Array Slot} (C : LC p l s m meth c b L xs D cB cI cJ cO ad mi) (hL : L ≤ 3072) (hi : i + 6 ≤ L) (hc : cells + 50 ≤ 601024) (hs : slots + 2400 ≤ 7293034) (hG : LGo p l e s m below meth c b D cB cI cJ cO ad z0 m0 o0 i (cells + 50) (slots + 2400)) (hI : LwI cB cI cJ cO ad z0 m0 o0 ws) (hP : va_P D vwCl ws H) (hD : va_D (fun q : Nat => s.heap.size ≤ q) ws) (hS : va_S (fun q : Nat => s.heap.size ≤ q) s.heap H locs) (hl : lv_has ls 7 [(0, .ref b), (1, .ref z0), (2, .ref m0), (3, .ref o0), (4, .int (nI i))]) : W p l e room_1 s m #[Value.ref b] below meth c H locs cells slots (lw_Z below #[Value.ref b] s) (F0 m 385 ls []) := by
  obtain ⟨hx, hb, hr, hml, hown, hts, hX, hbl, hlocks, hlt, hK, hXT⟩ := id C
  have hA : ∀ q : Nat, s.heap.size ≤ q → (fun q : Nat => s.heap.size ≤ q) q := fun _ h => h
  have hbA : ¬ (fun q : Nat => s.heap.size ≤ q) b := Nat.not_le.mpr hbl
  obtain ⟨T, sh, so, wi, ta, tb, E, docs, ca, bb, rr, pp, qq, hO, hC, ⟨th, hM⟩, vv, g50⟩ := id hI
  obtain ⟨a1, t0, d0, s0, e0, k0, al, s1, s2, s3, eh, es, er, nd, dd, HS, SS, RS, g0, -⟩ := id hC
  refine lv_aload_n hx hb dL_law_385 rfl (lv_at hl 1 rfl) ?_
  refine lw_arg hx hb hX hbl hbA hS (lv_at hl 0 rfl) (lv_at hl 4 rfl) 1 (by omega) (by omega) (by decide) dL_law_386 dL_law_387 dL_law_389 dL_law_390 dL_law_391 ?_
  refine lw_arg hx hb hX hbl hbA hS (lv_at hl 0 rfl) (lv_at hl 4 rfl) 2 (by omega) (by omega) (by decide) dL_law_392 dL_law_393 dL_law_395 dL_law_396 dL_law_397 ?_
  refine lw_arg hx hb hX hbl hbA hS (lv_at hl 0 rfl) (lv_at hl 4 rfl) 3 (by omega) (by omega) (by decide) dL_law_398 dL_law_399 dL_law_401 dL_law_402 dL_law_403 ?_
  refine CI.go (va_runV (As := [.int (xs (i + 1)), .int (xs (i + 2)), .int (xs (i + 3))]) (rest := []) ⟨hx, hb, hml, hown, hts⟩ (o_exchange hO hC _) (cwV 3 hts gL_law_X8_exchange rfl rfl rfl (by decide +kernel) ⟨Nat.le_of_ble_eq_true rfl, Nat.le_of_ble_eq_true rfl⟩) ⟨pw_blind, va_recv hK hP (ci := 9) (q0 := 0) rfl g0, fun U hU hW => pw_pre hK hP hD hU hW⟩ rfl rfl hl.1 rfl (lv_room (Nat.le_of_ble_eq_true rfl)) dL_law_404 ⟨by show cells + 0 ≤ 601024; omega, by show slots + 0 ≤ 7293034; omega⟩) hD hS hA (fun r ws1 H1 locs1 hp hP hD hS => ?_)
  obtain ⟨rfl, hO1, hC1, sm1⟩ := hp
  have hM1 := hM.fr sm1 (fun k h9 => by have h8 : k ≤ 32 ∨ 51 ≤ k := h9; omega)
  have g50 := sm1.get g50 (fun h9 => by have h8 : 50 ≤ 32 ∨ 51 ≤ 50 := h9; omega)
  obtain ⟨b1, b2, b5, b6, b7, b12, b14, b15, b16, b20, b21, b22, b23, b24, b26, b31, ps, fm, sta, f, fp, lf, ff, zf, fr, gn, gm, gs, gw, go, gt, gl, fa, g33, -⟩ := id hM1
  refine lv_aload_n hx hb dL_law_407 rfl (lv_at hl 2 rfl) ?_
  refine lw_arg hx hb hX hbl hbA hS (lv_at hl 0 rfl) (lv_at hl 4 rfl) 1 (by omega) (by omega) (by decide) dL_law_408 dL_law_409 dL_law_411 dL_law_412 dL_law_413 ?_
  refine lw_arg hx hb hX hbl hbA hS (lv_at hl 0 rfl) (lv_at hl 4 rfl) 2 (by omega) (by omega) (by decide) dL_law_414 dL_law_415 dL_law_417 dL_law_418 dL_law_419 ?_
  refine lw_arg hx hb hX hbl hbA hS (lv_at hl 0 rfl) (lv_at hl 4 rfl) 3 (by omega) (by omega) (by decide) dL_law_420 dL_law_421 dL_law_423 dL_law_424 dL_law_425 ?_
  refine CI.go (va_runV (As := [.int (xs (i + 1)), .int (xs (i + 2)), .int (xs (i + 3))]) (rest := [.int _]) ⟨hx, hb, hml, hown, hts⟩ (p_exchange hO hM1 _) (cwV 3 hts gL_law_X9_exchange rfl rfl rfl (by decide +kernel) ⟨Nat.le_of_ble_eq_true rfl, Nat.le_of_ble_eq_true rfl⟩) ⟨pw_blind, va_recv hK hP (ci := 10) (q0 := 33) rfl g33, fun U hU hW => pw_pre hK hP hD hU hW⟩ rfl rfl hl.1 rfl (lv_room (Nat.le_of_ble_eq_true rfl)) dL_law_426 ⟨by show cells + 0 + 0 ≤ 601024; omega, by show slots + 0 + 0 ≤ 7293034; omega⟩) hD hS hA (fun r ws2 H2 locs2 hp hP hD hS => ?_)
  obtain ⟨rfl, hM2, sm2⟩ := hp
  have hC2 := hC1.fr sm2 (fun k h9 => by have h8 : 33 ≤ k ∧ k ≤ 49 := h9; omega)
  have g50 := sm2.get g50 (fun h9 => by have h8 : 33 ≤ 50 ∧ 50 ≤ 49 := h9; omega)
  refine lv_icmp_eq (tgt := 1033) hx hb dL_law_429 (by decide) (fun _ => ?_) (fun h9 => absurd rfl h9)
  refine W.widen (k := cells + 50) (n := slots + 2400) (by show cells + 0 + 0 ≤ cells + 50; omega) (by show slots + 0 + 0 ≤ slots + 2400; omega) ?_
  exact hG ws2 H2 locs2 ls ⟨_, _, _, _, _, _, _, _, _, _, _, _, _, hO1, hC2, ⟨_, hM2⟩, vv, g50⟩ hP hD hS hl
set_option maxHeartbeats 8000000 in
set_option maxRecDepth 100000 in
theorem lk_image {p : Program} {l : Launch} {e : Env} {s : State} {m : MethodId} {below : List Frame} {meth : Method} {c : Code} {b L : Nat} {xs : Nat → Int32} {D : va_G} {cB cI cJ cO : ClassId} {ad mi z0 m0 o0 i cells slots : Nat} {ws : va_W} {H : Heap} {locs : List Loc} {ls : Array Slot} (C : LC p l s m meth c b L xs D cB cI cJ cO ad mi) (hL : L ≤ 3072) (hi : i + 6 ≤ L) (hc : cells + 50 ≤ 601024) (hs : slots + 2400 ≤ 7293034) (hG : LGo p l e s m below meth c b D cB cI cJ cO ad z0 m0 o0 i (cells + 50) (slots + 2400)) (hI : LwI cB cI cJ cO ad z0 m0 o0 ws) (hP : va_P D vwCl ws H) (hD : va_D (fun q : Nat => s.heap.size ≤ q) ws) (hS : va_S (fun q : Nat => s.heap.size ≤ q) s.heap H locs) (hl : lv_has ls 7 [(0, .ref b), (1, .ref z0), (2, .ref m0), (3, .ref o0), (4, .int (nI i))]) : W p l e room_1 s m #[Value.ref b] below meth c H locs cells slots (lw_Z below #[Value.ref b] s) (F0 m 434 ls []) := by
  obtain ⟨hx, hb, hr, hml, hown, hts, hX, hbl, hlocks, hlt, hK, hXT⟩ := id C
  have hA : ∀ q : Nat, s.heap.size ≤ q → (fun q : Nat => s.heap.size ≤ q) q := fun _ h => h
  have hbA : ¬ (fun q : Nat => s.heap.size ≤ q) b := Nat.not_le.mpr hbl
  obtain ⟨T, sh, so, wi, ta, tb, E, docs, ca, bb, rr, pp, qq, hO, hC, ⟨th, hM⟩, vv, g50⟩ := id hI
  obtain ⟨a1, t0, d0, s0, e0, k0, al, s1, s2, s3, eh, es, er, nd, dd, HS, SS, RS, g0, -⟩ := id hC
  refine lv_aload_n hx hb dL_law_434 rfl (lv_at hl 1 rfl) ?_
  refine lw_arg hx hb hX hbl hbA hS (lv_at hl 0 rfl) (lv_at hl 4 rfl) 1 (by omega) (by omega) (by decide) dL_law_435 dL_law_436 dL_law_438 dL_law_439 dL_law_440 ?_
  refine lw_arg hx hb hX hbl hbA hS (lv_at hl 0 rfl) (lv_at hl 4 rfl) 2 (by omega) (by omega) (by decide) dL_law_441 dL_law_442 dL_law_444 dL_law_445 dL_law_446 ?_
  refine CI.go (va_runV (As := [.int (xs (i + 1)), .int (xs (i + 2))]) (rest := []) ⟨hx, hb, hml, hown, hts⟩ (o_image hO hC _) (cwV 2 hts gL_law_X8_image rfl rfl rfl (by decide +kernel) ⟨Nat.le_of_ble_eq_true rfl, Nat.le_of_ble_eq_true rfl⟩) ⟨pw_blind, va_recv hK hP (ci := 9) (q0 := 0) rfl g0, fun U hU hW => pw_pre hK hP hD hU hW⟩ rfl rfl hl.1 rfl (lv_room (Nat.le_of_ble_eq_true rfl)) dL_law_447 ⟨by show cells + 0 ≤ 601024; omega, by show slots + 0 ≤ 7293034; omega⟩) hD hS hA (fun r ws1 H1 locs1 hp hP hD hS => ?_)
  obtain ⟨rfl, hO1, hC1, sm1⟩ := hp
  have hM1 := hM.fr sm1 (fun k h9 => by have h8 : k ≤ 32 ∨ 51 ≤ k := h9; omega)
  have g50 := sm1.get g50 (fun h9 => by have h8 : 50 ≤ 32 ∨ 51 ≤ 50 := h9; omega)
  obtain ⟨b1, b2, b5, b6, b7, b12, b14, b15, b16, b20, b21, b22, b23, b24, b26, b31, ps, fm, sta, f, fp, lf, ff, zf, fr, gn, gm, gs, gw, go, gt, gl, fa, g33, -⟩ := id hM1
  refine lv_aload_n hx hb dL_law_450 rfl (lv_at hl 2 rfl) ?_
  refine lw_arg hx hb hX hbl hbA hS (lv_at hl 0 rfl) (lv_at hl 4 rfl) 1 (by omega) (by omega) (by decide) dL_law_451 dL_law_452 dL_law_454 dL_law_455 dL_law_456 ?_
  refine lw_arg hx hb hX hbl hbA hS (lv_at hl 0 rfl) (lv_at hl 4 rfl) 2 (by omega) (by omega) (by decide) dL_law_457 dL_law_458 dL_law_460 dL_law_461 dL_law_462 ?_
  refine CI.go (va_runV (As := [.int (xs (i + 1)), .int (xs (i + 2))]) (rest := [.int _]) ⟨hx, hb, hml, hown, hts⟩ (p_image hO hM1 _) (cwV 2 hts gL_law_X9_image rfl rfl rfl (by decide +kernel) ⟨Nat.le_of_ble_eq_true rfl, Nat.le_of_ble_eq_true rfl⟩) ⟨pw_blind, va_recv hK hP (ci := 10) (q0 := 33) rfl g33, fun U hU hW => pw_pre hK hP hD hU hW⟩ rfl rfl hl.1 rfl (lv_room (Nat.le_of_ble_eq_true rfl)) dL_law_463 ⟨by show cells + 0 + 0 ≤ 601024; omega, by show slots + 0 + 0 ≤ 7293034; omega⟩) hD hS hA (fun r ws2 H2 locs2 hp hP hD hS => ?_)
  obtain ⟨rfl, hM2, sm2⟩ := hp
  have hC2 := hC1.fr sm2 (fun k h9 => by have h8 : 33 ≤ k ∧ k ≤ 49 := h9; omega)
  have g50 := sm2.get g50 (fun h9 => by have h8 : 33 ≤ 50 ∧ 50 ≤ 49 := h9; omega)
  refine lv_icmp_eq (tgt := 1033) hx hb dL_law_466 (by decide) (fun _ => ?_) (fun h9 => absurd rfl h9)
  refine W.widen (k := cells + 50) (n := slots + 2400) (by show cells + 0 + 0 ≤ cells + 50; omega) (by show slots + 0 + 0 ≤ slots + 2400; omega) ?_
  exact hG ws2 H2 locs2 ls ⟨_, _, _, _, _, _, _, _, _, _, _, _, _, hO1, hC2, ⟨_, hM2⟩, vv, g50⟩ hP hD hS hl
set_option maxHeartbeats 8000000 in
set_option maxRecDepth 100000 in
theorem lk_bands {p : Program} {l : Launch} {e : Env} {s : State} {m : MethodId} {below : List Frame} {meth : Method} {c : Code} {b L : Nat} {xs : Nat → Int32} {D : va_G} {cB cI cJ cO : ClassId} {ad mi z0 m0 o0 i cells slots : Nat} {ws : va_W} {H : Heap} {locs : List Loc} {ls : Array Slot} (C : LC p l s m meth c b L xs D cB cI cJ cO ad mi) (hL : L ≤ 3072) (hi : i + 6 ≤ L) (hc : cells + 50 ≤ 601024) (hs : slots + 2400 ≤ 7293034) (hG : LGo p l e s m below meth c b D cB cI cJ cO ad z0 m0 o0 i (cells + 50) (slots + 2400)) (hI : LwI cB cI cJ cO ad z0 m0 o0 ws) (hP : va_P D vwCl ws H) (hD : va_D (fun q : Nat => s.heap.size ≤ q) ws) (hS : va_S (fun q : Nat => s.heap.size ≤ q) s.heap H locs) (hl : lv_has ls 7 [(0, .ref b), (1, .ref z0), (2, .ref m0), (3, .ref o0), (4, .int (nI i))]) : W p l e room_1 s m #[Value.ref b] below meth c H locs cells slots (lw_Z below #[Value.ref b] s) (F0 m 471 ls []) := by
  obtain ⟨hx, hb, hr, hml, hown, hts, hX, hbl, hlocks, hlt, hK, hXT⟩ := id C
  have hA : ∀ q : Nat, s.heap.size ≤ q → (fun q : Nat => s.heap.size ≤ q) q := fun _ h => h
  have hbA : ¬ (fun q : Nat => s.heap.size ≤ q) b := Nat.not_le.mpr hbl
  obtain ⟨T, sh, so, wi, ta, tb, E, docs, ca, bb, rr, pp, qq, hO, hC, ⟨th, hM⟩, vv, g50⟩ := id hI
  obtain ⟨a1, t0, d0, s0, e0, k0, al, s1, s2, s3, eh, es, er, nd, dd, HS, SS, RS, g0, -⟩ := id hC
  refine lv_aload_n hx hb dL_law_471 rfl (lv_at hl 1 rfl) ?_
  refine lw_arg hx hb hX hbl hbA hS (lv_at hl 0 rfl) (lv_at hl 4 rfl) 1 (by omega) (by omega) (by decide) dL_law_472 dL_law_473 dL_law_475 dL_law_476 dL_law_477 ?_
  refine lw_arg hx hb hX hbl hbA hS (lv_at hl 0 rfl) (lv_at hl 4 rfl) 2 (by omega) (by omega) (by decide) dL_law_478 dL_law_479 dL_law_481 dL_law_482 dL_law_483 ?_
  refine CI.go (va_runV (As := [.int (xs (i + 1)), .int (xs (i + 2))]) (rest := []) ⟨hx, hb, hml, hown, hts⟩ (o_bands hO hC _) (cwV 2 hts gL_law_X8_bands rfl rfl rfl (by decide +kernel) ⟨Nat.le_of_ble_eq_true rfl, Nat.le_of_ble_eq_true rfl⟩) ⟨pw_blind, va_recv hK hP (ci := 9) (q0 := 0) rfl g0, fun U hU hW => pw_pre hK hP hD hU hW⟩ rfl rfl hl.1 rfl (lv_room (Nat.le_of_ble_eq_true rfl)) dL_law_484 ⟨by show cells + 0 ≤ 601024; omega, by show slots + 0 ≤ 7293034; omega⟩) hD hS hA (fun r ws1 H1 locs1 hp hP hD hS => ?_)
  obtain ⟨rfl, hO1, hC1, sm1⟩ := hp
  have hM1 := hM.fr sm1 (fun k h9 => by have h8 : k ≤ 32 ∨ 51 ≤ k := h9; omega)
  have g50 := sm1.get g50 (fun h9 => by have h8 : 50 ≤ 32 ∨ 51 ≤ 50 := h9; omega)
  obtain ⟨b1, b2, b5, b6, b7, b12, b14, b15, b16, b20, b21, b22, b23, b24, b26, b31, ps, fm, sta, f, fp, lf, ff, zf, fr, gn, gm, gs, gw, go, gt, gl, fa, g33, -⟩ := id hM1
  refine lv_aload_n hx hb dL_law_487 rfl (lv_at hl 2 rfl) ?_
  refine lw_arg hx hb hX hbl hbA hS (lv_at hl 0 rfl) (lv_at hl 4 rfl) 1 (by omega) (by omega) (by decide) dL_law_488 dL_law_489 dL_law_491 dL_law_492 dL_law_493 ?_
  refine lw_arg hx hb hX hbl hbA hS (lv_at hl 0 rfl) (lv_at hl 4 rfl) 2 (by omega) (by omega) (by decide) dL_law_494 dL_law_495 dL_law_497 dL_law_498 dL_law_499 ?_
  refine CI.go (va_runV (As := [.int (xs (i + 1)), .int (xs (i + 2))]) (rest := [.int _]) ⟨hx, hb, hml, hown, hts⟩ (p_bands hO hM1 _) (cwV 2 hts gL_law_X9_bands rfl rfl rfl (by decide +kernel) ⟨Nat.le_of_ble_eq_true rfl, Nat.le_of_ble_eq_true rfl⟩) ⟨pw_blind, va_recv hK hP (ci := 10) (q0 := 33) rfl g33, fun U hU hW => pw_pre hK hP hD hU hW⟩ rfl rfl hl.1 rfl (lv_room (Nat.le_of_ble_eq_true rfl)) dL_law_500 ⟨by show cells + 0 + 0 ≤ 601024; omega, by show slots + 0 + 0 ≤ 7293034; omega⟩) hD hS hA (fun r ws2 H2 locs2 hp hP hD hS => ?_)
  obtain ⟨rfl, hM2, sm2⟩ := hp
  have hC2 := hC1.fr sm2 (fun k h9 => by have h8 : 33 ≤ k ∧ k ≤ 49 := h9; omega)
  have g50 := sm2.get g50 (fun h9 => by have h8 : 33 ≤ 50 ∧ 50 ≤ 49 := h9; omega)
  refine lv_icmp_eq (tgt := 1033) hx hb dL_law_503 (by decide) (fun _ => ?_) (fun h9 => absurd rfl h9)
  refine W.widen (k := cells + 50) (n := slots + 2400) (by show cells + 0 + 0 ≤ cells + 50; omega) (by show slots + 0 + 0 ≤ slots + 2400; omega) ?_
  exact hG ws2 H2 locs2 ls ⟨_, _, _, _, _, _, _, _, _, _, _, _, _, hO1, hC2, ⟨_, hM2⟩, vv, g50⟩ hP hD hS hl
set_option maxHeartbeats 8000000 in
set_option maxRecDepth 100000 in
theorem lk_threshold {p : Program} {l : Launch} {e : Env} {s : State} {m : MethodId} {below : List Frame} {meth : Method} {c : Code} {b L : Nat} {xs : Nat → Int32} {D : va_G} {cB cI cJ cO : ClassId} {ad mi z0 m0 o0 i cells slots : Nat} {ws : va_W} {H : Heap} {locs : List Loc} {ls : Array Slot} (C : LC p l s m meth c b L xs D cB cI cJ cO ad mi) (hL : L ≤ 3072) (hi : i + 6 ≤ L) (hc : cells + 50 ≤ 601024) (hs : slots + 2400 ≤ 7293034) (hG : LGo p l e s m below meth c b D cB cI cJ cO ad z0 m0 o0 i (cells + 50) (slots + 2400)) (hI : LwI cB cI cJ cO ad z0 m0 o0 ws) (hP : va_P D vwCl ws H) (hD : va_D (fun q : Nat => s.heap.size ≤ q) ws) (hS : va_S (fun q : Nat => s.heap.size ≤ q) s.heap H locs) (hl : lv_has ls 7 [(0, .ref b), (1, .ref z0), (2, .ref m0), (3, .ref o0), (4, .int (nI i))]) : W p l e room_1 s m #[Value.ref b] below meth c H locs cells slots (lw_Z below #[Value.ref b] s) (F0 m 508 ls []) := by
  obtain ⟨hx, hb, hr, hml, hown, hts, hX, hbl, hlocks, hlt, hK, hXT⟩ := id C
  have hA : ∀ q : Nat, s.heap.size ≤ q → (fun q : Nat => s.heap.size ≤ q) q := fun _ h => h
  have hbA : ¬ (fun q : Nat => s.heap.size ≤ q) b := Nat.not_le.mpr hbl
  obtain ⟨T, sh, so, wi, ta, tb, E, docs, ca, bb, rr, pp, qq, hO, hC, ⟨th, hM⟩, vv, g50⟩ := id hI
  obtain ⟨a1, t0, d0, s0, e0, k0, al, s1, s2, s3, eh, es, er, nd, dd, HS, SS, RS, g0, -⟩ := id hC
  refine lv_aload_n hx hb dL_law_508 rfl (lv_at hl 1 rfl) ?_
  refine lw_arg hx hb hX hbl hbA hS (lv_at hl 0 rfl) (lv_at hl 4 rfl) 1 (by omega) (by omega) (by decide) dL_law_509 dL_law_510 dL_law_512 dL_law_513 dL_law_514 ?_
  refine lw_arg hx hb hX hbl hbA hS (lv_at hl 0 rfl) (lv_at hl 4 rfl) 2 (by omega) (by omega) (by decide) dL_law_515 dL_law_516 dL_law_518 dL_law_519 dL_law_520 ?_
  refine CI.go (va_runV (As := [.int (xs (i + 1)), .int (xs (i + 2))]) (rest := []) ⟨hx, hb, hml, hown, hts⟩ (o_threshold hO hC _) (cwV 2 hts gL_law_X8_threshold rfl rfl rfl (by decide +kernel) ⟨Nat.le_of_ble_eq_true rfl, Nat.le_of_ble_eq_true rfl⟩) ⟨pw_blind, va_recv hK hP (ci := 9) (q0 := 0) rfl g0, fun U hU hW => pw_pre hK hP hD hU hW⟩ rfl rfl hl.1 rfl (lv_room (Nat.le_of_ble_eq_true rfl)) dL_law_521 ⟨by show cells + 0 ≤ 601024; omega, by show slots + 0 ≤ 7293034; omega⟩) hD hS hA (fun r ws1 H1 locs1 hp hP hD hS => ?_)
  obtain ⟨rfl, hO1, hC1, sm1⟩ := hp
  have hM1 := hM.fr sm1 (fun k h9 => by have h8 : k ≤ 32 ∨ 51 ≤ k := h9; omega)
  have g50 := sm1.get g50 (fun h9 => by have h8 : 50 ≤ 32 ∨ 51 ≤ 50 := h9; omega)
  obtain ⟨b1, b2, b5, b6, b7, b12, b14, b15, b16, b20, b21, b22, b23, b24, b26, b31, ps, fm, sta, f, fp, lf, ff, zf, fr, gn, gm, gs, gw, go, gt, gl, fa, g33, -⟩ := id hM1
  refine lv_aload_n hx hb dL_law_524 rfl (lv_at hl 2 rfl) ?_
  refine lw_arg hx hb hX hbl hbA hS (lv_at hl 0 rfl) (lv_at hl 4 rfl) 1 (by omega) (by omega) (by decide) dL_law_525 dL_law_526 dL_law_528 dL_law_529 dL_law_530 ?_
  refine lw_arg hx hb hX hbl hbA hS (lv_at hl 0 rfl) (lv_at hl 4 rfl) 2 (by omega) (by omega) (by decide) dL_law_531 dL_law_532 dL_law_534 dL_law_535 dL_law_536 ?_
  refine CI.go (va_runV (As := [.int (xs (i + 1)), .int (xs (i + 2))]) (rest := [.int _]) ⟨hx, hb, hml, hown, hts⟩ (p_threshold hO hM1 _) (cwV 2 hts gL_law_X9_threshold rfl rfl rfl (by decide +kernel) ⟨Nat.le_of_ble_eq_true rfl, Nat.le_of_ble_eq_true rfl⟩) ⟨pw_blind, va_recv hK hP (ci := 10) (q0 := 33) rfl g33, fun U hU hW => pw_pre hK hP hD hU hW⟩ rfl rfl hl.1 rfl (lv_room (Nat.le_of_ble_eq_true rfl)) dL_law_537 ⟨by show cells + 0 + 0 ≤ 601024; omega, by show slots + 0 + 0 ≤ 7293034; omega⟩) hD hS hA (fun r ws2 H2 locs2 hp hP hD hS => ?_)
  obtain ⟨rfl, hM2, sm2⟩ := hp
  have hC2 := hC1.fr sm2 (fun k h9 => by have h8 : 33 ≤ k ∧ k ≤ 49 := h9; omega)
  have g50 := sm2.get g50 (fun h9 => by have h8 : 33 ≤ 50 ∧ 50 ≤ 49 := h9; omega)
  refine lv_icmp_eq (tgt := 1033) hx hb dL_law_540 (by decide) (fun _ => ?_) (fun h9 => absurd rfl h9)
  refine W.widen (k := cells + 50) (n := slots + 2400) (by show cells + 0 + 0 ≤ cells + 50; omega) (by show slots + 0 + 0 ≤ slots + 2400; omega) ?_
  exact hG ws2 H2 locs2 ls ⟨_, _, _, _, _, _, _, _, _, _, _, _, _, hO1, hC2, ⟨_, hM2⟩, vv, g50⟩ hP hD hS hl
set_option maxHeartbeats 8000000 in
set_option maxRecDepth 100000 in
theorem lk_letter {p : Program} {l : Launch} {e : Env} {s : State} {m : MethodId} {below : List Frame} {meth : Method} {c : Code} {b L : Nat} {xs : Nat → Int32} {D : va_G} {cB cI cJ cO : ClassId} {ad mi z0 m0 o0 i cells slots : Nat} {ws : va_W} {H : Heap} {locs : List Loc} {ls : Array Slot} (C : LC p l s m meth c b L xs D cB cI cJ cO ad mi) (hL : L ≤ 3072) (hi : i + 6 ≤ L) (hc : cells + 50 ≤ 601024) (hs : slots + 2400 ≤ 7293034) (hG : LGo p l e s m below meth c b D cB cI cJ cO ad z0 m0 o0 i (cells + 50) (slots + 2400)) (hI : LwI cB cI cJ cO ad z0 m0 o0 ws) (hP : va_P D vwCl ws H) (hD : va_D (fun q : Nat => s.heap.size ≤ q) ws) (hS : va_S (fun q : Nat => s.heap.size ≤ q) s.heap H locs) (hl : lv_has ls 7 [(0, .ref b), (1, .ref z0), (2, .ref m0), (3, .ref o0), (4, .int (nI i))]) : W p l e room_1 s m #[Value.ref b] below meth c H locs cells slots (lw_Z below #[Value.ref b] s) (F0 m 681 ls []) := by
  obtain ⟨hx, hb, hr, hml, hown, hts, hX, hbl, hlocks, hlt, hK, hXT⟩ := id C
  have hA : ∀ q : Nat, s.heap.size ≤ q → (fun q : Nat => s.heap.size ≤ q) q := fun _ h => h
  have hbA : ¬ (fun q : Nat => s.heap.size ≤ q) b := Nat.not_le.mpr hbl
  obtain ⟨T, sh, so, wi, ta, tb, E, docs, ca, bb, rr, pp, qq, hO, hC, ⟨th, hM⟩, vv, g50⟩ := id hI
  obtain ⟨a1, t0, d0, s0, e0, k0, al, s1, s2, s3, eh, es, er, nd, dd, HS, SS, RS, g0, -⟩ := id hC
  refine lv_aload_n hx hb dL_law_681 rfl (lv_at hl 1 rfl) ?_
  refine lw_arg hx hb hX hbl hbA hS (lv_at hl 0 rfl) (lv_at hl 4 rfl) 1 (by omega) (by omega) (by decide) dL_law_682 dL_law_683 dL_law_685 dL_law_686 dL_law_687 ?_
  refine lw_arg hx hb hX hbl hbA hS (lv_at hl 0 rfl) (lv_at hl 4 rfl) 2 (by omega) (by omega) (by decide) dL_law_688 dL_law_689 dL_law_691 dL_law_692 dL_law_693 ?_
  refine CI.go (va_runV (As := [.int (xs (i + 1)), .int (xs (i + 2))]) (rest := []) ⟨hx, hb, hml, hown, hts⟩ (o_letter hO hC _) (cwV 2 hts gL_law_X8_letter rfl rfl rfl (by decide +kernel) ⟨Nat.le_of_ble_eq_true rfl, Nat.le_of_ble_eq_true rfl⟩) ⟨pw_blind, va_recv hK hP (ci := 9) (q0 := 0) rfl g0, fun U hU hW => pw_pre hK hP hD hU hW⟩ rfl rfl hl.1 rfl (lv_room (Nat.le_of_ble_eq_true rfl)) dL_law_694 ⟨by show cells + 0 ≤ 601024; omega, by show slots + 0 ≤ 7293034; omega⟩) hD hS hA (fun r ws1 H1 locs1 hp hP hD hS => ?_)
  obtain ⟨rfl, hO1, hC1, sm1⟩ := hp
  have hM1 := hM.fr sm1 (fun k h9 => by have h8 : k ≤ 32 ∨ 51 ≤ k := h9; omega)
  have g50 := sm1.get g50 (fun h9 => by have h8 : 50 ≤ 32 ∨ 51 ≤ 50 := h9; omega)
  obtain ⟨b1, b2, b5, b6, b7, b12, b14, b15, b16, b20, b21, b22, b23, b24, b26, b31, ps, fm, sta, f, fp, lf, ff, zf, fr, gn, gm, gs, gw, go, gt, gl, fa, g33, -⟩ := id hM1
  refine lv_aload_n hx hb dL_law_697 rfl (lv_at hl 2 rfl) ?_
  refine lw_arg hx hb hX hbl hbA hS (lv_at hl 0 rfl) (lv_at hl 4 rfl) 1 (by omega) (by omega) (by decide) dL_law_698 dL_law_699 dL_law_701 dL_law_702 dL_law_703 ?_
  refine lw_arg hx hb hX hbl hbA hS (lv_at hl 0 rfl) (lv_at hl 4 rfl) 2 (by omega) (by omega) (by decide) dL_law_704 dL_law_705 dL_law_707 dL_law_708 dL_law_709 ?_
  refine CI.go (va_runV (As := [.int (xs (i + 1)), .int (xs (i + 2))]) (rest := [.int _]) ⟨hx, hb, hml, hown, hts⟩ (p_letter hO hM1 _) (cwV 2 hts gL_law_X9_letter rfl rfl rfl (by decide +kernel) ⟨Nat.le_of_ble_eq_true rfl, Nat.le_of_ble_eq_true rfl⟩) ⟨pw_blind, va_recv hK hP (ci := 10) (q0 := 33) rfl g33, fun U hU hW => pw_pre hK hP hD hU hW⟩ rfl rfl hl.1 rfl (lv_room (Nat.le_of_ble_eq_true rfl)) dL_law_710 ⟨by show cells + 0 + 0 ≤ 601024; omega, by show slots + 0 + 0 ≤ 7293034; omega⟩) hD hS hA (fun r ws2 H2 locs2 hp hP hD hS => ?_)
  obtain ⟨rfl, hM2, sm2⟩ := hp
  have hC2 := hC1.fr sm2 (fun k h9 => by have h8 : 33 ≤ k ∧ k ≤ 49 := h9; omega)
  have g50 := sm2.get g50 (fun h9 => by have h8 : 33 ≤ 50 ∧ 50 ≤ 49 := h9; omega)
  refine lv_icmp_eq (tgt := 1033) hx hb dL_law_713 (by decide) (fun _ => ?_) (fun h9 => absurd rfl h9)
  refine W.widen (k := cells + 50) (n := slots + 2400) (by show cells + 0 + 0 ≤ cells + 50; omega) (by show slots + 0 + 0 ≤ slots + 2400; omega) ?_
  exact hG ws2 H2 locs2 ls ⟨_, _, _, _, _, _, _, _, _, _, _, _, _, hO1, hC2, ⟨_, hM2⟩, vv, g50⟩ hP hD hS hl
