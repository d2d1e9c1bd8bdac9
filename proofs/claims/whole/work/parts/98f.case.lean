set_option maxHeartbeats 8000000 in
set_option maxRecDepth 100000 in
theorem lk_mode {p : Program} {l : Launch} {e : Env} {s : State} {m : MethodId} {below : List Frame} {meth : Method} {c : Code} {b L : Nat} {xs : Nat → Int32} {D : va_G} {cB cI cJ cO : ClassId} {ad mi z0 m0 o0 i cells slots : Nat} {ws : va_W} {H : Heap} {locs : List Loc} {ls : Array Slot} (C : LC p l s m meth c b L xs D cB cI cJ cO ad mi) (hL : L ≤ 3072) (hi : i + 6 ≤ L) (hc : cells + 50 ≤ 601024) (hs : slots + 2400 ≤ 7293034) (hG : LGo p l e s m below meth c b D cB cI cJ cO ad z0 m0 o0 i (cells + 50) (slots + 2400)) (hI : LwI cB cI cJ cO ad z0 m0 o0 ws) (hP : va_P D vwCl ws H) (hD : va_D (fun q : Nat => s.heap.size ≤ q) ws) (hS : va_S (fun q : Nat => s.heap.size ≤ q) s.heap H locs) (hl : lv_has ls 7 [(0, .ref b), (1, .ref z0), (2, .ref m0), (3, .ref o0), (4, .int (nI i))]) : W p l e room_1 s m #[Value.ref b] below meth c H locs cells slots (lw_Z below #[Value.ref b] s) (F0 m 268 ls []) := by
  obtain ⟨hx, hb, hr, hml, hown, hts, hX, hbl, hlocks, hlt, hK, hXT⟩ := id C
  have hA : ∀ q : Nat, s.heap.size ≤ q → (fun q : Nat => s.heap.size ≤ q) q := fun _ h => h
  have hbA : ¬ (fun q : Nat => s.heap.size ≤ q) b := Nat.not_le.mpr hbl
  obtain ⟨T, sh, so, wi, ta, tb, E, docs, ca, bb, rr, pp, qq, hO, hC, ⟨th, hM⟩, vv, g50⟩ := id hI
  obtain ⟨a1, t0, d0, s0, e0, k0, al, s1, s2, s3, eh, es, er, nd, dd, HS, SS, RS, g0, -⟩ := id hC
  refine lv_aload_n hx hb dL_law_268 rfl (lv_at hl 1 rfl) ?_
  refine lw_arg hx hb hX hbl hbA hS (lv_at hl 0 rfl) (lv_at hl 4 rfl) 1 (by omega) (by omega) (by decide) dL_law_269 dL_law_270 dL_law_272 dL_law_273 dL_law_274 ?_
  refine lw_arg hx hb hX hbl hbA hS (lv_at hl 0 rfl) (lv_at hl 4 rfl) 2 (by omega) (by omega) (by decide) dL_law_275 dL_law_276 dL_law_278 dL_law_279 dL_law_280 ?_
  refine lv_aload_n hx hb dL_law_281 rfl (lv_at hl 3 rfl) ?_
  refine CIT.go (vx_runSX (As := [.ref z0, .int (xs (i + 1)), .int (xs (i + 2)), .ref o0]) (rest := []) ⟨hx, hb, hml, hown, hts⟩ (r_mode (mi := mi) hlt hO hC g50 _) (vx_cwSW 4 hts gL_law_L_mode rfl rfl rfl (by decide +kernel) ⟨Nat.le_of_ble_eq_true rfl, Nat.le_of_ble_eq_true rfl⟩) ⟨pwt_blind, fun U hU hW => pwt_pre hXT hA hS hK hP hD hU hW⟩ rfl rfl hl.1 rfl (lv_room (Nat.le_of_ble_eq_true rfl)) dL_law_282 ⟨by show cells + 49 ≤ 601024; omega, by show slots + 2358 ≤ 7293034; omega⟩) hD hS hA (fun E ce q9 u H1 locs1 hp => hp.elim) (fun r ws1 H1 locs1 hp hP hD hS => ?_)
  obtain ⟨rfl, hO1, hC1, sm1, v2, n50, hv2⟩ := hp
  have hM1 := hM.fr sm1 (fun k h9 => by have h8 : k ≤ 32 ∨ 50 ≤ k := h9; omega)
  obtain ⟨b1, b2, b5, b6, b7, b12, b14, b15, b16, b20, b21, b22, b23, b24, b26, b31, ps, fm, sta, f, fp, lf, ff, zf, fr, gn, gm, gs, gw, go, gt, gl, fa, g33, -⟩ := id hM1
  refine lv_istore (lv' := [(5, .int (nI ((!(modeOk (xs (i + 1)) (xs (i + 2)))).toNat))), (0, .ref b), (1, .ref z0), (2, .ref m0), (3, .ref o0), (4, .int (nI i))]) hx hb dL_law_285 hl (by decide) rfl (fun ls hl => ?_)
  refine lv_aload_n hx hb dL_law_287 rfl (lv_at hl 3 rfl) ?_
  refine lw_arg hx hb hX hbl hbA hS (lv_at hl 1 rfl) (lv_at hl 5 rfl) 1 (by omega) (by omega) (by decide) dL_law_288 dL_law_289 dL_law_291 dL_law_292 dL_law_293 ?_
  refine lw_arg hx hb hX hbl hbA hS (lv_at hl 1 rfl) (lv_at hl 5 rfl) 2 (by omega) (by omega) (by decide) dL_law_294 dL_law_295 dL_law_297 dL_law_298 dL_law_299 ?_
  refine CI.go (va_runV (As := [.int (xs (i + 1)), .int (xs (i + 2))]) (rest := []) ⟨hx, hb, hml, hown, hts⟩ (p_mode hO hM1 _) (cwV 2 hts gL_law_X9_mode rfl rfl rfl (by decide +kernel) ⟨Nat.le_of_ble_eq_true rfl, Nat.le_of_ble_eq_true rfl⟩) ⟨pw_blind, va_recv hK hP (ci := 10) (q0 := 33) rfl g33, fun U hU hW => pw_pre hK hP hD hU hW⟩ rfl rfl hl.1 rfl (lv_room (Nat.le_of_ble_eq_true rfl)) dL_law_300 ⟨by show cells + 49 + 0 ≤ 601024; omega, by show slots + 2358 + 0 ≤ 7293034; omega⟩) hD hS hA (fun r ws2 H2 locs2 hp hP hD hS => ?_)
  obtain ⟨rfl, hM2, sm2⟩ := hp
  have hC2 := hC1.fr sm2 (fun k h9 => by have h8 : 33 ≤ k ∧ k ≤ 49 := h9; omega)
  have n50 := sm2.get n50 (fun h9 => by have h8 : 33 ≤ 50 ∧ 50 ≤ 49 := h9; omega)
  refine lv_istore (lv' := [(6, .int ((bif modeOk (xs (i + 1)) (xs (i + 2)) then nI docs.length else 0))), (5, .int (nI ((!(modeOk (xs (i + 1)) (xs (i + 2)))).toNat))), (0, .ref b), (1, .ref z0), (2, .ref m0), (3, .ref o0), (4, .int (nI i))]) hx hb dL_law_303 hl (by decide) rfl (fun ls hl => ?_)
  refine lv_aload_n hx hb dL_law_305 rfl (lv_at hl 4 rfl) ?_
  obtain ⟨b1, b2, b5, b6, b7, b12, b14, b15, b16, b20, b21, b22, b23, b24, b26, b31, ps, fm, sta, f, fp, lf, ff, zf, fr, gn, gm, gs, gw, go, gt, gl, fa, g33, -⟩ := id hM2
  refine CI.go (va_runV (As := []) (rest := []) ⟨hx, hb, hml, hown, hts⟩ (p_thrown hM2 _) (cwV 0 hts gL_law_X9_thrown rfl rfl rfl (by decide +kernel) ⟨Nat.le_of_ble_eq_true rfl, Nat.le_of_ble_eq_true rfl⟩) ⟨pw_blind, va_recv hK hP (ci := 10) (q0 := 33) rfl g33, fun U hU hW => pw_pre hK hP hD hU hW⟩ rfl rfl hl.1 rfl (lv_room (Nat.le_of_ble_eq_true rfl)) dL_law_306 ⟨by show cells + 49 + 0 + 0 ≤ 601024; omega, by show slots + 2358 + 0 + 0 ≤ 7293034; omega⟩) hD hS hA (fun r ws3 H3 locs3 hp hP hD hS => ?_)
  obtain ⟨rfl, rfl⟩ := hp
  refine lv_iload hx hb dL_law_309 (lv_at hl 1 rfl) ?_
  refine lv_icmp_eq (tgt := 316) hx hb dL_law_311 (by decide) (fun _ => ?_) (fun h9 => absurd rfl h9)
  have hfin : W p l e room_1 s m #[Value.ref b] below meth c H3 locs3 (cells + 49 + 0 + 0) (slots + 2358 + 0 + 0) (lw_Z below #[Value.ref b] s) (F0 m 333 ls []) := by
    refine lv_goto (tgt := 1033) hx hb dL_law_333 (by decide) ?_
    refine W.widen (k := cells + 50) (n := slots + 2400) (by omega) (by omega) ?_
    exact hG _ H3 locs3 ls ⟨_, _, _, _, _, _, _, _, _, _, _, _, _, hO1, hC2, ⟨_, hM2⟩, v2, n50⟩ hP hD hS (lv_sub hl [2, 3, 4, 5, 6] rfl)
  refine lv_iload hx hb dL_law_316 (lv_at hl 1 rfl) ?_
  refine nx_if_ne (tgt := 333) hx hb (bn2 _) dL_law_318 (by decide) (fun _ => hfin) (fun h9 => ?_)
  have hok : (modeOk (xs (i + 1)) (xs (i + 2))) = true := by
    cases h8 : (modeOk (xs (i + 1)) (xs (i + 2))) with
    | true => rfl
    | false => rw [h8] at h9; exact absurd h9 (by decide)
  refine lv_aload_n hx hb dL_law_321 rfl (lv_at hl 5 rfl) ?_
  refine lv_iconst (v := nI 0) hx hb dL_law_322 (by decide) ?_
  refine nx_lald hx hb hK hP 50 2 n50 rfl (k := 0) (by decide) (by decide) dL_law_323 ?_
  rw [hv2 hok]
  refine lv_iload hx hb dL_law_324 (lv_at hl 0 rfl) ?_
  refine lv_i2l hx hb dL_law_326 rfl ?_
  refine W.lcmp hx hb dL_law_327 ?_
  exact lv_if_eq (tgt := 333) hx hb dL_law_328 (by decide) (fun _ => hfin) (fun h9 => absurd ((lg_cmp_eq _ _).mpr rfl) h9)
set_option maxHeartbeats 8000000 in
set_option maxRecDepth 100000 in
theorem lk_document {p : Program} {l : Launch} {e : Env} {s : State} {m : MethodId} {below : List Frame} {meth : Method} {c : Code} {b L : Nat} {xs : Nat → Int32} {D : va_G} {cB cI cJ cO : ClassId} {ad mi z0 m0 o0 i cells slots : Nat} {ws : va_W} {H : Heap} {locs : List Loc} {ls : Array Slot} (C : LC p l s m meth c b L xs D cB cI cJ cO ad mi) (hL : L ≤ 3072) (hi : i + 6 ≤ L) (hc : cells + 50 ≤ 601024) (hs : slots + 2400 ≤ 7293034) (hG : LGo p l e s m below meth c b D cB cI cJ cO ad z0 m0 o0 i (cells + 50) (slots + 2400)) (hI : LwI cB cI cJ cO ad z0 m0 o0 ws) (hP : va_P D vwCl ws H) (hD : va_D (fun q : Nat => s.heap.size ≤ q) ws) (hS : va_S (fun q : Nat => s.heap.size ≤ q) s.heap H locs) (hl : lv_has ls 7 [(0, .ref b), (1, .ref z0), (2, .ref m0), (3, .ref o0), (4, .int (nI i))]) : W p l e room_1 s m #[Value.ref b] below meth c H locs cells slots (lw_Z below #[Value.ref b] s) (F0 m 545 ls []) := by
  obtain ⟨hx, hb, hr, hml, hown, hts, hX, hbl, hlocks, hlt, hK, hXT⟩ := id C
  have hA : ∀ q : Nat, s.heap.size ≤ q → (fun q : Nat => s.heap.size ≤ q) q := fun _ h => h
  have hbA : ¬ (fun q : Nat => s.heap.size ≤ q) b := Nat.not_le.mpr hbl
  obtain ⟨T, sh, so, wi, ta, tb, E, docs, ca, bb, rr, pp, qq, hO, hC, ⟨th, hM⟩, vv, g50⟩ := id hI
  obtain ⟨a1, t0, d0, s0, e0, k0, al, s1, s2, s3, eh, es, er, nd, dd, HS, SS, RS, g0, -⟩ := id hC
  refine lv_aload_n hx hb dL_law_545 rfl (lv_at hl 1 rfl) ?_
  refine lw_arg hx hb hX hbl hbA hS (lv_at hl 0 rfl) (lv_at hl 4 rfl) 1 (by omega) (by omega) (by decide) dL_law_546 dL_law_547 dL_law_549 dL_law_550 dL_law_551 ?_
  refine lw_arg hx hb hX hbl hbA hS (lv_at hl 0 rfl) (lv_at hl 4 rfl) 2 (by omega) (by omega) (by decide) dL_law_552 dL_law_553 dL_law_555 dL_law_556 dL_law_557 ?_
  refine lv_aload_n hx hb dL_law_558 rfl (lv_at hl 3 rfl) ?_
  refine CIT.go (vx_runSX (As := [.ref z0, .int (xs (i + 1)), .int (xs (i + 2)), .ref o0]) (rest := []) ⟨hx, hb, hml, hown, hts⟩ (r_document (mi := mi) hlt hO hC g50 _) (vx_cwSW 4 hts gL_law_L_documentN rfl rfl rfl (by decide +kernel) ⟨Nat.le_of_ble_eq_true rfl, Nat.le_of_ble_eq_true rfl⟩) ⟨pwt_blind, fun U hU hW => pwt_pre hXT hA hS hK hP hD hU hW⟩ rfl rfl hl.1 rfl (lv_room (Nat.le_of_ble_eq_true rfl)) dL_law_559 ⟨by show cells + 1 ≤ 601024; omega, by show slots + 6 ≤ 7293034; omega⟩) hD hS hA (fun E ce q9 u H1 locs1 hp => hp.elim) (fun r ws1 H1 locs1 hp hP hD hS => ?_)
  obtain ⟨rfl, hO1, hC1, sm1, v2, n50, hv2⟩ := hp
  have hM1 := hM.fr sm1 (fun k h9 => by have h8 : k ≤ 32 ∨ 50 ≤ k := h9; omega)
  obtain ⟨b1, b2, b5, b6, b7, b12, b14, b15, b16, b20, b21, b22, b23, b24, b26, b31, ps, fm, sta, f, fp, lf, ff, zf, fr, gn, gm, gs, gw, go, gt, gl, fa, g33, -⟩ := id hM1
  refine lv_istore (lv' := [(5, .int (nI ((!(docOk docs (xs (i + 1)) (xs (i + 2)))).toNat))), (0, .ref b), (1, .ref z0), (2, .ref m0), (3, .ref o0), (4, .int (nI i))]) hx hb dL_law_562 hl (by decide) rfl (fun ls hl => ?_)
  refine lv_aload_n hx hb dL_law_564 rfl (lv_at hl 3 rfl) ?_
  refine lw_arg hx hb hX hbl hbA hS (lv_at hl 1 rfl) (lv_at hl 5 rfl) 1 (by omega) (by omega) (by decide) dL_law_565 dL_law_566 dL_law_568 dL_law_569 dL_law_570 ?_
  refine lw_arg hx hb hX hbl hbA hS (lv_at hl 1 rfl) (lv_at hl 5 rfl) 2 (by omega) (by omega) (by decide) dL_law_571 dL_law_572 dL_law_574 dL_law_575 dL_law_576 ?_
  refine CI.go (va_runV (As := [.int (xs (i + 1)), .int (xs (i + 2))]) (rest := []) ⟨hx, hb, hml, hown, hts⟩ (p_document hO hM1 _) (cwV 2 hts gL_law_X9_document rfl rfl rfl (by decide +kernel) ⟨Nat.le_of_ble_eq_true rfl, Nat.le_of_ble_eq_true rfl⟩) ⟨pw_blind, va_recv hK hP (ci := 10) (q0 := 33) rfl g33, fun U hU hW => pw_pre hK hP hD hU hW⟩ rfl rfl hl.1 rfl (lv_room (Nat.le_of_ble_eq_true rfl)) dL_law_577 ⟨by show cells + 1 + 0 ≤ 601024; omega, by show slots + 6 + 0 ≤ 7293034; omega⟩) hD hS hA (fun r ws2 H2 locs2 hp hP hD hS => ?_)
  obtain ⟨rfl, hM2, sm2⟩ := hp
  have hC2 := hC1.fr sm2 (fun k h9 => by have h8 : 33 ≤ k ∧ k ≤ 49 := h9; omega)
  have n50 := sm2.get n50 (fun h9 => by have h8 : 33 ≤ 50 ∧ 50 ≤ 49 := h9; omega)
  refine lv_istore (lv' := [(6, .int ((docR (twM ta tb E docs rr bb pp qq) docs (xs (i + 1)) (xs (i + 2))))), (5, .int (nI ((!(docOk docs (xs (i + 1)) (xs (i + 2)))).toNat))), (0, .ref b), (1, .ref z0), (2, .ref m0), (3, .ref o0), (4, .int (nI i))]) hx hb dL_law_580 hl (by decide) rfl (fun ls hl => ?_)
  refine lv_aload_n hx hb dL_law_582 rfl (lv_at hl 4 rfl) ?_
  obtain ⟨b1, b2, b5, b6, b7, b12, b14, b15, b16, b20, b21, b22, b23, b24, b26, b31, ps, fm, sta, f, fp, lf, ff, zf, fr, gn, gm, gs, gw, go, gt, gl, fa, g33, -⟩ := id hM2
  refine CI.go (va_runV (As := []) (rest := []) ⟨hx, hb, hml, hown, hts⟩ (p_thrown hM2 _) (cwV 0 hts gL_law_X9_thrown rfl rfl rfl (by decide +kernel) ⟨Nat.le_of_ble_eq_true rfl, Nat.le_of_ble_eq_true rfl⟩) ⟨pw_blind, va_recv hK hP (ci := 10) (q0 := 33) rfl g33, fun U hU hW => pw_pre hK hP hD hU hW⟩ rfl rfl hl.1 rfl (lv_room (Nat.le_of_ble_eq_true rfl)) dL_law_583 ⟨by show cells + 1 + 0 + 0 ≤ 601024; omega, by show slots + 6 + 0 + 0 ≤ 7293034; omega⟩) hD hS hA (fun r ws3 H3 locs3 hp hP hD hS => ?_)
  obtain ⟨rfl, rfl⟩ := hp
  refine lv_iload hx hb dL_law_586 (lv_at hl 1 rfl) ?_
  refine lv_icmp_eq (tgt := 593) hx hb dL_law_588 (by decide) (fun _ => ?_) (fun h9 => absurd rfl h9)
  have hfin : W p l e room_1 s m #[Value.ref b] below meth c H3 locs3 (cells + 1 + 0 + 0) (slots + 6 + 0 + 0) (lw_Z below #[Value.ref b] s) (F0 m 610 ls []) := by
    refine lv_goto (tgt := 1033) hx hb dL_law_610 (by decide) ?_
    refine W.widen (k := cells + 50) (n := slots + 2400) (by omega) (by omega) ?_
    exact hG _ H3 locs3 ls ⟨_, _, _, _, _, _, _, _, _, _, _, _, _, hO1, hC2, ⟨_, hM2⟩, v2, n50⟩ hP hD hS (lv_sub hl [2, 3, 4, 5, 6] rfl)
  refine lv_iload hx hb dL_law_593 (lv_at hl 1 rfl) ?_
  refine nx_if_ne (tgt := 610) hx hb (bn2 _) dL_law_595 (by decide) (fun _ => hfin) (fun h9 => ?_)
  have hok : (docOk docs (xs (i + 1)) (xs (i + 2))) = true := by
    cases h8 : (docOk docs (xs (i + 1)) (xs (i + 2))) with
    | true => rfl
    | false => rw [h8] at h9; exact absurd h9 (by decide)
  refine lv_aload_n hx hb dL_law_598 rfl (lv_at hl 5 rfl) ?_
  refine lv_iconst (v := nI 0) hx hb dL_law_599 (by decide) ?_
  refine nx_lald hx hb hK hP 50 2 n50 rfl (k := 0) (by decide) (by decide) dL_law_600 ?_
  rw [hv2 hok]
  refine lv_iload hx hb dL_law_601 (lv_at hl 0 rfl) ?_
  refine lv_i2l hx hb dL_law_603 rfl ?_
  refine W.lcmp hx hb dL_law_604 ?_
  exact lv_if_eq (tgt := 610) hx hb dL_law_605 (by decide) (fun _ => hfin) (fun h9 => absurd ((lg_cmp_eq _ _).mpr rfl) h9)
set_option maxHeartbeats 8000000 in
set_option maxRecDepth 100000 in
theorem lk_shingle {p : Program} {l : Launch} {e : Env} {s : State} {m : MethodId} {below : List Frame} {meth : Method} {c : Code} {b L : Nat} {xs : Nat → Int32} {D : va_G} {cB cI cJ cO : ClassId} {ad mi z0 m0 o0 i cells slots : Nat} {ws : va_W} {H : Heap} {locs : List Loc} {ls : Array Slot} (C : LC p l s m meth c b L xs D cB cI cJ cO ad mi) (hL : L ≤ 3072) (hi : i + 6 ≤ L) (hc : cells + 50 ≤ 601024) (hs : slots + 2400 ≤ 7293034) (hG : LGo p l e s m below meth c b D cB cI cJ cO ad z0 m0 o0 i (cells + 50) (slots + 2400)) (hI : LwI cB cI cJ cO ad z0 m0 o0 ws) (hP : va_P D vwCl ws H) (hD : va_D (fun q : Nat => s.heap.size ≤ q) ws) (hS : va_S (fun q : Nat => s.heap.size ≤ q) s.heap H locs) (hl : lv_has ls 7 [(0, .ref b), (1, .ref z0), (2, .ref m0), (3, .ref o0), (4, .int (nI i))]) : W p l e room_1 s m #[Value.ref b] below meth c H locs cells slots (lw_Z below #[Value.ref b] s) (F0 m 613 ls []) := by
  obtain ⟨hx, hb, hr, hml, hown, hts, hX, hbl, hlocks, hlt, hK, hXT⟩ := id C
  have hA : ∀ q : Nat, s.heap.size ≤ q → (fun q : Nat => s.heap.size ≤ q) q := fun _ h => h
  have hbA : ¬ (fun q : Nat => s.heap.size ≤ q) b := Nat.not_le.mpr hbl
  obtain ⟨T, sh, so, wi, ta, tb, E, docs, ca, bb, rr, pp, qq, hO, hC, ⟨th, hM⟩, vv, g50⟩ := id hI
  obtain ⟨a1, t0, d0, s0, e0, k0, al, s1, s2, s3, eh, es, er, nd, dd, HS, SS, RS, g0, -⟩ := id hC
  refine lv_aload_n hx hb dL_law_613 rfl (lv_at hl 1 rfl) ?_
  refine lw_arg hx hb hX hbl hbA hS (lv_at hl 0 rfl) (lv_at hl 4 rfl) 1 (by omega) (by omega) (by decide) dL_law_614 dL_law_615 dL_law_617 dL_law_618 dL_law_619 ?_
  refine lw_arg hx hb hX hbl hbA hS (lv_at hl 0 rfl) (lv_at hl 4 rfl) 2 (by omega) (by omega) (by decide) dL_law_620 dL_law_621 dL_law_623 dL_law_624 dL_law_625 ?_
  refine lv_aload_n hx hb dL_law_626 rfl (lv_at hl 3 rfl) ?_
  refine CIT.go (vx_runSX (As := [.ref z0, .int (xs (i + 1)), .int (xs (i + 2)), .ref o0]) (rest := []) ⟨hx, hb, hml, hown, hts⟩ (r_shingle (mi := mi) hlt hO hC g50 _) (vx_cwSW 4 hts gL_law_L_shingleN rfl rfl rfl (by decide +kernel) ⟨Nat.le_of_ble_eq_true rfl, Nat.le_of_ble_eq_true rfl⟩) ⟨pwt_blind, fun U hU hW => pwt_pre hXT hA hS hK hP hD hU hW⟩ rfl rfl hl.1 rfl (lv_room (Nat.le_of_ble_eq_true rfl)) dL_law_627 ⟨by show cells + 1 ≤ 601024; omega, by show slots + 6 ≤ 7293034; omega⟩) hD hS hA (fun E ce q9 u H1 locs1 hp => hp.elim) (fun r ws1 H1 locs1 hp hP hD hS => ?_)
  obtain ⟨rfl, hO1, hC1, sm1, v2, n50, hv2⟩ := hp
  have hM1 := hM.fr sm1 (fun k h9 => by have h8 : k ≤ 32 ∨ 50 ≤ k := h9; omega)
  obtain ⟨b1, b2, b5, b6, b7, b12, b14, b15, b16, b20, b21, b22, b23, b24, b26, b31, ps, fm, sta, f, fp, lf, ff, zf, fr, gn, gm, gs, gw, go, gt, gl, fa, g33, -⟩ := id hM1
  refine lv_istore (lv' := [(5, .int (nI ((!(slotOf (docs.map (fun d => d.1)) (xs (i + 1))).isSome).toNat))), (0, .ref b), (1, .ref z0), (2, .ref m0), (3, .ref o0), (4, .int (nI i))]) hx hb dL_law_630 hl (by decide) rfl (fun ls hl => ?_)
  refine lv_aload_n hx hb dL_law_632 rfl (lv_at hl 3 rfl) ?_
  refine lw_arg hx hb hX hbl hbA hS (lv_at hl 1 rfl) (lv_at hl 5 rfl) 1 (by omega) (by omega) (by decide) dL_law_633 dL_law_634 dL_law_636 dL_law_637 dL_law_638 ?_
  refine lw_arg hx hb hX hbl hbA hS (lv_at hl 1 rfl) (lv_at hl 5 rfl) 2 (by omega) (by omega) (by decide) dL_law_639 dL_law_640 dL_law_642 dL_law_643 dL_law_644 ?_
  refine CI.go (va_runV (As := [.int (xs (i + 1)), .int (xs (i + 2))]) (rest := []) ⟨hx, hb, hml, hown, hts⟩ (p_shingle hO hM1 _) (cwV 2 hts gL_law_X9_shingle rfl rfl rfl (by decide +kernel) ⟨Nat.le_of_ble_eq_true rfl, Nat.le_of_ble_eq_true rfl⟩) ⟨pw_blind, va_recv hK hP (ci := 10) (q0 := 33) rfl g33, fun U hU hW => pw_pre hK hP hD hU hW⟩ rfl rfl hl.1 rfl (lv_room (Nat.le_of_ble_eq_true rfl)) dL_law_645 ⟨by show cells + 1 + 0 ≤ 601024; omega, by show slots + 6 + 0 ≤ 7293034; omega⟩) hD hS hA (fun r ws2 H2 locs2 hp hP hD hS => ?_)
  obtain ⟨rfl, hM2, sm2⟩ := hp
  have hC2 := hC1.fr sm2 (fun k h9 => by have h8 : 33 ≤ k ∧ k ≤ 49 := h9; omega)
  have n50 := sm2.get n50 (fun h9 => by have h8 : 33 ≤ 50 ∧ 50 ≤ 49 := h9; omega)
  refine lv_istore (lv' := [(6, .int ((bif (slotOf (docs.map (fun d => d.1)) (xs (i + 1))).isSome then shR (dset docs (slotOf (docs.map (fun d => d.1)) (xs (i + 1)))) (xs (i + 2)) else 0))), (5, .int (nI ((!(slotOf (docs.map (fun d => d.1)) (xs (i + 1))).isSome).toNat))), (0, .ref b), (1, .ref z0), (2, .ref m0), (3, .ref o0), (4, .int (nI i))]) hx hb dL_law_648 hl (by decide) rfl (fun ls hl => ?_)
  refine lv_aload_n hx hb dL_law_650 rfl (lv_at hl 4 rfl) ?_
  obtain ⟨b1, b2, b5, b6, b7, b12, b14, b15, b16, b20, b21, b22, b23, b24, b26, b31, ps, fm, sta, f, fp, lf, ff, zf, fr, gn, gm, gs, gw, go, gt, gl, fa, g33, -⟩ := id hM2
  refine CI.go (va_runV (As := []) (rest := []) ⟨hx, hb, hml, hown, hts⟩ (p_thrown hM2 _) (cwV 0 hts gL_law_X9_thrown rfl rfl rfl (by decide +kernel) ⟨Nat.le_of_ble_eq_true rfl, Nat.le_of_ble_eq_true rfl⟩) ⟨pw_blind, va_recv hK hP (ci := 10) (q0 := 33) rfl g33, fun U hU hW => pw_pre hK hP hD hU hW⟩ rfl rfl hl.1 rfl (lv_room (Nat.le_of_ble_eq_true rfl)) dL_law_651 ⟨by show cells + 1 + 0 + 0 ≤ 601024; omega, by show slots + 6 + 0 + 0 ≤ 7293034; omega⟩) hD hS hA (fun r ws3 H3 locs3 hp hP hD hS => ?_)
  obtain ⟨rfl, rfl⟩ := hp
  refine lv_iload hx hb dL_law_654 (lv_at hl 1 rfl) ?_
  refine lv_icmp_eq (tgt := 661) hx hb dL_law_656 (by decide) (fun _ => ?_) (fun h9 => absurd rfl h9)
  have hfin : W p l e room_1 s m #[Value.ref b] below meth c H3 locs3 (cells + 1 + 0 + 0) (slots + 6 + 0 + 0) (lw_Z below #[Value.ref b] s) (F0 m 678 ls []) := by
    refine lv_goto (tgt := 1033) hx hb dL_law_678 (by decide) ?_
    refine W.widen (k := cells + 50) (n := slots + 2400) (by omega) (by omega) ?_
    exact hG _ H3 locs3 ls ⟨_, _, _, _, _, _, _, _, _, _, _, _, _, hO1, hC2, ⟨_, hM2⟩, v2, n50⟩ hP hD hS (lv_sub hl [2, 3, 4, 5, 6] rfl)
  refine lv_iload hx hb dL_law_661 (lv_at hl 1 rfl) ?_
  refine nx_if_ne (tgt := 678) hx hb (bn2 _) dL_law_663 (by decide) (fun _ => hfin) (fun h9 => ?_)
  have hok : (slotOf (docs.map (fun d => d.1)) (xs (i + 1))).isSome = true := by
    cases h8 : (slotOf (docs.map (fun d => d.1)) (xs (i + 1))).isSome with
    | true => rfl
    | false => rw [h8] at h9; exact absurd h9 (by decide)
  refine lv_aload_n hx hb dL_law_666 rfl (lv_at hl 5 rfl) ?_
  refine lv_iconst (v := nI 0) hx hb dL_law_667 (by decide) ?_
  refine nx_lald hx hb hK hP 50 2 n50 rfl (k := 0) (by decide) (by decide) dL_law_668 ?_
  rw [hv2 hok]
  refine lv_iload hx hb dL_law_669 (lv_at hl 0 rfl) ?_
  refine lv_i2l hx hb dL_law_671 rfl ?_
  refine W.lcmp hx hb dL_law_672 ?_
  exact lv_if_eq (tgt := 678) hx hb dL_law_673 (by decide) (fun _ => hfin) (fun h9 => absurd ((lg_cmp_eq _ _).mpr rfl) h9)
