set_option maxHeartbeats 8000000 in
set_option maxRecDepth 100000 in
theorem lk_pairs {p : Program} {l : Launch} {e : Env} {s : State} {m : MethodId} {below : List Frame} {meth : Method} {c : Code} {b L : Nat} {xs : Nat → Int32} {D : va_G} {cB cI cJ cO : ClassId} {ad mi z0 m0 o0 i cells slots : Nat} {ws : va_W} {H : Heap} {locs : List Loc} {ls : Array Slot} (C : LC p l s m meth c b L xs D cB cI cJ cO ad mi) (hL : L ≤ 3072) (hi : i + 6 ≤ L) (hc : cells + 50 ≤ 601024) (hs : slots + 2400 ≤ 7293034) (hG : LGo p l e s m below meth c b D cB cI cJ cO ad z0 m0 o0 i (cells + 50) (slots + 2400)) (hI : LwI cB cI cJ cO ad z0 m0 o0 ws) (hP : va_P D vwCl ws H) (hD : va_D (fun q : Nat => s.heap.size ≤ q) ws) (hS : va_S (fun q : Nat => s.heap.size ≤ q) s.heap H locs) (hl : lv_has ls 7 [(0, .ref b), (1, .ref z0), (2, .ref m0), (3, .ref o0), (4, .int (nI i))]) : W p l e room_1 s m #[Value.ref b] below meth c H locs cells slots (lw_Z below #[Value.ref b] s) (F0 m 866 ls []) := by
  obtain ⟨hx, hb, hr, hml, hown, hts, hX, hbl, hlocks, hlt, hK, hXT⟩ := id C
  have hA : ∀ q : Nat, s.heap.size ≤ q → (fun q : Nat => s.heap.size ≤ q) q := fun _ h => h
  have hbA : ¬ (fun q : Nat => s.heap.size ≤ q) b := Nat.not_le.mpr hbl
  obtain ⟨T, sh, so, wi, ta, tb, E, docs, ca, bb, rr, pp, qq, hO, hC, ⟨th, hM⟩, vv, g50⟩ := id hI
  obtain ⟨a1, t0, d0, s0, e0, k0, al, s1, s2, s3, eh, es, er, nd, dd, HS, SS, RS, g0, -⟩ := id hC
  refine lv_aload_n hx hb dL_law_866 rfl (lv_at hl 1 rfl) ?_
  refine lw_arg hx hb hX hbl hbA hS (lv_at hl 0 rfl) (lv_at hl 4 rfl) 1 (by omega) (by omega) (by decide) dL_law_867 dL_law_868 dL_law_870 dL_law_871 dL_law_872 ?_
  refine CI.go (va_runV (As := [.int (xs (i + 1))]) (rest := []) ⟨hx, hb, hml, hown, hts⟩ (o_pairs hO hC _) (cwV 1 hts gL_law_X8_pairs rfl rfl rfl (by decide +kernel) ⟨Nat.le_of_ble_eq_true rfl, Nat.le_of_ble_eq_true rfl⟩) ⟨pw_blind, va_recv hK hP (ci := 9) (q0 := 0) rfl g0, fun U hU hW => pw_pre hK hP hD hU hW⟩ rfl rfl hl.1 rfl (lv_room (Nat.le_of_ble_eq_true rfl)) dL_law_873 ⟨by show cells + 0 ≤ 601024; omega, by show slots + 0 ≤ 7293034; omega⟩) hD hS hA (fun r ws1 H1 locs1 hp hP hD hS => ?_)
  obtain ⟨rfl, hO1, hC1, sm1⟩ := hp
  have hM1 := hM.fr sm1 (fun k h9 => by have h8 : k ≤ 32 ∨ 51 ≤ k := h9; omega)
  have g50 := sm1.get g50 (fun h9 => by have h8 : 50 ≤ 32 ∨ 51 ≤ 50 := h9; omega)
  obtain ⟨b1, b2, b5, b6, b7, b12, b14, b15, b16, b20, b21, b22, b23, b24, b26, b31, ps, fm, sta, f, fp, lf, ff, zf, fr, gn, gm, gs, gw, go, gt, gl, fa, g33, -⟩ := id hM1
  refine lv_aload_n hx hb dL_law_876 rfl (lv_at hl 2 rfl) ?_
  refine lw_arg hx hb hX hbl hbA hS (lv_at hl 0 rfl) (lv_at hl 4 rfl) 1 (by omega) (by omega) (by decide) dL_law_877 dL_law_878 dL_law_880 dL_law_881 dL_law_882 ?_
  refine CI.go (va_runV (As := [.int (xs (i + 1))]) (rest := [.int _]) ⟨hx, hb, hml, hown, hts⟩ (p_pairs hO hM1 _) (cwV 1 hts gL_law_X9_pairs rfl rfl rfl (by decide +kernel) ⟨Nat.le_of_ble_eq_true rfl, Nat.le_of_ble_eq_true rfl⟩) ⟨pw_blind, va_recv hK hP (ci := 10) (q0 := 33) rfl g33, fun U hU hW => pw_pre hK hP hD hU hW⟩ rfl rfl hl.1 rfl (lv_room (Nat.le_of_ble_eq_true rfl)) dL_law_883 ⟨by show cells + 0 + 0 ≤ 601024; omega, by show slots + 0 + 0 ≤ 7293034; omega⟩) hD hS hA (fun r ws2 H2 locs2 hp hP hD hS => ?_)
  obtain ⟨rfl, hM2, sm2⟩ := hp
  have hC2 := hC1.fr sm2 (fun k h9 => by have h8 : 33 ≤ k ∧ k ≤ 49 := h9; omega)
  have g50 := sm2.get g50 (fun h9 => by have h8 : 33 ≤ 50 ∧ 50 ≤ 49 := h9; omega)
  refine lv_icmp_eq (tgt := 1033) hx hb dL_law_886 (by decide) (fun _ => ?_) (fun h9 => absurd rfl h9)
  refine W.widen (k := cells + 50) (n := slots + 2400) (by show cells + 0 + 0 ≤ cells + 50; omega) (by show slots + 0 + 0 ≤ slots + 2400; omega) ?_
  exact hG ws2 H2 locs2 ls ⟨_, _, _, _, _, _, _, _, _, _, _, _, _, hO1, hC2, ⟨_, hM2⟩, vv, g50⟩ hP hD hS hl
set_option maxHeartbeats 8000000 in
set_option maxRecDepth 100000 in
theorem lk_pair {p : Program} {l : Launch} {e : Env} {s : State} {m : MethodId} {below : List Frame} {meth : Method} {c : Code} {b L : Nat} {xs : Nat → Int32} {D : va_G} {cB cI cJ cO : ClassId} {ad mi z0 m0 o0 i cells slots : Nat} {ws : va_W} {H : Heap} {locs : List Loc} {ls : Array Slot} (C : LC p l s m meth c b L xs D cB cI cJ cO ad mi) (hL : L ≤ 3072) (hi : i + 6 ≤ L) (hc : cells + 50 ≤ 601024) (hs : slots + 2400 ≤ 7293034) (hG : LGo p l e s m below meth c b D cB cI cJ cO ad z0 m0 o0 i (cells + 50) (slots + 2400)) (hI : LwI cB cI cJ cO ad z0 m0 o0 ws) (hP : va_P D vwCl ws H) (hD : va_D (fun q : Nat => s.heap.size ≤ q) ws) (hS : va_S (fun q : Nat => s.heap.size ≤ q) s.heap H locs) (hl : lv_has ls 7 [(0, .ref b), (1, .ref z0), (2, .ref m0), (3, .ref o0), (4, .int (nI i))]) : W p l e room_1 s m #[Value.ref b] below meth c H locs cells slots (lw_Z below #[Value.ref b] s) (F0 m 891 ls []) := by
  obtain ⟨hx, hb, hr, hml, hown, hts, hX, hbl, hlocks, hlt, hK, hXT⟩ := id C
  have hA : ∀ q : Nat, s.heap.size ≤ q → (fun q : Nat => s.heap.size ≤ q) q := fun _ h => h
  have hbA : ¬ (fun q : Nat => s.heap.size ≤ q) b := Nat.not_le.mpr hbl
  obtain ⟨T, sh, so, wi, ta, tb, E, docs, ca, bb, rr, pp, qq, hO, hC, ⟨th, hM⟩, vv, g50⟩ := id hI
  obtain ⟨a1, t0, d0, s0, e0, k0, al, s1, s2, s3, eh, es, er, nd, dd, HS, SS, RS, g0, -⟩ := id hC
  refine lv_aload_n hx hb dL_law_891 rfl (lv_at hl 1 rfl) ?_
  refine lw_arg hx hb hX hbl hbA hS (lv_at hl 0 rfl) (lv_at hl 4 rfl) 1 (by omega) (by omega) (by decide) dL_law_892 dL_law_893 dL_law_895 dL_law_896 dL_law_897 ?_
  refine lw_arg hx hb hX hbl hbA hS (lv_at hl 0 rfl) (lv_at hl 4 rfl) 2 (by omega) (by omega) (by decide) dL_law_898 dL_law_899 dL_law_901 dL_law_902 dL_law_903 ?_
  refine lw_arg hx hb hX hbl hbA hS (lv_at hl 0 rfl) (lv_at hl 4 rfl) 3 (by omega) (by omega) (by decide) dL_law_904 dL_law_905 dL_law_907 dL_law_908 dL_law_909 ?_
  refine CI.go (va_runV (As := [.int (xs (i + 1)), .int (xs (i + 2)), .int (xs (i + 3))]) (rest := []) ⟨hx, hb, hml, hown, hts⟩ (o_pair hO hC _) (cwV 3 hts gL_law_X8_pair rfl rfl rfl (by decide +kernel) ⟨Nat.le_of_ble_eq_true rfl, Nat.le_of_ble_eq_true rfl⟩) ⟨pw_blind, va_recv hK hP (ci := 9) (q0 := 0) rfl g0, fun U hU hW => pw_pre hK hP hD hU hW⟩ rfl rfl hl.1 rfl (lv_room (Nat.le_of_ble_eq_true rfl)) dL_law_910 ⟨by show cells + 0 ≤ 601024; omega, by show slots + 0 ≤ 7293034; omega⟩) hD hS hA (fun r ws1 H1 locs1 hp hP hD hS => ?_)
  obtain ⟨rfl, hO1, hC1, sm1⟩ := hp
  have hM1 := hM.fr sm1 (fun k h9 => by have h8 : k ≤ 32 ∨ 51 ≤ k := h9; omega)
  have g50 := sm1.get g50 (fun h9 => by have h8 : 50 ≤ 32 ∨ 51 ≤ 50 := h9; omega)
  obtain ⟨b1, b2, b5, b6, b7, b12, b14, b15, b16, b20, b21, b22, b23, b24, b26, b31, ps, fm, sta, f, fp, lf, ff, zf, fr, gn, gm, gs, gw, go, gt, gl, fa, g33, -⟩ := id hM1
  refine lv_aload_n hx hb dL_law_913 rfl (lv_at hl 2 rfl) ?_
  refine lw_arg hx hb hX hbl hbA hS (lv_at hl 0 rfl) (lv_at hl 4 rfl) 1 (by omega) (by omega) (by decide) dL_law_914 dL_law_915 dL_law_917 dL_law_918 dL_law_919 ?_
  refine lw_arg hx hb hX hbl hbA hS (lv_at hl 0 rfl) (lv_at hl 4 rfl) 2 (by omega) (by omega) (by decide) dL_law_920 dL_law_921 dL_law_923 dL_law_924 dL_law_925 ?_
  refine lw_arg hx hb hX hbl hbA hS (lv_at hl 0 rfl) (lv_at hl 4 rfl) 3 (by omega) (by omega) (by decide) dL_law_926 dL_law_927 dL_law_929 dL_law_930 dL_law_931 ?_
  refine CI.go (va_runV (As := [.int (xs (i + 1)), .int (xs (i + 2)), .int (xs (i + 3))]) (rest := [.int _]) ⟨hx, hb, hml, hown, hts⟩ (p_pair hO hM1 _) (cwV 3 hts gL_law_X9_pair rfl rfl rfl (by decide +kernel) ⟨Nat.le_of_ble_eq_true rfl, Nat.le_of_ble_eq_true rfl⟩) ⟨pw_blind, va_recv hK hP (ci := 10) (q0 := 33) rfl g33, fun U hU hW => pw_pre hK hP hD hU hW⟩ rfl rfl hl.1 rfl (lv_room (Nat.le_of_ble_eq_true rfl)) dL_law_932 ⟨by show cells + 0 + 0 ≤ 601024; omega, by show slots + 0 + 0 ≤ 7293034; omega⟩) hD hS hA (fun r ws2 H2 locs2 hp hP hD hS => ?_)
  obtain ⟨rfl, hM2, sm2⟩ := hp
  have hC2 := hC1.fr sm2 (fun k h9 => by have h8 : 33 ≤ k ∧ k ≤ 49 := h9; omega)
  have g50 := sm2.get g50 (fun h9 => by have h8 : 33 ≤ 50 ∧ 50 ≤ 49 := h9; omega)
  refine lv_icmp_eq (tgt := 1033) hx hb dL_law_935 (by decide) (fun _ => ?_) (fun h9 => absurd rfl h9)
  refine W.widen (k := cells + 50) (n := slots + 2400) (by show cells + 0 + 0 ≤ cells + 50; omega) (by show slots + 0 + 0 ≤ slots + 2400; omega) ?_
  exact hG ws2 H2 locs2 ls ⟨_, _, _, _, _, _, _, _, _, _, _, _, _, hO1, hC2, ⟨_, hM2⟩, vv, g50⟩ hP hD hS hl
set_option maxHeartbeats 8000000 in
set_option maxRecDepth 100000 in
theorem lk_count {p : Program} {l : Launch} {e : Env} {s : State} {m : MethodId} {below : List Frame} {meth : Method} {c : Code} {b L : Nat} {xs : Nat → Int32} {D : va_G} {cB cI cJ cO : ClassId} {ad mi z0 m0 o0 i cells slots : Nat} {ws : va_W} {H : Heap} {locs : List Loc} {ls : Array Slot} (C : LC p l s m meth c b L xs D cB cI cJ cO ad mi) (hL : L ≤ 3072) (hi : i + 6 ≤ L) (hc : cells + 50 ≤ 601024) (hs : slots + 2400 ≤ 7293034) (hG : LGo p l e s m below meth c b D cB cI cJ cO ad z0 m0 o0 i (cells + 50) (slots + 2400)) (hI : LwI cB cI cJ cO ad z0 m0 o0 ws) (hP : va_P D vwCl ws H) (hD : va_D (fun q : Nat => s.heap.size ≤ q) ws) (hS : va_S (fun q : Nat => s.heap.size ≤ q) s.heap H locs) (hl : lv_has ls 7 [(0, .ref b), (1, .ref z0), (2, .ref m0), (3, .ref o0), (4, .int (nI i))]) : W p l e room_1 s m #[Value.ref b] below meth c H locs cells slots (lw_Z below #[Value.ref b] s) (F0 m 1008 ls []) := by
  obtain ⟨hx, hb, hr, hml, hown, hts, hX, hbl, hlocks, hlt, hK, hXT⟩ := id C
  have hA : ∀ q : Nat, s.heap.size ≤ q → (fun q : Nat => s.heap.size ≤ q) q := fun _ h => h
  have hbA : ¬ (fun q : Nat => s.heap.size ≤ q) b := Nat.not_le.mpr hbl
  obtain ⟨T, sh, so, wi, ta, tb, E, docs, ca, bb, rr, pp, qq, hO, hC, ⟨th, hM⟩, vv, g50⟩ := id hI
  obtain ⟨a1, t0, d0, s0, e0, k0, al, s1, s2, s3, eh, es, er, nd, dd, HS, SS, RS, g0, -⟩ := id hC
  refine lv_aload_n hx hb dL_law_1008 rfl (lv_at hl 1 rfl) ?_
  refine lw_arg hx hb hX hbl hbA hS (lv_at hl 0 rfl) (lv_at hl 4 rfl) 1 (by omega) (by omega) (by decide) dL_law_1009 dL_law_1010 dL_law_1012 dL_law_1013 dL_law_1014 ?_
  refine CI.go (va_runV (As := [.int (xs (i + 1))]) (rest := []) ⟨hx, hb, hml, hown, hts⟩ (o_count hO hC _) (cwV 1 hts gL_law_X8_count rfl rfl rfl (by decide +kernel) ⟨Nat.le_of_ble_eq_true rfl, Nat.le_of_ble_eq_true rfl⟩) ⟨pw_blind, va_recv hK hP (ci := 9) (q0 := 0) rfl g0, fun U hU hW => pw_pre hK hP hD hU hW⟩ rfl rfl hl.1 rfl (lv_room (Nat.le_of_ble_eq_true rfl)) dL_law_1015 ⟨by show cells + 0 ≤ 601024; omega, by show slots + 0 ≤ 7293034; omega⟩) hD hS hA (fun r ws1 H1 locs1 hp hP hD hS => ?_)
  obtain ⟨rfl, hO1, hC1, sm1⟩ := hp
  have hM1 := hM.fr sm1 (fun k h9 => by have h8 : k ≤ 32 ∨ 51 ≤ k := h9; omega)
  have g50 := sm1.get g50 (fun h9 => by have h8 : 50 ≤ 32 ∨ 51 ≤ 50 := h9; omega)
  obtain ⟨b1, b2, b5, b6, b7, b12, b14, b15, b16, b20, b21, b22, b23, b24, b26, b31, ps, fm, sta, f, fp, lf, ff, zf, fr, gn, gm, gs, gw, go, gt, gl, fa, g33, -⟩ := id hM1
  refine lv_aload_n hx hb dL_law_1018 rfl (lv_at hl 2 rfl) ?_
  refine lw_arg hx hb hX hbl hbA hS (lv_at hl 0 rfl) (lv_at hl 4 rfl) 1 (by omega) (by omega) (by decide) dL_law_1019 dL_law_1020 dL_law_1022 dL_law_1023 dL_law_1024 ?_
  refine CI.go (va_runV (As := [.int (xs (i + 1))]) (rest := [.int _]) ⟨hx, hb, hml, hown, hts⟩ (p_count hO hM1 _) (cwV 1 hts gL_law_X9_count rfl rfl rfl (by decide +kernel) ⟨Nat.le_of_ble_eq_true rfl, Nat.le_of_ble_eq_true rfl⟩) ⟨pw_blind, va_recv hK hP (ci := 10) (q0 := 33) rfl g33, fun U hU hW => pw_pre hK hP hD hU hW⟩ rfl rfl hl.1 rfl (lv_room (Nat.le_of_ble_eq_true rfl)) dL_law_1025 ⟨by show cells + 0 + 0 ≤ 601024; omega, by show slots + 0 + 0 ≤ 7293034; omega⟩) hD hS hA (fun r ws2 H2 locs2 hp hP hD hS => ?_)
  obtain ⟨rfl, hM2, sm2⟩ := hp
  have hC2 := hC1.fr sm2 (fun k h9 => by have h8 : 33 ≤ k ∧ k ≤ 49 := h9; omega)
  have g50 := sm2.get g50 (fun h9 => by have h8 : 33 ≤ 50 ∧ 50 ≤ 49 := h9; omega)
  refine lv_icmp_eq (tgt := 1033) hx hb dL_law_1028 (by decide) (fun _ => ?_) (fun h9 => absurd rfl h9)
  refine W.widen (k := cells + 50) (n := slots + 2400) (by show cells + 0 + 0 ≤ cells + 50; omega) (by show slots + 0 + 0 ≤ slots + 2400; omega) ?_
  exact hG ws2 H2 locs2 ls ⟨_, _, _, _, _, _, _, _, _, _, _, _, _, hO1, hC2, ⟨_, hM2⟩, vv, g50⟩ hP hD hS hl
