set_option maxHeartbeats 8000000 in
set_option maxRecDepth 100000 in
theorem lk_feed {p : Program} {l : Launch} {e : Env} {s : State} {m : MethodId} {below : List Frame} {meth : Method} {c : Code} {b L : Nat} {xs : Nat → Int32} {D : va_G} {cB cI cJ cO : ClassId} {ad mi z0 m0 o0 i cells slots : Nat} {ws : va_W} {H : Heap} {locs : List Loc} {ls : Array Slot} (C : LC p l s m meth c b L xs D cB cI cJ cO ad mi) (hL : L ≤ 3072) (hi : i + 6 ≤ L) (hc : cells + 50 ≤ 601024) (hs : slots + 2400 ≤ 7293034) (hG : LGo p l e s m below meth c b D cB cI cJ cO ad z0 m0 o0 i (cells + 50) (slots + 2400)) (hI : LwI cB cI cJ cO ad z0 m0 o0 ws) (hP : va_P D vwCl ws H) (hD : va_D (fun q : Nat => s.heap.size ≤ q) ws) (hS : va_S (fun q : Nat => s.heap.size ≤ q) s.heap H locs) (hl : lv_has ls 7 [(0, .ref b), (1, .ref z0), (2, .ref m0), (3, .ref o0), (4, .int (nI i))]) : W p l e room_1 s m #[Value.ref b] below meth c H locs cells slots (lw_Z below #[Value.ref b] s) (F0 m 132 ls []) := by
  obtain ⟨hx, hb, hr, hml, hown, hts, hX, hbl, hlocks, hlt, hK, hXT⟩ := id C
  have hA : ∀ q : Nat, s.heap.size ≤ q → (fun q : Nat => s.heap.size ≤ q) q := fun _ h => h
  have hbA : ¬ (fun q : Nat => s.heap.size ≤ q) b := Nat.not_le.mpr hbl
  obtain ⟨T, sh, so, wi, ta, tb, E, docs, ca, bb, rr, pp, qq, hO, hC, ⟨th, hM⟩, vv, g50⟩ := id hI
  obtain ⟨a1, t0, d0, s0, e0, k0, al, s1, s2, s3, eh, es, er, nd, dd, HS, SS, RS, g0, -⟩ := id hC
  refine lv_aload_n hx hb dL_law_132 rfl (lv_at hl 1 rfl) ?_
  refine lw_arg hx hb hX hbl hbA hS (lv_at hl 0 rfl) (lv_at hl 4 rfl) 1 (by omega) (by omega) (by decide) dL_law_133 dL_law_134 dL_law_136 dL_law_137 dL_law_138 ?_
  refine lw_arg hx hb hX hbl hbA hS (lv_at hl 0 rfl) (lv_at hl 4 rfl) 2 (by omega) (by omega) (by decide) dL_law_139 dL_law_140 dL_law_142 dL_law_143 dL_law_144 ?_
  refine lw_arg hx hb hX hbl hbA hS (lv_at hl 0 rfl) (lv_at hl 4 rfl) 3 (by omega) (by omega) (by decide) dL_law_145 dL_law_146 dL_law_148 dL_law_149 dL_law_150 ?_
  refine lw_arg hx hb hX hbl hbA hS (lv_at hl 0 rfl) (lv_at hl 4 rfl) 4 (by omega) (by omega) (by decide) dL_law_151 dL_law_152 dL_law_154 dL_law_155 dL_law_156 ?_
  refine lw_arg hx hb hX hbl hbA hS (lv_at hl 0 rfl) (lv_at hl 4 rfl) 5 (by omega) (by omega) (by decide) dL_law_157 dL_law_158 dL_law_160 dL_law_161 dL_law_162 ?_
  refine CI.go (va_runV (As := [.int (xs (i + 1)), .int (xs (i + 2)), .int (xs (i + 3)), .int (xs (i + 4)), .int (xs (i + 5))]) (rest := []) ⟨hx, hb, hml, hown, hts⟩ (o_feed hO hC _) (cwV 5 hts gL_law_X8_feed rfl rfl rfl (by decide +kernel) ⟨Nat.le_of_ble_eq_true rfl, Nat.le_of_ble_eq_true rfl⟩) ⟨pw_blind, va_recv hK hP (ci := 9) (q0 := 0) rfl g0, fun U hU hW => pw_pre hK hP hD hU hW⟩ rfl rfl hl.1 rfl (lv_room (Nat.le_of_ble_eq_true rfl)) dL_law_163 ⟨by show cells + 0 ≤ 601024; omega, by show slots + 0 ≤ 7293034; omega⟩) hD hS hA (fun r ws1 H1 locs1 hp hP hD hS => ?_)
  obtain ⟨rfl, hO1, hC1, sm1⟩ := hp
  have hM1 := hM.fr sm1 (fun k h9 => by have h8 : k ≤ 32 ∨ 51 ≤ k := h9; omega)
  have g50 := sm1.get g50 (fun h9 => by have h8 : 50 ≤ 32 ∨ 51 ≤ 50 := h9; omega)
  obtain ⟨b1, b2, b5, b6, b7, b12, b14, b15, b16, b20, b21, b22, b23, b24, b26, b31, ps, fm, sta, f, fp, lf, ff, zf, fr, gn, gm, gs, gw, go, gt, gl, fa, g33, -⟩ := id hM1
  refine lv_aload_n hx hb dL_law_166 rfl (lv_at hl 2 rfl) ?_
  refine lw_arg hx hb hX hbl hbA hS (lv_at hl 0 rfl) (lv_at hl 4 rfl) 1 (by omega) (by omega) (by decide) dL_law_167 dL_law_168 dL_law_170 dL_law_171 dL_law_172 ?_
  refine lw_arg hx hb hX hbl hbA hS (lv_at hl 0 rfl) (lv_at hl 4 rfl) 2 (by omega) (by omega) (by decide) dL_law_173 dL_law_174 dL_law_176 dL_law_177 dL_law_178 ?_
  refine lw_arg hx hb hX hbl hbA hS (lv_at hl 0 rfl) (lv_at hl 4 rfl) 3 (by omega) (by omega) (by decide) dL_law_179 dL_law_180 dL_law_182 dL_law_183 dL_law_184 ?_
  refine lw_arg hx hb hX hbl hbA hS (lv_at hl 0 rfl) (lv_at hl 4 rfl) 4 (by omega) (by omega) (by decide) dL_law_185 dL_law_186 dL_law_188 dL_law_189 dL_law_190 ?_
  refine lw_arg hx hb hX hbl hbA hS (lv_at hl 0 rfl) (lv_at hl 4 rfl) 5 (by omega) (by omega) (by decide) dL_law_191 dL_law_192 dL_law_194 dL_law_195 dL_law_196 ?_
  refine CI.go (va_runV (As := [.int (xs (i + 1)), .int (xs (i + 2)), .int (xs (i + 3)), .int (xs (i + 4)), .int (xs (i + 5))]) (rest := [.int _]) ⟨hx, hb, hml, hown, hts⟩ (p_feed hO hM1 _) (cwV 5 hts gL_law_X9_feed rfl rfl rfl (by decide +kernel) ⟨Nat.le_of_ble_eq_true rfl, Nat.le_of_ble_eq_true rfl⟩) ⟨pw_blind, va_recv hK hP (ci := 10) (q0 := 33) rfl g33, fun U hU hW => pw_pre hK hP hD hU hW⟩ rfl rfl hl.1 rfl (lv_room (Nat.le_of_ble_eq_true rfl)) dL_law_197 ⟨by show cells + 0 + 0 ≤ 601024; omega, by show slots + 0 + 0 ≤ 7293034; omega⟩) hD hS hA (fun r ws2 H2 locs2 hp hP hD hS => ?_)
  obtain ⟨rfl, hM2, sm2⟩ := hp
  have hC2 := hC1.fr sm2 (fun k h9 => by have h8 : 33 ≤ k ∧ k ≤ 49 := h9; omega)
  have g50 := sm2.get g50 (fun h9 => by have h8 : 33 ≤ 50 ∧ 50 ≤ 49 := h9; omega)
  refine lv_icmp_eq (tgt := 1033) hx hb dL_law_200 (by decide) (fun _ => ?_) (fun h9 => absurd rfl h9)
  refine W.widen (k := cells + 50) (n := slots + 2400) (by show cells + 0 + 0 ≤ cells + 50; omega) (by show slots + 0 + 0 ≤ slots + 2400; omega) ?_
  exact hG ws2 H2 locs2 ls ⟨_, _, _, _, _, _, _, _, _, _, _, _, _, hO1, hC2, ⟨_, hM2⟩, vv, g50⟩ hP hD hS hl
set_option maxHeartbeats 8000000 in
set_option maxRecDepth 100000 in
theorem lk_end {p : Program} {l : Launch} {e : Env} {s : State} {m : MethodId} {below : List Frame} {meth : Method} {c : Code} {b L : Nat} {xs : Nat → Int32} {D : va_G} {cB cI cJ cO : ClassId} {ad mi z0 m0 o0 i cells slots : Nat} {ws : va_W} {H : Heap} {locs : List Loc} {ls : Array Slot} (C : LC p l s m meth c b L xs D cB cI cJ cO ad mi) (hL : L ≤ 3072) (hi : i + 6 ≤ L) (hc : cells + 50 ≤ 601024) (hs : slots + 2400 ≤ 7293034) (hG : LGo p l e s m below meth c b D cB cI cJ cO ad z0 m0 o0 i (cells + 50) (slots + 2400)) (hI : LwI cB cI cJ cO ad z0 m0 o0 ws) (hP : va_P D vwCl ws H) (hD : va_D (fun q : Nat => s.heap.size ≤ q) ws) (hS : va_S (fun q : Nat => s.heap.size ≤ q) s.heap H locs) (hl : lv_has ls 7 [(0, .ref b), (1, .ref z0), (2, .ref m0), (3, .ref o0), (4, .int (nI i))]) : W p l e room_1 s m #[Value.ref b] below meth c H locs cells slots (lw_Z below #[Value.ref b] s) (F0 m 205 ls []) := by
  obtain ⟨hx, hb, hr, hml, hown, hts, hX, hbl, hlocks, hlt, hK, hXT⟩ := id C
  have hA : ∀ q : Nat, s.heap.size ≤ q → (fun q : Nat => s.heap.size ≤ q) q := fun _ h => h
  have hbA : ¬ (fun q : Nat => s.heap.size ≤ q) b := Nat.not_le.mpr hbl
  obtain ⟨T, sh, so, wi, ta, tb, E, docs, ca, bb, rr, pp, qq, hO, hC, ⟨th, hM⟩, vv, g50⟩ := id hI
  obtain ⟨a1, t0, d0, s0, e0, k0, al, s1, s2, s3, eh, es, er, nd, dd, HS, SS, RS, g0, -⟩ := id hC
  refine lv_aload_n hx hb dL_law_205 rfl (lv_at hl 1 rfl) ?_
  refine lw_arg hx hb hX hbl hbA hS (lv_at hl 0 rfl) (lv_at hl 4 rfl) 1 (by omega) (by omega) (by decide) dL_law_206 dL_law_207 dL_law_209 dL_law_210 dL_law_211 ?_
  refine CI.go (va_runV (As := [.int (xs (i + 1))]) (rest := []) ⟨hx, hb, hml, hown, hts⟩ (o_end hO hC _) (cwV 1 hts gL_law_X8_end rfl rfl rfl (by decide +kernel) ⟨Nat.le_of_ble_eq_true rfl, Nat.le_of_ble_eq_true rfl⟩) ⟨pw_blind, va_recv hK hP (ci := 9) (q0 := 0) rfl g0, fun U hU hW => pw_pre hK hP hD hU hW⟩ rfl rfl hl.1 rfl (lv_room (Nat.le_of_ble_eq_true rfl)) dL_law_212 ⟨by show cells + 0 ≤ 601024; omega, by show slots + 0 ≤ 7293034; omega⟩) hD hS hA (fun r ws1 H1 locs1 hp hP hD hS => ?_)
  obtain ⟨rfl, hO1, hC1, sm1⟩ := hp
  have hM1 := hM.fr sm1 (fun k h9 => by have h8 : k ≤ 32 ∨ 51 ≤ k := h9; omega)
  have g50 := sm1.get g50 (fun h9 => by have h8 : 50 ≤ 32 ∨ 51 ≤ 50 := h9; omega)
  obtain ⟨b1, b2, b5, b6, b7, b12, b14, b15, b16, b20, b21, b22, b23, b24, b26, b31, ps, fm, sta, f, fp, lf, ff, zf, fr, gn, gm, gs, gw, go, gt, gl, fa, g33, -⟩ := id hM1
  refine lv_aload_n hx hb dL_law_215 rfl (lv_at hl 2 rfl) ?_
  refine lw_arg hx hb hX hbl hbA hS (lv_at hl 0 rfl) (lv_at hl 4 rfl) 1 (by omega) (by omega) (by decide) dL_law_216 dL_law_217 dL_law_219 dL_law_220 dL_law_221 ?_
  refine CI.go (va_runV (As := [.int (xs (i + 1))]) (rest := [.int _]) ⟨hx, hb, hml, hown, hts⟩ (p_end hO hM1 _) (cwV 1 hts gL_law_X9_end rfl rfl rfl (by decide +kernel) ⟨Nat.le_of_ble_eq_true rfl, Nat.le_of_ble_eq_true rfl⟩) ⟨pw_blind, va_recv hK hP (ci := 10) (q0 := 33) rfl g33, fun U hU hW => pw_pre hK hP hD hU hW⟩ rfl rfl hl.1 rfl (lv_room (Nat.le_of_ble_eq_true rfl)) dL_law_222 ⟨by show cells + 0 + 0 ≤ 601024; omega, by show slots + 0 + 0 ≤ 7293034; omega⟩) hD hS hA (fun r ws2 H2 locs2 hp hP hD hS => ?_)
  obtain ⟨rfl, hM2, sm2⟩ := hp
  have hC2 := hC1.fr sm2 (fun k h9 => by have h8 : 33 ≤ k ∧ k ≤ 49 := h9; omega)
  have g50 := sm2.get g50 (fun h9 => by have h8 : 33 ≤ 50 ∧ 50 ≤ 49 := h9; omega)
  refine lv_icmp_eq (tgt := 1033) hx hb dL_law_225 (by decide) (fun _ => ?_) (fun h9 => absurd rfl h9)
  refine W.widen (k := cells + 50) (n := slots + 2400) (by show cells + 0 + 0 ≤ cells + 50; omega) (by show slots + 0 + 0 ≤ slots + 2400; omega) ?_
  exact hG ws2 H2 locs2 ls ⟨_, _, _, _, _, _, _, _, _, _, _, _, _, hO1, hC2, ⟨_, hM2⟩, vv, g50⟩ hP hD hS hl
set_option maxHeartbeats 8000000 in
set_option maxRecDepth 100000 in
theorem lk_add {p : Program} {l : Launch} {e : Env} {s : State} {m : MethodId} {below : List Frame} {meth : Method} {c : Code} {b L : Nat} {xs : Nat → Int32} {D : va_G} {cB cI cJ cO : ClassId} {ad mi z0 m0 o0 i cells slots : Nat} {ws : va_W} {H : Heap} {locs : List Loc} {ls : Array Slot} (C : LC p l s m meth c b L xs D cB cI cJ cO ad mi) (hL : L ≤ 3072) (hi : i + 6 ≤ L) (hc : cells + 50 ≤ 601024) (hs : slots + 2400 ≤ 7293034) (hG : LGo p l e s m below meth c b D cB cI cJ cO ad z0 m0 o0 i (cells + 50) (slots + 2400)) (hI : LwI cB cI cJ cO ad z0 m0 o0 ws) (hP : va_P D vwCl ws H) (hD : va_D (fun q : Nat => s.heap.size ≤ q) ws) (hS : va_S (fun q : Nat => s.heap.size ≤ q) s.heap H locs) (hl : lv_has ls 7 [(0, .ref b), (1, .ref z0), (2, .ref m0), (3, .ref o0), (4, .int (nI i))]) : W p l e room_1 s m #[Value.ref b] below meth c H locs cells slots (lw_Z below #[Value.ref b] s) (F0 m 230 ls []) := by
  obtain ⟨hx, hb, hr, hml, hown, hts, hX, hbl, hlocks, hlt, hK, hXT⟩ := id C
  have hA : ∀ q : Nat, s.heap.size ≤ q → (fun q : Nat => s.heap.size ≤ q) q := fun _ h => h
  have hbA : ¬ (fun q : Nat => s.heap.size ≤ q) b := Nat.not_le.mpr hbl
  obtain ⟨T, sh, so, wi, ta, tb, E, docs, ca, bb, rr, pp, qq, hO, hC, ⟨th, hM⟩, vv, g50⟩ := id hI
  obtain ⟨a1, t0, d0, s0, e0, k0, al, s1, s2, s3, eh, es, er, nd, dd, HS, SS, RS, g0, -⟩ := id hC
  refine lv_aload_n hx hb dL_law_230 rfl (lv_at hl 1 rfl) ?_
  refine CI.go (va_runV (As := []) (rest := []) ⟨hx, hb, hml, hown, hts⟩ (o_add (mi := mi) hO hC _) (cwV 0 hts gL_law_X8_add rfl rfl rfl (by decide +kernel) ⟨Nat.le_of_ble_eq_true rfl, Nat.le_of_ble_eq_true rfl⟩) ⟨pwx_blind, va_recv hK hP (ci := 9) (q0 := 0) rfl g0, fun U hU hW => pwx_pre hXT.1 hA hS hK hP hD hU hW⟩ rfl rfl hl.1 rfl (lv_room (Nat.le_of_ble_eq_true rfl)) dL_law_231 ⟨by show cells + 6 ≤ 601024; omega, by show slots + 1062 ≤ 7293034; omega⟩) hD hS hA (fun r ws1 H1 locs1 hp hP hD hS => ?_)
  obtain ⟨rfl, hO1, hC1, sm1⟩ := hp
  have hM1 := hM.fr sm1 (fun k h9 => by have h8 : k ≤ 32 ∨ 51 ≤ k := h9; omega)
  have g50 := sm1.get g50 (fun h9 => by have h8 : 50 ≤ 32 ∨ 51 ≤ 50 := h9; omega)
  obtain ⟨b1, b2, b5, b6, b7, b12, b14, b15, b16, b20, b21, b22, b23, b24, b26, b31, ps, fm, sta, f, fp, lf, ff, zf, fr, gn, gm, gs, gw, go, gt, gl, fa, g33, -⟩ := id hM1
  refine lv_aload_n hx hb dL_law_234 rfl (lv_at hl 2 rfl) ?_
  refine CI.go (va_runV (As := []) (rest := [.int _]) ⟨hx, hb, hml, hown, hts⟩ (p_add hO hM1 _) (cwV 0 hts gL_law_X9_add rfl rfl rfl (by decide +kernel) ⟨Nat.le_of_ble_eq_true rfl, Nat.le_of_ble_eq_true rfl⟩) ⟨pw_blind, va_recv hK hP (ci := 10) (q0 := 33) rfl g33, fun U hU hW => pw_pre hK hP hD hU hW⟩ rfl rfl hl.1 rfl (lv_room (Nat.le_of_ble_eq_true rfl)) dL_law_235 ⟨by show cells + 6 + 0 ≤ 601024; omega, by show slots + 1062 + 0 ≤ 7293034; omega⟩) hD hS hA (fun r ws2 H2 locs2 hp hP hD hS => ?_)
  obtain ⟨rfl, hM2, sm2⟩ := hp
  have hC2 := hC1.fr sm2 (fun k h9 => by have h8 : 33 ≤ k ∧ k ≤ 49 := h9; omega)
  have g50 := sm2.get g50 (fun h9 => by have h8 : 33 ≤ 50 ∧ 50 ≤ 49 := h9; omega)
  refine lv_icmp_eq (tgt := 1033) hx hb dL_law_238 (by decide) (fun _ => ?_) (fun h9 => absurd rfl h9)
  refine W.widen (k := cells + 50) (n := slots + 2400) (by show cells + 6 + 0 ≤ cells + 50; omega) (by show slots + 1062 + 0 ≤ slots + 2400; omega) ?_
  exact hG ws2 H2 locs2 ls ⟨_, _, _, _, _, _, _, _, _, _, _, _, _, hO1, hC2, ⟨_, hM2⟩, vv, g50⟩ hP hD hS hl
set_option maxHeartbeats 8000000 in
set_option maxRecDepth 100000 in
theorem lk_remove {p : Program} {l : Launch} {e : Env} {s : State} {m : MethodId} {below : List Frame} {meth : Method} {c : Code} {b L : Nat} {xs : Nat → Int32} {D : va_G} {cB cI cJ cO : ClassId} {ad mi z0 m0 o0 i cells slots : Nat} {ws : va_W} {H : Heap} {locs : List Loc} {ls : Array Slot} (C : LC p l s m meth c b L xs D cB cI cJ cO ad mi) (hL : L ≤ 3072) (hi : i + 6 ≤ L) (hc : cells + 50 ≤ 601024) (hs : slots + 2400 ≤ 7293034) (hG : LGo p l e s m below meth c b D cB cI cJ cO ad z0 m0 o0 i (cells + 50) (slots + 2400)) (hI : LwI cB cI cJ cO ad z0 m0 o0 ws) (hP : va_P D vwCl ws H) (hD : va_D (fun q : Nat => s.heap.size ≤ q) ws) (hS : va_S (fun q : Nat => s.heap.size ≤ q) s.heap H locs) (hl : lv_has ls 7 [(0, .ref b), (1, .ref z0), (2, .ref m0), (3, .ref o0), (4, .int (nI i))]) : W p l e room_1 s m #[Value.ref b] below meth c H locs cells slots (lw_Z below #[Value.ref b] s) (F0 m 243 ls []) := by
  obtain ⟨hx, hb, hr, hml, hown, hts, hX, hbl, hlocks, hlt, hK, hXT⟩ := id C
  have hA : ∀ q : Nat, s.heap.size ≤ q → (fun q : Nat => s.heap.size ≤ q) q := fun _ h => h
  have hbA : ¬ (fun q : Nat => s.heap.size ≤ q) b := Nat.not_le.mpr hbl
  obtain ⟨T, sh, so, wi, ta, tb, E, docs, ca, bb, rr, pp, qq, hO, hC, ⟨th, hM⟩, vv, g50⟩ := id hI
  obtain ⟨a1, t0, d0, s0, e0, k0, al, s1, s2, s3, eh, es, er, nd, dd, HS, SS, RS, g0, -⟩ := id hC
  refine lv_aload_n hx hb dL_law_243 rfl (lv_at hl 1 rfl) ?_
  refine lw_arg hx hb hX hbl hbA hS (lv_at hl 0 rfl) (lv_at hl 4 rfl) 1 (by omega) (by omega) (by decide) dL_law_244 dL_law_245 dL_law_247 dL_law_248 dL_law_249 ?_
  refine CI.go (va_runV (As := [.int (xs (i + 1))]) (rest := []) ⟨hx, hb, hml, hown, hts⟩ (o_remove (mi := mi) hO hC _) (cwV 1 hts gL_law_X8_remove rfl rfl rfl (by decide +kernel) ⟨Nat.le_of_ble_eq_true rfl, Nat.le_of_ble_eq_true rfl⟩) ⟨pwx_blind, va_recv hK hP (ci := 9) (q0 := 0) rfl g0, fun U hU hW => pwx_pre hXT.1 hA hS hK hP hD hU hW⟩ rfl rfl hl.1 rfl (lv_room (Nat.le_of_ble_eq_true rfl)) dL_law_250 ⟨by show cells + 1 ≤ 601024; omega, by show slots + 49 ≤ 7293034; omega⟩) hD hS hA (fun r ws1 H1 locs1 hp hP hD hS => ?_)
  obtain ⟨rfl, hO1, hC1, sm1⟩ := hp
  have hM1 := hM.fr sm1 (fun k h9 => by have h8 : k ≤ 32 ∨ 51 ≤ k := h9; omega)
  have g50 := sm1.get g50 (fun h9 => by have h8 : 50 ≤ 32 ∨ 51 ≤ 50 := h9; omega)
  obtain ⟨b1, b2, b5, b6, b7, b12, b14, b15, b16, b20, b21, b22, b23, b24, b26, b31, ps, fm, sta, f, fp, lf, ff, zf, fr, gn, gm, gs, gw, go, gt, gl, fa, g33, -⟩ := id hM1
  refine lv_aload_n hx hb dL_law_253 rfl (lv_at hl 2 rfl) ?_
  refine lw_arg hx hb hX hbl hbA hS (lv_at hl 0 rfl) (lv_at hl 4 rfl) 1 (by omega) (by omega) (by decide) dL_law_254 dL_law_255 dL_law_257 dL_law_258 dL_law_259 ?_
  refine CI.go (va_runV (As := [.int (xs (i + 1))]) (rest := [.int _]) ⟨hx, hb, hml, hown, hts⟩ (p_remove hO hM1 _) (cwV 1 hts gL_law_X9_remove rfl rfl rfl (by decide +kernel) ⟨Nat.le_of_ble_eq_true rfl, Nat.le_of_ble_eq_true rfl⟩) ⟨pw_blind, va_recv hK hP (ci := 10) (q0 := 33) rfl g33, fun U hU hW => pw_pre hK hP hD hU hW⟩ rfl rfl hl.1 rfl (lv_room (Nat.le_of_ble_eq_true rfl)) dL_law_260 ⟨by show cells + 1 + 0 ≤ 601024; omega, by show slots + 49 + 0 ≤ 7293034; omega⟩) hD hS hA (fun r ws2 H2 locs2 hp hP hD hS => ?_)
  obtain ⟨rfl, hM2, sm2⟩ := hp
  have hC2 := hC1.fr sm2 (fun k h9 => by have h8 : 33 ≤ k ∧ k ≤ 49 := h9; omega)
  have g50 := sm2.get g50 (fun h9 => by have h8 : 33 ≤ 50 ∧ 50 ≤ 49 := h9; omega)
  refine lv_icmp_eq (tgt := 1033) hx hb dL_law_263 (by decide) (fun _ => ?_) (fun h9 => absurd rfl h9)
  refine W.widen (k := cells + 50) (n := slots + 2400) (by show cells + 1 + 0 ≤ cells + 50; omega) (by show slots + 49 + 0 ≤ slots + 2400; omega) ?_
  exact hG ws2 H2 locs2 ls ⟨_, _, _, _, _, _, _, _, _, _, _, _, _, hO1, hC2, ⟨_, hM2⟩, vv, g50⟩ hP hD hS hl
