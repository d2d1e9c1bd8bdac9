section COB
variable {D : va_G} {cB cI cJ cO : ClassId} {l : Launch} {ad mi z0 : Nat} {T : List Int32} {sh : List (List Int32)} {so wi : Nat} {ta tb : Nat → Nat} {E : List (Nat × Nat × Nat)} {docs : List (Nat × List Nat)} {ca bb rr pp qq : Nat} {ws : va_W}
set_option maxHeartbeats 4000000 in
theorem o_feed {va vb vc vd ve : Int32} (hO : Ok T sh so wi ta tb E docs ca bb rr pp qq) (h : CoI cB cI cJ cO ad z0 T sh so wi ta tb E docs ca bb rr pp qq ws) : CI D (TY cB cI cJ cO) l yX8_feed wsX8_feed ({ frames := 1, cells := 0, slots := 0, locals := 22 }) [.ref z0, .int va, .int vb, .int vc, .int vd, .int ve] ws (fun r ws' => r = fedR T ∧ Ok (fedT T va vb vc vd ve) sh so wi ta tb E docs ca bb rr pp qq ∧ CoI cB cI cJ cO ad z0 (fedT T va vb vc vd ve) sh so wi ta tb E docs ca bb rr pp qq ws' ∧ Sm cK ws ws') := by
  obtain ⟨a1, t0, d0, s0, e0, k0, al, s1, s2, s3, eh, es, er, nd, dd, HS, SS, RS, g0, hTa, hSt, hPe, g20, hKi, hAl, hSW, hnd, hSM⟩ := id h
  obtain ⟨o800, o6, o5, os1, ow1, ow9, oTab, oE3, oEs, o48, oDs, oca, obr, ob64, or64, op4, oq4⟩ := id hO
  obtain ⟨a2, a3, a4, pl, pcs, gp, f, fp, fs, g1, g2, g3, g4, hT⟩ := id hTa
  refine (c_X8_feed g0 g1 g2 hT rfl o800).weak (fun r u A hD hp => ?_)
  obtain ⟨fq, rfl, hT2, sm, n1, n2⟩ := hp
  exact ⟨rfl, ⟨fed_len o800, o6, o5, os1, ow1, ow9, oTab, oE3, oEs, o48, oDs, oca, obr, ob64, or64, op4, oq4⟩, ⟨a1, t0, d0, s0, e0, k0, al, s1, s2, s3, eh, es, er, nd, dd, HS, SS, RS, sm.get g0 (by simp), ⟨a2, a3, a4, pl, pcs, gp, fq, fp, fs, n1, n2, sm.get g3 (by simp), sm.get g4 (by simp), hT2⟩, hSt.fr sm (fun k h9 => by (try simp only at h9); omega), hPe.fr sm (fun k h9 => by (try simp only at h9); omega), sm.get g20 (by simp), hKi.fr sm (fun k h9 => by (try simp only at h9); omega), hAl.fr sm (fun k h9 => by (try simp only at h9); omega), hSW.low sm (fun k h9 => by (try simp only at h9); omega), hnd, hSM⟩, sm.mono (fun k h9 => by (try simp only at h9); show k ≤ 32 ∨ 51 ≤ k; omega)⟩
set_option maxHeartbeats 4000000 in
theorem o_end {x : Int32} (hO : Ok T sh so wi ta tb E docs ca bb rr pp qq) (h : CoI cB cI cJ cO ad z0 T sh so wi ta tb E docs ca bb rr pp qq ws) : CI D (TY cB cI cJ cO) l yX8_end wsX8_end ({ frames := 1, cells := 0, slots := 0, locals := 21 }) [.ref z0, .int x] ws (fun r ws' => r = nI ((tp_ok x T.length).toNat) ∧ Ok (T.take (tp_cut x T.length)) sh so wi ta tb E docs ca bb rr pp qq ∧ CoI cB cI cJ cO ad z0 (T.take (tp_cut x T.length)) sh so wi ta tb E docs ca bb rr pp qq ws' ∧ Sm cK ws ws') := by
  obtain ⟨a1, t0, d0, s0, e0, k0, al, s1, s2, s3, eh, es, er, nd, dd, HS, SS, RS, g0, hTa, hSt, hPe, g20, hKi, hAl, hSW, hnd, hSM⟩ := id h
  obtain ⟨o800, o6, o5, os1, ow1, ow9, oTab, oE3, oEs, o48, oDs, oca, obr, ob64, or64, op4, oq4⟩ := id hO
  obtain ⟨a2, a3, a4, pl, pcs, gp, f, fp, fs, g1, g2, g3, g4, hT⟩ := id hTa
  refine (c_X8_end g0 g1 (by omega)).weak (fun r u A hD hp => ?_)
  obtain ⟨rfl, sm, n1⟩ := hp
  rw [← tpc_len o800] at n1
  exact ⟨rfl, ⟨(by rw [tpc_len o800]; exact Nat.le_trans (tpc_le (by omega)) o800), o6, o5, os1, ow1, ow9, oTab, oE3, oEs, o48, oDs, oca, obr, ob64, or64, op4, oq4⟩, ⟨a1, t0, d0, s0, e0, k0, al, s1, s2, s3, eh, es, er, nd, dd, HS, SS, RS, sm.get g0 (by simp), ⟨a2, a3, a4, pl, pcs, gp, f, fp, fs, n1, sm.get g2 (by simp), sm.get g3 (by simp), sm.get g4 (by simp), hT.take _⟩, hSt.fr sm (fun k h9 => by (try simp only at h9); omega), hPe.fr sm (fun k h9 => by (try simp only at h9); omega), sm.get g20 (by simp), hKi.fr sm (fun k h9 => by (try simp only at h9); omega), hAl.fr sm (fun k h9 => by (try simp only at h9); omega), hSW.low sm (fun k h9 => by (try simp only at h9); omega), hnd, hSM⟩, sm.mono (fun k h9 => by (try simp only at h9); show k ≤ 32 ∨ 51 ≤ k; omega)⟩
set_option maxHeartbeats 4000000 in
theorem o_image {j x : Int32} (hO : Ok T sh so wi ta tb E docs ca bb rr pp qq) (h : CoI cB cI cJ cO ad z0 T sh so wi ta tb E docs ca bb rr pp qq ws) : CI D (TY cB cI cJ cO) l yX8_image wsX8_image ({ frames := 2, cells := 0, slots := 0, locals := 47 }) [.ref z0, .int j, .int x] ws (fun r ws' => r = imR ta tb E j x ∧ Ok T sh so wi ta tb E docs ca bb rr pp qq ∧ CoI cB cI cJ cO ad z0 T sh so wi ta tb E docs ca bb rr pp qq ws' ∧ Sm cK ws ws') := by
  obtain ⟨a1, t0, d0, s0, e0, k0, al, s1, s2, s3, eh, es, er, nd, dd, HS, SS, RS, g0, hTa, hSt, hPe, g20, hKi, hAl, hSW, hnd, hSM⟩ := id h
  obtain ⟨o800, o6, o5, os1, ow1, ow9, oTab, oE3, oEs, o48, oDs, oca, obr, ob64, or64, op4, oq4⟩ := id hO
  obtain ⟨d1, d2, d3, d4, d5, cn, mk, my, K, g10, g11, g12, g13, g14, g15, hHK, hPC, hKI⟩ := id hPe
  have h600 : K.length ≤ 600 := by have := hKI.len hPC.2.1; omega
  refine (c_X8_image g0 g10 g11 g12 g13 g14 g15 hHK rfl h600 hPC oTab oE3).weak (fun r u A hD hp => ?_)
  obtain ⟨rfl, rfl⟩ := hp
  exact ⟨rfl, hO, h, Sm.rf⟩
set_option maxHeartbeats 4000000 in
theorem o_letter {x k : Int32} (hO : Ok T sh so wi ta tb E docs ca bb rr pp qq) (h : CoI cB cI cJ cO ad z0 T sh so wi ta tb E docs ca bb rr pp qq ws) : CI D (TY cB cI cJ cO) l yX8_letter wsX8_letter ({ frames := 1, cells := 0, slots := 0, locals := 22 }) [.ref z0, .int x, .int k] ws (fun r ws' => r = letR sh x k ∧ Ok T sh so wi ta tb E docs ca bb rr pp qq ∧ CoI cB cI cJ cO ad z0 T sh so wi ta tb E docs ca bb rr pp qq ws' ∧ Sm cK ws ws') := by
  obtain ⟨a1, t0, d0, s0, e0, k0, al, s1, s2, s3, eh, es, er, nd, dd, HS, SS, RS, g0, hTa, hSt, hPe, g20, hKi, hAl, hSW, hnd, hSM⟩ := id h
  obtain ⟨o800, o6, o5, os1, ow1, ow9, oTab, oE3, oEs, o48, oDs, oca, obr, ob64, or64, op4, oq4⟩ := id hO
  obtain ⟨t1, t2, t3, t4, lf, bf, sf, se, g5, g6, g7, g8, g9, hst⟩ := id hSt
  refine (c_X8_letter g0 g5 g6 g7 hst rfl o6 o5).weak (fun r u A hD hp => ?_)
  obtain ⟨rfl, rfl⟩ := hp
  exact ⟨rfl, hO, h, Sm.rf⟩
set_option maxHeartbeats 4000000 in
theorem o_bands {b r_ : Int32} (hO : Ok T sh so wi ta tb E docs ca bb rr pp qq) (h : CoI cB cI cJ cO ad z0 T sh so wi ta tb E docs ca bb rr pp qq ws) : CI D (TY cB cI cJ cO) l yX8_bands wsX8_bands ({ frames := 1, cells := 0, slots := 0, locals := 22 }) [.ref z0, .int b, .int r_] ws (fun r ws' => r = nI ((bandOk b r_).toNat) ∧ Ok T sh so wi ta tb E docs ca (bandN b r_ bb) (bandN2 b r_ rr) pp qq ∧ CoI cB cI cJ cO ad z0 T sh so wi ta tb E docs ca (bandN b r_ bb) (bandN2 b r_ rr) pp qq ws' ∧ Sm cK ws ws') := by
  obtain ⟨a1, t0, d0, s0, e0, k0, al, s1, s2, s3, eh, es, er, nd, dd, HS, SS, RS, g0, hTa, hSt, hPe, g20, hKi, hAl, hSW, hnd, hSM⟩ := id h
  obtain ⟨o800, o6, o5, os1, ow1, ow9, oTab, oE3, oEs, o48, oDs, oca, obr, ob64, or64, op4, oq4⟩ := id hO
  obtain ⟨k1, k4, k7, k8, k9, k10, plc, kn, g21, hKo⟩ := hKi.op (bandOk b r_)
  refine (c_X8_bands g0 g20 g21).weak (fun r u A hD hp => ?_)
  obtain ⟨rfl, sm, n20, n21⟩ := hp
  obtain ⟨l1, l2, l3⟩ := band_lim (b := b) (r := r_) obr ob64 or64
  exact ⟨rfl, ⟨o800, o6, o5, os1, ow1, ow9, oTab, oE3, oEs, o48, oDs, oca, l1, l2, l3, op4, oq4⟩, ⟨a1, t0, d0, s0, e0, k0, al, s1, s2, s3, eh, es, er, nd, dd, HS, SS, RS, sm.get g0 (by simp), hTa.fr sm (fun k h9 => by (try simp only at h9); omega), hSt.fr sm (fun k h9 => by (try simp only at h9); omega), hPe.fr sm (fun k h9 => by (try simp only at h9); omega), n20, hKo u _ dd HS _ _ _ _ sm (fun k h9 => by (try simp only at h9); omega) n21 (fun h9 => ⟨rfl, rfl, by rw [bandN2, h9]; rfl, by rw [bandN, h9]; rfl, rfl, rfl⟩), hAl.fr sm (fun k h9 => by (try simp only at h9); omega), hSW.low sm (fun k h9 => by (try simp only at h9); omega), hnd, hSM⟩, sm.mono (fun k h9 => by (try simp only at h9); show k ≤ 32 ∨ 51 ≤ k; omega)⟩
set_option maxHeartbeats 4000000 in
theorem o_threshold {p1 q1 : Int32} (hO : Ok T sh so wi ta tb E docs ca bb rr pp qq) (h : CoI cB cI cJ cO ad z0 T sh so wi ta tb E docs ca bb rr pp qq ws) : CI D (TY cB cI cJ cO) l yX8_threshold wsX8_threshold ({ frames := 1, cells := 0, slots := 0, locals := 22 }) [.ref z0, .int p1, .int q1] ws (fun r ws' => r = nI ((thrOk p1 q1).toNat) ∧ Ok T sh so wi ta tb E docs ca bb rr (thrN p1 q1 pp) (thrN2 p1 q1 qq) ∧ CoI cB cI cJ cO ad z0 T sh so wi ta tb E docs ca bb rr (thrN p1 q1 pp) (thrN2 p1 q1 qq) ws' ∧ Sm cK ws ws') := by
  obtain ⟨a1, t0, d0, s0, e0, k0, al, s1, s2, s3, eh, es, er, nd, dd, HS, SS, RS, g0, hTa, hSt, hPe, g20, hKi, hAl, hSW, hnd, hSM⟩ := id h
  obtain ⟨o800, o6, o5, os1, ow1, ow9, oTab, oE3, oEs, o48, oDs, oca, obr, ob64, or64, op4, oq4⟩ := id hO
  obtain ⟨k1, k4, k7, k8, k9, k10, plc, kn, g21, hKo⟩ := hKi.op (thrOk p1 q1)
  refine (c_X8_threshold g0 g20 g21).weak (fun r u A hD hp => ?_)
  obtain ⟨rfl, sm, n20, n21⟩ := hp
  obtain ⟨l1, l2⟩ := thr_lim (p := p1) (q := q1) op4 oq4
  exact ⟨rfl, ⟨o800, o6, o5, os1, ow1, ow9, oTab, oE3, oEs, o48, oDs, oca, obr, ob64, or64, l1, l2⟩, ⟨a1, t0, d0, s0, e0, k0, al, s1, s2, s3, eh, es, er, nd, dd, HS, SS, RS, sm.get g0 (by simp), hTa.fr sm (fun k h9 => by (try simp only at h9); omega), hSt.fr sm (fun k h9 => by (try simp only at h9); omega), hPe.fr sm (fun k h9 => by (try simp only at h9); omega), n20, hKo u _ dd HS _ _ _ _ sm (fun k h9 => by (try simp only at h9); omega) n21 (fun h9 => ⟨rfl, rfl, rfl, rfl, by rw [thrN, h9]; rfl, by rw [thrN2, h9]; rfl⟩), hAl.fr sm (fun k h9 => by (try simp only at h9); omega), hSW.low sm (fun k h9 => by (try simp only at h9); omega), hnd, hSM⟩, sm.mono (fun k h9 => by (try simp only at h9); show k ≤ 32 ∨ 51 ≤ k; omega)⟩
set_option maxHeartbeats 4000000 in
theorem o_count {x : Int32} (hO : Ok T sh so wi ta tb E docs ca bb rr pp qq) (h : CoI cB cI cJ cO ad z0 T sh so wi ta tb E docs ca bb rr pp qq ws) : CI D (TY cB cI cJ cO) l yX8_count wsX8_count ({ frames := 2, cells := 0, slots := 0, locals := 44 }) [.ref z0, .int x] ws (fun r ws' => r = cntR [T.length, (plainOf T).length, docs.length, ca, sh.length, sh.flatten.length, E.length, bb, rr, pp, qq, so, wi] x ∧ Ok T sh so wi ta tb E docs ca bb rr pp qq ∧ CoI cB cI cJ cO ad z0 T sh so wi ta tb E docs ca bb rr pp qq ws' ∧ Sm cK ws ws') := by
  obtain ⟨a1, t0, d0, s0, e0, k0, al, s1, s2, s3, eh, es, er, nd, dd, HS, SS, RS, g0, hTa, hSt, hPe, g20, hKi, hAl, hSW, hnd, hSM⟩ := id h
  obtain ⟨o800, o6, o5, os1, ow1, ow9, oTab, oE3, oEs, o48, oDs, oca, obr, ob64, or64, op4, oq4⟩ := id hO
  obtain ⟨a2, a3, a4, pl, pcs, gp, f, fp, fs, g1, g2, g3, g4, hT⟩ := id hTa
  obtain ⟨t1, t2, t3, t4, lf, bf, sf, se, g5, g6, g7, g8, g9, hst⟩ := id hSt
  obtain ⟨d1, d2, d3, d4, d5, cn, mk, my, K, g10, g11, g12, g13, g14, g15, hHK, hPC, hKI⟩ := id hPe
  refine (c_X8_count g0 g1 g2 g3 g5 g7 g10 g20 hst rfl o6 o5 hSW hnd hT rfl o800).weak (fun r u A hD hp => ?_)
  obtain ⟨pl2, fq, rfl, sm, n1, n3⟩ := hp
  rw [← hSM.1]
  exact ⟨rfl, hO, ⟨a1, t0, d0, s0, e0, k0, al, s1, s2, s3, eh, es, er, nd, dd, HS, SS, RS, sm.get g0 (by simp), ⟨a2, a3, a4, pl2, pcs, gp, f, fq, fs, n1, sm.get g2 (by simp), n3, sm.get g4 (by simp), hT⟩, hSt.fr sm (fun k h9 => by (try simp only at h9); omega), hPe.fr sm (fun k h9 => by (try simp only at h9); omega), sm.get g20 (by simp), hKi.fr sm (fun k h9 => by (try simp only at h9); omega), hAl.fr sm (fun k h9 => by (try simp only at h9); omega), hSW.low sm (fun k h9 => by (try simp only at h9); omega), hnd, hSM⟩, sm.mono (fun k h9 => by (try simp only at h9); show k ≤ 32 ∨ 51 ≤ k; omega)⟩
end COB
