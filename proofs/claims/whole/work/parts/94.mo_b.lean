section MOB
variable {D : va_G} {cB cI cJ cO : ClassId} {l : Launch} {m0 th : Nat} {T : List Int32} {sh : List (List Int32)} {so wi : Nat} {ta tb : Nat → Nat} {E : List (Nat × Nat × Nat)} {docs : List (Nat × List Nat)} {ca bb rr pp qq : Nat} {ws : va_W}
set_option maxHeartbeats 4000000 in
theorem p_feed {va vb vc vd ve : Int32} (hO : Ok T sh so wi ta tb E docs ca bb rr pp qq) (h : MoI cB cI m0 th T sh so wi ta tb E docs ca bb rr pp qq ws) : CI D (TY cB cI cJ cO) l yX9_feed wsX9_feed ({ frames := 1, cells := 0, slots := 0, locals := 22 }) [.ref m0, .int va, .int vb, .int vc, .int vd, .int ve] ws (fun r ws' => r = fedR T ∧ MoI cB cI m0 0 (fedT T va vb vc vd ve) sh so wi ta tb E docs ca bb rr pp qq ws' ∧ Sm mK ws ws') := by
  obtain ⟨b1, b2, b5, b6, b7, b12, b14, b15, b16, b20, b21, b22, b23, b24, b26, b31, ps, fm, sta, f, fp, lf, ff, zf, fr, gn, gm, gs, gw, go, gt, gl, fa, g33, g34, g35, g36, g37, g38, g39, g40, g41, g42, g43, g44, g45, g46, g47, g48, g49, hT, hst, hdd, hE, hs1, hlo⟩ := h
  obtain ⟨o800, o6, o5, os1, ow1, ow9, oTab, oE3, oEs, o48, oDs, oca, obr, ob64, or64, op4, oq4⟩ := id hO
  refine (c_X9_feed g33 g34 hT rfl o800).weak (fun r u A hD hp => ?_)
  obtain ⟨fq, rfl, hT2, sm, n33, n34⟩ := hp
  exact ⟨rfl, ⟨b1, b2, b5, b6, b7, b12, b14, b15, b16, b20, b21, b22, b23, b24, b26, b31, ps, fm, sta, fq, fp, lf, ff, zf, fr, gn, gm, gs, gw, go, gt, gl, fa, n33, n34, sm.get g35 (by simp), sm.get g36 (by simp), sm.get g37 (by simp), sm.get g38 (by simp), sm.get g39 (by simp), sm.get g40 (by simp), sm.get g41 (by simp), sm.get g42 (by simp), sm.get g43 (by simp), sm.get g44 (by simp), sm.get g45 (by simp), sm.get g46 (by simp), sm.get g47 (by simp), sm.get g48 (by simp), sm.get g49 (by simp), hT2, hst, hdd, hE, hs1, hlo⟩, sm.mono (fun k h9 => by (try simp only at h9); show 33 ≤ k ∧ k ≤ 49; omega)⟩
set_option maxHeartbeats 4000000 in
theorem p_end {x : Int32} (hO : Ok T sh so wi ta tb E docs ca bb rr pp qq) (h : MoI cB cI m0 th T sh so wi ta tb E docs ca bb rr pp qq ws) : CI D (TY cB cI cJ cO) l yX9_end wsX9_end ({ frames := 0, cells := 0, slots := 0, locals := 0 }) [.ref m0, .int x] ws (fun r ws' => r = nI ((tp_ok x T.length).toNat) ∧ MoI cB cI m0 0 (T.take (tp_cut x T.length)) sh so wi ta tb E docs ca bb rr pp qq ws' ∧ Sm mK ws ws') := by
  obtain ⟨b1, b2, b5, b6, b7, b12, b14, b15, b16, b20, b21, b22, b23, b24, b26, b31, ps, fm, sta, f, fp, lf, ff, zf, fr, gn, gm, gs, gw, go, gt, gl, fa, g33, g34, g35, g36, g37, g38, g39, g40, g41, g42, g43, g44, g45, g46, g47, g48, g49, hT, hst, hdd, hE, hs1, hlo⟩ := h
  obtain ⟨o800, o6, o5, os1, ow1, ow9, oTab, oE3, oEs, o48, oDs, oca, obr, ob64, or64, op4, oq4⟩ := id hO
  refine (c_X9_end g33 (by omega)).weak (fun r u A hD hp => ?_)
  obtain ⟨rfl, sm, n33⟩ := hp
  rw [← tpc_len o800] at n33
  exact ⟨rfl, ⟨b1, b2, b5, b6, b7, b12, b14, b15, b16, b20, b21, b22, b23, b24, b26, b31, ps, fm, sta, f, fp, lf, ff, zf, fr, gn, gm, gs, gw, go, gt, gl, fa, n33, sm.get g34 (by simp), sm.get g35 (by simp), sm.get g36 (by simp), sm.get g37 (by simp), sm.get g38 (by simp), sm.get g39 (by simp), sm.get g40 (by simp), sm.get g41 (by simp), sm.get g42 (by simp), sm.get g43 (by simp), sm.get g44 (by simp), sm.get g45 (by simp), sm.get g46 (by simp), sm.get g47 (by simp), sm.get g48 (by simp), sm.get g49 (by simp), hT.take _, hst, hdd, hE, hs1, hlo⟩, sm.mono (fun k h9 => by (try simp only at h9); show 33 ≤ k ∧ k ≤ 49; omega)⟩
set_option maxHeartbeats 4000000 in
theorem p_image {j x : Int32} (hO : Ok T sh so wi ta tb E docs ca bb rr pp qq) (h : MoI cB cI m0 th T sh so wi ta tb E docs ca bb rr pp qq ws) : CI D (TY cB cI cJ cO) l yX9_image wsX9_image ({ frames := 1, cells := 0, slots := 0, locals := 24 }) [.ref m0, .int j, .int x] ws (fun r ws' => r = imR ta tb E j x ∧ MoI cB cI m0 0 T sh so wi ta tb E docs ca bb rr pp qq ws' ∧ Sm mK ws ws') := by
  obtain ⟨b1, b2, b5, b6, b7, b12, b14, b15, b16, b20, b21, b22, b23, b24, b26, b31, ps, fm, sta, f, fp, lf, ff, zf, fr, gn, gm, gs, gw, go, gt, gl, fa, g33, g34, g35, g36, g37, g38, g39, g40, g41, g42, g43, g44, g45, g46, g47, g48, g49, hT, hst, hdd, hE, hs1, hlo⟩ := h
  obtain ⟨o800, o6, o5, os1, ow1, ow9, oTab, oE3, oEs, o48, oDs, oca, obr, ob64, or64, op4, oq4⟩ := id hO
  refine (c_X9_image g33 g43 g44 g45 g46 g47 hE rfl oE3 oEs oTab).weak (fun r u A hD hp => ?_)
  obtain ⟨rfl, sm, n33⟩ := hp
  exact ⟨rfl, ⟨b1, b2, b5, b6, b7, b12, b14, b15, b16, b20, b21, b22, b23, b24, b26, b31, ps, fm, sta, f, fp, lf, ff, zf, fr, gn, gm, gs, gw, go, gt, gl, fa, n33, sm.get g34 (by simp), sm.get g35 (by simp), sm.get g36 (by simp), sm.get g37 (by simp), sm.get g38 (by simp), sm.get g39 (by simp), sm.get g40 (by simp), sm.get g41 (by simp), sm.get g42 (by simp), sm.get g43 (by simp), sm.get g44 (by simp), sm.get g45 (by simp), sm.get g46 (by simp), sm.get g47 (by simp), sm.get g48 (by simp), sm.get g49 (by simp), hT, hst, hdd, hE, hs1, hlo⟩, sm.mono (fun k h9 => by (try simp only at h9); show 33 ≤ k ∧ k ≤ 49; omega)⟩
set_option maxHeartbeats 4000000 in
theorem p_letter {x k : Int32} (hO : Ok T sh so wi ta tb E docs ca bb rr pp qq) (h : MoI cB cI m0 th T sh so wi ta tb E docs ca bb rr pp qq ws) : CI D (TY cB cI cJ cO) l yX9_letter wsX9_letter ({ frames := 0, cells := 0, slots := 0, locals := 0 }) [.ref m0, .int x, .int k] ws (fun r ws' => r = letR sh x k ∧ MoI cB cI m0 0 T sh so wi ta tb E docs ca bb rr pp qq ws' ∧ Sm mK ws ws') := by
  obtain ⟨b1, b2, b5, b6, b7, b12, b14, b15, b16, b20, b21, b22, b23, b24, b26, b31, ps, fm, sta, f, fp, lf, ff, zf, fr, gn, gm, gs, gw, go, gt, gl, fa, g33, g34, g35, g36, g37, g38, g39, g40, g41, g42, g43, g44, g45, g46, g47, g48, g49, hT, hst, hdd, hE, hs1, hlo⟩ := h
  obtain ⟨o800, o6, o5, os1, ow1, ow9, oTab, oE3, oEs, o48, oDs, oca, obr, ob64, or64, op4, oq4⟩ := id hO
  refine (c_X9_letter g33 g36 g37 g38 hst rfl o6 o5).weak (fun r u A hD hp => ?_)
  obtain ⟨rfl, sm, n33⟩ := hp
  exact ⟨rfl, ⟨b1, b2, b5, b6, b7, b12, b14, b15, b16, b20, b21, b22, b23, b24, b26, b31, ps, fm, sta, f, fp, lf, ff, zf, fr, gn, gm, gs, gw, go, gt, gl, fa, n33, sm.get g34 (by simp), sm.get g35 (by simp), sm.get g36 (by simp), sm.get g37 (by simp), sm.get g38 (by simp), sm.get g39 (by simp), sm.get g40 (by simp), sm.get g41 (by simp), sm.get g42 (by simp), sm.get g43 (by simp), sm.get g44 (by simp), sm.get g45 (by simp), sm.get g46 (by simp), sm.get g47 (by simp), sm.get g48 (by simp), sm.get g49 (by simp), hT, hst, hdd, hE, hs1, hlo⟩, sm.mono (fun k h9 => by (try simp only at h9); show 33 ≤ k ∧ k ≤ 49; omega)⟩
set_option maxHeartbeats 4000000 in
theorem p_bands {b r_ : Int32} (hO : Ok T sh so wi ta tb E docs ca bb rr pp qq) (h : MoI cB cI m0 th T sh so wi ta tb E docs ca bb rr pp qq ws) : CI D (TY cB cI cJ cO) l yX9_bands wsX9_bands ({ frames := 0, cells := 0, slots := 0, locals := 0 }) [.ref m0, .int b, .int r_] ws (fun r ws' => r = nI ((bandOk b r_).toNat) ∧ MoI cB cI m0 0 T sh so wi ta tb E docs ca (bandN b r_ bb) (bandN2 b r_ rr) pp qq ws' ∧ Sm mK ws ws') := by
  obtain ⟨b1, b2, b5, b6, b7, b12, b14, b15, b16, b20, b21, b22, b23, b24, b26, b31, ps, fm, sta, f, fp, lf, ff, zf, fr, gn, gm, gs, gw, go, gt, gl, fa, g33, g34, g35, g36, g37, g38, g39, g40, g41, g42, g43, g44, g45, g46, g47, g48, g49, hT, hst, hdd, hE, hs1, hlo⟩ := h
  obtain ⟨o800, o6, o5, os1, ow1, ow9, oTab, oE3, oEs, o48, oDs, oca, obr, ob64, or64, op4, oq4⟩ := id hO
  refine (c_X9_bands g33).weak (fun r u A hD hp => ?_)
  obtain ⟨rfl, sm, n33⟩ := hp
  exact ⟨rfl, ⟨b1, b2, b5, b6, b7, b12, b14, b15, b16, b20, b21, b22, b23, b24, b26, b31, ps, fm, sta, f, fp, lf, ff, zf, fr, gn, gm, gs, gw, go, gt, gl, fa, n33, sm.get g34 (by simp), sm.get g35 (by simp), sm.get g36 (by simp), sm.get g37 (by simp), sm.get g38 (by simp), sm.get g39 (by simp), sm.get g40 (by simp), sm.get g41 (by simp), sm.get g42 (by simp), sm.get g43 (by simp), sm.get g44 (by simp), sm.get g45 (by simp), sm.get g46 (by simp), sm.get g47 (by simp), sm.get g48 (by simp), sm.get g49 (by simp), hT, hst, hdd, hE, hs1, hlo⟩, sm.mono (fun k h9 => by (try simp only at h9); show 33 ≤ k ∧ k ≤ 49; omega)⟩
set_option maxHeartbeats 4000000 in
theorem p_threshold {p1 q1 : Int32} (hO : Ok T sh so wi ta tb E docs ca bb rr pp qq) (h : MoI cB cI m0 th T sh so wi ta tb E docs ca bb rr pp qq ws) : CI D (TY cB cI cJ cO) l yX9_threshold wsX9_threshold ({ frames := 0, cells := 0, slots := 0, locals := 0 }) [.ref m0, .int p1, .int q1] ws (fun r ws' => r = nI ((thrOk p1 q1).toNat) ∧ MoI cB cI m0 0 T sh so wi ta tb E docs ca bb rr (thrN p1 q1 pp) (thrN2 p1 q1 qq) ws' ∧ Sm mK ws ws') := by
  obtain ⟨b1, b2, b5, b6, b7, b12, b14, b15, b16, b20, b21, b22, b23, b24, b26, b31, ps, fm, sta, f, fp, lf, ff, zf, fr, gn, gm, gs, gw, go, gt, gl, fa, g33, g34, g35, g36, g37, g38, g39, g40, g41, g42, g43, g44, g45, g46, g47, g48, g49, hT, hst, hdd, hE, hs1, hlo⟩ := h
  obtain ⟨o800, o6, o5, os1, ow1, ow9, oTab, oE3, oEs, o48, oDs, oca, obr, ob64, or64, op4, oq4⟩ := id hO
  refine (c_X9_threshold g33).weak (fun r u A hD hp => ?_)
  obtain ⟨rfl, sm, n33⟩ := hp
  exact ⟨rfl, ⟨b1, b2, b5, b6, b7, b12, b14, b15, b16, b20, b21, b22, b23, b24, b26, b31, ps, fm, sta, f, fp, lf, ff, zf, fr, gn, gm, gs, gw, go, gt, gl, fa, n33, sm.get g34 (by simp), sm.get g35 (by simp), sm.get g36 (by simp), sm.get g37 (by simp), sm.get g38 (by simp), sm.get g39 (by simp), sm.get g40 (by simp), sm.get g41 (by simp), sm.get g42 (by simp), sm.get g43 (by simp), sm.get g44 (by simp), sm.get g45 (by simp), sm.get g46 (by simp), sm.get g47 (by simp), sm.get g48 (by simp), sm.get g49 (by simp), hT, hst, hdd, hE, hs1, hlo⟩, sm.mono (fun k h9 => by (try simp only at h9); show 33 ≤ k ∧ k ≤ 49; omega)⟩
set_option maxHeartbeats 4000000 in
theorem p_count {x : Int32} (hO : Ok T sh so wi ta tb E docs ca bb rr pp qq) (h : MoI cB cI m0 th T sh so wi ta tb E docs ca bb rr pp qq ws) : CI D (TY cB cI cJ cO) l yX9_count wsX9_count ({ frames := 1, cells := 0, slots := 0, locals := 24 }) [.ref m0, .int x] ws (fun r ws' => r = cntR [T.length, (plainOf T).length, docs.length, ca, sh.length, sh.flatten.length, E.length, bb, rr, pp, qq, so, wi] x ∧ MoI cB cI m0 0 T sh so wi ta tb E docs ca bb rr pp qq ws' ∧ Sm mK ws ws') := by
  obtain ⟨b1, b2, b5, b6, b7, b12, b14, b15, b16, b20, b21, b22, b23, b24, b26, b31, ps, fm, sta, f, fp, lf, ff, zf, fr, gn, gm, gs, gw, go, gt, gl, fa, g33, g34, g35, g36, g37, g38, g39, g40, g41, g42, g43, g44, g45, g46, g47, g48, g49, hT, hst, hdd, hE, hs1, hlo⟩ := h
  obtain ⟨o800, o6, o5, os1, ow1, ow9, oTab, oE3, oEs, o48, oDs, oca, obr, ob64, or64, op4, oq4⟩ := id hO
  refine (c_X9_count g33 g34 g35 hT rfl o800).weak (fun r u A hD hp => ?_)
  obtain ⟨ps2, fq, rfl, sm, n33, n35⟩ := hp
  exact ⟨rfl, ⟨b1, b2, b5, b6, b7, b12, b14, b15, b16, b20, b21, b22, b23, b24, b26, b31, ps2, fm, sta, f, fq, lf, ff, zf, fr, gn, gm, gs, gw, go, gt, gl, fa, n33, sm.get g34 (by simp), n35, sm.get g36 (by simp), sm.get g37 (by simp), sm.get g38 (by simp), sm.get g39 (by simp), sm.get g40 (by simp), sm.get g41 (by simp), sm.get g42 (by simp), sm.get g43 (by simp), sm.get g44 (by simp), sm.get g45 (by simp), sm.get g46 (by simp), sm.get g47 (by simp), sm.get g48 (by simp), sm.get g49 (by simp), hT, hst, hdd, hE, hs1, hlo⟩, sm.mono (fun k h9 => by (try simp only at h9); show 33 ≤ k ∧ k ≤ 49; omega)⟩
set_option maxHeartbeats 4000000 in
theorem p_remove {x : Int32} (hO : Ok T sh so wi ta tb E docs ca bb rr pp qq) (h : MoI cB cI m0 th T sh so wi ta tb E docs ca bb rr pp qq ws) : CI D (TY cB cI cJ cO) l yX9_remove wsX9_remove ({ frames := 1, cells := 0, slots := 0, locals := 22 }) [.ref m0, .int x] ws (fun r ws' => r = nI ((slotOf (docs.map (fun d => d.1)) x).isSome.toNat) ∧ MoI cB cI m0 0 T sh so wi ta tb E (rmD docs (slotOf (docs.map (fun d => d.1)) x)) ca bb rr pp qq ws' ∧ Sm mK ws ws') := by
  obtain ⟨b1, b2, b5, b6, b7, b12, b14, b15, b16, b20, b21, b22, b23, b24, b26, b31, ps, fm, sta, f, fp, lf, ff, zf, fr, gn, gm, gs, gw, go, gt, gl, fa, g33, g34, g35, g36, g37, g38, g39, g40, g41, g42, g43, g44, g45, g46, g47, g48, g49, hT, hst, hdd, hE, hs1, hlo⟩ := h
  obtain ⟨o800, o6, o5, os1, ow1, ow9, oTab, oE3, oEs, o48, oDs, oca, obr, ob64, or64, op4, oq4⟩ := id hO
  refine (c_X9_remove g33 g40 g41 g42 hdd rfl o48 oDs).weak (fun r u A hD hp => ?_)
  obtain ⟨gn2, gm2, gs2, rfl, hdd2, sm, n33, n40, n41, n42⟩ := hp
  have l1 : (bif (slotOf (docs.map (fun d => d.1)) x).isSome then 1 else sta) ≤ 1 := by cases (slotOf (docs.map (fun d => d.1)) x).isSome <;> first | exact hs1 | exact Nat.le_refl 1
  have l2 : (bif (slotOf (docs.map (fun d => d.1)) x).isSome then 1 else sta) = 0 → LeastOK gl ta tb E (rmD docs (slotOf (docs.map (fun d => d.1)) x)) := by
    cases h9 : slotOf (docs.map (fun d => d.1)) x with
    | none => exact hlo
    | some k => intro e; exact absurd e (show ¬ (1 : Nat) = 0 by decide)
  exact ⟨rfl, ⟨b1, b2, b5, b6, b7, b12, b14, b15, b16, b20, b21, b22, b23, b24, b26, b31, ps, fm, _, f, fp, lf, ff, zf, fr, gn2, gm2, gs2, gw, go, gt, gl, fa, n33, sm.get g34 (by simp), sm.get g35 (by simp), sm.get g36 (by simp), sm.get g37 (by simp), sm.get g38 (by simp), sm.get g39 (by simp), n40, n41, n42, sm.get g43 (by simp), sm.get g44 (by simp), sm.get g45 (by simp), sm.get g46 (by simp), sm.get g47 (by simp), sm.get g48 (by simp), sm.get g49 (by simp), hT, hst, hdd2, hE, l1, l2⟩, sm.mono (fun k h9 => by (try simp only at h9); show 33 ≤ k ∧ k ≤ 49; omega)⟩
set_option maxHeartbeats 4000000 in
theorem p_tell {j a b : Int32} (hO : Ok T sh so wi ta tb E docs ca bb rr pp qq) (h : MoI cB cI m0 th T sh so wi ta tb E docs ca bb rr pp qq ws) : CI D (TY cB cI cJ cO) l yX9_tell wsX9_tell ({ frames := 1, cells := 0, slots := 0, locals := 24 }) [.ref m0, .int j, .int a, .int b] ws (fun r ws' => r = nI ((tellOk j a b).toNat) ∧ MoI cB cI m0 0 T sh so wi (teA ta j a b) (teB tb j a b) (teL E j a b) docs ca bb rr pp qq ws' ∧ Sm mK ws ws') := by
  obtain ⟨b1, b2, b5, b6, b7, b12, b14, b15, b16, b20, b21, b22, b23, b24, b26, b31, ps, fm, sta, f, fp, lf, ff, zf, fr, gn, gm, gs, gw, go, gt, gl, fa, g33, g34, g35, g36, g37, g38, g39, g40, g41, g42, g43, g44, g45, g46, g47, g48, g49, hT, hst, hdd, hE, hs1, hlo⟩ := h
  obtain ⟨o800, o6, o5, os1, ow1, ow9, oTab, oE3, oEs, o48, oDs, oca, obr, ob64, or64, op4, oq4⟩ := id hO
  refine (c_X9_tell g33 g43 g44 g45 g46 g47 hE rfl oE3 oEs).weak (fun r u A hD hp => ?_)
  obtain ⟨gw2, go2, gt2, rfl, hE2, sm, n33, n43, n44, n45, n46, n47⟩ := hp
  have l1 : (bif tellOk j a b then 1 else sta) ≤ 1 := by cases tellOk j a b <;> first | exact hs1 | exact Nat.le_refl 1
  have l2 : (bif tellOk j a b then 1 else sta) = 0 → LeastOK gl (teA ta j a b) (teB tb j a b) (teL E j a b) docs := by
    rw [teA, teB, teL]
    cases h9 : tellOk j a b with
    | false => exact hlo
    | true => intro e; exact absurd e (show ¬ (1 : Nat) = 0 by decide)
  exact ⟨rfl, ⟨b1, b2, b5, b6, b7, b12, b14, b15, b16, b20, b21, b22, b23, b24, b26, b31, ps, fm, _, f, fp, lf, ff, zf, fr, gn, gm, gs, gw2, go2, gt2, gl, fa, n33, sm.get g34 (by simp), sm.get g35 (by simp), sm.get g36 (by simp), sm.get g37 (by simp), sm.get g38 (by simp), sm.get g39 (by simp), sm.get g40 (by simp), sm.get g41 (by simp), sm.get g42 (by simp), n43, n44, n45, n46, n47, sm.get g48 (by simp), sm.get g49 (by simp), hT, hst, hdd, hE2, l1, l2⟩, sm.mono (fun k h9 => by (try simp only at h9); show 33 ≤ k ∧ k ≤ 49; omega)⟩
set_option maxHeartbeats 4000000 in
theorem p_exchange {j x y : Int32} (hO : Ok T sh so wi ta tb E docs ca bb rr pp qq) (h : MoI cB cI m0 th T sh so wi ta tb E docs ca bb rr pp qq ws) : CI D (TY cB cI cJ cO) l yX9_exchange wsX9_exchange ({ frames := 1, cells := 0, slots := 0, locals := 24 }) [.ref m0, .int j, .int x, .int y] ws (fun r ws' => r = exR E j x y ∧ MoI cB cI m0 0 T sh so wi ta tb (exL E j x y) docs ca bb rr pp qq ws' ∧ Sm mK ws ws') := by
  obtain ⟨b1, b2, b5, b6, b7, b12, b14, b15, b16, b20, b21, b22, b23, b24, b26, b31, ps, fm, sta, f, fp, lf, ff, zf, fr, gn, gm, gs, gw, go, gt, gl, fa, g33, g34, g35, g36, g37, g38, g39, g40, g41, g42, g43, g44, g45, g46, g47, g48, g49, hT, hst, hdd, hE, hs1, hlo⟩ := h
  obtain ⟨o800, o6, o5, os1, ow1, ow9, oTab, oE3, oEs, o48, oDs, oca, obr, ob64, or64, op4, oq4⟩ := id hO
  refine (c_X9_exchange (ta := ta) (tb := tb) g33 g45 g46 g47 hE rfl oE3).weak (fun r u A hD hp => ?_)
  obtain ⟨gw2, go2, gt2, rfl, hE2, sm, n33, n45, n46, n47⟩ := hp
  have l1 : (if exOk j x y E.length = true then 1 else sta) ≤ 1 := by split <;> first | exact hs1 | exact Nat.le_refl 1
  have l2 : (if exOk j x y E.length = true then 1 else sta) = 0 → LeastOK gl ta tb (exL E j x y) docs := by
    rw [exL]
    cases h9 : exOk j x y E.length with
    | false => exact hlo
    | true => intro e; exact absurd e (show ¬ (1 : Nat) = 0 by decide)
  exact ⟨rfl, ⟨b1, b2, b5, b6, b7, b12, b14, b15, b16, b20, b21, b22, b23, b24, b26, b31, ps, fm, _, f, fp, lf, ff, zf, fr, gn, gm, gs, gw2, go2, gt2, gl, fa, n33, sm.get g34 (by simp), sm.get g35 (by simp), sm.get g36 (by simp), sm.get g37 (by simp), sm.get g38 (by simp), sm.get g39 (by simp), sm.get g40 (by simp), sm.get g41 (by simp), sm.get g42 (by simp), sm.get g43 (by simp), sm.get g44 (by simp), n45, n46, n47, sm.get g48 (by simp), sm.get g49 (by simp), hT, hst, hdd, hE2, l1, l2⟩, sm.mono (fun k h9 => by (try simp only at h9); show 33 ≤ k ∧ k ≤ 49; omega)⟩
end MOB
