theorem CIT.weak {tx : List (Nat × String)} {D : va_G} {tys : List (ClassId × FieldType)} {l : Launch} {y : MethodName} {w : List Cond} {rm : Room} {ad mi : Nat} {av : List Value} {ws : va_W} {post post2 : Int32 → va_W → Prop} {px px2 : String → va_W → Prop} (h : CIT tx D tys l y w rm ad mi av ws post px) (hq : ∀ r u, post r u → post2 r u) (hx : ∀ E u, px E u → px2 E u) : CIT tx D tys l y w rm ad mi av ws post2 px2 := fun sz p e ha hf hc s m args below h1 h2 h3 h4 => by
  obtain ⟨n, o, a, b, c, d⟩ := h sz p e ha hf hc s m args below h1 h2 h3 h4
  refine ⟨n, o, a, b, c, ?_⟩
  rcases d with ⟨⟨⟨r, u, e1, e2, e3⟩, e4⟩, e5⟩ | ⟨q, e1, E, ce, L, ⟨u, e2, ⟨e3, e4⟩, e5⟩, e6⟩
  · exact Or.inl ⟨⟨⟨r, u, e1, hq r u e2, e3⟩, e4⟩, e5⟩
  · exact Or.inr ⟨q, e1, E, ce, L, ⟨u, e2, ⟨hx E u e3, e4⟩, e5⟩, e6⟩
theorem mode_ok {v q : Nat} (h1 : v ≤ 1) (h2 : 1 ≤ q) (h3 : q ≤ 9) : modeOk (nI v) (nI q) = true := by
  rw [modeOk, decide_eq_true (nI_pos (by omega)), decide_eq_true (show ¬ nI 1 < nI v from fun h => by have := (nI_ltI (by decide) (by omega)).mp h; omega), decide_eq_true (show ¬ nI q < nI 1 from fun h => by have := (nI_ltI (by omega) (by decide)).mp h; omega), decide_eq_true ((nI_leI (show q < 2 ^ 31 by omega) (by decide)).mpr h3)]
  rfl
theorem mode_no {v q : Int32} (h : ¬ (¬ v < 0 ∧ ¬ nI 1 < v ∧ ¬ q < nI 1 ∧ q ≤ nI 9)) : modeOk v q = false := by
  cases hk : modeOk v q with
  | false => rfl
  | true =>
    rw [modeOk, Bool.and_eq_true, Bool.and_eq_true, Bool.and_eq_true] at hk
    exact absurd ⟨of_decide_eq_true hk.1.1.1, of_decide_eq_true hk.1.1.2, of_decide_eq_true hk.1.2, of_decide_eq_true hk.2⟩ h
theorem out_le {v : Int32} {k : Nat} (h : ¬ (¬ v < 0 ∧ v ≤ nI k)) : isOut v (nI 0) (nI k) = true := by
  by_cases h1 : v < 0
  · exact isOut_lo h1
  · exact isOut_hi (fun h2 => h ⟨h1, h2⟩)
theorem out_lt {v : Int32} {k : Nat} (hk : k + 1 < 2 ^ 31) (h : ¬ (¬ v < 0 ∧ v < nI (k + 1))) : isOut v (nI 0) (nI k) = true := by
  by_cases h1 : v < 0
  · exact isOut_lo h1
  · exact isOut_hi (fun h2 => h ⟨h1, Int32.lt_of_le_of_lt h2 ((nI_ltI (by omega) hk).mpr (Nat.lt_succ_self k))⟩)
section QP
variable {dd : Nat → DX} {HS : List Nat} {docs : List (Nat × List Nat)} {ta tb : Nat → Nat} {E : List (Nat × Nat × Nat)} {rr bb pp qq : Nat}
theorem ShM.shv (h : ShM dd HS docs ta tb E) {i t : Nat} (ht : HS[i]? = some t) (v : Int32) : (if ¬ v < 0 ∧ v < nI (dd t).2.2.1.2 then nI ((dd t).2.2.2.2.1 v.toNatClampNeg) else -1) = shR (dset docs (some i)) v := by
  obtain ⟨-, ⟨e1, e2, e3, -⟩, -⟩ := h.2 i t ht
  show _ = shR (docs.getD i (0, [])).2 v
  rw [shR, e1]
  by_cases hc : ¬ v < 0 ∧ v < nI (docs.getD i (0, [])).2.length
  · rw [if_pos hc, if_pos hc]
    obtain ⟨j, hj, rfl⟩ := nI_of hc.1
    rw [nI_clamp hj, e2 j ((nI_ltI hj (by omega)).mp hc.2)]
  · rw [if_neg hc, if_neg hc]
theorem ShM.bov (h : ShM dd HS docs ta tb E) (hbr : bb * rr ≤ 64) {i j t u w : Nat} (ht : HS[i]? = some t) (hu : HS[j]? = some u) (hw : w ≤ 4) : bothC dd rr bb pp qq t u (nI w) = bothV ta tb E docs rr bb pp qq i j w := by
  have hi := (List.getElem?_eq_some_iff.mp ht).1
  have hj := (List.getElem?_eq_some_iff.mp hu).1
  have eb := h.bd (rr := rr) (bb := bb) hbr hi hj
  have et := h.tw (rr := rr) (bb := bb) (pp := pp) (qq := qq) hbr hi hj
  rw [twH] at et
  rw [getD_at ht, getD_at hu] at eb et
  have a1 := h.2 i t ht
  have a2 := h.2 j u hu
  have ec := a1.2.2.2.2 j u hu
  have ez := a1.2.1.1
  have ey := a2.2.1.1
  have ee : cntE (dd t).2.2.2.2.2.1 (dd u).2.2.2.2.2.1 (bb * rr) = sameM ta tb E docs (bb * rr) i j := cntE_cong (fun k hk => ⟨a1.2.2.2.1 k (by omega), a2.2.2.2.1 k (by omega)⟩)
  rw [bothC, bothV, ec, ez, ey, ee, eb, et]
  rcases (show w = 0 ∨ w = 1 ∨ w = 2 ∨ w = 3 ∨ w = 4 by omega) with rfl | rfl | rfl | rfl | rfl
  · rw [if_pos rfl, if_pos rfl]
  · rw [if_neg (by decide), if_pos rfl, if_neg (by decide), if_pos rfl]; rfl
  · rw [if_neg (by decide), if_neg (by decide), if_pos rfl, if_neg (by decide), if_neg (by decide), if_pos rfl]
  · rw [if_neg (by decide), if_neg (by decide), if_neg (by decide), if_pos rfl, if_neg (by decide), if_neg (by decide), if_neg (by decide), if_pos rfl]
  · rw [if_neg (by decide), if_neg (by decide), if_neg (by decide), if_neg (by decide), if_neg (by decide), if_neg (by decide), if_neg (by decide), if_neg (by decide)]
theorem ShM.olen (h : ShM dd HS docs ta tb E) (hn : HS.Nodup) {i t : Nat} (ht : HS[i]? = some t) : (ordL dd t HS).length = HS.length - 1 := by
  have hi := (List.getElem?_eq_some_iff.mp ht).1
  have e := ord_map hn hi (nr := nrP docs i) (fun p q hp hq => h.nr hi hp hq)
  rw [getD_at ht] at e
  rw [e, List.length_map, ordP_len hi]
theorem ShM.nev (h : ShM dd HS docs ta tb E) (hn : HS.Nodup) (h48 : docs.length ≤ 48) {i t : Nat} {x v : Int32} (hs : slotOf (docs.map (fun d => d.1)) x = some i) (ht : HS[i]? = some t) : (if ¬ v < 0 ∧ v < nI (ordL dd t HS).length then nI (dd ((ordL dd t HS).getD v.toNatClampNeg 0)).2.2.1.1 else -1) = nearR docs x v := by
  have hi := (List.getElem?_eq_some_iff.mp ht).1
  have ho := h.olen hn ht
  by_cases hc : ¬ v < 0 ∧ v < nI (ordL dd t HS).length
  · rw [if_pos hc]
    obtain ⟨k, hk, rfl⟩ := nI_of hc.1
    have hl := h.1
    have hk2 : k < HS.length - 1 := by rw [← ho]; exact (nI_ltI hk (by omega)).mp hc.2
    obtain ⟨t2, e1, e2, e3, e4⟩ := h.near hn hi hk2
    rw [getD_at ht] at e3
    rw [near_at hs hk (by omega) h48, e1, nI_clamp hk, getD_at e3, e4]
  · rw [if_neg hc, near_no hs]
    by_cases h1 : v < 0
    · exact Or.inl h1
    · refine Or.inr (fun h2 => hc ⟨h1, ?_⟩)
      rw [ho, ← h.1]; exact h2
end QP
section QO
variable {D : va_G} {cB cI cJ cO : ClassId} {l : Launch} {ad mi z0 : Nat} {T : List Int32} {sh : List (List Int32)} {so wi : Nat} {ta tb : Nat → Nat} {E : List (Nat × Nat × Nat)} {docs : List (Nat × List Nat)} {ca bb rr pp qq : Nat} {ws : va_W}
set_option maxHeartbeats 4000000 in
theorem q_shingle {x v : Int32} (hlt : l.stackTraces = false) (hO : Ok T sh so wi ta tb E docs ca bb rr pp qq) (h : CoI cB cI cJ cO ad z0 T sh so wi ta tb E docs ca bb rr pp qq ws) : CIT TXT D (TY cB cI cJ cO) l yX8_shingle wsX8_shingleN ({ frames := 8, cells := 1, slots := 6, locals := 150 }) ad mi [.ref z0, .int x, .int v] ws (fun r ws' => (slotOf (docs.map (fun d => d.1)) x).isSome = true ∧ r = (bif (slotOf (docs.map (fun d => d.1)) x).isSome then shR (dset docs (slotOf (docs.map (fun d => d.1)) x)) v else 0) ∧ Ok T sh so wi ta tb E docs ca bb rr pp qq ∧ CoI cB cI cJ cO ad z0 T sh so wi ta tb E docs ca bb rr pp qq ws' ∧ Sm cK ws ws') (fun EX ws' => EX = NSE ∧ (slotOf (docs.map (fun d => d.1)) x).isSome = false ∧ Ok T sh so wi ta tb E docs ca bb rr pp qq ∧ CoI cB cI cJ cO ad z0 T sh so wi ta tb E docs ca bb rr pp qq ws' ∧ Sm cK ws ws') := by
  obtain ⟨a1, t0, d0, s0, e0, k0, al, s1, s2, s3, eh, es, er, nd, dd, HS, SS, RS, g0, hTa, hSt, hPe, g20, hKi, hAl, hSW, hnd, hSM⟩ := id h
  obtain ⟨o800, o6, o5, os1, ow1, ow9, oTab, oE3, oEs, o48, oDs, oca, obr, ob64, or64, op4, oq4⟩ := id hO
  refine (c_X8_shingle g0 hSW hnd hSM.row hlt).weak (fun r u hp => ?_) (fun EX u hp => ?_)
  · obtain ⟨i, t, rfl, hsl, ht, rfl⟩ := hp
    rw [hSM.num] at hsl
    rw [hsl]
    exact ⟨rfl, hSM.shv ht v, hO, h, Sm.rf⟩
  · obtain ⟨rfl, rfl, hsl⟩ := hp
    rw [hSM.num] at hsl
    rw [hsl]
    exact ⟨rfl, rfl, hO, h, Sm.rf⟩
set_option maxHeartbeats 4000000 in
theorem q_signature {x v : Int32} (hlt : l.stackTraces = false) (hO : Ok T sh so wi ta tb E docs ca bb rr pp qq) (h : CoI cB cI cJ cO ad z0 T sh so wi ta tb E docs ca bb rr pp qq ws) : CIT TXT D (TY cB cI cJ cO) l yX8_signature wsX8_signatureN ({ frames := 8, cells := 2, slots := 12, locals := 150 }) ad mi [.ref z0, .int x, .int v] ws (fun r ws' => (sgOk docs x v) = true ∧ r = (bif (sgOk docs x v) then nI (sgOf ta tb E (dset docs (slotOf (docs.map (fun d => d.1)) x)) v.toNatClampNeg) else 0) ∧ Ok T sh so wi ta tb E docs ca bb rr pp qq ∧ CoI cB cI cJ cO ad z0 T sh so wi ta tb E docs ca bb rr pp qq ws' ∧ Sm cK ws ws') (fun EX ws' => EX = NSE ∧ (sgOk docs x v) = false ∧ Ok T sh so wi ta tb E docs ca bb rr pp qq ∧ CoI cB cI cJ cO ad z0 T sh so wi ta tb E docs ca bb rr pp qq ws' ∧ Sm cK ws ws') := by
  obtain ⟨a1, t0, d0, s0, e0, k0, al, s1, s2, s3, eh, es, er, nd, dd, HS, SS, RS, g0, hTa, hSt, hPe, g20, hKi, hAl, hSW, hnd, hSM⟩ := id h
  obtain ⟨o800, o6, o5, os1, ow1, ow9, oTab, oE3, oEs, o48, oDs, oca, obr, ob64, or64, op4, oq4⟩ := id hO
  refine (c_X8_signature g0 hSW hnd hlt).weak (fun r u hp => ?_) (fun EX u hp => ?_)
  · obtain ⟨i, t, rfl, hsl, ht, hv, rfl⟩ := hp
    rw [hSM.num] at hsl
    obtain ⟨k, hk, rfl⟩ := nI_of hv.1
    have hk2 : k < 64 := (nI_ltI hk (by decide)).mp hv.2
    have eo : sgOk docs x (nI k) = true := by
      rw [sgOk, hsl, isOut_in (Nat.zero_le _) (show k ≤ 63 by omega) (by decide)]; rfl
    rw [eo, hsl, nI_clamp hk, (hSM.2 i t ht).2.2.2.1 k hk2]
    exact ⟨rfl, rfl, hO, h, Sm.rf⟩
  · obtain ⟨rfl, rfl, hn⟩ := hp
    have eo : sgOk docs x v = false := by
      rw [sgOk]
      rcases hn with hn | hn
      · rw [hSM.num] at hn
        rw [hn]; rfl
      · rw [out_lt (k := 63) (by decide) hn, Bool.not_true, Bool.and_false]
    exact ⟨rfl, eo, hO, h, Sm.rf⟩
set_option maxHeartbeats 4000000 in
theorem q_both {x y v : Int32} (hlt : l.stackTraces = false) (hO : Ok T sh so wi ta tb E docs ca bb rr pp qq) (h : CoI cB cI cJ cO ad z0 T sh so wi ta tb E docs ca bb rr pp qq ws) : CIT TXT D (TY cB cI cJ cO) l yX8_both wsX8_bothN ({ frames := 9, cells := 3, slots := 18, locals := 250 }) ad mi [.ref z0, .int x, .int y, .int v] ws (fun r ws' => (bothOk docs x y v) = true ∧ r = (bothR ta tb E docs rr bb pp qq x y v) ∧ Ok T sh so wi ta tb E docs ca bb rr pp qq ∧ CoI cB cI cJ cO ad z0 T sh so wi ta tb E docs ca bb rr pp qq ws' ∧ Sm cK ws ws') (fun EX ws' => EX = NSE ∧ (bothOk docs x y v) = false ∧ Ok T sh so wi ta tb E docs ca bb rr pp qq ∧ CoI cB cI cJ cO ad z0 T sh so wi ta tb E docs ca bb rr pp qq ws' ∧ Sm cK ws ws') := by
  obtain ⟨a1, t0, d0, s0, e0, k0, al, s1, s2, s3, eh, es, er, nd, dd, HS, SS, RS, g0, hTa, hSt, hPe, g20, hKi, hAl, hSW, hnd, hSM⟩ := id h
  obtain ⟨o800, o6, o5, os1, ow1, ow9, oTab, oE3, oEs, o48, oDs, oca, obr, ob64, or64, op4, oq4⟩ := id hO
  refine (c_X8_both g0 g20 hSW hnd hSM.row obr ob64 or64 op4 oq4 hlt).weak (fun r u hp => ?_) (fun EX u hp => ?_)
  · obtain ⟨i, j, t, w, rfl, hsl, ht, hsm, hu, hv, rfl⟩ := hp
    rw [hSM.num] at hsl hsm
    obtain ⟨k, hk, rfl⟩ := nI_of2 (n := 4) (nI_toInt (by decide)) hv.1 hv.2
    exact ⟨both_ok hsl hsm hk, by rw [both_at hsl hsm hk]; exact hSM.bov obr ht hu hk, hO, h, Sm.rf⟩
  · obtain ⟨rfl, rfl, hn⟩ := hp
    rw [hSM.num] at hn
    have eo : bothOk docs x y v = false := by
      rw [bothOk]
      rcases hn with hn | hn | hn
      · rw [hn]; rfl
      · rw [hn, Option.isSome_none, Bool.false_and, Bool.and_false]
      · rw [out_le (k := 4) hn, Bool.not_true, Bool.and_false, Bool.and_false]
    exact ⟨rfl, eo, hO, h, Sm.rf⟩
set_option maxHeartbeats 4000000 in
theorem q_nearest {x v : Int32} (hlt : l.stackTraces = false) (hO : Ok T sh so wi ta tb E docs ca bb rr pp qq) (h : CoI cB cI cJ cO ad z0 T sh so wi ta tb E docs ca bb rr pp qq ws) : CIT TXT D (TY cB cI cJ cO) l yX8_nearest wsX8_nearestN ({ frames := 9, cells := 49, slots := 2358, locals := 200 }) ad mi [.ref z0, .int x, .int v] ws (fun r ws' => (slotOf (docs.map (fun d => d.1)) x).isSome = true ∧ r = (nearR docs x v) ∧ Ok T sh so wi ta tb E docs ca bb rr pp qq ∧ CoI cB cI cJ cO ad z0 T sh so wi ta tb E docs ca bb rr pp qq ws' ∧ Sm cK ws ws') (fun EX ws' => EX = NSE ∧ (slotOf (docs.map (fun d => d.1)) x).isSome = false ∧ Ok T sh so wi ta tb E docs ca bb rr pp qq ∧ CoI cB cI cJ cO ad z0 T sh so wi ta tb E docs ca bb rr pp qq ws' ∧ Sm cK ws ws') := by
  obtain ⟨a1, t0, d0, s0, e0, k0, al, s1, s2, s3, eh, es, er, nd, dd, HS, SS, RS, g0, hTa, hSt, hPe, g20, hKi, hAl, hSW, hnd, hSM⟩ := id h
  obtain ⟨o800, o6, o5, os1, ow1, ow9, oTab, oE3, oEs, o48, oDs, oca, obr, ob64, or64, op4, oq4⟩ := id hO
  have hnod : HS.Nodup := (List.nodup_append.mp hSW.2.2.2.2.2.2.1).1
  refine (c_X8_nearest g0 g20 hSW hnd hSM.row hlt).weak (fun r u hp => ?_) (fun EX u hp => ?_)
  · obtain ⟨i, t, er2, rfl, hsl, ht, hSW2, sm⟩ := hp
    rw [hSM.num] at hsl
    refine ⟨by rw [hsl]; rfl, hSM.nev hnod o48 hsl ht, hO, ⟨a1, t0, d0, s0, e0, k0, al, s1, s2, s3, eh, es, er2, nd, dd, HS, SS, _, sm.get g0 (by simp), hTa.fr sm (fun k h9 => by (try simp only at h9); omega), hSt.fr sm (fun k h9 => by (try simp only at h9); omega), hPe.fr sm (fun k h9 => by (try simp only at h9); omega), sm.get g20 (by simp), hKi.fr sm (fun k h9 => by (try simp only at h9); omega), hAl.fr sm (fun k h9 => by (try simp only at h9); omega), hSW2, hnd, hSM⟩, sm.mono (fun k h9 => by (try simp only at h9); show k ≤ 32 ∨ 51 ≤ k; omega)⟩
  · obtain ⟨rfl, rfl, hsl⟩ := hp
    rw [hSM.num] at hsl
    rw [hsl]
    exact ⟨rfl, rfl, hO, h, Sm.rf⟩
set_option maxHeartbeats 4000000 in
theorem q_document {x v : Int32} (hlt : l.stackTraces = false) (hO : Ok T sh so wi ta tb E docs ca bb rr pp qq) (h : CoI cB cI cJ cO ad z0 T sh so wi ta tb E docs ca bb rr pp qq ws) : CIT TXT D (TY cB cI cJ cO) l yX8_document wsX8_documentN ({ frames := 8, cells := 1, slots := 6, locals := 150 }) ad mi [.ref z0, .int x, .int v] ws (fun r ws' => (docOk docs x v) = true ∧ r = (docR (twM ta tb E docs rr bb pp qq) docs x v) ∧ Ok T sh so wi ta tb E docs ca bb rr pp qq ∧ CoI cB cI cJ cO ad z0 T sh so wi ta tb E docs ca bb rr pp qq ws' ∧ Sm cK ws ws') (fun EX ws' => EX = NSE ∧ (docOk docs x v) = false ∧ Ok T sh so wi ta tb E docs ca bb rr pp qq ∧ CoI cB cI cJ cO ad z0 T sh so wi ta tb E docs ca bb rr pp qq ws' ∧ Sm cK ws ws') := by
  obtain ⟨a1, t0, d0, s0, e0, k0, al, s1, s2, s3, eh, es, er, nd, dd, HS, SS, RS, g0, hTa, hSt, hPe, g20, hKi, hAl, hSW, hnd, hSM⟩ := id h
  obtain ⟨o800, o6, o5, os1, ow1, ow9, oTab, oE3, oEs, o48, oDs, oca, obr, ob64, or64, op4, oq4⟩ := id hO
  obtain ⟨k1, k2, k3, k4, k5, k6, k7, k8, k9, k10, plc, kn, sz1, sz2, c1, c2, t1, t2, nu, tc, fa, me, g21, g22, g23, g24, g25, g26, g27, g28, g29, g30, g31, hkn1, hkn⟩ := id hKi
  refine (c_X8_document g0 g20 g21 g22 g23 g24 g25 g26 g27 g28 g29 g30 g31 hSW hnd hSM.row obr ob64 or64 op4 oq4 (hSM.sy oDs obr) hkn1 hkn hlt).weak (fun r u hp => ?_) (fun EX u hp => ?_)
  · obtain ⟨plcn, sz1n, sz2n, c1n, c2n, t1n, t2n, nun, tcn, fan, men, knn, i, t, v1, rfl, hkn2, hK2, hsl, ht, ⟨rfl, hv1⟩, hk2, hSW2, sm, n21, n22, n23, n24, n25, n26, n27, n28, n29, n30, n31⟩ := hp
    rw [hSM.num] at hsl
    have hi := (List.getElem?_eq_some_iff.mp ht).1
    have e : docC (dd t).2.2.1.2 nun tcn fan men i v1 = docV (twM ta tb E docs rr bb pp qq) docs i v1 := by
      rw [docC, docV]
      by_cases e0 : v1 = 0
      · rw [if_pos e0, if_pos e0]; exact (hSM.2 i t ht).2.1.1
      · have hK := hK2 (hk2 e0)
        rw [if_neg e0, if_neg e0, hSM.dfam obr hK hi, hSM.dmem obr hK hi, hSM.dtw oDs obr hK hi]
    exact ⟨doc_ok hsl hv1, by rw [doc_at hsl hv1, e], hO, ⟨a1, t0, d0, s0, e0, k0, al, s1, s2, s3, eh, es, er, nd, dd, HS, SS, RS, sm.get g0 (by simp), hTa.fr sm (fun k h9 => by (try simp only at h9); omega), hSt.fr sm (fun k h9 => by (try simp only at h9); omega), hPe.fr sm (fun k h9 => by (try simp only at h9); omega), sm.get g20 (by simp), ⟨k1, k2, k3, k4, k5, k6, k7, k8, k9, k10, plcn, knn, sz1n, sz2n, c1n, c2n, t1n, t2n, nun, tcn, fan, men, n21, n22, n23, n24, n25, n26, n27, n28, n29, n30, n31, hkn2, hK2⟩, hAl.fr sm (fun k h9 => by (try simp only at h9); omega), hSW2, hnd, hSM⟩, sm.mono (fun k h9 => by (try simp only at h9); show k ≤ 32 ∨ 51 ≤ k; omega)⟩
  · obtain ⟨rfl, rfl, hn⟩ := hp
    rw [hSM.num] at hn
    have eo : docOk docs x v = false := by
      rw [docOk]
      rcases hn with hn | hn
      · rw [hn]; rfl
      · rw [out_le (k := 3) hn, Bool.not_true, Bool.and_false]
    exact ⟨rfl, eo, hO, h, Sm.rf⟩
set_option maxHeartbeats 4000000 in
theorem q_mode {v q : Int32} (hlt : l.stackTraces = false) (hO : Ok T sh so wi ta tb E docs ca bb rr pp qq) (h : CoI cB cI cJ cO ad z0 T sh so wi ta tb E docs ca bb rr pp qq ws) : CIT TXT D (TY cB cI cJ cO) l yX8_mode wsX8_mode ({ frames := 10, cells := 49, slots := 2358, locals := 300 }) ad mi [.ref z0, .int v, .int q] ws (fun r ws' => (modeOk v q) = true ∧ r = (bif modeOk v q then nI docs.length else 0) ∧ Ok T ((bif modeOk v q then ([] : List (List Int32)) else sh)) ((bif modeOk v q then v.toNatClampNeg else so)) ((bif modeOk v q then q.toNatClampNeg else wi)) ta tb E ((bif modeOk v q then ([] : List (Nat × List Nat)) else docs)) ((bif modeOk v q then 0 else ca)) bb rr pp qq ∧ CoI cB cI cJ cO ad z0 T ((bif modeOk v q then ([] : List (List Int32)) else sh)) ((bif modeOk v q then v.toNatClampNeg else so)) ((bif modeOk v q then q.toNatClampNeg else wi)) ta tb E ((bif modeOk v q then ([] : List (Nat × List Nat)) else docs)) ((bif modeOk v q then 0 else ca)) bb rr pp qq ws' ∧ Sm cK ws ws') (fun EX ws' => EX = IAE ∧ (modeOk v q) = false ∧ Ok T ((bif modeOk v q then ([] : List (List Int32)) else sh)) ((bif modeOk v q then v.toNatClampNeg else so)) ((bif modeOk v q then q.toNatClampNeg else wi)) ta tb E ((bif modeOk v q then ([] : List (Nat × List Nat)) else docs)) ((bif modeOk v q then 0 else ca)) bb rr pp qq ∧ CoI cB cI cJ cO ad z0 T ((bif modeOk v q then ([] : List (List Int32)) else sh)) ((bif modeOk v q then v.toNatClampNeg else so)) ((bif modeOk v q then q.toNatClampNeg else wi)) ta tb E ((bif modeOk v q then ([] : List (Nat × List Nat)) else docs)) ((bif modeOk v q then 0 else ca)) bb rr pp qq ws' ∧ Sm cK ws ws') := by
  obtain ⟨a1, t0, d0, s0, e0, k0, al, s1, s2, s3, eh, es, er, nd, dd, HS, SS, RS, g0, hTa, hSt, hPe, g20, hKi, hAl, hSW, hnd, hSM⟩ := id h
  obtain ⟨o800, o6, o5, os1, ow1, ow9, oTab, oE3, oEs, o48, oDs, oca, obr, ob64, or64, op4, oq4⟩ := id hO
  obtain ⟨t1, t2, t3, t4, lf, bf, sf, se, g5, g6, g7, g8, g9, hst⟩ := id hSt
  obtain ⟨k1, k4, k7, k8, k9, k10, plc, kn, g21, hKo⟩ := hKi.op (true)
  refine (c_X8_mode g0 g5 g6 g7 g8 g9 g21 hst rfl o6 o5 hSW hnd hlt).weak (fun r u hp => ?_) (fun EX u hp => ?_)
  · obtain ⟨v1, q1, se2, es2, rfl, ⟨rfl, hv1⟩, ⟨rfl, hq0, hq1⟩, hst2, hSW2, sm, n0, n5, n9, n21⟩ := hp
    rw [mode_ok hv1 hq0 hq1, nI_clamp (show v1 < 2 ^ 31 by omega), nI_clamp (show q1 < 2 ^ 31 by omega), hSM.1]
    exact ⟨rfl, rfl, ⟨o800, (by simp), (by simp), hv1, hq0, hq1, oTab, oE3, oEs, (by simp), (fun d hd => absurd hd List.not_mem_nil), Nat.zero_le _, obr, ob64, or64, op4, oq4⟩, ⟨a1, t0, d0, s0, e0, k0, al, s1, s2, s3, eh, es2, er, nd, dd, [], (SS ++ HS), RS, n0, hTa.fr sm (fun k h9 => by (try simp only at h9); omega), ⟨t1, t2, t3, t4, lf, bf, sf, se2, n5, sm.get g6 (by simp), sm.get g7 (by simp), sm.get g8 (by simp), n9, hst2⟩, hPe.fr sm (fun k h9 => by (try simp only at h9); omega), sm.get g20 (by simp), hKo u _ dd [] rr bb pp qq sm (fun k h9 => by (try simp only at h9); omega) n21 (fun h9 => absurd h9 (by decide)), hAl.fr sm (fun k h9 => by (try simp only at h9); omega), hSW2, hnd, ⟨rfl, fun i t h9 => absurd h9 (by simp)⟩⟩, sm.mono (fun k h9 => by (try simp only at h9); show k ≤ 32 ∨ 51 ≤ k; omega)⟩
  · obtain ⟨rfl, rfl, hn⟩ := hp
    rw [mode_no hn]
    exact ⟨rfl, rfl, hO, h, Sm.rf⟩
end QO
