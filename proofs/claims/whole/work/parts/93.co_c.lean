section COC
variable {D : va_G} {cB cI cJ cO : ClassId} {l : Launch} {ad mi z0 : Nat} {T : List Int32} {sh : List (List Int32)} {so wi : Nat} {ta tb : Nat → Nat} {E : List (Nat × Nat × Nat)} {docs : List (Nat × List Nat)} {ca bb rr pp qq : Nat} {ws : va_W}
set_option maxHeartbeats 4000000 in
theorem o_remove {x : Int32} (hO : Ok T sh so wi ta tb E docs ca bb rr pp qq) (h : CoI cB cI cJ cO ad z0 T sh so wi ta tb E docs ca bb rr pp qq ws) : CIX D (TY cB cI cJ cO) l yX8_remove wsX8_remove ({ frames := 8, cells := 1, slots := 49, locals := 193 }) ad mi [.ref z0, .int x] ws (fun r ws' => r = nI ((slotOf (docs.map (fun d => d.1)) x).isSome.toNat) ∧ Ok T sh so wi ta tb E (rmD docs (slotOf (docs.map (fun d => d.1)) x)) ca bb rr pp qq ∧ CoI cB cI cJ cO ad z0 T sh so wi ta tb E (rmD docs (slotOf (docs.map (fun d => d.1)) x)) ca bb rr pp qq ws' ∧ Sm cK ws ws') := by
  obtain ⟨a1, t0, d0, s0, e0, k0, al, s1, s2, s3, eh, es, er, nd, dd, HS, SS, RS, g0, hTa, hSt, hPe, g20, hKi, hAl, hSW, hnd, hSM⟩ := id h
  obtain ⟨o800, o6, o5, os1, ow1, ow9, oTab, oE3, oEs, o48, oDs, oca, obr, ob64, or64, op4, oq4⟩ := id hO
  obtain ⟨k1, k4, k7, k8, k9, k10, plc, kn, g21, hKo⟩ := hKi.op ((slotOf (docs.map (fun d => d.1)) x).isSome)
  refine (c_X8_remove g0 g21 hSW hnd).weak (fun r u A hD hp => ?_)
  obtain ⟨es2, rfl, hSW2, sm, n21⟩ := hp
  rw [hSM.num] at hSW2 n21 ⊢
  obtain ⟨l1, l2⟩ := rm_lim (o := slotOf (docs.map (fun d => d.1)) x) oDs
  exact ⟨rfl, ⟨o800, o6, o5, os1, ow1, ow9, oTab, oE3, oEs, (by omega), l1, oca, obr, ob64, or64, op4, oq4⟩, ⟨a1, t0, d0, s0, e0, k0, al, s1, s2, s3, eh, es2, er, nd, dd, _, _, RS, sm.get g0 (by simp), hTa.fr sm (fun k h9 => by (try simp only at h9); omega), hSt.fr sm (fun k h9 => by (try simp only at h9); omega), hPe.fr sm (fun k h9 => by (try simp only at h9); omega), sm.get g20 (by simp), hKo u _ dd _ _ _ _ _ sm (fun k h9 => by (try simp only at h9); omega) n21 (fun h9 => ⟨rfl, rmH_no h9, rfl, rfl, rfl, rfl⟩), hAl.fr sm (fun k h9 => by (try simp only at h9); omega), hSW2, hnd, hSM.rmO _⟩, sm.mono (fun k h9 => by (try simp only at h9); show k ≤ 32 ∨ 51 ≤ k; omega)⟩
set_option maxHeartbeats 4000000 in
theorem o_tell {j a b : Int32} (hO : Ok T sh so wi ta tb E docs ca bb rr pp qq) (h : CoI cB cI cJ cO ad z0 T sh so wi ta tb E docs ca bb rr pp qq ws) : CI D (TY cB cI cJ cO) l yX8_tell wsX8_tell ({ frames := 4, cells := 0, slots := 0, locals := 94 }) [.ref z0, .int j, .int a, .int b] ws (fun r ws' => r = nI ((tellOk j a b).toNat) ∧ Ok T sh so wi (teA ta j a b) (teB tb j a b) (teL E j a b) docs ca bb rr pp qq ∧ CoI cB cI cJ cO ad z0 T sh so wi (teA ta j a b) (teB tb j a b) (teL E j a b) docs ca bb rr pp qq ws' ∧ Sm cK ws ws') := by
  obtain ⟨a1, t0, d0, s0, e0, k0, al, s1, s2, s3, eh, es, er, nd, dd, HS, SS, RS, g0, hTa, hSt, hPe, g20, hKi, hAl, hSW, hnd, hSM⟩ := id h
  obtain ⟨o800, o6, o5, os1, ow1, ow9, oTab, oE3, oEs, o48, oDs, oca, obr, ob64, or64, op4, oq4⟩ := id hO
  obtain ⟨d1, d2, d3, d4, d5, cn, mk, my, K, g10, g11, g12, g13, g14, g15, hHK, hPC, hKI⟩ := id hPe
  have h600 : K.length ≤ 600 := by have := hKI.len hPC.2.1; omega
  have hnod : HS.Nodup := (List.nodup_append.mp hSW.2.2.2.2.2.2.1).1
  obtain ⟨dL, hdL⟩ := DLs.ex docs hnod
  obtain ⟨k1, k4, k7, k8, k9, k10, plc, kn, g21, hKo⟩ := hKi.op (tellOk j a b)
  refine (c_X8_tell g0 g21 g10 g11 g12 g13 g14 g15 hHK rfl h600 hPC oTab oE3 rfl hKI oEs hSW hnd (fun t ht => (hSM.dj hdL t ht).1)).weak (fun r u A hD hp => ?_)
  obtain ⟨cn2, mk2, mi2, K2, rfl, hHK2, hPC2, hKI2, hSW2, sm, n21, n10, n11, n12, n13, n14, n15⟩ := hp
  exact ⟨rfl, ⟨o800, o6, o5, os1, ow1, ow9, oTab.tell, Nat.le_trans teL_len oE3, te_Esm oEs, o48, oDs, oca, obr, ob64, or64, op4, oq4⟩, ⟨a1, t0, d0, s0, e0, k0, al, s1, s2, s3, eh, es, er, nd, _, HS, SS, RS, sm.get g0 (by simp), hTa.fr sm (fun k h9 => by (try simp only at h9); omega), hSt.fr sm (fun k h9 => by (try simp only at h9); omega), ⟨d1, d2, d3, d4, d5, cn2, mk2, mi2, K2, n10, n11, n12, n13, n14, n15, hHK2, hPC2, hKI2⟩, sm.get g20 (by simp), hKo u _ _ HS _ _ _ _ sm (fun k h9 => by (try simp only at h9); omega) n21 (fun h9 => ⟨by rw [h9]; rfl, rfl, rfl, rfl, rfl, rfl⟩), hAl.fr sm (fun k h9 => by (try simp only at h9); omega), hSW2, hnd, hSM.tell hdL⟩, sm.mono (fun k h9 => by (try simp only at h9); show k ≤ 32 ∨ 51 ≤ k; omega)⟩
set_option maxHeartbeats 4000000 in
theorem o_exchange {j x y : Int32} (hO : Ok T sh so wi ta tb E docs ca bb rr pp qq) (h : CoI cB cI cJ cO ad z0 T sh so wi ta tb E docs ca bb rr pp qq ws) : CI D (TY cB cI cJ cO) l yX8_exchange wsX8_exchange ({ frames := 4, cells := 0, slots := 0, locals := 94 }) [.ref z0, .int j, .int x, .int y] ws (fun r ws' => r = exR E j x y ∧ Ok T sh so wi ta tb (exL E j x y) docs ca bb rr pp qq ∧ CoI cB cI cJ cO ad z0 T sh so wi ta tb (exL E j x y) docs ca bb rr pp qq ws' ∧ Sm cK ws ws') := by
  obtain ⟨a1, t0, d0, s0, e0, k0, al, s1, s2, s3, eh, es, er, nd, dd, HS, SS, RS, g0, hTa, hSt, hPe, g20, hKi, hAl, hSW, hnd, hSM⟩ := id h
  obtain ⟨o800, o6, o5, os1, ow1, ow9, oTab, oE3, oEs, o48, oDs, oca, obr, ob64, or64, op4, oq4⟩ := id hO
  obtain ⟨d1, d2, d3, d4, d5, cn, mk, my, K, g10, g11, g12, g13, g14, g15, hHK, hPC, hKI⟩ := id hPe
  have h600 : K.length ≤ 600 := by have := hKI.len hPC.2.1; omega
  have hnod : HS.Nodup := (List.nodup_append.mp hSW.2.2.2.2.2.2.1).1
  obtain ⟨dL, hdL⟩ := DLs.ex docs hnod
  obtain ⟨k1, k4, k7, k8, k9, k10, plc, kn, g21, hKo⟩ := hKi.op (exOk j x y E.length)
  refine (c_X8_exchange g0 g21 g10 g11 g12 g13 g14 g15 hHK rfl h600 hPC oTab oE3 rfl hKI oEs hSW hnd (fun t ht => (hSM.dj hdL t ht).1)).weak (fun r u A hD hp => ?_)
  obtain ⟨cn2, mk2, mi2, K2, rfl, hHK2, hPC2, hKI2, hSW2, sm, n21, n10, n11, n12, n13, n14, n15⟩ := hp
  exact ⟨rfl, ⟨o800, o6, o5, os1, ow1, ow9, oTab, exL_len oE3, ex_Esm oEs, o48, oDs, oca, obr, ob64, or64, op4, oq4⟩, ⟨a1, t0, d0, s0, e0, k0, al, s1, s2, s3, eh, es, er, nd, _, HS, SS, RS, sm.get g0 (by simp), hTa.fr sm (fun k h9 => by (try simp only at h9); omega), hSt.fr sm (fun k h9 => by (try simp only at h9); omega), ⟨d1, d2, d3, d4, d5, cn2, mk2, mi2, K2, n10, n11, n12, n13, n14, n15, hHK2, hPC2, hKI2⟩, sm.get g20 (by simp), hKo u _ _ HS _ _ _ _ sm (fun k h9 => by (try simp only at h9); omega) n21 (fun h9 => ⟨by rw [h9]; rfl, rfl, rfl, rfl, rfl, rfl⟩), hAl.fr sm (fun k h9 => by (try simp only at h9); omega), hSW2, hnd, hSM.exch hdL⟩, sm.mono (fun k h9 => by (try simp only at h9); show k ≤ 32 ∨ 51 ≤ k; omega)⟩
set_option maxHeartbeats 4000000 in
theorem o_pairs {kd : Int32} (hO : Ok T sh so wi ta tb E docs ca bb rr pp qq) (h : CoI cB cI cJ cO ad z0 T sh so wi ta tb E docs ca bb rr pp qq ws) : CI D (TY cB cI cJ cO) l yX8_pairs wsX8_pairs ({ frames := 5, cells := 0, slots := 0, locals := 115 }) [.ref z0, .int kd] ws (fun r ws' => r = pairsR (fun x y => (bdM ta tb E docs rr bb x y).isSome) (twM ta tb E docs rr bb pp qq) docs.length kd ∧ Ok T sh so wi ta tb E docs ca bb rr pp qq ∧ CoI cB cI cJ cO ad z0 T sh so wi ta tb E docs ca bb rr pp qq ws' ∧ Sm cK ws ws') := by
  obtain ⟨a1, t0, d0, s0, e0, k0, al, s1, s2, s3, eh, es, er, nd, dd, HS, SS, RS, g0, hTa, hSt, hPe, g20, hKi, hAl, hSW, hnd, hSM⟩ := id h
  obtain ⟨o800, o6, o5, os1, ow1, ow9, oTab, oE3, oEs, o48, oDs, oca, obr, ob64, or64, op4, oq4⟩ := id hO
  obtain ⟨k1, k2, k3, k4, k5, k6, k7, k8, k9, k10, plc, kn, sz1, sz2, c1, c2, t1, t2, nu, tc, fa, me, g21, g22, g23, g24, g25, g26, g27, g28, g29, g30, g31, hkn1, hkn⟩ := id hKi
  have h48 : HS.length ≤ 48 := by rw [← hSM.1]; exact o48
  refine (c_X8_pairs g0 g20 g21 g22 g23 g24 g25 g26 g27 g28 g29 g30 g31 hSW hnd hSM.row obr ob64 or64 op4 oq4 (hSM.sy oDs obr) hkn1 hkn).weak (fun r u A hD hp => ?_)
  obtain ⟨plcn, sz1n, sz2n, c1n, c2n, t1n, t2n, nun, tcn, fan, men, rfl, hKO, hSW2, sm, n21, n22, n23, n24, n25, n26, n27, n28, n29, n30, n31⟩ := hp
  exact ⟨hSM.prs obr hKO kd, hO, ⟨a1, t0, d0, s0, e0, k0, al, s1, s2, s3, eh, es, er, nd, dd, HS, SS, RS, sm.get g0 (by simp), hTa.fr sm (fun k h9 => by (try simp only at h9); omega), hSt.fr sm (fun k h9 => by (try simp only at h9); omega), hPe.fr sm (fun k h9 => by (try simp only at h9); omega), sm.get g20 (by simp), ⟨k1, k2, k3, k4, k5, k6, k7, k8, k9, k10, plcn, 1, sz1n, sz2n, c1n, c2n, t1n, t2n, nun, tcn, fan, men, n21, n22, n23, n24, n25, n26, n27, n28, n29, n30, n31, Nat.le_refl 1, fun _ => hKO⟩, hAl.fr sm (fun k h9 => by (try simp only at h9); omega), hSW2, hnd, hSM⟩, sm.mono (fun k h9 => by (try simp only at h9); show k ≤ 32 ∨ 51 ≤ k; omega)⟩
set_option maxHeartbeats 4000000 in
theorem o_pair {kd ii ww : Int32} (hO : Ok T sh so wi ta tb E docs ca bb rr pp qq) (h : CoI cB cI cJ cO ad z0 T sh so wi ta tb E docs ca bb rr pp qq ws) : CI D (TY cB cI cJ cO) l yX8_pair wsX8_pair ({ frames := 5, cells := 0, slots := 0, locals := 115 }) [.ref z0, .int kd, .int ii, .int ww] ws (fun r ws' => r = pairR (fun x y => (bdM ta tb E docs rr bb x y).isSome) (twM ta tb E docs rr bb pp qq) docs kd ii ww ∧ Ok T sh so wi ta tb E docs ca bb rr pp qq ∧ CoI cB cI cJ cO ad z0 T sh so wi ta tb E docs ca bb rr pp qq ws' ∧ Sm cK ws ws') := by
  obtain ⟨a1, t0, d0, s0, e0, k0, al, s1, s2, s3, eh, es, er, nd, dd, HS, SS, RS, g0, hTa, hSt, hPe, g20, hKi, hAl, hSW, hnd, hSM⟩ := id h
  obtain ⟨o800, o6, o5, os1, ow1, ow9, oTab, oE3, oEs, o48, oDs, oca, obr, ob64, or64, op4, oq4⟩ := id hO
  obtain ⟨k1, k2, k3, k4, k5, k6, k7, k8, k9, k10, plc, kn, sz1, sz2, c1, c2, t1, t2, nu, tc, fa, me, g21, g22, g23, g24, g25, g26, g27, g28, g29, g30, g31, hkn1, hkn⟩ := id hKi
  have h48 : HS.length ≤ 48 := by rw [← hSM.1]; exact o48
  refine (c_X8_pair g0 g20 g21 g22 g23 g24 g25 g26 g27 g28 g29 g30 g31 hSW hnd hSM.row obr ob64 or64 op4 oq4 (hSM.sy oDs obr) hkn1 hkn).weak (fun r u A hD hp => ?_)
  obtain ⟨plcn, sz1n, sz2n, c1n, c2n, t1n, t2n, nun, tcn, fan, men, rfl, hKO, hSW2, sm, n21, n22, n23, n24, n25, n26, n27, n28, n29, n30, n31⟩ := hp
  exact ⟨hSM.pr h48 obr hKO kd ii ww, hO, ⟨a1, t0, d0, s0, e0, k0, al, s1, s2, s3, eh, es, er, nd, dd, HS, SS, RS, sm.get g0 (by simp), hTa.fr sm (fun k h9 => by (try simp only at h9); omega), hSt.fr sm (fun k h9 => by (try simp only at h9); omega), hPe.fr sm (fun k h9 => by (try simp only at h9); omega), sm.get g20 (by simp), ⟨k1, k2, k3, k4, k5, k6, k7, k8, k9, k10, plcn, 1, sz1n, sz2n, c1n, c2n, t1n, t2n, nun, tcn, fan, men, n21, n22, n23, n24, n25, n26, n27, n28, n29, n30, n31, Nat.le_refl 1, fun _ => hKO⟩, hAl.fr sm (fun k h9 => by (try simp only at h9); omega), hSW2, hnd, hSM⟩, sm.mono (fun k h9 => by (try simp only at h9); show k ≤ 32 ∨ 51 ≤ k; omega)⟩
end COC
