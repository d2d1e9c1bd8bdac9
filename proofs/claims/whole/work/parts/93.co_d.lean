section COD
variable {D : va_G} {cB cI cJ cO : ClassId} {l : Launch} {ad mi z0 : Nat} {T : List Int32} {sh : List (List Int32)} {so wi : Nat} {ta tb : Nat → Nat} {E : List (Nat × Nat × Nat)} {docs : List (Nat × List Nat)} {ca bb rr pp qq : Nat} {ws : va_W}
set_option maxHeartbeats 4000000 in
theorem o_add (hO : Ok T sh so wi ta tb E docs ca bb rr pp qq) (h : CoI cB cI cJ cO ad z0 T sh so wi ta tb E docs ca bb rr pp qq ws) : CIX D (TY cB cI cJ cO) l yX8_add wsX8_add ({ frames := 8, cells := 6, slots := 1062, locals := 192 }) ad mi [.ref z0] ws (fun r ws' => r = adR so wi T sh docs ca ∧ Ok (([] : List Int32)) (adS so wi T sh docs ca) so wi ta tb E (adD so wi T sh docs ca) (ca + (adOk so wi T sh docs ca).toNat) bb rr pp qq ∧ CoI cB cI cJ cO ad z0 (([] : List Int32)) (adS so wi T sh docs ca) so wi ta tb E (adD so wi T sh docs ca) (ca + (adOk so wi T sh docs ca).toNat) bb rr pp qq ws' ∧ Sm cK ws ws') := by
  obtain ⟨a1, t0, d0, s0, e0, k0, al, s1, s2, s3, eh, es, er, nd, dd, HS, SS, RS, g0, hTa, hSt, hPe, g20, hKi, hAl, hSW, hnd, hSM⟩ := id h
  obtain ⟨o800, o6, o5, os1, ow1, ow9, oTab, oE3, oEs, o48, oDs, oca, obr, ob64, or64, op4, oq4⟩ := id hO
  obtain ⟨a2, a3, a4, pl, pcs, gp, f, fp, fs, g1, g2, g3, g4, hT⟩ := id hTa
  obtain ⟨t1, t2, t3, t4, lf, bf, sf, se, g5, g6, g7, g8, g9, hst⟩ := id hSt
  obtain ⟨d1, d2, d3, d4, d5, cn, mk, my, K, g10, g11, g12, g13, g14, g15, hHK, hPC, hKI⟩ := id hPe
  have h600 : K.length ≤ 600 := by have := hKI.len hPC.2.1; omega
  have hnod : HS.Nodup := (List.nodup_append.mp hSW.2.2.2.2.2.2.1).1
  obtain ⟨dL, hdL⟩ := DLs.ex docs hnod
  obtain ⟨fz, g32, -⟩ := id hAl
  have h48 : HS.length ≤ 48 := by rw [← hSM.1]; exact o48
  obtain ⟨k1, k4, k7, k8, k9, k10, plc, kn, g21, hKo⟩ := hKi.op (adOkC so wi T sh HS ca)
  refine (c_X8_add g0 g1 g2 g3 g4 g5 g6 g7 g8 g9 g10 g11 g12 g13 g14 g15 g21 g32 hst rfl o6 o5 hHK rfl h600 hPC oTab oE3 hSW hnd hT rfl o800 os1 ow1 ow9 oca (dL := dL) (fun t ht => (hSM.dj hdL t ht).2)).weak (fun r u A hD hp => ?_)
  obtain ⟨pl2, pc2, gp2, fq, fs2, lf2, bf2, sf2, se2, fa2, ca2, eh2, nd2, de, HS2, SS2, rfl, hst2, ⟨hl6, hl5⟩, hSW2, hnd2, hno, hyes, sm, n1, n3, n4, n5, n6, n7, n8, n9, n21, n32⟩ := hp
  have hKn := hKo u _ de HS2 rr bb pp qq sm (fun k h9 => by (try simp only at h9); omega) n21 (fun h9 => ⟨(hno h9).2.2, (hno h9).2.1, rfl, rfl, rfl, rfl⟩)
  have eO := adOk_C (so := so) (wi := wi) (T := T) (sh := sh) hSM.1 h48 oca
  have eS := adS_C (so := so) (wi := wi) (T := T) (sh := sh) hSM.1 h48 oca
  have eD := adD_C (so := so) (wi := wi) (T := T) (sh := sh) hSM.1 h48 oca
  rw [adR, eS, eD, eO]
  have hTn : TapI cB cI a1 [] u := ⟨a2, a3, a4, pl2, pc2, gp2, f, fq, fs2, n1, sm.get g2 (by simp), n3, n4, Hd.nil⟩
  have hSn : StoI cB cI t0 _ u := ⟨t1, t2, t3, t4, lf2, bf2, sf2, se2, n5, n6, n7, n8, n9, hst2⟩
  have hAn : AloI cI al u := ⟨fa2, n32, trivial⟩
  cases hk : adOkC so wi T sh HS ca with
  | false =>
    rw [hk] at hl6 hl5 hSn
    obtain ⟨rfl, rfl, rfl⟩ := hno hk
    exact ⟨rfl, ⟨Nat.zero_le _, o6, o5, os1, ow1, ow9, oTab, oE3, oEs, o48, oDs, oca, obr, ob64, or64, op4, oq4⟩, ⟨a1, t0, d0, s0, e0, k0, al, s1, s2, s3, eh2, es, er, nd2, _, _, SS2, RS, sm.get g0 (by simp), hTn, hSn, hPe.fr sm (fun k h9 => by (try simp only at h9); omega), sm.get g20 (by simp), hKn, hAn, hSW2, hnd2, hSM⟩, sm.mono (fun k h9 => by (try simp only at h9); show k ≤ 32 ∨ 51 ≤ k; omega)⟩
  | true =>
    rw [hk] at hl6 hl5 hSn
    obtain ⟨rfl, t, rfl, hAd⟩ := hyes hk
    have h49 : HS.length < 48 ∧ ca < 400 := by simp [adOkC] at hk; omega
    refine ⟨rfl, ⟨Nat.zero_le _, hl6, hl5, os1, ow1, ow9, oTab, oE3, oEs, ?_, ?_, ?_, obr, ob64, or64, op4, oq4⟩, ⟨a1, t0, d0, s0, e0, k0, al, s1, s2, s3, eh2, es, er, nd2, de, _, SS2, RS, sm.get g0 (by simp), hTn, hSn, hPe.fr sm (fun k h9 => by (try simp only at h9); omega), sm.get g20 (by simp), hKn, hAn, hSW2, hnd2, hSM.ap hdL oDs (insL_rise _) hAd⟩, sm.mono (fun k h9 => by (try simp only at h9); show k ≤ 32 ∨ 51 ≤ k; omega)⟩
    · show (docs ++ [_]).length ≤ 48
      rw [List.length_append, hSM.1]
      show HS.length + 1 ≤ 48
      omega
    · intro d hd
      rcases List.mem_append.mp hd with h2 | h2
      · exact oDs d h2
      · rw [List.mem_singleton] at h2
        subst h2
        exact ⟨h49.2, hAd.2.1.2.2.1, insL_rise _, hAd.2.1.2.2.2⟩
    · show ca + 1 ≤ 400
      omega
end COD
