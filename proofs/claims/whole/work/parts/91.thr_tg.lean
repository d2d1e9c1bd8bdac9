set_option maxHeartbeats 4000000 in
set_option maxRecDepth 100000 in
theorem c_X8_document {D : va_G} {cB cI cJ cO : ClassId} {l : Launch} {ad mi : Nat} {z0 a1 t0 d0 e0 k0 al so wi : Nat} {bb rr pp qq : Nat} {k1 k4 k7 k8 k9 k10 plc kn : Nat} {k2 k3 k5 k6 sz1 sz2 : Nat} {s0 s1 s2 s3 ca eh es er nd : Nat} {dd : Nat → DX} {HS SS RS : List Nat} {c1 c2 t1 t2 nu tc fa me : Nat → Nat} {x v : Int32} {ws : va_W} (g0 : ws[0]? = some (z0, .inr (9, [.ref a1, .ref t0, .ref d0, .ref s0, .ref e0, .ref k0, .ref al, .int (nI so), .int (nI wi)]))) (g20 : ws[20]? = some (e0, .inr (3, [.int (nI bb), .int (nI rr), .int (nI pp), .int (nI qq)]))) (g21 : ws[21]? = some (k0, .inr (2, [.ref k1, .ref k4, .ref k7, .ref k8, .ref k9, .ref k10, .int (nI plc), .int (nI kn)]))) (g22 : ws[22]? = some (k1, .inr (4, [.ref k2, .ref k3, .int (nI sz1)]))) (g23 : ws[23]? = some (k2, .inl (cI, 1128, .inl (fun jj => nI (c1 jj))))) (g24 : ws[24]? = some (k3, .inl (cI, 1128, .inl (fun jj => nI (c2 jj))))) (g25 : ws[25]? = some (k4, .inr (4, [.ref k5, .ref k6, .int (nI sz2)]))) (g26 : ws[26]? = some (k5, .inl (cI, 1128, .inl (fun jj => nI (t1 jj))))) (g27 : ws[27]? = some (k6, .inl (cI, 1128, .inl (fun jj => nI (t2 jj))))) (g28 : ws[28]? = some (k7, .inl (cI, 48, .inl (fun jj => nI (nu jj))))) (g29 : ws[29]? = some (k8, .inl (cI, 48, .inl (fun jj => nI (tc jj))))) (g30 : ws[30]? = some (k9, .inl (cI, 48, .inl (fun jj => nI (fa jj))))) (g31 : ws[31]? = some (k10, .inl (cI, 48, .inl (fun jj => nI (me jj))))) (hSW : ShW ws cI cJ cO ad s0 s1 s2 s3 ca eh es er nd dd HS SS RS) (hnd : nd ≤ 48) (hRow : RowOK dd HS) (hbr : bb * rr ≤ 64) (hb64 : bb ≤ 64) (hr64 : rr ≤ 64) (hp4 : pp ≤ 10000) (hq4 : qq ≤ 10000) (hsym : ∀ x y, x < HS.length → y < HS.length → (twH dd HS rr bb pp qq) x y = (twH dd HS rr bb pp qq) y x) (hkn1 : kn ≤ 1) (hkn : kn = 1 → KinOK dd HS rr bb pp qq plc c1 c2 t1 t2 nu tc fa me sz1 sz2) (hlt : l.stackTraces = false) : CIT TXT D (TY cB cI cJ cO) l yX8_document wsX8_documentN ({ frames := 8, cells := 1, slots := 6, locals := 150 }) ad mi [.ref z0, .int x, .int v] ws (fun r ws' => ∃ plcn : Nat, ∃ sz1n : Nat, ∃ sz2n : Nat, ∃ c1n : Nat → Nat, ∃ c2n : Nat → Nat, ∃ t1n : Nat → Nat, ∃ t2n : Nat → Nat, ∃ nun : Nat → Nat, ∃ tcn : Nat → Nat, ∃ fan : Nat → Nat, ∃ men : Nat → Nat, ∃ knn : Nat, ∃ i : Nat, ∃ t : Nat, ∃ v1 : Nat, r = nI (docC (dd t).2.2.1.2 nun tcn fan men i v1) ∧ (knn ≤ 1) ∧ (knn = 1 → KinOK dd HS rr bb pp qq plcn c1n c2n t1n t2n nun tcn fan men sz1n sz2n) ∧ (slotOf (HS.map (fun t => (dd t).2.2.1.1)) x = some i) ∧ (HS[i]? = some t) ∧ (v = nI v1 ∧ v1 ≤ 3) ∧ (v1 ≠ 0 → knn = 1) ∧ (ShW ws' cI cJ cO ad s0 s1 s2 s3 ca eh es er nd dd HS SS RS) ∧ Sm (fun k => k = 21 ∨ k = 22 ∨ k = 23 ∨ k = 24 ∨ k = 25 ∨ k = 26 ∨ k = 27 ∨ k = 28 ∨ k = 29 ∨ k = 30 ∨ k = 31) ws ws' ∧ ws'[21]? = some (k0, .inr (2, [.ref k1, .ref k4, .ref k7, .ref k8, .ref k9, .ref k10, .int (nI plcn), .int (nI knn)])) ∧ ws'[22]? = some (k1, .inr (4, [.ref k2, .ref k3, .int (nI sz1n)])) ∧ ws'[23]? = some (k2, .inl (cI, 1128, .inl (fun jj => nI (c1n jj)))) ∧ ws'[24]? = some (k3, .inl (cI, 1128, .inl (fun jj => nI (c2n jj)))) ∧ ws'[25]? = some (k4, .inr (4, [.ref k5, .ref k6, .int (nI sz2n)])) ∧ ws'[26]? = some (k5, .inl (cI, 1128, .inl (fun jj => nI (t1n jj)))) ∧ ws'[27]? = some (k6, .inl (cI, 1128, .inl (fun jj => nI (t2n jj)))) ∧ ws'[28]? = some (k7, .inl (cI, 48, .inl (fun jj => nI (nun jj)))) ∧ ws'[29]? = some (k8, .inl (cI, 48, .inl (fun jj => nI (tcn jj)))) ∧ ws'[30]? = some (k9, .inl (cI, 48, .inl (fun jj => nI (fan jj)))) ∧ ws'[31]? = some (k10, .inl (cI, 48, .inl (fun jj => nI (men jj))))) (fun E ws' => E = NSE ∧ ws = ws' ∧ (slotOf (HS.map (fun t => (dd t).2.2.1.1)) x = none ∨ ¬ (¬ v < 0 ∧ v ≤ nI 3))) := by
  refine CIT.of (cc := cX8_document) (maxL := 4) (ret := (some .int)) (by decide) rfl (Nat.le_of_ble_eq_true rfl) ?_
  intro p e s m below meth c A C hto hK hP hD hA hS hXT ls hl
  have hX := hXT.1
  have hN := hX.1
  obtain ⟨hx, hb, hr, hml, hts, hown, hlocks, hnm⟩ := id C
  have fl_33 := hts (.fieldLink RX8 33 "TwinFinder" "shelf" "LTwinFinder$Shelf;") (by decide +kernel)
  have fl_40 := hts (.fieldLink RX8 40 "TwinFinder" "measure" "LTwinFinder$Measure;") (by decide +kernel)
  have fl_47 := hts (.fieldLink RX8 47 "TwinFinder" "kin" "LTwinFinder$Kin;") (by decide +kernel)
  have fl_168 := hts (.fieldLink RX8 168 "TwinFinder$Shelf" "here" "Ljava/util/ArrayList;") (by decide +kernel)
  have fl_178 := hts (.fieldLink RX8 178 "TwinFinder$Document" "size" "I") (by decide +kernel)
  have hin_X0 : ∀ w ∈ u_ws RX0 TX0 7, w ∈ wsX8_documentN := by decide +kernel
  have hin_X5 : ∀ w ∈ u_ws RX5 TX5 4, w ∈ wsX8_documentN := by decide +kernel
  have hin_X8 : ∀ w ∈ u_ws RX8 TX8 9, w ∈ wsX8_documentN := by decide +kernel
  have hl : lv_has ls 4 [(0, .ref z0), (1, .int x), (2, .int v)] := hl
  have sm : Sm (fun k => k = 21 ∨ k = 22 ∨ k = 23 ∨ k = 24 ∨ k = 25 ∨ k = 26 ∨ k = 27 ∨ k = 28 ∨ k = 29 ∨ k = 30 ∨ k = 31) ws ws := Sm.rf
  have hc0 : (0 : Nat) ≤ 1 := by decide
  have hs0 : (0 : Nat) ≤ 6 := by decide
  obtain ⟨g16, hLh, hLs, hLr, hDW, hEd, hNd, hAll, hndl, hRS, h51⟩ := id hSW
  have hHS : ∀ t ∈ HS, t < nd := fun t h9 => hAll t (List.mem_append_left _ h9)
  refine lv_aload_n hx hb dX8_document_0 rfl (lv_at hl 0 rfl) ?_
  refine va_get (D := D) (ci := 9) (v := .ref s0) (C := RX8) (T := TX8) (N := 9) hx hb hts hin_X8 hown hK hP 0 g0 rfl 3 (by decide) fl_33 (fun _ h9 => h9) rfl dX8_document_1 ?_
  refine lv_iload_n hx hb dX8_document_4 rfl (lv_at hl 1 rfl) ?_
  refine CI.go (va_runV (As := [.int x]) (rest := []) ⟨hx, hb, hml, hown, hts⟩ (c_X5_placeOf  g16 hLh hDW hHS (by omega) _) (cwV 1 hts gX8_documentN_X5_placeOf rfl rfl rfl (by decide +kernel) ⟨Nat.le_of_ble_eq_true rfl, Nat.le_of_ble_eq_true rfl⟩) ⟨pw_blind, va_recv hK hP (ci := 6) (q0 := 16) rfl g16, fun U hU hW => pw_pre hK hP hD hU hW⟩ rfl rfl hl.1 rfl (lv_room (Nat.le_of_ble_eq_true rfl)) dX8_document_5 ⟨Nat.le_of_ble_eq_true rfl, Nat.le_of_ble_eq_true rfl⟩) hD hS hA (fun r_1 ws_2 H locs hp hP hD hS => ?_)
  obtain ⟨rfl, rfl⟩ := hp
  rcases hsl : slotOf (HS.map (fun t => (dd t).2.2.1.1)) x with _ | k
  · try simp only [optI]
    refine lv_istore_n (lv' := [(3, .int (-1)), (0, .ref z0), (1, .int x), (2, .int v)]) hx hb dX8_document_8 rfl hl (by decide) rfl (fun ls hl => ?_)
    refine lv_iload_n hx hb dX8_document_9 rfl (lv_at hl 0 rfl) ?_
    refine lv_iconst (v := -1) hx hb dX8_document_10 (by decide) ?_
    refine lv_icmp_eq (tgt := 23) hx hb dX8_document_11 (by decide) (fun c_11 => ?_) (fun c_11 => absurd (by decide) c_11)
    exact vt_thrX (text := "no such document, or no such question") C hto hlt hXT hK hP hD hS hl.1 (by decide +kernel) (by decide +kernel) (by decide +kernel) (by decide +kernel) (fun w hw => List.mem_cons_of_mem _ (List.mem_append_right _ hw)) vtNX_m vtNX_g dX8_document_23 dX8_document_26 dX8_document_27 dX8_document_29 dX8_document_32 ⟨rfl, rfl, (by first | exact Or.inl hsl | exact Or.inl trivial | exact Or.inl rfl | trivial | exact Or.inr (fun h => by first | exact h.1 c_15 | exact c_20 h.2 | exact absurd h.2 (Int32.not_le.mpr c_20)) | exact (fun h => by first | exact h.1 c_15 | exact c_20 h.2 | exact absurd h.2 (Int32.not_le.mpr c_20)))⟩ (Nat.le_of_ble_eq_true rfl) (Nat.le_of_ble_eq_true rfl) (Nat.le_of_ble_eq_true rfl) (Nat.le_of_ble_eq_true rfl) (Nat.le_of_ble_eq_true rfl) (Nat.le_of_ble_eq_true rfl)
  · try simp only [optI]
    have hk9 : k < HS.length := by have h9 := (slotOf_lt hsl).1; rw [List.length_map] at h9; exact h9
    refine lv_istore_n (lv' := [(3, .int (nI k)), (0, .ref z0), (1, .int x), (2, .int v)]) hx hb dX8_document_8 rfl hl (by decide) rfl (fun ls hl => ?_)
    refine lv_iload_n hx hb dX8_document_9 rfl (lv_at hl 0 rfl) ?_
    refine lv_iconst (v := -1) hx hb dX8_document_10 (by decide) ?_
    refine lv_icmp_eq (tgt := 23) hx hb dX8_document_11 (by decide) (fun c_11 => ?_) (fun c_11 => ?_)
    · exact absurd c_11 (nI_nm1 (by omega))
    · refine lv_iload_n hx hb dX8_document_14 rfl (lv_at hl 3 rfl) ?_
      refine lv_if_lt (tgt := 23) hx hb dX8_document_15 (by decide) (fun c_15 => ?_) (fun c_15 => ?_)
      · exact vt_thrX (text := "no such document, or no such question") C hto hlt hXT hK hP hD hS hl.1 (by decide +kernel) (by decide +kernel) (by decide +kernel) (by decide +kernel) (fun w hw => List.mem_cons_of_mem _ (List.mem_append_right _ hw)) vtNX_m vtNX_g dX8_document_23 dX8_document_26 dX8_document_27 dX8_document_29 dX8_document_32 ⟨rfl, rfl, (by first | exact Or.inl hsl | exact Or.inl trivial | exact Or.inl rfl | trivial | exact Or.inr (fun h => by first | exact h.1 c_15 | exact c_20 h.2 | exact absurd h.2 (Int32.not_le.mpr c_20)) | exact (fun h => by first | exact h.1 c_15 | exact c_20 h.2 | exact absurd h.2 (Int32.not_le.mpr c_20)))⟩ (Nat.le_of_ble_eq_true rfl) (Nat.le_of_ble_eq_true rfl) (Nat.le_of_ble_eq_true rfl) (Nat.le_of_ble_eq_true rfl) (Nat.le_of_ble_eq_true rfl) (Nat.le_of_ble_eq_true rfl)
      · refine lv_iload_n hx hb dX8_document_18 rfl (lv_at hl 3 rfl) ?_
        refine lv_iconst (v := nI 3) hx hb dX8_document_19 (by decide) ?_
        refine lv_icmp_le (tgt := 33) hx hb dX8_document_20 (by decide) (fun c_20 => ?_) (fun c_20 => ?_)
        · obtain ⟨v1, hv1, rfl⟩ : ∃ j : Nat, j ≤ 3 ∧ v = nI j := nI_of2 (nI_toInt (by decide)) c_15 c_20
          obtain ⟨tQ, htQ⟩ : ∃ t, HS[k]? = some t := ⟨_, List.getElem?_eq_getElem hk9⟩
          have htlQ : tQ < nd := hHS tQ (List.mem_of_getElem? htQ)
          refine lv_iload_n hx hb dX8_document_33 rfl (lv_at hl 3 rfl) ?_
          refine nx_if_ne (tgt := 55) hx hb (by omega) dX8_document_34 (by decide) (fun c_34 => ?_) (fun c_34 => ?_)
          · refine lv_aload_n hx hb dX8_document_55 rfl (lv_at hl 1 rfl) ?_
            refine va_get (D := D) (ci := 9) (v := .ref k0) (C := RX8) (T := TX8) (N := 9) hx hb hts hin_X8 hown hK hP 0 g0 rfl 5 (by decide) fl_47 (fun _ h9 => h9) rfl dX8_document_56 ?_
            refine lv_aload_n hx hb dX8_document_59 rfl (lv_at hl 1 rfl) ?_
            refine va_get (D := D) (ci := 9) (v := .ref s0) (C := RX8) (T := TX8) (N := 9) hx hb hts hin_X8 hown hK hP 0 g0 rfl 3 (by decide) fl_33 (fun _ h9 => h9) rfl dX8_document_60 ?_
            refine va_get (D := D) (ci := 6) (v := .ref s1) (C := RX5) (T := TX5) (N := 4) hx hb hts hin_X5 hown hK hP 16 g16 rfl 0 (by decide) fl_168 (fun _ h9 => h9) rfl dX8_document_63 ?_
            refine lv_aload_n hx hb dX8_document_66 rfl (lv_at hl 1 rfl) ?_
            refine va_get (D := D) (ci := 9) (v := .ref e0) (C := RX8) (T := TX8) (N := 9) hx hb hts hin_X8 hown hK hP 0 g0 rfl 4 (by decide) fl_40 (fun _ h9 => h9) rfl dX8_document_67 ?_
            refine CV.go (va_runV (As := [.ref s1, .ref e0]) (rest := []) ⟨hx, hb, hml, hown, hts⟩ (c_X1_learn  g20 g21 g22 g23 g24 g25 g26 g27 g28 g29 g30 g31 hLh hDW hHS (by omega) hnd hRow hbr hb64 hr64 hp4 hq4 hsym hkn1 hkn _) (cwV 2 hts gX8_documentN_X1_learn rfl rfl rfl (by decide +kernel) ⟨Nat.le_of_ble_eq_true rfl, Nat.le_of_ble_eq_true rfl⟩) ⟨pw_blind, va_recv hK hP (ci := 2) (q0 := 21) rfl g21, fun U hU hW => pw_pre hK hP hD hU hW⟩ rfl rfl hl.1 rfl (lv_room (Nat.le_of_ble_eq_true rfl)) dX8_document_70 ⟨Nat.le_of_ble_eq_true rfl, Nat.le_of_ble_eq_true rfl⟩) hD hS hA (fun ws_4 H locs hp hP hD hS => ?_)
            obtain ⟨plcn, sz1n, sz2n, c1n, c2n, t1n, t2n, nun, tcn, fan, men, hK2, smL, g21, g22, g23, g24, g25, g26, g27, g28, g29, g30, g31⟩ := hp
            have g0 := smL.get g0 (by simp)
            have g20 := smL.get g20 (by simp)
            have g16 := smL.get g16 (by simp)
            have sm := sm.call smL (fun k hk => by (try simp only at hk ⊢); omega)
            have g21 : ws_4[21]? = some (k0, .inr (2, [.ref k1, .ref k4, .ref k7, .ref k8, .ref k9, .ref k10, .int (nI plcn), .int (nI 1)])) := g21
            have g22 : ws_4[22]? = some (k1, .inr (4, [.ref k2, .ref k3, .int (nI sz1n)])) := g22
            have g23 : ws_4[23]? = some (k2, .inl (cI, 1128, .inl (fun jj => nI (c1n jj)))) := g23
            have g24 : ws_4[24]? = some (k3, .inl (cI, 1128, .inl (fun jj => nI (c2n jj)))) := g24
            have g25 : ws_4[25]? = some (k4, .inr (4, [.ref k5, .ref k6, .int (nI sz2n)])) := g25
            have g26 : ws_4[26]? = some (k5, .inl (cI, 1128, .inl (fun jj => nI (t1n jj)))) := g26
            have g27 : ws_4[27]? = some (k6, .inl (cI, 1128, .inl (fun jj => nI (t2n jj)))) := g27
            have g28 : ws_4[28]? = some (k7, .inl (cI, 48, .inl (fun jj => nI (nun jj)))) := g28
            have g29 : ws_4[29]? = some (k8, .inl (cI, 48, .inl (fun jj => nI (tcn jj)))) := g29
            have g30 : ws_4[30]? = some (k9, .inl (cI, 48, .inl (fun jj => nI (fan jj)))) := g30
            have g31 : ws_4[31]? = some (k10, .inl (cI, 48, .inl (fun jj => nI (men jj)))) := g31
            have hSW := hSW.low smL (fun k hk => by (try simp only at hk); omega)
            have hks := hK2.small (by omega)
            refine lv_iload_n hx hb dX8_document_73 rfl (lv_at hl 3 rfl) ?_
            have hlk_74 : v1 = 1 ∨ v1 = 2 ∨ v1 = 3 := by omega
            rcases hlk_74 with rfl | rfl | rfl
            · refine lv_lookup (off := 26) (tgt := 100) hx hb dX8_document_74 (by decide) (by decide) (by decide) ?_
              refine lv_aload_n hx hb dX8_document_100 rfl (lv_at hl 1 rfl) ?_
              refine va_get (D := D) (ci := 9) (v := .ref k0) (C := RX8) (T := TX8) (N := 9) hx hb hts hin_X8 hown hK hP 0 g0 rfl 5 (by decide) fl_47 (fun _ h9 => h9) rfl dX8_document_101 ?_
              refine lv_iload_n hx hb dX8_document_104 rfl (lv_at hl 0 rfl) ?_
              refine CI.go (va_runV (As := [.int (nI k)]) (rest := []) ⟨hx, hb, hml, hown, hts⟩ (c_X1_familyOf  g21 g28 g30 hks.1 (by rw [hK2.1]; exact hk9) (hks.2.2.2.2 k (by rw [hK2.1]; exact hk9)) _) (cwV 1 hts gX8_documentN_X1_familyOf rfl rfl rfl (by decide +kernel) ⟨Nat.le_of_ble_eq_true rfl, Nat.le_of_ble_eq_true rfl⟩) ⟨pw_blind, va_recv hK hP (ci := 2) (q0 := 21) rfl g21, fun U hU hW => pw_pre hK hP hD hU hW⟩ rfl rfl hl.1 rfl (lv_room (Nat.le_of_ble_eq_true rfl)) dX8_document_105 ⟨Nat.le_of_ble_eq_true rfl, Nat.le_of_ble_eq_true rfl⟩) hD hS hA (fun r_5 ws_6 H locs hp hP hD hS => ?_)
              obtain ⟨rfl, rfl⟩ := hp
              refine lv_goto (tgt := 130) hx hb dX8_document_108 (by decide) ?_
              exact CIT.ret (v := (nI (nun (fan k)))) C hK hP hD hS rfl (⟨_, _, _, _, _, _, _, _, _, _, _, 1, k, tQ, 1, (by first | (rw [docC, if_pos hv00, ← hdxQ]; done) | rfl), (by first | exact hkn1 | decide), (by first | exact hkn | exact fun _ => hK2), (by first | exact hsl | rfl), htQ, ⟨rfl, by first | omega | decide⟩, (by first | exact fun h9 => absurd hv00 h9 | exact fun _ => rfl), hSW, sm, g21, g22, g23, g24, g25, g26, g27, g28, g29, g30, g31⟩) hc0 hs0 dX8_document_130
            · refine lv_lookup (off := 37) (tgt := 111) hx hb dX8_document_74 (by decide) (by decide) (by decide) ?_
              refine lv_aload_n hx hb dX8_document_111 rfl (lv_at hl 1 rfl) ?_
              refine va_get (D := D) (ci := 9) (v := .ref k0) (C := RX8) (T := TX8) (N := 9) hx hb hts hin_X8 hown hK hP 0 g0 rfl 5 (by decide) fl_47 (fun _ h9 => h9) rfl dX8_document_112 ?_
              refine lv_iload_n hx hb dX8_document_115 rfl (lv_at hl 0 rfl) ?_
              refine CI.go (va_runV (As := [.int (nI k)]) (rest := []) ⟨hx, hb, hml, hown, hts⟩ (c_X1_membersWith  g21 g31 g30 hks.1 (by rw [hK2.1]; exact hk9) (hks.2.2.2.2 k (by rw [hK2.1]; exact hk9)) _) (cwV 1 hts gX8_documentN_X1_membersWith rfl rfl rfl (by decide +kernel) ⟨Nat.le_of_ble_eq_true rfl, Nat.le_of_ble_eq_true rfl⟩) ⟨pw_blind, va_recv hK hP (ci := 2) (q0 := 21) rfl g21, fun U hU hW => pw_pre hK hP hD hU hW⟩ rfl rfl hl.1 rfl (lv_room (Nat.le_of_ble_eq_true rfl)) dX8_document_116 ⟨Nat.le_of_ble_eq_true rfl, Nat.le_of_ble_eq_true rfl⟩) hD hS hA (fun r_7 ws_8 H locs hp hP hD hS => ?_)
              obtain ⟨rfl, rfl⟩ := hp
              refine lv_goto (tgt := 130) hx hb dX8_document_119 (by decide) ?_
              exact CIT.ret (v := (nI (men (fan k)))) C hK hP hD hS rfl (⟨_, _, _, _, _, _, _, _, _, _, _, 1, k, tQ, 2, (by first | (rw [docC, if_pos hv00, ← hdxQ]; done) | rfl), (by first | exact hkn1 | decide), (by first | exact hkn | exact fun _ => hK2), (by first | exact hsl | rfl), htQ, ⟨rfl, by first | omega | decide⟩, (by first | exact fun h9 => absurd hv00 h9 | exact fun _ => rfl), hSW, sm, g21, g22, g23, g24, g25, g26, g27, g28, g29, g30, g31⟩) hc0 hs0 dX8_document_130
            · refine lv_lookup (off := 48) (tgt := 122) hx hb dX8_document_74 (by decide) (by decide) (by decide) ?_
              refine lv_aload_n hx hb dX8_document_122 rfl (lv_at hl 1 rfl) ?_
              refine va_get (D := D) (ci := 9) (v := .ref k0) (C := RX8) (T := TX8) (N := 9) hx hb hts hin_X8 hown hK hP 0 g0 rfl 5 (by decide) fl_47 (fun _ h9 => h9) rfl dX8_document_123 ?_
              refine lv_iload_n hx hb dX8_document_126 rfl (lv_at hl 0 rfl) ?_
              refine CI.go (va_runV (As := [.int (nI k)]) (rest := []) ⟨hx, hb, hml, hown, hts⟩ (c_X1_twinsOf  g21 g29 hks.1 (by rw [hK2.1]; exact hk9) _) (cwV 1 hts gX8_documentN_X1_twinsOf rfl rfl rfl (by decide +kernel) ⟨Nat.le_of_ble_eq_true rfl, Nat.le_of_ble_eq_true rfl⟩) ⟨pw_blind, va_recv hK hP (ci := 2) (q0 := 21) rfl g21, fun U hU hW => pw_pre hK hP hD hU hW⟩ rfl rfl hl.1 rfl (lv_room (Nat.le_of_ble_eq_true rfl)) dX8_document_127 ⟨Nat.le_of_ble_eq_true rfl, Nat.le_of_ble_eq_true rfl⟩) hD hS hA (fun r_9 ws_10 H locs hp hP hD hS => ?_)
              obtain ⟨rfl, rfl⟩ := hp
              exact CIT.ret (v := (nI (tcn k))) C hK hP hD hS rfl (⟨_, _, _, _, _, _, _, _, _, _, _, 1, k, tQ, 3, (by first | (rw [docC, if_pos hv00, ← hdxQ]; done) | rfl), (by first | exact hkn1 | decide), (by first | exact hkn | exact fun _ => hK2), (by first | exact hsl | rfl), htQ, ⟨rfl, by first | omega | decide⟩, (by first | exact fun h9 => absurd hv00 h9 | exact fun _ => rfl), hSW, sm, g21, g22, g23, g24, g25, g26, g27, g28, g29, g30, g31⟩) hc0 hs0 dX8_document_130
          · have hv00 : v1 = 0 := by first | omega | exact c_34
            obtain ⟨⟨⟨pQ, aQ⟩, ⟨x1Q, x2Q, x3Q, x4Q⟩, ⟨nuQ, zQ⟩, fsQ, fnQ, flQ, fhQ⟩, hdxQ⟩ : ∃ z : DX, z = dd tQ := ⟨_, rfl⟩
            have hD5Q := (hDW.1 tQ htlQ).1
            have hP51Q : 51 ≤ pQ := by have h9 := (hDW.1 tQ htlQ).2; rw [← hdxQ] at h9; exact h9
            rw [← hdxQ] at hD5Q
            have gpQ : ws[pQ]? = some (aQ, .inr (1, [.int (nI tQ), .ref x1Q, .ref x2Q, .ref x3Q, .ref x4Q, .int (nI nuQ), .int (nI zQ)])) := hD5Q.1
            have gpQ_1 : ws[pQ + 1]? = some (x1Q, .inl (cJ, 94, .inr (.inl fsQ))) := hD5Q.2.1
            have gpQ_2 : ws[pQ + 2]? = some (x2Q, .inl (cI, 800, .inl (fun jj => nI (fnQ jj)))) := hD5Q.2.2.1
            have gpQ_3 : ws[pQ + 3]? = some (x3Q, .inl (cI, 64, .inl (fun jj => nI (flQ jj)))) := hD5Q.2.2.2.1
            have gpQ_4 : ws[pQ + 4]? = some (x4Q, .inl (cI, 48, .inl (fun jj => nI (fhQ jj)))) := hD5Q.2.2.2.2
            refine lv_aload_n hx hb dX8_document_37 rfl (lv_at hl 1 rfl) ?_
            refine va_get (D := D) (ci := 9) (v := .ref s0) (C := RX8) (T := TX8) (N := 9) hx hb hts hin_X8 hown hK hP 0 g0 rfl 3 (by decide) fl_33 (fun _ h9 => h9) rfl dX8_document_38 ?_
            refine va_get (D := D) (ci := 6) (v := .ref s1) (C := RX5) (T := TX5) (N := 4) hx hb hts hin_X5 hown hK hP 16 g16 rfl 0 (by decide) fl_168 (fun _ h9 => h9) rfl dX8_document_41 ?_
            refine lv_iload_n hx hb dX8_document_44 rfl (lv_at hl 0 rfl) ?_
            refine CQ.go (va_runV (As := [.int (nI k)]) (rest := []) ⟨hx, hb, hml, hown, hts⟩ (c_L_get (v := aQ)  hLh (map_at htQ (by rw [← hdxQ])) _) (cwV 1 hts gX8_documentN_Jx4a65c_get_915e3 rfl rfl rfl (by decide +kernel) ⟨Nat.le_of_ble_eq_true rfl, Nat.le_of_ble_eq_true rfl⟩) ⟨pw_blind, LW.recv hK hP hLh, fun U hU hW => pw_pre hK hP hD hU hW⟩ rfl rfl hl.1 rfl (lv_room (Nat.le_of_ble_eq_true rfl)) dX8_document_45 ⟨Nat.le_of_ble_eq_true rfl, Nat.le_of_ble_eq_true rfl⟩) hD hS hA (fun r_11 ws_12 H locs hp hP hD hS => ?_)
            obtain ⟨rfl, rfl⟩ := hp
            refine va_castS hx hb hown (hts (.classLink RX8 99 RX0) (by decide +kernel)) (hK.1 1 _ rfl).2 (va_recv hK hP (ci := 1) (q0 := pQ) rfl gpQ) dX8_document_48 ?_
            refine va_get (D := D) (ci := 1) (v := .int (nI zQ)) (C := RX0) (T := TX0) (N := 7) hx hb hts hin_X0 hown hK hP pQ gpQ rfl 6 (by decide) fl_178 (fun _ h9 => h9) rfl dX8_document_51 ?_
            exact CIT.ret (v := (nI zQ)) C hK hP hD hS rfl (⟨plc, sz1, sz2, c1, c2, t1, t2, nu, tc, fa, me, kn, k, tQ, v1, (by first | (rw [docC, if_pos hv00, ← hdxQ]; done) | rfl), (by first | exact hkn1 | decide), (by first | exact hkn | exact fun _ => hK2), (by first | exact hsl | rfl), htQ, ⟨rfl, by first | omega | decide⟩, (by first | exact fun h9 => absurd hv00 h9 | exact fun _ => rfl), hSW, sm, g21, g22, g23, g24, g25, g26, g27, g28, g29, g30, g31⟩) hc0 hs0 dX8_document_54
        · exact vt_thrX (text := "no such document, or no such question") C hto hlt hXT hK hP hD hS hl.1 (by decide +kernel) (by decide +kernel) (by decide +kernel) (by decide +kernel) (fun w hw => List.mem_cons_of_mem _ (List.mem_append_right _ hw)) vtNX_m vtNX_g dX8_document_23 dX8_document_26 dX8_document_27 dX8_document_29 dX8_document_32 ⟨rfl, rfl, (by first | exact Or.inl hsl | exact Or.inl trivial | exact Or.inl rfl | trivial | exact Or.inr (fun h => by first | exact h.1 c_15 | exact c_20 h.2 | exact absurd h.2 (Int32.not_le.mpr c_20)) | exact (fun h => by first | exact h.1 c_15 | exact c_20 h.2 | exact absurd h.2 (Int32.not_le.mpr c_20)))⟩ (Nat.le_of_ble_eq_true rfl) (Nat.le_of_ble_eq_true rfl) (Nat.le_of_ble_eq_true rfl) (Nat.le_of_ble_eq_true rfl) (Nat.le_of_ble_eq_true rfl) (Nat.le_of_ble_eq_true rfl)
