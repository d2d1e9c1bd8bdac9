set_option maxHeartbeats 4000000 in
set_option maxRecDepth 100000 in
theorem c_X8_pair {D : va_G} {cB cI cJ cO : ClassId} {l : Launch} {z0 a1 t0 d0 e0 k0 al so wi : Nat} {bb rr pp qq : Nat} {k1 k4 k7 k8 k9 k10 plc kn : Nat} {k2 k3 k5 k6 sz1 sz2 : Nat} {ad : Nat} {s0 s1 s2 s3 ca eh es er nd : Nat} {dd : Nat → DX} {HS SS RS : List Nat} {c1 c2 t1 t2 nu tc fa me : Nat → Nat} {kd ii ww : Int32} {ws : va_W} (g0 : ws[0]? = some (z0, .inr (9, [.ref a1, .ref t0, .ref d0, .ref s0, .ref e0, .ref k0, .ref al, .int (nI so), .int (nI wi)]))) (g20 : ws[20]? = some (e0, .inr (3, [.int (nI bb), .int (nI rr), .int (nI pp), .int (nI qq)]))) (g21 : ws[21]? = some (k0, .inr (2, [.ref k1, .ref k4, .ref k7, .ref k8, .ref k9, .ref k10, .int (nI plc), .int (nI kn)]))) (g22 : ws[22]? = some (k1, .inr (4, [.ref k2, .ref k3, .int (nI sz1)]))) (g23 : ws[23]? = some (k2, .inl (cI, 1128, .inl (fun jj => nI (c1 jj))))) (g24 : ws[24]? = some (k3, .inl (cI, 1128, .inl (fun jj => nI (c2 jj))))) (g25 : ws[25]? = some (k4, .inr (4, [.ref k5, .ref k6, .int (nI sz2)]))) (g26 : ws[26]? = some (k5, .inl (cI, 1128, .inl (fun jj => nI (t1 jj))))) (g27 : ws[27]? = some (k6, .inl (cI, 1128, .inl (fun jj => nI (t2 jj))))) (g28 : ws[28]? = some (k7, .inl (cI, 48, .inl (fun jj => nI (nu jj))))) (g29 : ws[29]? = some (k8, .inl (cI, 48, .inl (fun jj => nI (tc jj))))) (g30 : ws[30]? = some (k9, .inl (cI, 48, .inl (fun jj => nI (fa jj))))) (g31 : ws[31]? = some (k10, .inl (cI, 48, .inl (fun jj => nI (me jj))))) (hSW : ShW ws cI cJ cO ad s0 s1 s2 s3 ca eh es er nd dd HS SS RS) (hnd : nd ≤ 48) (hRow : RowOK dd HS) (hbr : bb * rr ≤ 64) (hb64 : bb ≤ 64) (hr64 : rr ≤ 64) (hp4 : pp ≤ 10000) (hq4 : qq ≤ 10000) (hsym : ∀ x y, x < HS.length → y < HS.length → (twH dd HS rr bb pp qq) x y = (twH dd HS rr bb pp qq) y x) (hkn1 : kn ≤ 1) (hkn : kn = 1 → KinOK dd HS rr bb pp qq plc c1 c2 t1 t2 nu tc fa me sz1 sz2) : CI D (TY cB cI cJ cO) l yX8_pair wsX8_pair ({ frames := 5, cells := 0, slots := 0, locals := 115 }) [.ref z0, .int kd, .int ii, .int ww] ws (fun r ws' => ∃ plcn : Nat, ∃ sz1n : Nat, ∃ sz2n : Nat, ∃ c1n : Nat → Nat, ∃ c2n : Nat → Nat, ∃ t1n : Nat → Nat, ∃ t2n : Nat → Nat, ∃ nun : Nat → Nat, ∃ tcn : Nat → Nat, ∃ fan : Nat → Nat, ∃ men : Nat → Nat, r = prC c1n c2n t1n t2n nun men sz1n sz2n plcn kd ii ww ∧ (KinOK dd HS rr bb pp qq plcn c1n c2n t1n t2n nun tcn fan men sz1n sz2n) ∧ (ShW ws' cI cJ cO ad s0 s1 s2 s3 ca eh es er nd dd HS SS RS) ∧ Sm (fun k => k = 21 ∨ k = 22 ∨ k = 23 ∨ k = 24 ∨ k = 25 ∨ k = 26 ∨ k = 27 ∨ k = 28 ∨ k = 29 ∨ k = 30 ∨ k = 31) ws ws' ∧ ws'[21]? = some (k0, .inr (2, [.ref k1, .ref k4, .ref k7, .ref k8, .ref k9, .ref k10, .int (nI plcn), .int (nI 1)])) ∧ ws'[22]? = some (k1, .inr (4, [.ref k2, .ref k3, .int (nI sz1n)])) ∧ ws'[23]? = some (k2, .inl (cI, 1128, .inl (fun jj => nI (c1n jj)))) ∧ ws'[24]? = some (k3, .inl (cI, 1128, .inl (fun jj => nI (c2n jj)))) ∧ ws'[25]? = some (k4, .inr (4, [.ref k5, .ref k6, .int (nI sz2n)])) ∧ ws'[26]? = some (k5, .inl (cI, 1128, .inl (fun jj => nI (t1n jj)))) ∧ ws'[27]? = some (k6, .inl (cI, 1128, .inl (fun jj => nI (t2n jj)))) ∧ ws'[28]? = some (k7, .inl (cI, 48, .inl (fun jj => nI (nun jj)))) ∧ ws'[29]? = some (k8, .inl (cI, 48, .inl (fun jj => nI (tcn jj)))) ∧ ws'[30]? = some (k9, .inl (cI, 48, .inl (fun jj => nI (fan jj)))) ∧ ws'[31]? = some (k10, .inl (cI, 48, .inl (fun jj => nI (men jj))))) := by
  refine CI.of (cc := cX8_pair) (maxL := 4) (ret := (some .int)) (by decide) rfl (Nat.le_of_ble_eq_true rfl) ?_
  intro p e s m below meth c A C hK hP hD hA hS ls hl
  obtain ⟨hx, hb, hr, hml, hts, hown, hlocks, hnm⟩ := id C
  have fl_33 := hts (.fieldLink RX8 33 "TwinFinder" "shelf" "LTwinFinder$Shelf;") (by decide +kernel)
  have fl_40 := hts (.fieldLink RX8 40 "TwinFinder" "measure" "LTwinFinder$Measure;") (by decide +kernel)
  have fl_47 := hts (.fieldLink RX8 47 "TwinFinder" "kin" "LTwinFinder$Kin;") (by decide +kernel)
  have fl_168 := hts (.fieldLink RX8 168 "TwinFinder$Shelf" "here" "Ljava/util/ArrayList;") (by decide +kernel)
  have fl_225 := hts (.fieldLink RX8 225 "TwinFinder$Kin" "candidates" "LTwinFinder$PairRow;") (by decide +kernel)
  have fl_232 := hts (.fieldLink RX8 232 "TwinFinder$Kin" "twins" "LTwinFinder$PairRow;") (by decide +kernel)
  have hin_X1 : ∀ w ∈ u_ws RX1 TX1 8, w ∈ wsX8_pair := by decide +kernel
  have hin_X5 : ∀ w ∈ u_ws RX5 TX5 4, w ∈ wsX8_pair := by decide +kernel
  have hin_X8 : ∀ w ∈ u_ws RX8 TX8 9, w ∈ wsX8_pair := by decide +kernel
  have hl : lv_has ls 4 [(0, .ref z0), (1, .int kd), (2, .int ii), (3, .int ww)] := hl
  have sm : Sm (fun k => k = 21 ∨ k = 22 ∨ k = 23 ∨ k = 24 ∨ k = 25 ∨ k = 26 ∨ k = 27 ∨ k = 28 ∨ k = 29 ∨ k = 30 ∨ k = 31) ws ws := Sm.rf
  have hc0 : (0 : Nat) ≤ 0 := by decide
  have hs0 : (0 : Nat) ≤ 0 := by decide
  obtain ⟨g16, hLh, hLs, hLr, hDW, hEd, hNd, hAll, hndl, hRS, h51⟩ := id hSW
  have hHS : ∀ t ∈ HS, t < nd := fun t h9 => hAll t (List.mem_append_left _ h9)
  refine lv_aload_n hx hb dX8_pair_0 rfl (lv_at hl 0 rfl) ?_
  refine va_get (D := D) (ci := 9) (v := .ref k0) (C := RX8) (T := TX8) (N := 9) hx hb hts hin_X8 hown hK hP 0 g0 rfl 5 (by decide) fl_47 (fun _ h9 => h9) rfl dX8_pair_1 ?_
  refine lv_aload_n hx hb dX8_pair_4 rfl (lv_at hl 0 rfl) ?_
  refine va_get (D := D) (ci := 9) (v := .ref s0) (C := RX8) (T := TX8) (N := 9) hx hb hts hin_X8 hown hK hP 0 g0 rfl 3 (by decide) fl_33 (fun _ h9 => h9) rfl dX8_pair_5 ?_
  refine va_get (D := D) (ci := 6) (v := .ref s1) (C := RX5) (T := TX5) (N := 4) hx hb hts hin_X5 hown hK hP 16 g16 rfl 0 (by decide) fl_168 (fun _ h9 => h9) rfl dX8_pair_8 ?_
  refine lv_aload_n hx hb dX8_pair_11 rfl (lv_at hl 0 rfl) ?_
  refine va_get (D := D) (ci := 9) (v := .ref e0) (C := RX8) (T := TX8) (N := 9) hx hb hts hin_X8 hown hK hP 0 g0 rfl 4 (by decide) fl_40 (fun _ h9 => h9) rfl dX8_pair_12 ?_
  refine CV.go (va_runV (As := [.ref s1, .ref e0]) (rest := []) ⟨hx, hb, hml, hown, hts⟩ (c_X1_learn  g20 g21 g22 g23 g24 g25 g26 g27 g28 g29 g30 g31 hLh hDW hHS (by omega) hnd hRow hbr hb64 hr64 hp4 hq4 hsym hkn1 hkn _) (cwV 2 hts gX8_pair_X1_learn rfl rfl rfl (by decide +kernel) ⟨Nat.le_of_ble_eq_true rfl, Nat.le_of_ble_eq_true rfl⟩) ⟨pw_blind, va_recv hK hP (ci := 2) (q0 := 21) rfl g21, fun U hU hW => pw_pre hK hP hD hU hW⟩ rfl rfl hl.1 rfl (lv_room (Nat.le_of_ble_eq_true rfl)) dX8_pair_15 ⟨Nat.le_of_ble_eq_true rfl, Nat.le_of_ble_eq_true rfl⟩) hD hS hA (fun ws_2 H locs hp hP hD hS => ?_)
  obtain ⟨plcn, sz1n, sz2n, c1n, c2n, t1n, t2n, nun, tcn, fan, men, hK2, smL, g21, g22, g23, g24, g25, g26, g27, g28, g29, g30, g31⟩ := hp
  have g0 := smL.get g0 (by simp)
  have g20 := smL.get g20 (by simp)
  have g16 := smL.get g16 (by simp)
  have sm := sm.call smL (fun k hk => by (try simp only at hk ⊢); omega)
  have g21 : ws_2[21]? = some (k0, .inr (2, [.ref k1, .ref k4, .ref k7, .ref k8, .ref k9, .ref k10, .int (nI plcn), .int (nI 1)])) := g21
  have g22 : ws_2[22]? = some (k1, .inr (4, [.ref k2, .ref k3, .int (nI sz1n)])) := g22
  have g23 : ws_2[23]? = some (k2, .inl (cI, 1128, .inl (fun jj => nI (c1n jj)))) := g23
  have g24 : ws_2[24]? = some (k3, .inl (cI, 1128, .inl (fun jj => nI (c2n jj)))) := g24
  have g25 : ws_2[25]? = some (k4, .inr (4, [.ref k5, .ref k6, .int (nI sz2n)])) := g25
  have g26 : ws_2[26]? = some (k5, .inl (cI, 1128, .inl (fun jj => nI (t1n jj)))) := g26
  have g27 : ws_2[27]? = some (k6, .inl (cI, 1128, .inl (fun jj => nI (t2n jj)))) := g27
  have g28 : ws_2[28]? = some (k7, .inl (cI, 48, .inl (fun jj => nI (nun jj)))) := g28
  have g29 : ws_2[29]? = some (k8, .inl (cI, 48, .inl (fun jj => nI (tcn jj)))) := g29
  have g30 : ws_2[30]? = some (k9, .inl (cI, 48, .inl (fun jj => nI (fan jj)))) := g30
  have g31 : ws_2[31]? = some (k10, .inl (cI, 48, .inl (fun jj => nI (men jj)))) := g31
  have hSW := hSW.low smL (fun k hk => by (try simp only at hk); omega)
  have hks := hK2.small (by omega)
  refine lv_iload_n hx hb dX8_pair_18 rfl (lv_at hl 1 rfl) ?_
  rcases tab_cases kd 3 (by decide) with c_19 | ⟨j_19, hj_19, rfl⟩
  · refine lv_tableOut (tgt := 118) hx hb dX8_pair_19 c_19 (by decide) ?_
    refine lv_iconst (v := -1) hx hb dX8_pair_118 (by decide) ?_
    exact CI.ret (v := (-1)) C hK hP hD hS rfl (⟨_, _, _, _, _, _, _, _, _, _, _, (by first | rfl | (rw [prC_out c_19]; done) | (show _ = (if ww = 0 then _ else _); rw [if_pos c_79]; done) | (show _ = (if ww = 0 then _ else _); rw [if_neg c_79]; done) | (show _ = (if ww = 0 then _ else _); rw [if_pos c_99]; done) | (show _ = (if ww = 0 then _ else _); rw [if_neg c_99]; done)), hK2, hSW, sm, g21, g22, g23, g24, g25, g26, g27, g28, g29, g30, g31⟩) hc0 hs0 dX8_pair_119
  · have hj2_19 : j_19 = 0 ∨ j_19 = 1 ∨ j_19 = 2 ∨ j_19 = 3 := by omega
    rcases hj2_19 with rfl | rfl | rfl | rfl
    · refine lv_tableIn (off := 29) (tgt := 48) hx hb dX8_pair_19 (by decide) (by decide) (by decide) (by decide) ?_
      refine lv_aload_n hx hb dX8_pair_48 rfl (lv_at hl 0 rfl) ?_
      refine va_get (D := D) (ci := 9) (v := .ref k0) (C := RX8) (T := TX8) (N := 9) hx hb hts hin_X8 hown hK hP 0 g0 rfl 5 (by decide) fl_47 (fun _ h9 => h9) rfl dX8_pair_49 ?_
      refine va_get (D := D) (ci := 2) (v := .ref k1) (C := RX1) (T := TX1) (N := 8) hx hb hts hin_X1 hown hK hP 21 g21 rfl 0 (by decide) fl_225 (fun _ h9 => h9) rfl dX8_pair_52 ?_
      refine lv_iload_n hx hb dX8_pair_55 rfl (lv_at hl 2 rfl) ?_
      refine lv_iload_n hx hb dX8_pair_56 rfl (lv_at hl 3 rfl) ?_
      refine CI.go (va_runV (As := [.int ii, .int ww]) (rest := []) ⟨hx, hb, hml, hown, hts⟩ (c_X3_side (pq := 22) g22 g23 g24 hks.2.1 _) (cwV 2 hts gX8_pair_X3_side rfl rfl rfl (by decide +kernel) ⟨Nat.le_of_ble_eq_true rfl, Nat.le_of_ble_eq_true rfl⟩) ⟨pw_blind, va_recv hK hP (ci := 4) (q0 := 22) rfl g22, fun U hU hW => pw_pre hK hP hD hU hW⟩ rfl rfl hl.1 rfl (lv_room (Nat.le_of_ble_eq_true rfl)) dX8_pair_57 ⟨Nat.le_of_ble_eq_true rfl, Nat.le_of_ble_eq_true rfl⟩) hD hS hA (fun r_3 ws_4 H locs hp hP hD hS => ?_)
      obtain ⟨rfl, rfl⟩ := hp
      refine lv_goto (tgt := 119) hx hb dX8_pair_60 (by decide) ?_
      exact CI.ret (v := (sideR c1n c2n sz1n ii ww)) C hK hP hD hS rfl (⟨_, _, _, _, _, _, _, _, _, _, _, (by first | rfl | (rw [prC_out c_19]; done) | (show _ = (if ww = 0 then _ else _); rw [if_pos c_79]; done) | (show _ = (if ww = 0 then _ else _); rw [if_neg c_79]; done) | (show _ = (if ww = 0 then _ else _); rw [if_pos c_99]; done) | (show _ = (if ww = 0 then _ else _); rw [if_neg c_99]; done)), hK2, hSW, sm, g21, g22, g23, g24, g25, g26, g27, g28, g29, g30, g31⟩) hc0 hs0 dX8_pair_119
    · refine lv_tableIn (off := 44) (tgt := 63) hx hb dX8_pair_19 (by decide) (by decide) (by decide) (by decide) ?_
      refine lv_aload_n hx hb dX8_pair_63 rfl (lv_at hl 0 rfl) ?_
      refine va_get (D := D) (ci := 9) (v := .ref k0) (C := RX8) (T := TX8) (N := 9) hx hb hts hin_X8 hown hK hP 0 g0 rfl 5 (by decide) fl_47 (fun _ h9 => h9) rfl dX8_pair_64 ?_
      refine va_get (D := D) (ci := 2) (v := .ref k4) (C := RX1) (T := TX1) (N := 8) hx hb hts hin_X1 hown hK hP 21 g21 rfl 1 (by decide) fl_232 (fun _ h9 => h9) rfl dX8_pair_67 ?_
      refine lv_iload_n hx hb dX8_pair_70 rfl (lv_at hl 2 rfl) ?_
      refine lv_iload_n hx hb dX8_pair_71 rfl (lv_at hl 3 rfl) ?_
      refine CI.go (va_runV (As := [.int ii, .int ww]) (rest := []) ⟨hx, hb, hml, hown, hts⟩ (c_X3_side (pq := 25) g25 g26 g27 hks.2.2.1 _) (cwV 2 hts gX8_pair_X3_side rfl rfl rfl (by decide +kernel) ⟨Nat.le_of_ble_eq_true rfl, Nat.le_of_ble_eq_true rfl⟩) ⟨pw_blind, va_recv hK hP (ci := 4) (q0 := 25) rfl g25, fun U hU hW => pw_pre hK hP hD hU hW⟩ rfl rfl hl.1 rfl (lv_room (Nat.le_of_ble_eq_true rfl)) dX8_pair_72 ⟨Nat.le_of_ble_eq_true rfl, Nat.le_of_ble_eq_true rfl⟩) hD hS hA (fun r_5 ws_6 H locs hp hP hD hS => ?_)
      obtain ⟨rfl, rfl⟩ := hp
      refine lv_goto (tgt := 119) hx hb dX8_pair_75 (by decide) ?_
      exact CI.ret (v := (sideR t1n t2n sz2n ii ww)) C hK hP hD hS rfl (⟨_, _, _, _, _, _, _, _, _, _, _, (by first | rfl | (rw [prC_out c_19]; done) | (show _ = (if ww = 0 then _ else _); rw [if_pos c_79]; done) | (show _ = (if ww = 0 then _ else _); rw [if_neg c_79]; done) | (show _ = (if ww = 0 then _ else _); rw [if_pos c_99]; done) | (show _ = (if ww = 0 then _ else _); rw [if_neg c_99]; done)), hK2, hSW, sm, g21, g22, g23, g24, g25, g26, g27, g28, g29, g30, g31⟩) hc0 hs0 dX8_pair_119
    · refine lv_tableIn (off := 59) (tgt := 78) hx hb dX8_pair_19 (by decide) (by decide) (by decide) (by decide) ?_
      refine lv_iload_n hx hb dX8_pair_78 rfl (lv_at hl 3 rfl) ?_
      refine lv_if_ne (tgt := 94) hx hb dX8_pair_79 (by decide) (fun c_79 => ?_) (fun c_79 => ?_)
      · refine lv_iconst (v := -1) hx hb dX8_pair_94 (by decide) ?_
        refine lv_goto (tgt := 119) hx hb dX8_pair_95 (by decide) ?_
        exact CI.ret (v := (-1)) C hK hP hD hS rfl (⟨_, _, _, _, _, _, _, _, _, _, _, (by first | rfl | (rw [prC_out c_19]; done) | (show _ = (if ww = 0 then _ else _); rw [if_pos c_79]; done) | (show _ = (if ww = 0 then _ else _); rw [if_neg c_79]; done) | (show _ = (if ww = 0 then _ else _); rw [if_pos c_99]; done) | (show _ = (if ww = 0 then _ else _); rw [if_neg c_99]; done)), hK2, hSW, sm, g21, g22, g23, g24, g25, g26, g27, g28, g29, g30, g31⟩) hc0 hs0 dX8_pair_119
      · refine lv_aload_n hx hb dX8_pair_82 rfl (lv_at hl 0 rfl) ?_
        refine va_get (D := D) (ci := 9) (v := .ref k0) (C := RX8) (T := TX8) (N := 9) hx hb hts hin_X8 hown hK hP 0 g0 rfl 5 (by decide) fl_47 (fun _ h9 => h9) rfl dX8_pair_83 ?_
        refine lv_iload_n hx hb dX8_pair_86 rfl (lv_at hl 2 rfl) ?_
        refine lv_iconst (v := nI 2) hx hb dX8_pair_87 (by decide) ?_
        refine CI.go (va_runV (As := [.int ii, .int (nI 2)]) (rest := []) ⟨hx, hb, hml, hown, hts⟩ (c_X1_familyAt (al_ := 2) g21 g28 g31 hks.1 (by decide) hks.2.2.2.1 _) (cwV 2 hts gX8_pair_X1_familyAt rfl rfl rfl (by decide +kernel) ⟨Nat.le_of_ble_eq_true rfl, Nat.le_of_ble_eq_true rfl⟩) ⟨pw_blind, va_recv hK hP (ci := 2) (q0 := 21) rfl g21, fun U hU hW => pw_pre hK hP hD hU hW⟩ rfl rfl hl.1 rfl (lv_room (Nat.le_of_ble_eq_true rfl)) dX8_pair_88 ⟨Nat.le_of_ble_eq_true rfl, Nat.le_of_ble_eq_true rfl⟩) hD hS hA (fun r_7 ws_8 H locs hp hP hD hS => ?_)
        obtain ⟨rfl, rfl⟩ := hp
        refine lv_goto (tgt := 119) hx hb dX8_pair_91 (by decide) ?_
        exact CI.ret (v := (faR nun (fun k => decide (2 ≤ men k)) plcn ii)) C hK hP hD hS rfl (⟨_, _, _, _, _, _, _, _, _, _, _, (by first | rfl | (rw [prC_out c_19]; done) | (show _ = (if ww = 0 then _ else _); rw [if_pos c_79]; done) | (show _ = (if ww = 0 then _ else _); rw [if_neg c_79]; done) | (show _ = (if ww = 0 then _ else _); rw [if_pos c_99]; done) | (show _ = (if ww = 0 then _ else _); rw [if_neg c_99]; done)), hK2, hSW, sm, g21, g22, g23, g24, g25, g26, g27, g28, g29, g30, g31⟩) hc0 hs0 dX8_pair_119
    · refine lv_tableIn (off := 79) (tgt := 98) hx hb dX8_pair_19 (by decide) (by decide) (by decide) (by decide) ?_
      refine lv_iload_n hx hb dX8_pair_98 rfl (lv_at hl 3 rfl) ?_
      refine lv_if_ne (tgt := 114) hx hb dX8_pair_99 (by decide) (fun c_99 => ?_) (fun c_99 => ?_)
      · refine lv_iconst (v := -1) hx hb dX8_pair_114 (by decide) ?_
        refine lv_goto (tgt := 119) hx hb dX8_pair_115 (by decide) ?_
        exact CI.ret (v := (-1)) C hK hP hD hS rfl (⟨_, _, _, _, _, _, _, _, _, _, _, (by first | rfl | (rw [prC_out c_19]; done) | (show _ = (if ww = 0 then _ else _); rw [if_pos c_79]; done) | (show _ = (if ww = 0 then _ else _); rw [if_neg c_79]; done) | (show _ = (if ww = 0 then _ else _); rw [if_pos c_99]; done) | (show _ = (if ww = 0 then _ else _); rw [if_neg c_99]; done)), hK2, hSW, sm, g21, g22, g23, g24, g25, g26, g27, g28, g29, g30, g31⟩) hc0 hs0 dX8_pair_119
      · refine lv_aload_n hx hb dX8_pair_102 rfl (lv_at hl 0 rfl) ?_
        refine va_get (D := D) (ci := 9) (v := .ref k0) (C := RX8) (T := TX8) (N := 9) hx hb hts hin_X8 hown hK hP 0 g0 rfl 5 (by decide) fl_47 (fun _ h9 => h9) rfl dX8_pair_103 ?_
        refine lv_iload_n hx hb dX8_pair_106 rfl (lv_at hl 2 rfl) ?_
        refine lv_iconst (v := nI 1) hx hb dX8_pair_107 (by decide) ?_
        refine CI.go (va_runV (As := [.int ii, .int (nI 1)]) (rest := []) ⟨hx, hb, hml, hown, hts⟩ (c_X1_familyAt (al_ := 1) g21 g28 g31 hks.1 (by decide) hks.2.2.2.1 _) (cwV 2 hts gX8_pair_X1_familyAt rfl rfl rfl (by decide +kernel) ⟨Nat.le_of_ble_eq_true rfl, Nat.le_of_ble_eq_true rfl⟩) ⟨pw_blind, va_recv hK hP (ci := 2) (q0 := 21) rfl g21, fun U hU hW => pw_pre hK hP hD hU hW⟩ rfl rfl hl.1 rfl (lv_room (Nat.le_of_ble_eq_true rfl)) dX8_pair_108 ⟨Nat.le_of_ble_eq_true rfl, Nat.le_of_ble_eq_true rfl⟩) hD hS hA (fun r_9 ws_10 H locs hp hP hD hS => ?_)
        obtain ⟨rfl, rfl⟩ := hp
        refine lv_goto (tgt := 119) hx hb dX8_pair_111 (by decide) ?_
        exact CI.ret (v := (faR nun (fun k => decide (1 ≤ men k)) plcn ii)) C hK hP hD hS rfl (⟨_, _, _, _, _, _, _, _, _, _, _, (by first | rfl | (rw [prC_out c_19]; done) | (show _ = (if ww = 0 then _ else _); rw [if_pos c_79]; done) | (show _ = (if ww = 0 then _ else _); rw [if_neg c_79]; done) | (show _ = (if ww = 0 then _ else _); rw [if_pos c_99]; done) | (show _ = (if ww = 0 then _ else _); rw [if_neg c_99]; done)), hK2, hSW, sm, g21, g22, g23, g24, g25, g26, g27, g28, g29, g30, g31⟩) hc0 hs0 dX8_pair_119
