set_option maxHeartbeats 4000000 in
set_option maxRecDepth 100000 in
theorem c_X8_count {D : va_G} {cB cI cJ cO : ClassId} {l : Launch} {z0 a1 t0 d0 e0 k0 al so wi : Nat} {a2 a3 a4 len pl pcs gp : Nat} {t1 t2 t3 t4 nm : Nat} {lf : Nat → Int32} {bf sf se : Nat → Nat} {sh : List (List Int32)} {d1 d2 d3 d4 d5 mv kp bb rr pp qq : Nat} {ad : Nat} {s0 s1 s2 s3 ca eh es er nd : Nat} {dd : Nat → DX} {HS SS RS : List Nat} {f fp : Nat → Int32} {T : List Int32} {x : Int32} {ws : va_W} (g0 : ws[0]? = some (z0, .inr (9, [.ref a1, .ref t0, .ref d0, .ref s0, .ref e0, .ref k0, .ref al, .int (nI so), .int (nI wi)]))) (g1 : ws[1]? = some (a1, .inr (8, [.ref a2, .ref a3, .ref a4, .int (nI len), .int (nI pl), .int (nI pcs), .int (nI gp)]))) (g2 : ws[2]? = some (a2, .inl (cB, 800, .inl f))) (g3 : ws[3]? = some (a3, .inl (cB, 800, .inl fp))) (g5 : ws[5]? = some (t0, .inr (7, [.ref t1, .ref t2, .ref t3, .ref t4, .int (nI nm)]))) (g7 : ws[7]? = some (t2, .inl (cI, 6001, .inl (fun jj => nI (bf jj))))) (g10 : ws[10]? = some (d0, .inr (5, [.ref d1, .ref d2, .ref d3, .ref d4, .ref d5, .int (nI mv), .int (nI kp)]))) (g20 : ws[20]? = some (e0, .inr (3, [.int (nI bb), .int (nI rr), .int (nI pp), .int (nI qq)]))) (hst : StC sh lf bf sf se) (hsn : sh.length = nm) (hn6 : nm ≤ 6000) (hby : sh.flatten.length ≤ 50000) (hSW : ShW ws cI cJ cO ad s0 s1 s2 s3 ca eh es er nd dd HS SS RS) (hnd : nd ≤ 48) (hT : Hd f T) (hlen : T.length = len) (h800 : len ≤ 800) : CI D (TY cB cI cJ cO) l yX8_count wsX8_count ({ frames := 2, cells := 0, slots := 0, locals := 44 }) [.ref z0, .int x] ws (fun r ws' => ∃ pl2 : Nat, ∃ fq : Nat → Int32, r = cntR [len, (plainOf T).length, HS.length, ca, nm, sh.flatten.length, kp, bb, rr, pp, qq, so, wi] x ∧ Sm (fun k => k = 1 ∨ k = 3) ws ws' ∧ ws'[1]? = some (a1, .inr (8, [.ref a2, .ref a3, .ref a4, .int (nI len), .int (nI pl2), .int (nI pcs), .int (nI gp)])) ∧ ws'[3]? = some (a3, .inl (cB, 800, .inl fq))) := by
  refine CI.of (cc := cX8_count) (maxL := 2) (ret := (some .int)) (by decide) rfl (Nat.le_of_ble_eq_true rfl) ?_
  intro p e s m below meth c A C hK hP hD hA hS ls hl
  obtain ⟨hx, hb, hr, hml, hts, hown, hlocks, hnm⟩ := id C
  have fl_12 := hts (.fieldLink RX8 12 "TwinFinder" "tape" "LTwinFinder$Tape;") (by decide +kernel)
  have fl_19 := hts (.fieldLink RX8 19 "TwinFinder" "store" "LTwinFinder$Store;") (by decide +kernel)
  have fl_26 := hts (.fieldLink RX8 26 "TwinFinder" "permutations" "LTwinFinder$Permutations;") (by decide +kernel)
  have fl_33 := hts (.fieldLink RX8 33 "TwinFinder" "shelf" "LTwinFinder$Shelf;") (by decide +kernel)
  have fl_40 := hts (.fieldLink RX8 40 "TwinFinder" "measure" "LTwinFinder$Measure;") (by decide +kernel)
  have fl_55 := hts (.fieldLink RX8 55 "TwinFinder" "sortAtHand" "I") (by decide +kernel)
  have fl_59 := hts (.fieldLink RX8 59 "TwinFinder" "rowAtHand" "I") (by decide +kernel)
  have fl_62 := hts (.fieldLink RX8 62 "TwinFinder$Tape" "length" "I") (by decide +kernel)
  have fl_85 := hts (.fieldLink RX8 85 "TwinFinder$Store" "given" "I") (by decide +kernel)
  have fl_145 := hts (.fieldLink RX8 145 "TwinFinder$Permutations" "kept" "I") (by decide +kernel)
  have fl_168 := hts (.fieldLink RX8 168 "TwinFinder$Shelf" "here" "Ljava/util/ArrayList;") (by decide +kernel)
  have fl_250 := hts (.fieldLink RX8 250 "TwinFinder$Shelf" "came" "I") (by decide +kernel)
  have fl_256 := hts (.fieldLink RX8 256 "TwinFinder$Measure" "bandCount" "I") (by decide +kernel)
  have fl_259 := hts (.fieldLink RX8 259 "TwinFinder$Measure" "rowCount" "I") (by decide +kernel)
  have fl_262 := hts (.fieldLink RX8 262 "TwinFinder$Measure" "p" "I") (by decide +kernel)
  have fl_265 := hts (.fieldLink RX8 265 "TwinFinder$Measure" "q" "I") (by decide +kernel)
  have hin_X2 : ∀ w ∈ u_ws RX2 TX2 4, w ∈ wsX8_count := by decide +kernel
  have hin_X4 : ∀ w ∈ u_ws RX4 TX4 7, w ∈ wsX8_count := by decide +kernel
  have hin_X5 : ∀ w ∈ u_ws RX5 TX5 4, w ∈ wsX8_count := by decide +kernel
  have hin_X6 : ∀ w ∈ u_ws RX6 TX6 5, w ∈ wsX8_count := by decide +kernel
  have hin_X7 : ∀ w ∈ u_ws RX7 TX7 7, w ∈ wsX8_count := by decide +kernel
  have hin_X8 : ∀ w ∈ u_ws RX8 TX8 9, w ∈ wsX8_count := by decide +kernel
  have hl : lv_has ls 2 [(0, .ref z0), (1, .int x)] := hl
  have sm : Sm (fun k => k = 1 ∨ k = 3) ws ws := Sm.rf
  have hc0 : (0 : Nat) ≤ 0 := by decide
  have hs0 : (0 : Nat) ≤ 0 := by decide
  obtain ⟨g16, hLh, hLs, hLr, hDW, hEd, hNd, hAll, hndl, hRS, h51⟩ := id hSW
  have hHS : ∀ t ∈ HS, t < nd := fun t h9 => hAll t (List.mem_append_left _ h9)
  refine lv_iload_n hx hb dX8_count_0 rfl (lv_at hl 1 rfl) ?_
  rcases tab_cases x 12 (by decide) with c_1 | ⟨j_1, hj_1, rfl⟩
  · refine lv_tableOut (tgt := 195) hx hb dX8_count_1 c_1 (by decide) ?_
    refine lv_iconst (v := -1) hx hb dX8_count_195 (by decide) ?_
    exact CI.ret (v := (-1)) C hK hP hD hS rfl (⟨_, _, (by first | (rw [cntR_out c_1]; done) | exact cntR_at (by decide) (by simp) rfl), sm, g1, g3⟩) hc0 hs0 dX8_count_196
  · have hj2_1 : j_1 = 0 ∨ j_1 = 1 ∨ j_1 = 2 ∨ j_1 = 3 ∨ j_1 = 4 ∨ j_1 = 5 ∨ j_1 = 6 ∨ j_1 = 7 ∨ j_1 = 8 ∨ j_1 = 9 ∨ j_1 = 10 ∨ j_1 = 11 ∨ j_1 = 12 := by omega
    rcases hj2_1 with rfl | rfl | rfl | rfl | rfl | rfl | rfl | rfl | rfl | rfl | rfl | rfl | rfl
    · refine lv_tableIn (off := 67) (tgt := 68) hx hb dX8_count_1 (by decide) (by decide) (by decide) (by decide) ?_
      refine lv_aload_n hx hb dX8_count_68 rfl (lv_at hl 0 rfl) ?_
      refine va_get (D := D) (ci := 9) (v := .ref a1) (C := RX8) (T := TX8) (N := 9) hx hb hts hin_X8 hown hK hP 0 g0 rfl 0 (by decide) fl_12 (fun _ h9 => h9) rfl dX8_count_69 ?_
      refine va_get (D := D) (ci := 8) (v := .int (nI len)) (C := RX7) (T := TX7) (N := 7) hx hb hts hin_X7 hown hK hP 1 g1 rfl 3 (by decide) fl_62 (fun _ h9 => h9) rfl dX8_count_72 ?_
      refine lv_goto (tgt := 196) hx hb dX8_count_75 (by decide) ?_
      exact CI.ret (v := (nI len)) C hK hP hD hS rfl (⟨_, _, (by first | (rw [cntR_out c_1]; done) | exact cntR_at (by decide) (by simp) rfl), sm, g1, g3⟩) hc0 hs0 dX8_count_196
    · refine lv_tableIn (off := 77) (tgt := 78) hx hb dX8_count_1 (by decide) (by decide) (by decide) (by decide) ?_
      refine lv_aload_n hx hb dX8_count_78 rfl (lv_at hl 0 rfl) ?_
      refine va_get (D := D) (ci := 9) (v := .ref a1) (C := RX8) (T := TX8) (N := 9) hx hb hts hin_X8 hown hK hP 0 g0 rfl 0 (by decide) fl_12 (fun _ h9 => h9) rfl dX8_count_79 ?_
      refine CI.go (va_runV (As := []) (rest := []) ⟨hx, hb, hml, hown, hts⟩ (c_X7_makePlain  g1 g2 g3 hT hlen h800 _) (cwV 0 hts gX8_count_X7_makePlain rfl rfl rfl (by decide +kernel) ⟨Nat.le_of_ble_eq_true rfl, Nat.le_of_ble_eq_true rfl⟩) ⟨pw_blind, va_recv hK hP (ci := 8) (q0 := 1) rfl g1, fun U hU hW => pw_pre hK hP hD hU hW⟩ rfl rfl hl.1 rfl (lv_room (Nat.le_of_ble_eq_true rfl)) dX8_count_82 ⟨Nat.le_of_ble_eq_true rfl, Nat.le_of_ble_eq_true rfl⟩) hD hS hA (fun r_1 ws_2 H locs hp hP hD hS => ?_)
      obtain ⟨fq, rfl, hq, sm_3, g1, g3⟩ := hp
      have g0 := sm_3.get g0 (by simp)
      have g2 := sm_3.get g2 (by simp)
      have g5 := sm_3.get g5 (by simp)
      have g7 := sm_3.get g7 (by simp)
      have g10 := sm_3.get g10 (by simp)
      have g20 := sm_3.get g20 (by simp)
      have g16 := sm_3.get g16 (by simp)
      have sm := sm.call sm_3 (by intro k hk; first | exact False.elim hk | ((try simp only at hk ⊢); omega))
      have g1 : ws_2[1]? = some (a1, .inr (8, [.ref a2, .ref a3, .ref a4, .int (nI len), .int (nI ((plainOf T).length)), .int (nI pcs), .int (nI gp)])) := g1
      have g3 : ws_2[3]? = some (a3, .inl (cB, 800, .inl fq)) := g3
      refine lv_goto (tgt := 196) hx hb dX8_count_85 (by decide) ?_
      exact CI.ret (v := (nI ((plainOf T).length))) C hK hP hD hS rfl (⟨_, _, (by first | (rw [cntR_out c_1]; done) | exact cntR_at (by decide) (by simp) rfl), sm, g1, g3⟩) hc0 hs0 dX8_count_196
    · refine lv_tableIn (off := 87) (tgt := 88) hx hb dX8_count_1 (by decide) (by decide) (by decide) (by decide) ?_
      refine lv_aload_n hx hb dX8_count_88 rfl (lv_at hl 0 rfl) ?_
      refine va_get (D := D) (ci := 9) (v := .ref s0) (C := RX8) (T := TX8) (N := 9) hx hb hts hin_X8 hown hK hP 0 g0 rfl 3 (by decide) fl_33 (fun _ h9 => h9) rfl dX8_count_89 ?_
      refine va_get (D := D) (ci := 6) (v := .ref s1) (C := RX5) (T := TX5) (N := 4) hx hb hts hin_X5 hown hK hP 16 g16 rfl 0 (by decide) fl_168 (fun _ h9 => h9) rfl dX8_count_92 ?_
      refine CI.go (va_runV (As := []) (rest := []) ⟨hx, hb, hml, hown, hts⟩ (c_L_size   hLh _) (cwV 0 hts gX8_count_Jx4a65c_size_8abf5 rfl rfl rfl (by decide +kernel) ⟨Nat.le_of_ble_eq_true rfl, Nat.le_of_ble_eq_true rfl⟩) ⟨pw_blind, LW.recv hK hP hLh, fun U hU hW => pw_pre hK hP hD hU hW⟩ rfl rfl hl.1 rfl (lv_room (Nat.le_of_ble_eq_true rfl)) dX8_count_95 ⟨Nat.le_of_ble_eq_true rfl, Nat.le_of_ble_eq_true rfl⟩) hD hS hA (fun r_4 ws_5 H locs hp hP hD hS => ?_)
      obtain ⟨rfl, rfl⟩ := hp
      rw [List.length_map]
      refine lv_goto (tgt := 196) hx hb dX8_count_98 (by decide) ?_
      exact CI.ret (v := (nI HS.length)) C hK hP hD hS rfl (⟨_, _, (by first | (rw [cntR_out c_1]; done) | exact cntR_at (by decide) (by simp) rfl), sm, g1, g3⟩) hc0 hs0 dX8_count_196
    · refine lv_tableIn (off := 100) (tgt := 101) hx hb dX8_count_1 (by decide) (by decide) (by decide) (by decide) ?_
      refine lv_aload_n hx hb dX8_count_101 rfl (lv_at hl 0 rfl) ?_
      refine va_get (D := D) (ci := 9) (v := .ref s0) (C := RX8) (T := TX8) (N := 9) hx hb hts hin_X8 hown hK hP 0 g0 rfl 3 (by decide) fl_33 (fun _ h9 => h9) rfl dX8_count_102 ?_
      refine va_get (D := D) (ci := 6) (v := .int (nI ca)) (C := RX5) (T := TX5) (N := 4) hx hb hts hin_X5 hown hK hP 16 g16 rfl 3 (by decide) fl_250 (fun _ h9 => h9) rfl dX8_count_105 ?_
      refine lv_goto (tgt := 196) hx hb dX8_count_108 (by decide) ?_
      exact CI.ret (v := (nI ca)) C hK hP hD hS rfl (⟨_, _, (by first | (rw [cntR_out c_1]; done) | exact cntR_at (by decide) (by simp) rfl), sm, g1, g3⟩) hc0 hs0 dX8_count_196
    · refine lv_tableIn (off := 110) (tgt := 111) hx hb dX8_count_1 (by decide) (by decide) (by decide) (by decide) ?_
      refine lv_aload_n hx hb dX8_count_111 rfl (lv_at hl 0 rfl) ?_
      refine va_get (D := D) (ci := 9) (v := .ref t0) (C := RX8) (T := TX8) (N := 9) hx hb hts hin_X8 hown hK hP 0 g0 rfl 1 (by decide) fl_19 (fun _ h9 => h9) rfl dX8_count_112 ?_
      refine va_get (D := D) (ci := 7) (v := .int (nI nm)) (C := RX6) (T := TX6) (N := 5) hx hb hts hin_X6 hown hK hP 5 g5 rfl 4 (by decide) fl_85 (fun _ h9 => h9) rfl dX8_count_115 ?_
      refine lv_goto (tgt := 196) hx hb dX8_count_118 (by decide) ?_
      exact CI.ret (v := (nI nm)) C hK hP hD hS rfl (⟨_, _, (by first | (rw [cntR_out c_1]; done) | exact cntR_at (by decide) (by simp) rfl), sm, g1, g3⟩) hc0 hs0 dX8_count_196
    · refine lv_tableIn (off := 120) (tgt := 121) hx hb dX8_count_1 (by decide) (by decide) (by decide) (by decide) ?_
      refine lv_aload_n hx hb dX8_count_121 rfl (lv_at hl 0 rfl) ?_
      refine va_get (D := D) (ci := 9) (v := .ref t0) (C := RX8) (T := TX8) (N := 9) hx hb hts hin_X8 hown hK hP 0 g0 rfl 1 (by decide) fl_19 (fun _ h9 => h9) rfl dX8_count_122 ?_
      refine CI.go (va_runV (As := []) (rest := []) ⟨hx, hb, hml, hown, hts⟩ (c_X6_bytesUsed  g5 g7 hst hsn hn6 hby _) (cwV 0 hts gX8_count_X6_bytesUsed rfl rfl rfl (by decide +kernel) ⟨Nat.le_of_ble_eq_true rfl, Nat.le_of_ble_eq_true rfl⟩) ⟨pw_blind, va_recv hK hP (ci := 7) (q0 := 5) rfl g5, fun U hU hW => pw_pre hK hP hD hU hW⟩ rfl rfl hl.1 rfl (lv_room (Nat.le_of_ble_eq_true rfl)) dX8_count_125 ⟨Nat.le_of_ble_eq_true rfl, Nat.le_of_ble_eq_true rfl⟩) hD hS hA (fun r_6 ws_7 H locs hp hP hD hS => ?_)
      obtain ⟨rfl, rfl⟩ := hp
      refine lv_goto (tgt := 196) hx hb dX8_count_128 (by decide) ?_
      exact CI.ret (v := (nI sh.flatten.length)) C hK hP hD hS rfl (⟨_, _, (by first | (rw [cntR_out c_1]; done) | exact cntR_at (by decide) (by simp) rfl), sm, g1, g3⟩) hc0 hs0 dX8_count_196
    · refine lv_tableIn (off := 130) (tgt := 131) hx hb dX8_count_1 (by decide) (by decide) (by decide) (by decide) ?_
      refine lv_aload_n hx hb dX8_count_131 rfl (lv_at hl 0 rfl) ?_
      refine va_get (D := D) (ci := 9) (v := .ref d0) (C := RX8) (T := TX8) (N := 9) hx hb hts hin_X8 hown hK hP 0 g0 rfl 2 (by decide) fl_26 (fun _ h9 => h9) rfl dX8_count_132 ?_
      refine va_get (D := D) (ci := 5) (v := .int (nI kp)) (C := RX4) (T := TX4) (N := 7) hx hb hts hin_X4 hown hK hP 10 g10 rfl 6 (by decide) fl_145 (fun _ h9 => h9) rfl dX8_count_135 ?_
      refine lv_goto (tgt := 196) hx hb dX8_count_138 (by decide) ?_
      exact CI.ret (v := (nI kp)) C hK hP hD hS rfl (⟨_, _, (by first | (rw [cntR_out c_1]; done) | exact cntR_at (by decide) (by simp) rfl), sm, g1, g3⟩) hc0 hs0 dX8_count_196
    · refine lv_tableIn (off := 140) (tgt := 141) hx hb dX8_count_1 (by decide) (by decide) (by decide) (by decide) ?_
      refine lv_aload_n hx hb dX8_count_141 rfl (lv_at hl 0 rfl) ?_
      refine va_get (D := D) (ci := 9) (v := .ref e0) (C := RX8) (T := TX8) (N := 9) hx hb hts hin_X8 hown hK hP 0 g0 rfl 4 (by decide) fl_40 (fun _ h9 => h9) rfl dX8_count_142 ?_
      refine va_get (D := D) (ci := 3) (v := .int (nI bb)) (C := RX2) (T := TX2) (N := 4) hx hb hts hin_X2 hown hK hP 20 g20 rfl 0 (by decide) fl_256 (fun _ h9 => h9) rfl dX8_count_145 ?_
      refine lv_goto (tgt := 196) hx hb dX8_count_148 (by decide) ?_
      exact CI.ret (v := (nI bb)) C hK hP hD hS rfl (⟨_, _, (by first | (rw [cntR_out c_1]; done) | exact cntR_at (by decide) (by simp) rfl), sm, g1, g3⟩) hc0 hs0 dX8_count_196
    · refine lv_tableIn (off := 150) (tgt := 151) hx hb dX8_count_1 (by decide) (by decide) (by decide) (by decide) ?_
      refine lv_aload_n hx hb dX8_count_151 rfl (lv_at hl 0 rfl) ?_
      refine va_get (D := D) (ci := 9) (v := .ref e0) (C := RX8) (T := TX8) (N := 9) hx hb hts hin_X8 hown hK hP 0 g0 rfl 4 (by decide) fl_40 (fun _ h9 => h9) rfl dX8_count_152 ?_
      refine va_get (D := D) (ci := 3) (v := .int (nI rr)) (C := RX2) (T := TX2) (N := 4) hx hb hts hin_X2 hown hK hP 20 g20 rfl 1 (by decide) fl_259 (fun _ h9 => h9) rfl dX8_count_155 ?_
      refine lv_goto (tgt := 196) hx hb dX8_count_158 (by decide) ?_
      exact CI.ret (v := (nI rr)) C hK hP hD hS rfl (⟨_, _, (by first | (rw [cntR_out c_1]; done) | exact cntR_at (by decide) (by simp) rfl), sm, g1, g3⟩) hc0 hs0 dX8_count_196
    · refine lv_tableIn (off := 160) (tgt := 161) hx hb dX8_count_1 (by decide) (by decide) (by decide) (by decide) ?_
      refine lv_aload_n hx hb dX8_count_161 rfl (lv_at hl 0 rfl) ?_
      refine va_get (D := D) (ci := 9) (v := .ref e0) (C := RX8) (T := TX8) (N := 9) hx hb hts hin_X8 hown hK hP 0 g0 rfl 4 (by decide) fl_40 (fun _ h9 => h9) rfl dX8_count_162 ?_
      refine va_get (D := D) (ci := 3) (v := .int (nI pp)) (C := RX2) (T := TX2) (N := 4) hx hb hts hin_X2 hown hK hP 20 g20 rfl 2 (by decide) fl_262 (fun _ h9 => h9) rfl dX8_count_165 ?_
      refine lv_goto (tgt := 196) hx hb dX8_count_168 (by decide) ?_
      exact CI.ret (v := (nI pp)) C hK hP hD hS rfl (⟨_, _, (by first | (rw [cntR_out c_1]; done) | exact cntR_at (by decide) (by simp) rfl), sm, g1, g3⟩) hc0 hs0 dX8_count_196
    · refine lv_tableIn (off := 170) (tgt := 171) hx hb dX8_count_1 (by decide) (by decide) (by decide) (by decide) ?_
      refine lv_aload_n hx hb dX8_count_171 rfl (lv_at hl 0 rfl) ?_
      refine va_get (D := D) (ci := 9) (v := .ref e0) (C := RX8) (T := TX8) (N := 9) hx hb hts hin_X8 hown hK hP 0 g0 rfl 4 (by decide) fl_40 (fun _ h9 => h9) rfl dX8_count_172 ?_
      refine va_get (D := D) (ci := 3) (v := .int (nI qq)) (C := RX2) (T := TX2) (N := 4) hx hb hts hin_X2 hown hK hP 20 g20 rfl 3 (by decide) fl_265 (fun _ h9 => h9) rfl dX8_count_175 ?_
      refine lv_goto (tgt := 196) hx hb dX8_count_178 (by decide) ?_
      exact CI.ret (v := (nI qq)) C hK hP hD hS rfl (⟨_, _, (by first | (rw [cntR_out c_1]; done) | exact cntR_at (by decide) (by simp) rfl), sm, g1, g3⟩) hc0 hs0 dX8_count_196
    · refine lv_tableIn (off := 180) (tgt := 181) hx hb dX8_count_1 (by decide) (by decide) (by decide) (by decide) ?_
      refine lv_aload_n hx hb dX8_count_181 rfl (lv_at hl 0 rfl) ?_
      refine va_get (D := D) (ci := 9) (v := .int (nI so)) (C := RX8) (T := TX8) (N := 9) hx hb hts hin_X8 hown hK hP 0 g0 rfl 7 (by decide) fl_55 (fun _ h9 => h9) rfl dX8_count_182 ?_
      refine lv_goto (tgt := 196) hx hb dX8_count_185 (by decide) ?_
      exact CI.ret (v := (nI so)) C hK hP hD hS rfl (⟨_, _, (by first | (rw [cntR_out c_1]; done) | exact cntR_at (by decide) (by simp) rfl), sm, g1, g3⟩) hc0 hs0 dX8_count_196
    · refine lv_tableIn (off := 187) (tgt := 188) hx hb dX8_count_1 (by decide) (by decide) (by decide) (by decide) ?_
      refine lv_aload_n hx hb dX8_count_188 rfl (lv_at hl 0 rfl) ?_
      refine va_get (D := D) (ci := 9) (v := .int (nI wi)) (C := RX8) (T := TX8) (N := 9) hx hb hts hin_X8 hown hK hP 0 g0 rfl 8 (by decide) fl_59 (fun _ h9 => h9) rfl dX8_count_189 ?_
      refine lv_goto (tgt := 196) hx hb dX8_count_192 (by decide) ?_
      exact CI.ret (v := (nI wi)) C hK hP hD hS rfl (⟨_, _, (by first | (rw [cntR_out c_1]; done) | exact cntR_at (by decide) (by simp) rfl), sm, g1, g3⟩) hc0 hs0 dX8_count_196
