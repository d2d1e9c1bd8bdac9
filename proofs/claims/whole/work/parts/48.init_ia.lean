set_option maxHeartbeats 4000000 in
set_option maxRecDepth 100000 in
theorem c_X7_init {D : va_G} {cB cI cJ cO : ClassId} {l : Launch} {a1 : Nat} {ws : va_W} (g1 : ws[1]? = some (a1, .inr (8, [.null, .null, .null, .int (nI 0), .int (nI 0), .int (nI 0), .int (nI 0)]))) (hlen : ws.length = 2) : CV D (TY cB cI cJ cO) l yX7_init wsX7_init ({ frames := 1, cells := 3, slots := 2401, locals := 12 }) [.ref a1] ws (fun ws' => ∃ a2 : Nat, ∃ a3 : Nat, ∃ a4 : Nat, (ws'.length = 5) ∧ Sm (fun k => k = 1) ws ws' ∧ ws'[1]? = some (a1, .inr (8, [.ref a2, .ref a3, .ref a4, .int (nI 0), .int (nI 0), .int (nI 0), .int (nI 0)])) ∧ ws'[2]? = some (a2, .inl (cB, 800, .inl (fun _ => 0))) ∧ ws'[3]? = some (a3, .inl (cB, 800, .inl (fun _ => 0))) ∧ ws'[4]? = some (a4, .inl (cI, 801, .inl (fun jj => nI ((fun _ => 0) jj))))) := by
  refine CV.of (cc := cX7_init) (maxL := 1) (ret := none) (by decide) rfl (Nat.le_of_ble_eq_true rfl) ?_
  intro p e s m below meth c A C hK hP hD hA hS ls hl
  obtain ⟨hx, hb, hr, hml, hts, hown, hlocks, hnm⟩ := id C
  have fl_9 := hts (.fieldLink RX7 9 "TwinFinder$Tape" "bytes" "[B") (by decide +kernel)
  have fl_15 := hts (.fieldLink RX7 15 "TwinFinder$Tape" "plain" "[B") (by decide +kernel)
  have fl_18 := hts (.fieldLink RX7 18 "TwinFinder$Tape" "start" "[I") (by decide +kernel)
  have hin_X7 : ∀ w ∈ u_ws RX7 TX7 7, w ∈ wsX7_init := by decide +kernel
  have hl : lv_has ls 1 [(0, .ref a1)] := hl
  have sm : Sm (fun k => k = 1) ws ws := Sm.rf
  have hc0 : (0 : Nat) ≤ 3 := by decide
  have hs0 : (0 : Nat) ≤ 2401 := by decide
  refine lv_aload_n hx hb dX7_init_0 rfl (lv_at hl 0 rfl) ?_
  refine W.objInit hx hb hown (hts (.methodLink RX7 3 objectInit) (by decide +kernel)) (hts (.instanceMethod objectInit) (by decide +kernel)) (hts _ (List.mem_of_getElem? (l := wsX7_init) (i := 3) rfl)) rfl (by rw [hml]; exact hl.1) rfl dX7_init_1 (Nat.le_of_ble_eq_true rfl) (Nat.le_of_ble_eq_true rfl) ?_
  refine W.eq (g2 := F0 m 4 ls []) rfl ?_
  refine lv_aload_n hx hb dX7_init_4 rfl (lv_at hl 0 rfl) ?_
  refine lv_sipush (v := nI 800) hx hb dX7_init_5 (by decide) ?_
  refine nx_newB hx hb (hts (.arrayClass .byte) (by decide +kernel)) hK hP hD hS hA (N' := 800) (by decide) (Nat.le_of_ble_eq_true rfl) (Nat.le_of_ble_eq_true rfl) dX7_init_8 (fun q_1 ws_2 H gq ps_3 hP hD hS => ?_)
  rw [hlen] at gq
  have g1 := ps_3.get g1
  have g2 : ws_2[2]? = some (q_1, .inl (cB, 800, .inl (fun _ => 0))) := gq
  have hlen : ws_2.length = 3 := by have h9 := ps_3.1; omega
  have sm := sm.ps ps_3
  refine W.widen (k := 1) (n := 800) (by decide) (by decide) ?_
  refine nx_putF (D := D) (ci := 8) (v := .ref q_1) (ty := .array .byte) (C := RX7) (T := TX7) (N := 7) hx hb hts hin_X7 tyX7 tyX7_ok nmX7 hown hK hP hD hS 1 g1 rfl 0 (by decide) fl_9 (fun _ h9 => h9) rfl hnm rfl (by decide +kernel) rfl rfl (Nat.le_of_ble_eq_true rfl) dX7_init_10 (fun ws_4 H locs gq up_5 hP hD hS => ?_)
  have g1 : ws_4[1]? = some (a1, .inr (8, [.ref q_1, .null, .null, .int (nI 0), .int (nI 0), .int (nI 0), .int (nI 0)])) := gq
  have g2 := up_5.get g2 (by decide)
  have hlen := up_5.1.trans hlen
  have sm := sm.up up_5 (by simp)
  refine lv_aload_n hx hb dX7_init_13 rfl (lv_at hl 0 rfl) ?_
  refine lv_sipush (v := nI 800) hx hb dX7_init_14 (by decide) ?_
  refine nx_newB hx hb (hts (.arrayClass .byte) (by decide +kernel)) hK hP hD hS hA (N' := 800) (by decide) (Nat.le_of_ble_eq_true rfl) (Nat.le_of_ble_eq_true rfl) dX7_init_17 (fun q_6 ws_7 H gq ps_8 hP hD hS => ?_)
  rw [hlen] at gq
  have g1 := ps_8.get g1
  have g2 := ps_8.get g2
  have g3 : ws_7[3]? = some (q_6, .inl (cB, 800, .inl (fun _ => 0))) := gq
  have hlen : ws_7.length = 4 := by have h9 := ps_8.1; omega
  have sm := sm.ps ps_8
  refine W.widen (k := 2) (n := 1600) (by decide) (by decide) ?_
  refine nx_putF (D := D) (ci := 8) (v := .ref q_6) (ty := .array .byte) (C := RX7) (T := TX7) (N := 7) hx hb hts hin_X7 tyX7 tyX7_ok nmX7 hown hK hP hD hS 1 g1 rfl 1 (by decide) fl_15 (fun _ h9 => h9) rfl hnm rfl (by decide +kernel) rfl rfl (Nat.le_of_ble_eq_true rfl) dX7_init_19 (fun ws_9 H locs gq up_10 hP hD hS => ?_)
  have g1 : ws_9[1]? = some (a1, .inr (8, [.ref q_1, .ref q_6, .null, .int (nI 0), .int (nI 0), .int (nI 0), .int (nI 0)])) := gq
  have g2 := up_10.get g2 (by decide)
  have g3 := up_10.get g3 (by decide)
  have hlen := up_10.1.trans hlen
  have sm := sm.up up_10 (by simp)
  refine lv_aload_n hx hb dX7_init_22 rfl (lv_at hl 0 rfl) ?_
  refine lv_sipush (v := nI 801) hx hb dX7_init_23 (by decide) ?_
  refine nx_newI hx hb (hts (.arrayClass .int) (by decide +kernel)) hK hP hD hS hA (N' := 801) (by decide) (Nat.le_of_ble_eq_true rfl) (Nat.le_of_ble_eq_true rfl) dX7_init_26 (fun q_11 ws_12 H gq ps_13 hP hD hS => ?_)
  rw [hlen] at gq
  have g1 := ps_13.get g1
  have g2 := ps_13.get g2
  have g3 := ps_13.get g3
  have g4 : ws_12[4]? = some (q_11, .inl (cI, 801, .inl (fun jj => nI ((fun _ => 0) jj)))) := gq
  have hlen : ws_12.length = 5 := by have h9 := ps_13.1; omega
  have sm := sm.ps ps_13
  refine W.widen (k := 3) (n := 2401) (by decide) (by decide) ?_
  refine nx_putF (D := D) (ci := 8) (v := .ref q_11) (ty := .array .int) (C := RX7) (T := TX7) (N := 7) hx hb hts hin_X7 tyX7 tyX7_ok nmX7 hown hK hP hD hS 1 g1 rfl 2 (by decide) fl_18 (fun _ h9 => h9) rfl hnm rfl (by decide +kernel) rfl rfl (Nat.le_of_ble_eq_true rfl) dX7_init_28 (fun ws_14 H locs gq up_15 hP hD hS => ?_)
  have g1 : ws_14[1]? = some (a1, .inr (8, [.ref q_1, .ref q_6, .ref q_11, .int (nI 0), .int (nI 0), .int (nI 0), .int (nI 0)])) := gq
  have g2 := up_15.get g2 (by decide)
  have g3 := up_15.get g3 (by decide)
  have g4 := up_15.get g4 (by decide)
  have hlen := up_15.1.trans hlen
  have sm := sm.up up_15 (by simp)
  exact CV.ret C hK hP hD hS (⟨_, _, _, hlen, sm, g1, g2, g3, g4⟩) (by decide) (by decide) dX7_init_31
set_option maxHeartbeats 4000000 in
set_option maxRecDepth 100000 in
theorem c_X6_init {D : va_G} {cB cI cJ cO : ClassId} {l : Launch} {t0 : Nat} {ws : va_W} (g5 : ws[5]? = some (t0, .inr (7, [.null, .null, .null, .null, .int (nI 0)]))) (hlen : ws.length = 6) : CV D (TY cB cI cJ cO) l yX6_init wsX6_init ({ frames := 1, cells := 4, slots := 78385, locals := 12 }) [.ref t0] ws (fun ws' => ∃ t1 : Nat, ∃ t2 : Nat, ∃ t3 : Nat, ∃ t4 : Nat, (ws'.length = 10) ∧ Sm (fun k => k = 5) ws ws' ∧ ws'[5]? = some (t0, .inr (7, [.ref t1, .ref t2, .ref t3, .ref t4, .int (nI 0)])) ∧ ws'[6]? = some (t1, .inl (cB, 50000, .inl (fun _ => 0))) ∧ ws'[7]? = some (t2, .inl (cI, 6001, .inl (fun jj => nI ((fun _ => 0) jj)))) ∧ ws'[8]? = some (t3, .inl (cI, 6000, .inl (fun jj => nI ((fun _ => 0) jj)))) ∧ ws'[9]? = some (t4, .inl (cI, 16384, .inl (fun jj => nI ((fun _ => 0) jj))))) := by
  refine CV.of (cc := cX6_init) (maxL := 1) (ret := none) (by decide) rfl (Nat.le_of_ble_eq_true rfl) ?_
  intro p e s m below meth c A C hK hP hD hA hS ls hl
  obtain ⟨hx, hb, hr, hml, hts, hown, hlocks, hnm⟩ := id C
  have fl_10 := hts (.fieldLink RX6 10 "TwinFinder$Store" "letters" "[B") (by decide +kernel)
  have fl_16 := hts (.fieldLink RX6 16 "TwinFinder$Store" "begin" "[I") (by decide +kernel)
  have fl_20 := hts (.fieldLink RX6 20 "TwinFinder$Store" "seatOf" "[I") (by decide +kernel)
  have fl_23 := hts (.fieldLink RX6 23 "TwinFinder$Store" "seats" "[I") (by decide +kernel)
  have hin_X6 : ∀ w ∈ u_ws RX6 TX6 5, w ∈ wsX6_init := by decide +kernel
  have hl : lv_has ls 1 [(0, .ref t0)] := hl
  have sm : Sm (fun k => k = 5) ws ws := Sm.rf
  have hc0 : (0 : Nat) ≤ 4 := by decide
  have hs0 : (0 : Nat) ≤ 78385 := by decide
  refine lv_aload_n hx hb dX6_init_0 rfl (lv_at hl 0 rfl) ?_
  refine W.objInit hx hb hown (hts (.methodLink RX6 3 objectInit) (by decide +kernel)) (hts (.instanceMethod objectInit) (by decide +kernel)) (hts _ (List.mem_of_getElem? (l := wsX6_init) (i := 3) rfl)) rfl (by rw [hml]; exact hl.1) rfl dX6_init_1 (Nat.le_of_ble_eq_true rfl) (Nat.le_of_ble_eq_true rfl) ?_
  refine W.eq (g2 := F0 m 4 ls []) rfl ?_
  refine lv_aload_n hx hb dX6_init_4 rfl (lv_at hl 0 rfl) ?_
  refine lv_ldc (v := nI 50000) hx hb hown (hts (.constant RX6 9 50000) (by decide +kernel)) dX6_init_5 ?_
  refine nx_newB hx hb (hts (.arrayClass .byte) (by decide +kernel)) hK hP hD hS hA (N' := 50000) (by decide) (Nat.le_of_ble_eq_true rfl) (Nat.le_of_ble_eq_true rfl) dX6_init_7 (fun q_1 ws_2 H gq ps_3 hP hD hS => ?_)
  rw [hlen] at gq
  have g5 := ps_3.get g5
  have g6 : ws_2[6]? = some (q_1, .inl (cB, 50000, .inl (fun _ => 0))) := gq
  have hlen : ws_2.length = 7 := by have h9 := ps_3.1; omega
  have sm := sm.ps ps_3
  refine W.widen (k := 1) (n := 50000) (by decide) (by decide) ?_
  refine nx_putF (D := D) (ci := 7) (v := .ref q_1) (ty := .array .byte) (C := RX6) (T := TX6) (N := 5) hx hb hts hin_X6 tyX6 tyX6_ok nmX6 hown hK hP hD hS 5 g5 rfl 0 (by decide) fl_10 (fun _ h9 => h9) rfl hnm rfl (by decide +kernel) rfl rfl (Nat.le_of_ble_eq_true rfl) dX6_init_9 (fun ws_4 H locs gq up_5 hP hD hS => ?_)
  have g5 : ws_4[5]? = some (t0, .inr (7, [.ref q_1, .null, .null, .null, .int (nI 0)])) := gq
  have g6 := up_5.get g6 (by decide)
  have hlen := up_5.1.trans hlen
  have sm := sm.up up_5 (by simp)
  refine lv_aload_n hx hb dX6_init_12 rfl (lv_at hl 0 rfl) ?_
  refine lv_sipush (v := nI 6001) hx hb dX6_init_13 (by decide) ?_
  refine nx_newI hx hb (hts (.arrayClass .int) (by decide +kernel)) hK hP hD hS hA (N' := 6001) (by decide) (Nat.le_of_ble_eq_true rfl) (Nat.le_of_ble_eq_true rfl) dX6_init_16 (fun q_6 ws_7 H gq ps_8 hP hD hS => ?_)
  rw [hlen] at gq
  have g5 := ps_8.get g5
  have g6 := ps_8.get g6
  have g7 : ws_7[7]? = some (q_6, .inl (cI, 6001, .inl (fun jj => nI ((fun _ => 0) jj)))) := gq
  have hlen : ws_7.length = 8 := by have h9 := ps_8.1; omega
  have sm := sm.ps ps_8
  refine W.widen (k := 2) (n := 56001) (by decide) (by decide) ?_
  refine nx_putF (D := D) (ci := 7) (v := .ref q_6) (ty := .array .int) (C := RX6) (T := TX6) (N := 5) hx hb hts hin_X6 tyX6 tyX6_ok nmX6 hown hK hP hD hS 5 g5 rfl 1 (by decide) fl_16 (fun _ h9 => h9) rfl hnm rfl (by decide +kernel) rfl rfl (Nat.le_of_ble_eq_true rfl) dX6_init_18 (fun ws_9 H locs gq up_10 hP hD hS => ?_)
  have g5 : ws_9[5]? = some (t0, .inr (7, [.ref q_1, .ref q_6, .null, .null, .int (nI 0)])) := gq
  have g6 := up_10.get g6 (by decide)
  have g7 := up_10.get g7 (by decide)
  have hlen := up_10.1.trans hlen
  have sm := sm.up up_10 (by simp)
  refine lv_aload_n hx hb dX6_init_21 rfl (lv_at hl 0 rfl) ?_
  refine lv_sipush (v := nI 6000) hx hb dX6_init_22 (by decide) ?_
  refine nx_newI hx hb (hts (.arrayClass .int) (by decide +kernel)) hK hP hD hS hA (N' := 6000) (by decide) (Nat.le_of_ble_eq_true rfl) (Nat.le_of_ble_eq_true rfl) dX6_init_25 (fun q_11 ws_12 H gq ps_13 hP hD hS => ?_)
  rw [hlen] at gq
  have g5 := ps_13.get g5
  have g6 := ps_13.get g6
  have g7 := ps_13.get g7
  have g8 : ws_12[8]? = some (q_11, .inl (cI, 6000, .inl (fun jj => nI ((fun _ => 0) jj)))) := gq
  have hlen : ws_12.length = 9 := by have h9 := ps_13.1; omega
  have sm := sm.ps ps_13
  refine W.widen (k := 3) (n := 62001) (by decide) (by decide) ?_
  refine nx_putF (D := D) (ci := 7) (v := .ref q_11) (ty := .array .int) (C := RX6) (T := TX6) (N := 5) hx hb hts hin_X6 tyX6 tyX6_ok nmX6 hown hK hP hD hS 5 g5 rfl 2 (by decide) fl_20 (fun _ h9 => h9) rfl hnm rfl (by decide +kernel) rfl rfl (Nat.le_of_ble_eq_true rfl) dX6_init_27 (fun ws_14 H locs gq up_15 hP hD hS => ?_)
  have g5 : ws_14[5]? = some (t0, .inr (7, [.ref q_1, .ref q_6, .ref q_11, .null, .int (nI 0)])) := gq
  have g6 := up_15.get g6 (by decide)
  have g7 := up_15.get g7 (by decide)
  have g8 := up_15.get g8 (by decide)
  have hlen := up_15.1.trans hlen
  have sm := sm.up up_15 (by simp)
  refine lv_aload_n hx hb dX6_init_30 rfl (lv_at hl 0 rfl) ?_
  refine lv_sipush (v := nI 16384) hx hb dX6_init_31 (by decide) ?_
  refine nx_newI hx hb (hts (.arrayClass .int) (by decide +kernel)) hK hP hD hS hA (N' := 16384) (by decide) (Nat.le_of_ble_eq_true rfl) (Nat.le_of_ble_eq_true rfl) dX6_init_34 (fun q_16 ws_17 H gq ps_18 hP hD hS => ?_)
  rw [hlen] at gq
  have g5 := ps_18.get g5
  have g6 := ps_18.get g6
  have g7 := ps_18.get g7
  have g8 := ps_18.get g8
  have g9 : ws_17[9]? = some (q_16, .inl (cI, 16384, .inl (fun jj => nI ((fun _ => 0) jj)))) := gq
  have hlen : ws_17.length = 10 := by have h9 := ps_18.1; omega
  have sm := sm.ps ps_18
  refine W.widen (k := 4) (n := 78385) (by decide) (by decide) ?_
  refine nx_putF (D := D) (ci := 7) (v := .ref q_16) (ty := .array .int) (C := RX6) (T := TX6) (N := 5) hx hb hts hin_X6 tyX6 tyX6_ok nmX6 hown hK hP hD hS 5 g5 rfl 3 (by decide) fl_23 (fun _ h9 => h9) rfl hnm rfl (by decide +kernel) rfl rfl (Nat.le_of_ble_eq_true rfl) dX6_init_36 (fun ws_19 H locs gq up_20 hP hD hS => ?_)
  have g5 : ws_19[5]? = some (t0, .inr (7, [.ref q_1, .ref q_6, .ref q_11, .ref q_16, .int (nI 0)])) := gq
  have g6 := up_20.get g6 (by decide)
  have g7 := up_20.get g7 (by decide)
  have g8 := up_20.get g8 (by decide)
  have g9 := up_20.get g9 (by decide)
  have hlen := up_20.1.trans hlen
  have sm := sm.up up_20 (by simp)
  exact CV.ret C hK hP hD hS (⟨_, _, _, _, hlen, sm, g5, g6, g7, g8, g9⟩) (by decide) (by decide) dX6_init_39
set_option maxHeartbeats 4000000 in
set_option maxRecDepth 100000 in
theorem c_X2_init {D : va_G} {cB cI cJ cO : ClassId} {l : Launch} {e0 : Nat} {ws : va_W} (g20 : ws[20]? = some (e0, .inr (3, [.int (nI 0), .int (nI 0), .int (nI 0), .int (nI 0)]))) (hlen : ws.length = 21) : CV D (TY cB cI cJ cO) l yX2_init wsX2_init ({ frames := 1, cells := 0, slots := 0, locals := 12 }) [.ref e0] ws (fun ws' => (ws'.length = 21) ∧ Sm (fun k => k = 20) ws ws' ∧ ws'[20]? = some (e0, .inr (3, [.int (nI 16), .int (nI 4), .int (nI 1), .int (nI 2)]))) := by
  refine CV.of (cc := cX2_init) (maxL := 1) (ret := none) (by decide) rfl (Nat.le_of_ble_eq_true rfl) ?_
  intro p e s m below meth c A C hK hP hD hA hS ls hl
  obtain ⟨hx, hb, hr, hml, hts, hown, hlocks, hnm⟩ := id C
  have fl_9 := hts (.fieldLink RX2 9 "TwinFinder$Measure" "bandCount" "I") (by decide +kernel)
  have fl_15 := hts (.fieldLink RX2 15 "TwinFinder$Measure" "rowCount" "I") (by decide +kernel)
  have fl_18 := hts (.fieldLink RX2 18 "TwinFinder$Measure" "p" "I") (by decide +kernel)
  have fl_21 := hts (.fieldLink RX2 21 "TwinFinder$Measure" "q" "I") (by decide +kernel)
  have hin_X2 : ∀ w ∈ u_ws RX2 TX2 4, w ∈ wsX2_init := by decide +kernel
  have hl : lv_has ls 1 [(0, .ref e0)] := hl
  have sm : Sm (fun k => k = 20) ws ws := Sm.rf
  have hc0 : (0 : Nat) ≤ 0 := by decide
  have hs0 : (0 : Nat) ≤ 0 := by decide
  refine lv_aload_n hx hb dX2_init_0 rfl (lv_at hl 0 rfl) ?_
  refine W.objInit hx hb hown (hts (.methodLink RX2 3 objectInit) (by decide +kernel)) (hts (.instanceMethod objectInit) (by decide +kernel)) (hts _ (List.mem_of_getElem? (l := wsX2_init) (i := 3) rfl)) rfl (by rw [hml]; exact hl.1) rfl dX2_init_1 (Nat.le_of_ble_eq_true rfl) (Nat.le_of_ble_eq_true rfl) ?_
  refine W.eq (g2 := F0 m 4 ls []) rfl ?_
  refine lv_aload_n hx hb dX2_init_4 rfl (lv_at hl 0 rfl) ?_
  refine lv_bipush (v := nI 16) hx hb dX2_init_5 (by decide) ?_
  refine nx_put (D := D) (ci := 3) (v := .int (nI 16)) (ty := .int) (C := RX2) (T := TX2) (N := 4) hx hb hts hin_X2 tyX2 tyX2_ok nmX2 hown hK hP hD hS 20 g20 rfl 0 (by decide) fl_9 (fun _ h9 => h9) rfl (by decide +kernel) rfl rfl (Nat.le_of_ble_eq_true rfl) dX2_init_7 (fun ws_1 H locs gq up_2 hP hD hS => ?_)
  have g20 : ws_1[20]? = some (e0, .inr (3, [.int (nI 16), .int (nI 0), .int (nI 0), .int (nI 0)])) := gq
  have hlen := up_2.1.trans hlen
  have sm := sm.up up_2 (by simp)
  refine lv_aload_n hx hb dX2_init_10 rfl (lv_at hl 0 rfl) ?_
  refine lv_iconst (v := nI 4) hx hb dX2_init_11 (by decide) ?_
  refine nx_put (D := D) (ci := 3) (v := .int (nI 4)) (ty := .int) (C := RX2) (T := TX2) (N := 4) hx hb hts hin_X2 tyX2 tyX2_ok nmX2 hown hK hP hD hS 20 g20 rfl 1 (by decide) fl_15 (fun _ h9 => h9) rfl (by decide +kernel) rfl rfl (Nat.le_of_ble_eq_true rfl) dX2_init_12 (fun ws_3 H locs gq up_4 hP hD hS => ?_)
  have g20 : ws_3[20]? = some (e0, .inr (3, [.int (nI 16), .int (nI 4), .int (nI 0), .int (nI 0)])) := gq
  have hlen := up_4.1.trans hlen
  have sm := sm.up up_4 (by simp)
  refine lv_aload_n hx hb dX2_init_15 rfl (lv_at hl 0 rfl) ?_
  refine lv_iconst (v := nI 1) hx hb dX2_init_16 (by decide) ?_
  refine nx_put (D := D) (ci := 3) (v := .int (nI 1)) (ty := .int) (C := RX2) (T := TX2) (N := 4) hx hb hts hin_X2 tyX2 tyX2_ok nmX2 hown hK hP hD hS 20 g20 rfl 2 (by decide) fl_18 (fun _ h9 => h9) rfl (by decide +kernel) rfl rfl (Nat.le_of_ble_eq_true rfl) dX2_init_17 (fun ws_5 H locs gq up_6 hP hD hS => ?_)
  have g20 : ws_5[20]? = some (e0, .inr (3, [.int (nI 16), .int (nI 4), .int (nI 1), .int (nI 0)])) := gq
  have hlen := up_6.1.trans hlen
  have sm := sm.up up_6 (by simp)
  refine lv_aload_n hx hb dX2_init_20 rfl (lv_at hl 0 rfl) ?_
  refine lv_iconst (v := nI 2) hx hb dX2_init_21 (by decide) ?_
  refine nx_put (D := D) (ci := 3) (v := .int (nI 2)) (ty := .int) (C := RX2) (T := TX2) (N := 4) hx hb hts hin_X2 tyX2 tyX2_ok nmX2 hown hK hP hD hS 20 g20 rfl 3 (by decide) fl_21 (fun _ h9 => h9) rfl (by decide +kernel) rfl rfl (Nat.le_of_ble_eq_true rfl) dX2_init_22 (fun ws_7 H locs gq up_8 hP hD hS => ?_)
  have g20 : ws_7[20]? = some (e0, .inr (3, [.int (nI 16), .int (nI 4), .int (nI 1), .int (nI 2)])) := gq
  have hlen := up_8.1.trans hlen
  have sm := sm.up up_8 (by simp)
  exact CV.ret C hK hP hD hS (⟨hlen, sm, g20⟩) hc0 hs0 dX2_init_25
set_option maxHeartbeats 4000000 in
set_option maxRecDepth 100000 in
theorem c_X3_init {D : va_G} {cB cI cJ cO : ClassId} {l : Launch} {pq f0 : Nat} {ws : va_W} (gpq : ws[pq]? = some (f0, .inr (4, [.null, .null, .int (nI 0)]))) (hlen : ws.length = pq + 1) : CV D (TY cB cI cJ cO) l yX3_init wsX3_init ({ frames := 1, cells := 2, slots := 2256, locals := 12 }) [.ref f0] ws (fun ws' => ∃ f1 : Nat, ∃ f2 : Nat, (ws'.length = pq + 3) ∧ Sm (fun k => k = pq) ws ws' ∧ ws'[pq]? = some (f0, .inr (4, [.ref f1, .ref f2, .int (nI 0)])) ∧ ws'[pq + 1]? = some (f1, .inl (cI, 1128, .inl (fun jj => nI ((fun _ => 0) jj)))) ∧ ws'[pq + 2]? = some (f2, .inl (cI, 1128, .inl (fun jj => nI ((fun _ => 0) jj))))) := by
  refine CV.of (cc := cX3_init) (maxL := 1) (ret := none) (by decide) rfl (Nat.le_of_ble_eq_true rfl) ?_
  intro p e s m below meth c A C hK hP hD hA hS ls hl
  obtain ⟨hx, hb, hr, hml, hts, hown, hlocks, hnm⟩ := id C
  have fl_9 := hts (.fieldLink RX3 9 "TwinFinder$PairRow" "first" "[I") (by decide +kernel)
  have fl_15 := hts (.fieldLink RX3 15 "TwinFinder$PairRow" "second" "[I") (by decide +kernel)
  have hin_X3 : ∀ w ∈ u_ws RX3 TX3 3, w ∈ wsX3_init := by decide +kernel
  have hl : lv_has ls 1 [(0, .ref f0)] := hl
  have sm : Sm (fun k => k = pq) ws ws := Sm.rf
  have hc0 : (0 : Nat) ≤ 2 := by decide
  have hs0 : (0 : Nat) ≤ 2256 := by decide
  refine lv_aload_n hx hb dX3_init_0 rfl (lv_at hl 0 rfl) ?_
  refine W.objInit hx hb hown (hts (.methodLink RX3 3 objectInit) (by decide +kernel)) (hts (.instanceMethod objectInit) (by decide +kernel)) (hts _ (List.mem_of_getElem? (l := wsX3_init) (i := 3) rfl)) rfl (by rw [hml]; exact hl.1) rfl dX3_init_1 (Nat.le_of_ble_eq_true rfl) (Nat.le_of_ble_eq_true rfl) ?_
  refine W.eq (g2 := F0 m 4 ls []) rfl ?_
  refine lv_aload_n hx hb dX3_init_4 rfl (lv_at hl 0 rfl) ?_
  refine lv_sipush (v := nI 1128) hx hb dX3_init_5 (by decide) ?_
  refine nx_newI hx hb (hts (.arrayClass .int) (by decide +kernel)) hK hP hD hS hA (N' := 1128) (by decide) (Nat.le_of_ble_eq_true rfl) (Nat.le_of_ble_eq_true rfl) dX3_init_8 (fun q_1 ws_2 H gq ps_3 hP hD hS => ?_)
  rw [hlen] at gq
  have gpq := ps_3.get gpq
  have gpq_1 : ws_2[pq + 1]? = some (q_1, .inl (cI, 1128, .inl (fun jj => nI ((fun _ => 0) jj)))) := gq
  have hlen : ws_2.length = pq + 2 := by have h9 := ps_3.1; omega
  have sm := sm.ps ps_3
  refine W.widen (k := 1) (n := 1128) (by decide) (by decide) ?_
  refine nx_putF (D := D) (ci := 4) (v := .ref q_1) (ty := .array .int) (C := RX3) (T := TX3) (N := 3) hx hb hts hin_X3 tyX3 tyX3_ok nmX3 hown hK hP hD hS pq gpq rfl 0 (by decide) fl_9 (fun _ h9 => h9) rfl hnm rfl (by decide +kernel) rfl rfl (Nat.le_of_ble_eq_true rfl) dX3_init_10 (fun ws_4 H locs gq up_5 hP hD hS => ?_)
  have gpq : ws_4[pq]? = some (f0, .inr (4, [.ref q_1, .null, .int (nI 0)])) := gq
  have gpq_1 := up_5.get gpq_1 (by omega)
  have hlen := up_5.1.trans hlen
  have sm := sm.up up_5 (by simp)
  refine lv_aload_n hx hb dX3_init_13 rfl (lv_at hl 0 rfl) ?_
  refine lv_sipush (v := nI 1128) hx hb dX3_init_14 (by decide) ?_
  refine nx_newI hx hb (hts (.arrayClass .int) (by decide +kernel)) hK hP hD hS hA (N' := 1128) (by decide) (Nat.le_of_ble_eq_true rfl) (Nat.le_of_ble_eq_true rfl) dX3_init_17 (fun q_6 ws_7 H gq ps_8 hP hD hS => ?_)
  rw [hlen] at gq
  have gpq := ps_8.get gpq
  have gpq_1 := ps_8.get gpq_1
  have gpq_2 : ws_7[pq + 2]? = some (q_6, .inl (cI, 1128, .inl (fun jj => nI ((fun _ => 0) jj)))) := gq
  have hlen : ws_7.length = pq + 3 := by have h9 := ps_8.1; omega
  have sm := sm.ps ps_8
  refine W.widen (k := 2) (n := 2256) (by decide) (by decide) ?_
  refine nx_putF (D := D) (ci := 4) (v := .ref q_6) (ty := .array .int) (C := RX3) (T := TX3) (N := 3) hx hb hts hin_X3 tyX3 tyX3_ok nmX3 hown hK hP hD hS pq gpq rfl 1 (by decide) fl_15 (fun _ h9 => h9) rfl hnm rfl (by decide +kernel) rfl rfl (Nat.le_of_ble_eq_true rfl) dX3_init_19 (fun ws_9 H locs gq up_10 hP hD hS => ?_)
  have gpq : ws_9[pq]? = some (f0, .inr (4, [.ref q_1, .ref q_6, .int (nI 0)])) := gq
  have gpq_1 := up_10.get gpq_1 (by omega)
  have gpq_2 := up_10.get gpq_2 (by omega)
  have hlen := up_10.1.trans hlen
  have sm := sm.up up_10 (by simp)
  exact CV.ret C hK hP hD hS (⟨_, _, hlen, sm, gpq, gpq_1, gpq_2⟩) (by decide) (by decide) dX3_init_22
