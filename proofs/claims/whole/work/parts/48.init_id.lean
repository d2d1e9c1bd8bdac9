set_option maxHeartbeats 4000000 in
set_option maxRecDepth 100000 in
theorem c_X9_init {D : va_G} {cB cI cJ cO : ClassId} {l : Launch} {m0 : Nat} {ws : va_W} (g33 : ws[33]? = some (m0, .inr (10, [.int (nI 0), .null, .null, .int (nI 0), .int (nI 0), .null, .null, .null, .int (nI 0), .int (nI 0), .int (nI 0), .int (nI 0), .null, .int (nI 0), .null, .null, .null, .int (nI 0), .int (nI 0), .int (nI 0), .null, .null, .null, .null, .null, .int (nI 0), .null, .int (nI 0), .int (nI 0), .int (nI 0), .int (nI 0), .null]))) (hlen : ws.length = 34) : CV D (TY cB cI cJ cO) l yX9_init wsX9_init ({ frames := 1, cells := 16, slots := 109446, locals := 12 }) [.ref m0] ws (fun ws' => ∃ b1 : Nat, ∃ b2 : Nat, ∃ b5 : Nat, ∃ b6 : Nat, ∃ b7 : Nat, ∃ b12 : Nat, ∃ b14 : Nat, ∃ b15 : Nat, ∃ b16 : Nat, ∃ b20 : Nat, ∃ b21 : Nat, ∃ b22 : Nat, ∃ b23 : Nat, ∃ b24 : Nat, ∃ b26 : Nat, ∃ b31 : Nat, ∃ ta : Nat → Nat, (∀ k, k < 64 → ta k = 1) ∧ (ws'.length = 50) ∧ Sm (fun k => k = 33) ws ws' ∧ ws'[33]? = some (m0, .inr (10, [.int (nI 0), .ref b1, .ref b2, .int (nI 0), .int (nI 0), .ref b5, .ref b6, .ref b7, .int (nI 0), .int (nI 0), .int (nI 0), .int (nI 4), .ref b12, .int (nI 0), .ref b14, .ref b15, .ref b16, .int (nI 0), .int (nI 0), .int (nI 0), .ref b20, .ref b21, .ref b22, .ref b23, .ref b24, .int (nI 0), .ref b26, .int (nI 16), .int (nI 4), .int (nI 1), .int (nI 2), .ref b31])) ∧ ws'[34]? = some (b1, .inl (cB, 800, .inl (fun _ => 0))) ∧ ws'[35]? = some (b2, .inl (cB, 801, .inl (fun _ => 0))) ∧ ws'[36]? = some (b5, .inl (cB, 50800, .inl (fun _ => 0))) ∧ ws'[37]? = some (b6, .inl (cI, 6800, .inl (fun jj => nI ((fun _ => 0) jj)))) ∧ ws'[38]? = some (b7, .inl (cI, 6800, .inl (fun jj => nI ((fun _ => 0) jj)))) ∧ ws'[39]? = some (b12, .inl (cI, 801, .inl (fun jj => nI ((fun _ => 0) jj)))) ∧ ws'[40]? = some (b14, .inl (cI, 48, .inl (fun jj => nI ((fun _ => 0) jj)))) ∧ ws'[41]? = some (b15, .inl (cI, 48, .inl (fun jj => nI ((fun _ => 0) jj)))) ∧ ws'[42]? = some (b16, .inl (cI, 38400, .inl (fun jj => nI ((fun _ => 0) jj)))) ∧ ws'[43]? = some (b20, .inl (cI, 64, .inl (fun jj => nI (ta jj)))) ∧ ws'[44]? = some (b21, .inl (cI, 64, .inl (fun jj => nI ((fun _ => 0) jj)))) ∧ ws'[45]? = some (b22, .inl (cI, 300, .inl (fun jj => nI ((fun _ => 0) jj)))) ∧ ws'[46]? = some (b23, .inl (cI, 300, .inl (fun jj => nI ((fun _ => 0) jj)))) ∧ ws'[47]? = some (b24, .inl (cI, 300, .inl (fun jj => nI ((fun _ => 0) jj)))) ∧ ws'[48]? = some (b26, .inl (cI, 3072, .inl (fun jj => nI ((fun _ => 0) jj)))) ∧ ws'[49]? = some (b31, .inl (cI, 48, .inl (fun jj => nI ((fun _ => 0) jj))))) := by
  refine CV.of (cc := cX9_init) (maxL := 2) (ret := none) (by decide) rfl (Nat.le_of_ble_eq_true rfl) ?_
  intro p e s m below meth c A C hK hP hD hA hS ls hl
  obtain ⟨hx, hb, hr, hml, hts, hown, hlocks, hnm⟩ := id C
  have fl_14 := hts (.fieldLink RX9 14 "TwinFinderModel" "tape" "[B") (by decide +kernel)
  have fl_21 := hts (.fieldLink RX9 21 "TwinFinderModel" "plain" "[B") (by decide +kernel)
  have fl_27 := hts (.fieldLink RX9 27 "TwinFinderModel" "size" "[I") (by decide +kernel)
  have fl_31 := hts (.fieldLink RX9 31 "TwinFinderModel" "letters" "[B") (by decide +kernel)
  have fl_34 := hts (.fieldLink RX9 34 "TwinFinderModel" "from" "[I") (by decide +kernel)
  have fl_48 := hts (.fieldLink RX9 48 "TwinFinderModel" "fresh" "[I") (by decide +kernel)
  have fl_54 := hts (.fieldLink RX9 54 "TwinFinderModel" "wide" "I") (by decide +kernel)
  have fl_75 := hts (.fieldLink RX9 75 "TwinFinderModel" "set" "[I") (by decide +kernel)
  have fl_78 := hts (.fieldLink RX9 78 "TwinFinderModel" "many" "[I") (by decide +kernel)
  have fl_81 := hts (.fieldLink RX9 81 "TwinFinderModel" "number" "[I") (by decide +kernel)
  have fl_103 := hts (.fieldLink RX9 103 "TwinFinderModel" "times" "[I") (by decide +kernel)
  have fl_106 := hts (.fieldLink RX9 106 "TwinFinderModel" "more" "[I") (by decide +kernel)
  have fl_109 := hts (.fieldLink RX9 109 "TwinFinderModel" "whose" "[I") (by decide +kernel)
  have fl_112 := hts (.fieldLink RX9 112 "TwinFinderModel" "one" "[I") (by decide +kernel)
  have fl_115 := hts (.fieldLink RX9 115 "TwinFinderModel" "other" "[I") (by decide +kernel)
  have fl_118 := hts (.fieldLink RX9 118 "TwinFinderModel" "least" "[I") (by decide +kernel)
  have fl_121 := hts (.fieldLink RX9 121 "TwinFinderModel" "bands" "I") (by decide +kernel)
  have fl_124 := hts (.fieldLink RX9 124 "TwinFinderModel" "rows" "I") (by decide +kernel)
  have fl_127 := hts (.fieldLink RX9 127 "TwinFinderModel" "p" "I") (by decide +kernel)
  have fl_130 := hts (.fieldLink RX9 130 "TwinFinderModel" "q" "I") (by decide +kernel)
  have fl_133 := hts (.fieldLink RX9 133 "TwinFinderModel" "family" "[I") (by decide +kernel)
  have hin_X9 : ∀ w ∈ u_ws RX9 TX9 32, w ∈ wsX9_init := by decide +kernel
  have hl : lv_has ls 2 [(0, .ref m0)] := hl
  have sm : Sm (fun k => k = 33) ws ws := Sm.rf
  have hc0 : (0 : Nat) ≤ 16 := by decide
  have hs0 : (0 : Nat) ≤ 109446 := by decide
  refine lv_aload_n hx hb dX9_init_0 rfl (lv_at hl 0 rfl) ?_
  refine W.objInit hx hb hown (hts (.methodLink RX9 96 objectInit) (by decide +kernel)) (hts (.instanceMethod objectInit) (by decide +kernel)) (hts _ (List.mem_of_getElem? (l := wsX9_init) (i := 3) rfl)) rfl (by rw [hml]; exact hl.1) rfl dX9_init_1 (Nat.le_of_ble_eq_true rfl) (Nat.le_of_ble_eq_true rfl) ?_
  refine W.eq (g2 := F0 m 4 ls []) rfl ?_
  refine lv_aload_n hx hb dX9_init_4 rfl (lv_at hl 0 rfl) ?_
  refine lv_sipush (v := nI 800) hx hb dX9_init_5 (by decide) ?_
  refine nx_newB hx hb (hts (.arrayClass .byte) (by decide +kernel)) hK hP hD hS hA (N' := 800) (by decide) (Nat.le_of_ble_eq_true rfl) (Nat.le_of_ble_eq_true rfl) dX9_init_8 (fun q_1 ws_2 H gq ps_3 hP hD hS => ?_)
  rw [hlen] at gq
  have g33 := ps_3.get g33
  have g34 : ws_2[34]? = some (q_1, .inl (cB, 800, .inl (fun _ => 0))) := gq
  have hlen : ws_2.length = 35 := by have h9 := ps_3.1; omega
  have sm := sm.ps ps_3
  refine W.widen (k := 1) (n := 800) (by decide) (by decide) ?_
  refine nx_putF (D := D) (ci := 10) (v := .ref q_1) (ty := .array .byte) (C := RX9) (T := TX9) (N := 32) hx hb hts hin_X9 tyX9 tyX9_ok nmX9 hown hK hP hD hS 33 g33 rfl 1 (by decide) fl_14 (fun _ h9 => h9) rfl hnm rfl (by decide +kernel) rfl rfl (Nat.le_of_ble_eq_true rfl) dX9_init_10 (fun ws_4 H locs gq up_5 hP hD hS => ?_)
  have g33 : ws_4[33]? = some (m0, .inr (10, [.int (nI 0), .ref q_1, .null, .int (nI 0), .int (nI 0), .null, .null, .null, .int (nI 0), .int (nI 0), .int (nI 0), .int (nI 0), .null, .int (nI 0), .null, .null, .null, .int (nI 0), .int (nI 0), .int (nI 0), .null, .null, .null, .null, .null, .int (nI 0), .null, .int (nI 0), .int (nI 0), .int (nI 0), .int (nI 0), .null])) := gq
  have g34 := up_5.get g34 (by decide)
  have hlen := up_5.1.trans hlen
  have sm := sm.up up_5 (by simp)
  refine lv_aload_n hx hb dX9_init_13 rfl (lv_at hl 0 rfl) ?_
  refine lv_sipush (v := nI 801) hx hb dX9_init_14 (by decide) ?_
  refine nx_newB hx hb (hts (.arrayClass .byte) (by decide +kernel)) hK hP hD hS hA (N' := 801) (by decide) (Nat.le_of_ble_eq_true rfl) (Nat.le_of_ble_eq_true rfl) dX9_init_17 (fun q_6 ws_7 H gq ps_8 hP hD hS => ?_)
  rw [hlen] at gq
  have g33 := ps_8.get g33
  have g34 := ps_8.get g34
  have g35 : ws_7[35]? = some (q_6, .inl (cB, 801, .inl (fun _ => 0))) := gq
  have hlen : ws_7.length = 36 := by have h9 := ps_8.1; omega
  have sm := sm.ps ps_8
  refine W.widen (k := 2) (n := 1601) (by decide) (by decide) ?_
  refine nx_putF (D := D) (ci := 10) (v := .ref q_6) (ty := .array .byte) (C := RX9) (T := TX9) (N := 32) hx hb hts hin_X9 tyX9 tyX9_ok nmX9 hown hK hP hD hS 33 g33 rfl 2 (by decide) fl_21 (fun _ h9 => h9) rfl hnm rfl (by decide +kernel) rfl rfl (Nat.le_of_ble_eq_true rfl) dX9_init_19 (fun ws_9 H locs gq up_10 hP hD hS => ?_)
  have g33 : ws_9[33]? = some (m0, .inr (10, [.int (nI 0), .ref q_1, .ref q_6, .int (nI 0), .int (nI 0), .null, .null, .null, .int (nI 0), .int (nI 0), .int (nI 0), .int (nI 0), .null, .int (nI 0), .null, .null, .null, .int (nI 0), .int (nI 0), .int (nI 0), .null, .null, .null, .null, .null, .int (nI 0), .null, .int (nI 0), .int (nI 0), .int (nI 0), .int (nI 0), .null])) := gq
  have g34 := up_10.get g34 (by decide)
  have g35 := up_10.get g35 (by decide)
  have hlen := up_10.1.trans hlen
  have sm := sm.up up_10 (by simp)
  refine lv_aload_n hx hb dX9_init_22 rfl (lv_at hl 0 rfl) ?_
  refine lv_ldc (v := nI 50800) hx hb hown (hts (.constant RX9 101 50800) (by decide +kernel)) dX9_init_23 ?_
  refine nx_newB hx hb (hts (.arrayClass .byte) (by decide +kernel)) hK hP hD hS hA (N' := 50800) (by decide) (Nat.le_of_ble_eq_true rfl) (Nat.le_of_ble_eq_true rfl) dX9_init_25 (fun q_11 ws_12 H gq ps_13 hP hD hS => ?_)
  rw [hlen] at gq
  have g33 := ps_13.get g33
  have g34 := ps_13.get g34
  have g35 := ps_13.get g35
  have g36 : ws_12[36]? = some (q_11, .inl (cB, 50800, .inl (fun _ => 0))) := gq
  have hlen : ws_12.length = 37 := by have h9 := ps_13.1; omega
  have sm := sm.ps ps_13
  refine W.widen (k := 3) (n := 52401) (by decide) (by decide) ?_
  refine nx_putF (D := D) (ci := 10) (v := .ref q_11) (ty := .array .byte) (C := RX9) (T := TX9) (N := 32) hx hb hts hin_X9 tyX9 tyX9_ok nmX9 hown hK hP hD hS 33 g33 rfl 5 (by decide) fl_31 (fun _ h9 => h9) rfl hnm rfl (by decide +kernel) rfl rfl (Nat.le_of_ble_eq_true rfl) dX9_init_27 (fun ws_14 H locs gq up_15 hP hD hS => ?_)
  have g33 : ws_14[33]? = some (m0, .inr (10, [.int (nI 0), .ref q_1, .ref q_6, .int (nI 0), .int (nI 0), .ref q_11, .null, .null, .int (nI 0), .int (nI 0), .int (nI 0), .int (nI 0), .null, .int (nI 0), .null, .null, .null, .int (nI 0), .int (nI 0), .int (nI 0), .null, .null, .null, .null, .null, .int (nI 0), .null, .int (nI 0), .int (nI 0), .int (nI 0), .int (nI 0), .null])) := gq
  have g34 := up_15.get g34 (by decide)
  have g35 := up_15.get g35 (by decide)
  have g36 := up_15.get g36 (by decide)
  have hlen := up_15.1.trans hlen
  have sm := sm.up up_15 (by simp)
  refine lv_aload_n hx hb dX9_init_30 rfl (lv_at hl 0 rfl) ?_
  refine lv_sipush (v := nI 6800) hx hb dX9_init_31 (by decide) ?_
  refine nx_newI hx hb (hts (.arrayClass .int) (by decide +kernel)) hK hP hD hS hA (N' := 6800) (by decide) (Nat.le_of_ble_eq_true rfl) (Nat.le_of_ble_eq_true rfl) dX9_init_34 (fun q_16 ws_17 H gq ps_18 hP hD hS => ?_)
  rw [hlen] at gq
  have g33 := ps_18.get g33
  have g34 := ps_18.get g34
  have g35 := ps_18.get g35
  have g36 := ps_18.get g36
  have g37 : ws_17[37]? = some (q_16, .inl (cI, 6800, .inl (fun jj => nI ((fun _ => 0) jj)))) := gq
  have hlen : ws_17.length = 38 := by have h9 := ps_18.1; omega
  have sm := sm.ps ps_18
  refine W.widen (k := 4) (n := 59201) (by decide) (by decide) ?_
  refine nx_putF (D := D) (ci := 10) (v := .ref q_16) (ty := .array .int) (C := RX9) (T := TX9) (N := 32) hx hb hts hin_X9 tyX9 tyX9_ok nmX9 hown hK hP hD hS 33 g33 rfl 6 (by decide) fl_34 (fun _ h9 => h9) rfl hnm rfl (by decide +kernel) rfl rfl (Nat.le_of_ble_eq_true rfl) dX9_init_36 (fun ws_19 H locs gq up_20 hP hD hS => ?_)
  have g33 : ws_19[33]? = some (m0, .inr (10, [.int (nI 0), .ref q_1, .ref q_6, .int (nI 0), .int (nI 0), .ref q_11, .ref q_16, .null, .int (nI 0), .int (nI 0), .int (nI 0), .int (nI 0), .null, .int (nI 0), .null, .null, .null, .int (nI 0), .int (nI 0), .int (nI 0), .null, .null, .null, .null, .null, .int (nI 0), .null, .int (nI 0), .int (nI 0), .int (nI 0), .int (nI 0), .null])) := gq
  have g34 := up_20.get g34 (by decide)
  have g35 := up_20.get g35 (by decide)
  have g36 := up_20.get g36 (by decide)
  have g37 := up_20.get g37 (by decide)
  have hlen := up_20.1.trans hlen
  have sm := sm.up up_20 (by simp)
  refine lv_aload_n hx hb dX9_init_39 rfl (lv_at hl 0 rfl) ?_
  refine lv_sipush (v := nI 6800) hx hb dX9_init_40 (by decide) ?_
  refine nx_newI hx hb (hts (.arrayClass .int) (by decide +kernel)) hK hP hD hS hA (N' := 6800) (by decide) (Nat.le_of_ble_eq_true rfl) (Nat.le_of_ble_eq_true rfl) dX9_init_43 (fun q_21 ws_22 H gq ps_23 hP hD hS => ?_)
  rw [hlen] at gq
  have g33 := ps_23.get g33
  have g34 := ps_23.get g34
  have g35 := ps_23.get g35
  have g36 := ps_23.get g36
  have g37 := ps_23.get g37
  have g38 : ws_22[38]? = some (q_21, .inl (cI, 6800, .inl (fun jj => nI ((fun _ => 0) jj)))) := gq
  have hlen : ws_22.length = 39 := by have h9 := ps_23.1; omega
  have sm := sm.ps ps_23
  refine W.widen (k := 5) (n := 66001) (by decide) (by decide) ?_
  refine nx_putF (D := D) (ci := 10) (v := .ref q_21) (ty := .array .int) (C := RX9) (T := TX9) (N := 32) hx hb hts hin_X9 tyX9 tyX9_ok nmX9 hown hK hP hD hS 33 g33 rfl 7 (by decide) fl_27 (fun _ h9 => h9) rfl hnm rfl (by decide +kernel) rfl rfl (Nat.le_of_ble_eq_true rfl) dX9_init_45 (fun ws_24 H locs gq up_25 hP hD hS => ?_)
  have g33 : ws_24[33]? = some (m0, .inr (10, [.int (nI 0), .ref q_1, .ref q_6, .int (nI 0), .int (nI 0), .ref q_11, .ref q_16, .ref q_21, .int (nI 0), .int (nI 0), .int (nI 0), .int (nI 0), .null, .int (nI 0), .null, .null, .null, .int (nI 0), .int (nI 0), .int (nI 0), .null, .null, .null, .null, .null, .int (nI 0), .null, .int (nI 0), .int (nI 0), .int (nI 0), .int (nI 0), .null])) := gq
  have g34 := up_25.get g34 (by decide)
  have g35 := up_25.get g35 (by decide)
  have g36 := up_25.get g36 (by decide)
  have g37 := up_25.get g37 (by decide)
  have g38 := up_25.get g38 (by decide)
  have hlen := up_25.1.trans hlen
  have sm := sm.up up_25 (by simp)
  refine lv_aload_n hx hb dX9_init_48 rfl (lv_at hl 0 rfl) ?_
  refine lv_iconst (v := nI 4) hx hb dX9_init_49 (by decide) ?_
  refine nx_put (D := D) (ci := 10) (v := .int (nI 4)) (ty := .int) (C := RX9) (T := TX9) (N := 32) hx hb hts hin_X9 tyX9 tyX9_ok nmX9 hown hK hP hD hS 33 g33 rfl 11 (by decide) fl_54 (fun _ h9 => h9) rfl (by decide +kernel) rfl rfl (Nat.le_of_ble_eq_true rfl) dX9_init_50 (fun ws_26 H locs gq up_27 hP hD hS => ?_)
  have g33 : ws_26[33]? = some (m0, .inr (10, [.int (nI 0), .ref q_1, .ref q_6, .int (nI 0), .int (nI 0), .ref q_11, .ref q_16, .ref q_21, .int (nI 0), .int (nI 0), .int (nI 0), .int (nI 4), .null, .int (nI 0), .null, .null, .null, .int (nI 0), .int (nI 0), .int (nI 0), .null, .null, .null, .null, .null, .int (nI 0), .null, .int (nI 0), .int (nI 0), .int (nI 0), .int (nI 0), .null])) := gq
  have g34 := up_27.get g34 (by decide)
  have g35 := up_27.get g35 (by decide)
  have g36 := up_27.get g36 (by decide)
  have g37 := up_27.get g37 (by decide)
  have g38 := up_27.get g38 (by decide)
  have hlen := up_27.1.trans hlen
  have sm := sm.up up_27 (by simp)
  refine lv_aload_n hx hb dX9_init_53 rfl (lv_at hl 0 rfl) ?_
  refine lv_sipush (v := nI 801) hx hb dX9_init_54 (by decide) ?_
  refine nx_newI hx hb (hts (.arrayClass .int) (by decide +kernel)) hK hP hD hS hA (N' := 801) (by decide) (Nat.le_of_ble_eq_true rfl) (Nat.le_of_ble_eq_true rfl) dX9_init_57 (fun q_28 ws_29 H gq ps_30 hP hD hS => ?_)
  rw [hlen] at gq
  have g33 := ps_30.get g33
  have g34 := ps_30.get g34
  have g35 := ps_30.get g35
  have g36 := ps_30.get g36
  have g37 := ps_30.get g37
  have g38 := ps_30.get g38
  have g39 : ws_29[39]? = some (q_28, .inl (cI, 801, .inl (fun jj => nI ((fun _ => 0) jj)))) := gq
  have hlen : ws_29.length = 40 := by have h9 := ps_30.1; omega
  have sm := sm.ps ps_30
  refine W.widen (k := 6) (n := 66802) (by decide) (by decide) ?_
  refine nx_putF (D := D) (ci := 10) (v := .ref q_28) (ty := .array .int) (C := RX9) (T := TX9) (N := 32) hx hb hts hin_X9 tyX9 tyX9_ok nmX9 hown hK hP hD hS 33 g33 rfl 12 (by decide) fl_48 (fun _ h9 => h9) rfl hnm rfl (by decide +kernel) rfl rfl (Nat.le_of_ble_eq_true rfl) dX9_init_59 (fun ws_31 H locs gq up_32 hP hD hS => ?_)
  have g33 : ws_31[33]? = some (m0, .inr (10, [.int (nI 0), .ref q_1, .ref q_6, .int (nI 0), .int (nI 0), .ref q_11, .ref q_16, .ref q_21, .int (nI 0), .int (nI 0), .int (nI 0), .int (nI 4), .ref q_28, .int (nI 0), .null, .null, .null, .int (nI 0), .int (nI 0), .int (nI 0), .null, .null, .null, .null, .null, .int (nI 0), .null, .int (nI 0), .int (nI 0), .int (nI 0), .int (nI 0), .null])) := gq
  have g34 := up_32.get g34 (by decide)
  have g35 := up_32.get g35 (by decide)
  have g36 := up_32.get g36 (by decide)
  have g37 := up_32.get g37 (by decide)
  have g38 := up_32.get g38 (by decide)
  have g39 := up_32.get g39 (by decide)
  have hlen := up_32.1.trans hlen
  have sm := sm.up up_32 (by simp)
  refine lv_aload_n hx hb dX9_init_62 rfl (lv_at hl 0 rfl) ?_
  refine lv_bipush (v := nI 48) hx hb dX9_init_63 (by decide) ?_
  refine nx_newI hx hb (hts (.arrayClass .int) (by decide +kernel)) hK hP hD hS hA (N' := 48) (by decide) (Nat.le_of_ble_eq_true rfl) (Nat.le_of_ble_eq_true rfl) dX9_init_65 (fun q_33 ws_34 H gq ps_35 hP hD hS => ?_)
  rw [hlen] at gq
  have g33 := ps_35.get g33
  have g34 := ps_35.get g34
  have g35 := ps_35.get g35
  have g36 := ps_35.get g36
  have g37 := ps_35.get g37
  have g38 := ps_35.get g38
  have g39 := ps_35.get g39
  have g40 : ws_34[40]? = some (q_33, .inl (cI, 48, .inl (fun jj => nI ((fun _ => 0) jj)))) := gq
  have hlen : ws_34.length = 41 := by have h9 := ps_35.1; omega
  have sm := sm.ps ps_35
  refine W.widen (k := 7) (n := 66850) (by decide) (by decide) ?_
  refine nx_putF (D := D) (ci := 10) (v := .ref q_33) (ty := .array .int) (C := RX9) (T := TX9) (N := 32) hx hb hts hin_X9 tyX9 tyX9_ok nmX9 hown hK hP hD hS 33 g33 rfl 14 (by decide) fl_81 (fun _ h9 => h9) rfl hnm rfl (by decide +kernel) rfl rfl (Nat.le_of_ble_eq_true rfl) dX9_init_67 (fun ws_36 H locs gq up_37 hP hD hS => ?_)
  have g33 : ws_36[33]? = some (m0, .inr (10, [.int (nI 0), .ref q_1, .ref q_6, .int (nI 0), .int (nI 0), .ref q_11, .ref q_16, .ref q_21, .int (nI 0), .int (nI 0), .int (nI 0), .int (nI 4), .ref q_28, .int (nI 0), .ref q_33, .null, .null, .int (nI 0), .int (nI 0), .int (nI 0), .null, .null, .null, .null, .null, .int (nI 0), .null, .int (nI 0), .int (nI 0), .int (nI 0), .int (nI 0), .null])) := gq
  have g34 := up_37.get g34 (by decide)
  have g35 := up_37.get g35 (by decide)
  have g36 := up_37.get g36 (by decide)
  have g37 := up_37.get g37 (by decide)
  have g38 := up_37.get g38 (by decide)
  have g39 := up_37.get g39 (by decide)
  have g40 := up_37.get g40 (by decide)
  have hlen := up_37.1.trans hlen
  have sm := sm.up up_37 (by simp)
  refine lv_aload_n hx hb dX9_init_70 rfl (lv_at hl 0 rfl) ?_
  refine lv_bipush (v := nI 48) hx hb dX9_init_71 (by decide) ?_
  refine nx_newI hx hb (hts (.arrayClass .int) (by decide +kernel)) hK hP hD hS hA (N' := 48) (by decide) (Nat.le_of_ble_eq_true rfl) (Nat.le_of_ble_eq_true rfl) dX9_init_73 (fun q_38 ws_39 H gq ps_40 hP hD hS => ?_)
  rw [hlen] at gq
  have g33 := ps_40.get g33
  have g34 := ps_40.get g34
  have g35 := ps_40.get g35
  have g36 := ps_40.get g36
  have g37 := ps_40.get g37
  have g38 := ps_40.get g38
  have g39 := ps_40.get g39
  have g40 := ps_40.get g40
  have g41 : ws_39[41]? = some (q_38, .inl (cI, 48, .inl (fun jj => nI ((fun _ => 0) jj)))) := gq
  have hlen : ws_39.length = 42 := by have h9 := ps_40.1; omega
  have sm := sm.ps ps_40
  refine W.widen (k := 8) (n := 66898) (by decide) (by decide) ?_
  refine nx_putF (D := D) (ci := 10) (v := .ref q_38) (ty := .array .int) (C := RX9) (T := TX9) (N := 32) hx hb hts hin_X9 tyX9 tyX9_ok nmX9 hown hK hP hD hS 33 g33 rfl 15 (by decide) fl_78 (fun _ h9 => h9) rfl hnm rfl (by decide +kernel) rfl rfl (Nat.le_of_ble_eq_true rfl) dX9_init_75 (fun ws_41 H locs gq up_42 hP hD hS => ?_)
  have g33 : ws_41[33]? = some (m0, .inr (10, [.int (nI 0), .ref q_1, .ref q_6, .int (nI 0), .int (nI 0), .ref q_11, .ref q_16, .ref q_21, .int (nI 0), .int (nI 0), .int (nI 0), .int (nI 4), .ref q_28, .int (nI 0), .ref q_33, .ref q_38, .null, .int (nI 0), .int (nI 0), .int (nI 0), .null, .null, .null, .null, .null, .int (nI 0), .null, .int (nI 0), .int (nI 0), .int (nI 0), .int (nI 0), .null])) := gq
  have g34 := up_42.get g34 (by decide)
  have g35 := up_42.get g35 (by decide)
  have g36 := up_42.get g36 (by decide)
  have g37 := up_42.get g37 (by decide)
  have g38 := up_42.get g38 (by decide)
  have g39 := up_42.get g39 (by decide)
  have g40 := up_42.get g40 (by decide)
  have g41 := up_42.get g41 (by decide)
  have hlen := up_42.1.trans hlen
  have sm := sm.up up_42 (by simp)
  refine lv_aload_n hx hb dX9_init_78 rfl (lv_at hl 0 rfl) ?_
  refine lv_ldc (v := nI 38400) hx hb hown (hts (.constant RX9 102 38400) (by decide +kernel)) dX9_init_79 ?_
  refine nx_newI hx hb (hts (.arrayClass .int) (by decide +kernel)) hK hP hD hS hA (N' := 38400) (by decide) (Nat.le_of_ble_eq_true rfl) (Nat.le_of_ble_eq_true rfl) dX9_init_81 (fun q_43 ws_44 H gq ps_45 hP hD hS => ?_)
  rw [hlen] at gq
  have g33 := ps_45.get g33
  have g34 := ps_45.get g34
  have g35 := ps_45.get g35
  have g36 := ps_45.get g36
  have g37 := ps_45.get g37
  have g38 := ps_45.get g38
  have g39 := ps_45.get g39
  have g40 := ps_45.get g40
  have g41 := ps_45.get g41
  have g42 : ws_44[42]? = some (q_43, .inl (cI, 38400, .inl (fun jj => nI ((fun _ => 0) jj)))) := gq
  have hlen : ws_44.length = 43 := by have h9 := ps_45.1; omega
  have sm := sm.ps ps_45
  refine W.widen (k := 9) (n := 105298) (by decide) (by decide) ?_
  refine nx_putF (D := D) (ci := 10) (v := .ref q_43) (ty := .array .int) (C := RX9) (T := TX9) (N := 32) hx hb hts hin_X9 tyX9 tyX9_ok nmX9 hown hK hP hD hS 33 g33 rfl 16 (by decide) fl_75 (fun _ h9 => h9) rfl hnm rfl (by decide +kernel) rfl rfl (Nat.le_of_ble_eq_true rfl) dX9_init_83 (fun ws_46 H locs gq up_47 hP hD hS => ?_)
  have g33 : ws_46[33]? = some (m0, .inr (10, [.int (nI 0), .ref q_1, .ref q_6, .int (nI 0), .int (nI 0), .ref q_11, .ref q_16, .ref q_21, .int (nI 0), .int (nI 0), .int (nI 0), .int (nI 4), .ref q_28, .int (nI 0), .ref q_33, .ref q_38, .ref q_43, .int (nI 0), .int (nI 0), .int (nI 0), .null, .null, .null, .null, .null, .int (nI 0), .null, .int (nI 0), .int (nI 0), .int (nI 0), .int (nI 0), .null])) := gq
  have g34 := up_47.get g34 (by decide)
  have g35 := up_47.get g35 (by decide)
  have g36 := up_47.get g36 (by decide)
  have g37 := up_47.get g37 (by decide)
  have g38 := up_47.get g38 (by decide)
  have g39 := up_47.get g39 (by decide)
  have g40 := up_47.get g40 (by decide)
  have g41 := up_47.get g41 (by decide)
  have g42 := up_47.get g42 (by decide)
  have hlen := up_47.1.trans hlen
  have sm := sm.up up_47 (by simp)
  refine lv_aload_n hx hb dX9_init_86 rfl (lv_at hl 0 rfl) ?_
  refine lv_bipush (v := nI 64) hx hb dX9_init_87 (by decide) ?_
  refine nx_newI hx hb (hts (.arrayClass .int) (by decide +kernel)) hK hP hD hS hA (N' := 64) (by decide) (Nat.le_of_ble_eq_true rfl) (Nat.le_of_ble_eq_true rfl) dX9_init_89 (fun q_48 ws_49 H gq ps_50 hP hD hS => ?_)
  rw [hlen] at gq
  have g33 := ps_50.get g33
  have g34 := ps_50.get g34
  have g35 := ps_50.get g35
  have g36 := ps_50.get g36
  have g37 := ps_50.get g37
  have g38 := ps_50.get g38
  have g39 := ps_50.get g39
  have g40 := ps_50.get g40
  have g41 := ps_50.get g41
  have g42 := ps_50.get g42
  have g43 : ws_49[43]? = some (q_48, .inl (cI, 64, .inl (fun jj => nI ((fun _ => 0) jj)))) := gq
  have hlen : ws_49.length = 44 := by have h9 := ps_50.1; omega
  have sm := sm.ps ps_50
  refine W.widen (k := 10) (n := 105362) (by decide) (by decide) ?_
  refine nx_putF (D := D) (ci := 10) (v := .ref q_48) (ty := .array .int) (C := RX9) (T := TX9) (N := 32) hx hb hts hin_X9 tyX9 tyX9_ok nmX9 hown hK hP hD hS 33 g33 rfl 20 (by decide) fl_103 (fun _ h9 => h9) rfl hnm rfl (by decide +kernel) rfl rfl (Nat.le_of_ble_eq_true rfl) dX9_init_91 (fun ws_51 H locs gq up_52 hP hD hS => ?_)
  have g33 : ws_51[33]? = some (m0, .inr (10, [.int (nI 0), .ref q_1, .ref q_6, .int (nI 0), .int (nI 0), .ref q_11, .ref q_16, .ref q_21, .int (nI 0), .int (nI 0), .int (nI 0), .int (nI 4), .ref q_28, .int (nI 0), .ref q_33, .ref q_38, .ref q_43, .int (nI 0), .int (nI 0), .int (nI 0), .ref q_48, .null, .null, .null, .null, .int (nI 0), .null, .int (nI 0), .int (nI 0), .int (nI 0), .int (nI 0), .null])) := gq
  have g34 := up_52.get g34 (by decide)
  have g35 := up_52.get g35 (by decide)
  have g36 := up_52.get g36 (by decide)
  have g37 := up_52.get g37 (by decide)
  have g38 := up_52.get g38 (by decide)
  have g39 := up_52.get g39 (by decide)
  have g40 := up_52.get g40 (by decide)
  have g41 := up_52.get g41 (by decide)
  have g42 := up_52.get g42 (by decide)
  have g43 := up_52.get g43 (by decide)
  have hlen := up_52.1.trans hlen
  have sm := sm.up up_52 (by simp)
  refine lv_aload_n hx hb dX9_init_94 rfl (lv_at hl 0 rfl) ?_
  refine lv_bipush (v := nI 64) hx hb dX9_init_95 (by decide) ?_
  refine nx_newI hx hb (hts (.arrayClass .int) (by decide +kernel)) hK hP hD hS hA (N' := 64) (by decide) (Nat.le_of_ble_eq_true rfl) (Nat.le_of_ble_eq_true rfl) dX9_init_97 (fun q_53 ws_54 H gq ps_55 hP hD hS => ?_)
  rw [hlen] at gq
  have g33 := ps_55.get g33
  have g34 := ps_55.get g34
  have g35 := ps_55.get g35
  have g36 := ps_55.get g36
  have g37 := ps_55.get g37
  have g38 := ps_55.get g38
  have g39 := ps_55.get g39
  have g40 := ps_55.get g40
  have g41 := ps_55.get g41
  have g42 := ps_55.get g42
  have g43 := ps_55.get g43
  have g44 : ws_54[44]? = some (q_53, .inl (cI, 64, .inl (fun jj => nI ((fun _ => 0) jj)))) := gq
  have hlen : ws_54.length = 45 := by have h9 := ps_55.1; omega
  have sm := sm.ps ps_55
  refine W.widen (k := 11) (n := 105426) (by decide) (by decide) ?_
  refine nx_putF (D := D) (ci := 10) (v := .ref q_53) (ty := .array .int) (C := RX9) (T := TX9) (N := 32) hx hb hts hin_X9 tyX9 tyX9_ok nmX9 hown hK hP hD hS 33 g33 rfl 21 (by decide) fl_106 (fun _ h9 => h9) rfl hnm rfl (by decide +kernel) rfl rfl (Nat.le_of_ble_eq_true rfl) dX9_init_99 (fun ws_56 H locs gq up_57 hP hD hS => ?_)
  have g33 : ws_56[33]? = some (m0, .inr (10, [.int (nI 0), .ref q_1, .ref q_6, .int (nI 0), .int (nI 0), .ref q_11, .ref q_16, .ref q_21, .int (nI 0), .int (nI 0), .int (nI 0), .int (nI 4), .ref q_28, .int (nI 0), .ref q_33, .ref q_38, .ref q_43, .int (nI 0), .int (nI 0), .int (nI 0), .ref q_48, .ref q_53, .null, .null, .null, .int (nI 0), .null, .int (nI 0), .int (nI 0), .int (nI 0), .int (nI 0), .null])) := gq
  have g34 := up_57.get g34 (by decide)
  have g35 := up_57.get g35 (by decide)
  have g36 := up_57.get g36 (by decide)
  have g37 := up_57.get g37 (by decide)
  have g38 := up_57.get g38 (by decide)
  have g39 := up_57.get g39 (by decide)
  have g40 := up_57.get g40 (by decide)
  have g41 := up_57.get g41 (by decide)
  have g42 := up_57.get g42 (by decide)
  have g43 := up_57.get g43 (by decide)
  have g44 := up_57.get g44 (by decide)
  have hlen := up_57.1.trans hlen
  have sm := sm.up up_57 (by simp)
  refine lv_aload_n hx hb dX9_init_102 rfl (lv_at hl 0 rfl) ?_
  refine lv_sipush (v := nI 300) hx hb dX9_init_103 (by decide) ?_
  refine nx_newI hx hb (hts (.arrayClass .int) (by decide +kernel)) hK hP hD hS hA (N' := 300) (by decide) (Nat.le_of_ble_eq_true rfl) (Nat.le_of_ble_eq_true rfl) dX9_init_106 (fun q_58 ws_59 H gq ps_60 hP hD hS => ?_)
  rw [hlen] at gq
  have g33 := ps_60.get g33
  have g34 := ps_60.get g34
  have g35 := ps_60.get g35
  have g36 := ps_60.get g36
  have g37 := ps_60.get g37
  have g38 := ps_60.get g38
  have g39 := ps_60.get g39
  have g40 := ps_60.get g40
  have g41 := ps_60.get g41
  have g42 := ps_60.get g42
  have g43 := ps_60.get g43
  have g44 := ps_60.get g44
  have g45 : ws_59[45]? = some (q_58, .inl (cI, 300, .inl (fun jj => nI ((fun _ => 0) jj)))) := gq
  have hlen : ws_59.length = 46 := by have h9 := ps_60.1; omega
  have sm := sm.ps ps_60
  refine W.widen (k := 12) (n := 105726) (by decide) (by decide) ?_
  refine nx_putF (D := D) (ci := 10) (v := .ref q_58) (ty := .array .int) (C := RX9) (T := TX9) (N := 32) hx hb hts hin_X9 tyX9 tyX9_ok nmX9 hown hK hP hD hS 33 g33 rfl 22 (by decide) fl_109 (fun _ h9 => h9) rfl hnm rfl (by decide +kernel) rfl rfl (Nat.le_of_ble_eq_true rfl) dX9_init_108 (fun ws_61 H locs gq up_62 hP hD hS => ?_)
  have g33 : ws_61[33]? = some (m0, .inr (10, [.int (nI 0), .ref q_1, .ref q_6, .int (nI 0), .int (nI 0), .ref q_11, .ref q_16, .ref q_21, .int (nI 0), .int (nI 0), .int (nI 0), .int (nI 4), .ref q_28, .int (nI 0), .ref q_33, .ref q_38, .ref q_43, .int (nI 0), .int (nI 0), .int (nI 0), .ref q_48, .ref q_53, .ref q_58, .null, .null, .int (nI 0), .null, .int (nI 0), .int (nI 0), .int (nI 0), .int (nI 0), .null])) := gq
  have g34 := up_62.get g34 (by decide)
  have g35 := up_62.get g35 (by decide)
  have g36 := up_62.get g36 (by decide)
  have g37 := up_62.get g37 (by decide)
  have g38 := up_62.get g38 (by decide)
  have g39 := up_62.get g39 (by decide)
  have g40 := up_62.get g40 (by decide)
  have g41 := up_62.get g41 (by decide)
  have g42 := up_62.get g42 (by decide)
  have g43 := up_62.get g43 (by decide)
  have g44 := up_62.get g44 (by decide)
  have g45 := up_62.get g45 (by decide)
  have hlen := up_62.1.trans hlen
  have sm := sm.up up_62 (by simp)
  refine lv_aload_n hx hb dX9_init_111 rfl (lv_at hl 0 rfl) ?_
  refine lv_sipush (v := nI 300) hx hb dX9_init_112 (by decide) ?_
  refine nx_newI hx hb (hts (.arrayClass .int) (by decide +kernel)) hK hP hD hS hA (N' := 300) (by decide) (Nat.le_of_ble_eq_true rfl) (Nat.le_of_ble_eq_true rfl) dX9_init_115 (fun q_63 ws_64 H gq ps_65 hP hD hS => ?_)
  rw [hlen] at gq
  have g33 := ps_65.get g33
  have g34 := ps_65.get g34
  have g35 := ps_65.get g35
  have g36 := ps_65.get g36
  have g37 := ps_65.get g37
  have g38 := ps_65.get g38
  have g39 := ps_65.get g39
  have g40 := ps_65.get g40
  have g41 := ps_65.get g41
  have g42 := ps_65.get g42
  have g43 := ps_65.get g43
  have g44 := ps_65.get g44
  have g45 := ps_65.get g45
  have g46 : ws_64[46]? = some (q_63, .inl (cI, 300, .inl (fun jj => nI ((fun _ => 0) jj)))) := gq
  have hlen : ws_64.length = 47 := by have h9 := ps_65.1; omega
  have sm := sm.ps ps_65
  refine W.widen (k := 13) (n := 106026) (by decide) (by decide) ?_
  refine nx_putF (D := D) (ci := 10) (v := .ref q_63) (ty := .array .int) (C := RX9) (T := TX9) (N := 32) hx hb hts hin_X9 tyX9 tyX9_ok nmX9 hown hK hP hD hS 33 g33 rfl 23 (by decide) fl_112 (fun _ h9 => h9) rfl hnm rfl (by decide +kernel) rfl rfl (Nat.le_of_ble_eq_true rfl) dX9_init_117 (fun ws_66 H locs gq up_67 hP hD hS => ?_)
  have g33 : ws_66[33]? = some (m0, .inr (10, [.int (nI 0), .ref q_1, .ref q_6, .int (nI 0), .int (nI 0), .ref q_11, .ref q_16, .ref q_21, .int (nI 0), .int (nI 0), .int (nI 0), .int (nI 4), .ref q_28, .int (nI 0), .ref q_33, .ref q_38, .ref q_43, .int (nI 0), .int (nI 0), .int (nI 0), .ref q_48, .ref q_53, .ref q_58, .ref q_63, .null, .int (nI 0), .null, .int (nI 0), .int (nI 0), .int (nI 0), .int (nI 0), .null])) := gq
  have g34 := up_67.get g34 (by decide)
  have g35 := up_67.get g35 (by decide)
  have g36 := up_67.get g36 (by decide)
  have g37 := up_67.get g37 (by decide)
  have g38 := up_67.get g38 (by decide)
  have g39 := up_67.get g39 (by decide)
  have g40 := up_67.get g40 (by decide)
  have g41 := up_67.get g41 (by decide)
  have g42 := up_67.get g42 (by decide)
  have g43 := up_67.get g43 (by decide)
  have g44 := up_67.get g44 (by decide)
  have g45 := up_67.get g45 (by decide)
  have g46 := up_67.get g46 (by decide)
  have hlen := up_67.1.trans hlen
  have sm := sm.up up_67 (by simp)
  refine lv_aload_n hx hb dX9_init_120 rfl (lv_at hl 0 rfl) ?_
  refine lv_sipush (v := nI 300) hx hb dX9_init_121 (by decide) ?_
  refine nx_newI hx hb (hts (.arrayClass .int) (by decide +kernel)) hK hP hD hS hA (N' := 300) (by decide) (Nat.le_of_ble_eq_true rfl) (Nat.le_of_ble_eq_true rfl) dX9_init_124 (fun q_68 ws_69 H gq ps_70 hP hD hS => ?_)
  rw [hlen] at gq
  have g33 := ps_70.get g33
  have g34 := ps_70.get g34
  have g35 := ps_70.get g35
  have g36 := ps_70.get g36
  have g37 := ps_70.get g37
  have g38 := ps_70.get g38
  have g39 := ps_70.get g39
  have g40 := ps_70.get g40
  have g41 := ps_70.get g41
  have g42 := ps_70.get g42
  have g43 := ps_70.get g43
  have g44 := ps_70.get g44
  have g45 := ps_70.get g45
  have g46 := ps_70.get g46
  have g47 : ws_69[47]? = some (q_68, .inl (cI, 300, .inl (fun jj => nI ((fun _ => 0) jj)))) := gq
  have hlen : ws_69.length = 48 := by have h9 := ps_70.1; omega
  have sm := sm.ps ps_70
  refine W.widen (k := 14) (n := 106326) (by decide) (by decide) ?_
  refine nx_putF (D := D) (ci := 10) (v := .ref q_68) (ty := .array .int) (C := RX9) (T := TX9) (N := 32) hx hb hts hin_X9 tyX9 tyX9_ok nmX9 hown hK hP hD hS 33 g33 rfl 24 (by decide) fl_115 (fun _ h9 => h9) rfl hnm rfl (by decide +kernel) rfl rfl (Nat.le_of_ble_eq_true rfl) dX9_init_126 (fun ws_71 H locs gq up_72 hP hD hS => ?_)
  have g33 : ws_71[33]? = some (m0, .inr (10, [.int (nI 0), .ref q_1, .ref q_6, .int (nI 0), .int (nI 0), .ref q_11, .ref q_16, .ref q_21, .int (nI 0), .int (nI 0), .int (nI 0), .int (nI 4), .ref q_28, .int (nI 0), .ref q_33, .ref q_38, .ref q_43, .int (nI 0), .int (nI 0), .int (nI 0), .ref q_48, .ref q_53, .ref q_58, .ref q_63, .ref q_68, .int (nI 0), .null, .int (nI 0), .int (nI 0), .int (nI 0), .int (nI 0), .null])) := gq
  have g34 := up_72.get g34 (by decide)
  have g35 := up_72.get g35 (by decide)
  have g36 := up_72.get g36 (by decide)
  have g37 := up_72.get g37 (by decide)
  have g38 := up_72.get g38 (by decide)
  have g39 := up_72.get g39 (by decide)
  have g40 := up_72.get g40 (by decide)
  have g41 := up_72.get g41 (by decide)
  have g42 := up_72.get g42 (by decide)
  have g43 := up_72.get g43 (by decide)
  have g44 := up_72.get g44 (by decide)
  have g45 := up_72.get g45 (by decide)
  have g46 := up_72.get g46 (by decide)
  have g47 := up_72.get g47 (by decide)
  have hlen := up_72.1.trans hlen
  have sm := sm.up up_72 (by simp)
  refine lv_aload_n hx hb dX9_init_129 rfl (lv_at hl 0 rfl) ?_
  refine lv_sipush (v := nI 3072) hx hb dX9_init_130 (by decide) ?_
  refine nx_newI hx hb (hts (.arrayClass .int) (by decide +kernel)) hK hP hD hS hA (N' := 3072) (by decide) (Nat.le_of_ble_eq_true rfl) (Nat.le_of_ble_eq_true rfl) dX9_init_133 (fun q_73 ws_74 H gq ps_75 hP hD hS => ?_)
  rw [hlen] at gq
  have g33 := ps_75.get g33
  have g34 := ps_75.get g34
  have g35 := ps_75.get g35
  have g36 := ps_75.get g36
  have g37 := ps_75.get g37
  have g38 := ps_75.get g38
  have g39 := ps_75.get g39
  have g40 := ps_75.get g40
  have g41 := ps_75.get g41
  have g42 := ps_75.get g42
  have g43 := ps_75.get g43
  have g44 := ps_75.get g44
  have g45 := ps_75.get g45
  have g46 := ps_75.get g46
  have g47 := ps_75.get g47
  have g48 : ws_74[48]? = some (q_73, .inl (cI, 3072, .inl (fun jj => nI ((fun _ => 0) jj)))) := gq
  have hlen : ws_74.length = 49 := by have h9 := ps_75.1; omega
  have sm := sm.ps ps_75
  refine W.widen (k := 15) (n := 109398) (by decide) (by decide) ?_
  refine nx_putF (D := D) (ci := 10) (v := .ref q_73) (ty := .array .int) (C := RX9) (T := TX9) (N := 32) hx hb hts hin_X9 tyX9 tyX9_ok nmX9 hown hK hP hD hS 33 g33 rfl 26 (by decide) fl_118 (fun _ h9 => h9) rfl hnm rfl (by decide +kernel) rfl rfl (Nat.le_of_ble_eq_true rfl) dX9_init_135 (fun ws_76 H locs gq up_77 hP hD hS => ?_)
  have g33 : ws_76[33]? = some (m0, .inr (10, [.int (nI 0), .ref q_1, .ref q_6, .int (nI 0), .int (nI 0), .ref q_11, .ref q_16, .ref q_21, .int (nI 0), .int (nI 0), .int (nI 0), .int (nI 4), .ref q_28, .int (nI 0), .ref q_33, .ref q_38, .ref q_43, .int (nI 0), .int (nI 0), .int (nI 0), .ref q_48, .ref q_53, .ref q_58, .ref q_63, .ref q_68, .int (nI 0), .ref q_73, .int (nI 0), .int (nI 0), .int (nI 0), .int (nI 0), .null])) := gq
  have g34 := up_77.get g34 (by decide)
  have g35 := up_77.get g35 (by decide)
  have g36 := up_77.get g36 (by decide)
  have g37 := up_77.get g37 (by decide)
  have g38 := up_77.get g38 (by decide)
  have g39 := up_77.get g39 (by decide)
  have g40 := up_77.get g40 (by decide)
  have g41 := up_77.get g41 (by decide)
  have g42 := up_77.get g42 (by decide)
  have g43 := up_77.get g43 (by decide)
  have g44 := up_77.get g44 (by decide)
  have g45 := up_77.get g45 (by decide)
  have g46 := up_77.get g46 (by decide)
  have g47 := up_77.get g47 (by decide)
  have g48 := up_77.get g48 (by decide)
  have hlen := up_77.1.trans hlen
  have sm := sm.up up_77 (by simp)
  refine lv_aload_n hx hb dX9_init_138 rfl (lv_at hl 0 rfl) ?_
  refine lv_bipush (v := nI 16) hx hb dX9_init_139 (by decide) ?_
  refine nx_put (D := D) (ci := 10) (v := .int (nI 16)) (ty := .int) (C := RX9) (T := TX9) (N := 32) hx hb hts hin_X9 tyX9 tyX9_ok nmX9 hown hK hP hD hS 33 g33 rfl 27 (by decide) fl_121 (fun _ h9 => h9) rfl (by decide +kernel) rfl rfl (Nat.le_of_ble_eq_true rfl) dX9_init_141 (fun ws_78 H locs gq up_79 hP hD hS => ?_)
  have g33 : ws_78[33]? = some (m0, .inr (10, [.int (nI 0), .ref q_1, .ref q_6, .int (nI 0), .int (nI 0), .ref q_11, .ref q_16, .ref q_21, .int (nI 0), .int (nI 0), .int (nI 0), .int (nI 4), .ref q_28, .int (nI 0), .ref q_33, .ref q_38, .ref q_43, .int (nI 0), .int (nI 0), .int (nI 0), .ref q_48, .ref q_53, .ref q_58, .ref q_63, .ref q_68, .int (nI 0), .ref q_73, .int (nI 16), .int (nI 0), .int (nI 0), .int (nI 0), .null])) := gq
  have g34 := up_79.get g34 (by decide)
  have g35 := up_79.get g35 (by decide)
  have g36 := up_79.get g36 (by decide)
  have g37 := up_79.get g37 (by decide)
  have g38 := up_79.get g38 (by decide)
  have g39 := up_79.get g39 (by decide)
  have g40 := up_79.get g40 (by decide)
  have g41 := up_79.get g41 (by decide)
  have g42 := up_79.get g42 (by decide)
  have g43 := up_79.get g43 (by decide)
  have g44 := up_79.get g44 (by decide)
  have g45 := up_79.get g45 (by decide)
  have g46 := up_79.get g46 (by decide)
  have g47 := up_79.get g47 (by decide)
  have g48 := up_79.get g48 (by decide)
  have hlen := up_79.1.trans hlen
  have sm := sm.up up_79 (by simp)
  refine lv_aload_n hx hb dX9_init_144 rfl (lv_at hl 0 rfl) ?_
  refine lv_iconst (v := nI 4) hx hb dX9_init_145 (by decide) ?_
  refine nx_put (D := D) (ci := 10) (v := .int (nI 4)) (ty := .int) (C := RX9) (T := TX9) (N := 32) hx hb hts hin_X9 tyX9 tyX9_ok nmX9 hown hK hP hD hS 33 g33 rfl 28 (by decide) fl_124 (fun _ h9 => h9) rfl (by decide +kernel) rfl rfl (Nat.le_of_ble_eq_true rfl) dX9_init_146 (fun ws_80 H locs gq up_81 hP hD hS => ?_)
  have g33 : ws_80[33]? = some (m0, .inr (10, [.int (nI 0), .ref q_1, .ref q_6, .int (nI 0), .int (nI 0), .ref q_11, .ref q_16, .ref q_21, .int (nI 0), .int (nI 0), .int (nI 0), .int (nI 4), .ref q_28, .int (nI 0), .ref q_33, .ref q_38, .ref q_43, .int (nI 0), .int (nI 0), .int (nI 0), .ref q_48, .ref q_53, .ref q_58, .ref q_63, .ref q_68, .int (nI 0), .ref q_73, .int (nI 16), .int (nI 4), .int (nI 0), .int (nI 0), .null])) := gq
  have g34 := up_81.get g34 (by decide)
  have g35 := up_81.get g35 (by decide)
  have g36 := up_81.get g36 (by decide)
  have g37 := up_81.get g37 (by decide)
  have g38 := up_81.get g38 (by decide)
  have g39 := up_81.get g39 (by decide)
  have g40 := up_81.get g40 (by decide)
  have g41 := up_81.get g41 (by decide)
  have g42 := up_81.get g42 (by decide)
  have g43 := up_81.get g43 (by decide)
  have g44 := up_81.get g44 (by decide)
  have g45 := up_81.get g45 (by decide)
  have g46 := up_81.get g46 (by decide)
  have g47 := up_81.get g47 (by decide)
  have g48 := up_81.get g48 (by decide)
  have hlen := up_81.1.trans hlen
  have sm := sm.up up_81 (by simp)
  refine lv_aload_n hx hb dX9_init_149 rfl (lv_at hl 0 rfl) ?_
  refine lv_iconst (v := nI 1) hx hb dX9_init_150 (by decide) ?_
  refine nx_put (D := D) (ci := 10) (v := .int (nI 1)) (ty := .int) (C := RX9) (T := TX9) (N := 32) hx hb hts hin_X9 tyX9 tyX9_ok nmX9 hown hK hP hD hS 33 g33 rfl 29 (by decide) fl_127 (fun _ h9 => h9) rfl (by decide +kernel) rfl rfl (Nat.le_of_ble_eq_true rfl) dX9_init_151 (fun ws_82 H locs gq up_83 hP hD hS => ?_)
  have g33 : ws_82[33]? = some (m0, .inr (10, [.int (nI 0), .ref q_1, .ref q_6, .int (nI 0), .int (nI 0), .ref q_11, .ref q_16, .ref q_21, .int (nI 0), .int (nI 0), .int (nI 0), .int (nI 4), .ref q_28, .int (nI 0), .ref q_33, .ref q_38, .ref q_43, .int (nI 0), .int (nI 0), .int (nI 0), .ref q_48, .ref q_53, .ref q_58, .ref q_63, .ref q_68, .int (nI 0), .ref q_73, .int (nI 16), .int (nI 4), .int (nI 1), .int (nI 0), .null])) := gq
  have g34 := up_83.get g34 (by decide)
  have g35 := up_83.get g35 (by decide)
  have g36 := up_83.get g36 (by decide)
  have g37 := up_83.get g37 (by decide)
  have g38 := up_83.get g38 (by decide)
  have g39 := up_83.get g39 (by decide)
  have g40 := up_83.get g40 (by decide)
  have g41 := up_83.get g41 (by decide)
  have g42 := up_83.get g42 (by decide)
  have g43 := up_83.get g43 (by decide)
  have g44 := up_83.get g44 (by decide)
  have g45 := up_83.get g45 (by decide)
  have g46 := up_83.get g46 (by decide)
  have g47 := up_83.get g47 (by decide)
  have g48 := up_83.get g48 (by decide)
  have hlen := up_83.1.trans hlen
  have sm := sm.up up_83 (by simp)
  refine lv_aload_n hx hb dX9_init_154 rfl (lv_at hl 0 rfl) ?_
  refine lv_iconst (v := nI 2) hx hb dX9_init_155 (by decide) ?_
  refine nx_put (D := D) (ci := 10) (v := .int (nI 2)) (ty := .int) (C := RX9) (T := TX9) (N := 32) hx hb hts hin_X9 tyX9 tyX9_ok nmX9 hown hK hP hD hS 33 g33 rfl 30 (by decide) fl_130 (fun _ h9 => h9) rfl (by decide +kernel) rfl rfl (Nat.le_of_ble_eq_true rfl) dX9_init_156 (fun ws_84 H locs gq up_85 hP hD hS => ?_)
  have g33 : ws_84[33]? = some (m0, .inr (10, [.int (nI 0), .ref q_1, .ref q_6, .int (nI 0), .int (nI 0), .ref q_11, .ref q_16, .ref q_21, .int (nI 0), .int (nI 0), .int (nI 0), .int (nI 4), .ref q_28, .int (nI 0), .ref q_33, .ref q_38, .ref q_43, .int (nI 0), .int (nI 0), .int (nI 0), .ref q_48, .ref q_53, .ref q_58, .ref q_63, .ref q_68, .int (nI 0), .ref q_73, .int (nI 16), .int (nI 4), .int (nI 1), .int (nI 2), .null])) := gq
  have g34 := up_85.get g34 (by decide)
  have g35 := up_85.get g35 (by decide)
  have g36 := up_85.get g36 (by decide)
  have g37 := up_85.get g37 (by decide)
  have g38 := up_85.get g38 (by decide)
  have g39 := up_85.get g39 (by decide)
  have g40 := up_85.get g40 (by decide)
  have g41 := up_85.get g41 (by decide)
  have g42 := up_85.get g42 (by decide)
  have g43 := up_85.get g43 (by decide)
  have g44 := up_85.get g44 (by decide)
  have g45 := up_85.get g45 (by decide)
  have g46 := up_85.get g46 (by decide)
  have g47 := up_85.get g47 (by decide)
  have g48 := up_85.get g48 (by decide)
  have hlen := up_85.1.trans hlen
  have sm := sm.up up_85 (by simp)
  refine lv_aload_n hx hb dX9_init_159 rfl (lv_at hl 0 rfl) ?_
  refine lv_bipush (v := nI 48) hx hb dX9_init_160 (by decide) ?_
  refine nx_newI hx hb (hts (.arrayClass .int) (by decide +kernel)) hK hP hD hS hA (N' := 48) (by decide) (Nat.le_of_ble_eq_true rfl) (Nat.le_of_ble_eq_true rfl) dX9_init_162 (fun q_86 ws_87 H gq ps_88 hP hD hS => ?_)
  rw [hlen] at gq
  have g33 := ps_88.get g33
  have g34 := ps_88.get g34
  have g35 := ps_88.get g35
  have g36 := ps_88.get g36
  have g37 := ps_88.get g37
  have g38 := ps_88.get g38
  have g39 := ps_88.get g39
  have g40 := ps_88.get g40
  have g41 := ps_88.get g41
  have g42 := ps_88.get g42
  have g43 := ps_88.get g43
  have g44 := ps_88.get g44
  have g45 := ps_88.get g45
  have g46 := ps_88.get g46
  have g47 := ps_88.get g47
  have g48 := ps_88.get g48
  have g49 : ws_87[49]? = some (q_86, .inl (cI, 48, .inl (fun jj => nI ((fun _ => 0) jj)))) := gq
  have hlen : ws_87.length = 50 := by have h9 := ps_88.1; omega
  have sm := sm.ps ps_88
  refine W.widen (k := 16) (n := 109446) (by decide) (by decide) ?_
  refine nx_putF (D := D) (ci := 10) (v := .ref q_86) (ty := .array .int) (C := RX9) (T := TX9) (N := 32) hx hb hts hin_X9 tyX9 tyX9_ok nmX9 hown hK hP hD hS 33 g33 rfl 31 (by decide) fl_133 (fun _ h9 => h9) rfl hnm rfl (by decide +kernel) rfl rfl (Nat.le_of_ble_eq_true rfl) dX9_init_164 (fun ws_89 H locs gq up_90 hP hD hS => ?_)
  have g33 : ws_89[33]? = some (m0, .inr (10, [.int (nI 0), .ref q_1, .ref q_6, .int (nI 0), .int (nI 0), .ref q_11, .ref q_16, .ref q_21, .int (nI 0), .int (nI 0), .int (nI 0), .int (nI 4), .ref q_28, .int (nI 0), .ref q_33, .ref q_38, .ref q_43, .int (nI 0), .int (nI 0), .int (nI 0), .ref q_48, .ref q_53, .ref q_58, .ref q_63, .ref q_68, .int (nI 0), .ref q_73, .int (nI 16), .int (nI 4), .int (nI 1), .int (nI 2), .ref q_86])) := gq
  have g34 := up_90.get g34 (by decide)
  have g35 := up_90.get g35 (by decide)
  have g36 := up_90.get g36 (by decide)
  have g37 := up_90.get g37 (by decide)
  have g38 := up_90.get g38 (by decide)
  have g39 := up_90.get g39 (by decide)
  have g40 := up_90.get g40 (by decide)
  have g41 := up_90.get g41 (by decide)
  have g42 := up_90.get g42 (by decide)
  have g43 := up_90.get g43 (by decide)
  have g44 := up_90.get g44 (by decide)
  have g45 := up_90.get g45 (by decide)
  have g46 := up_90.get g46 (by decide)
  have g47 := up_90.get g47 (by decide)
  have g48 := up_90.get g48 (by decide)
  have g49 := up_90.get g49 (by decide)
  have hlen := up_90.1.trans hlen
  have sm := sm.up up_90 (by simp)
  refine lv_iconst (v := nI 0) hx hb dX9_init_167 (by decide) ?_
  refine lv_istore_n (lv' := [(1, .int (nI 0)), (0, .ref m0)]) hx hb dX9_init_168 rfl hl (by decide) rfl (fun ls hl => ?_)
  have lp_169 : ∀ (fuel : Nat) (i : Nat) (ta1 : Nat → Nat), 64 - i < fuel → (i ≤ 64) → (∀ k, k < i → ta1 k = 1) → ∀ (ws1 : va_W) (H : Heap) (locs : List Loc) (ls : Array Slot), Sm (fun k => k = 33) ws ws1 → ws1[33]? = some (m0, .inr (10, [.int (nI 0), .ref q_1, .ref q_6, .int (nI 0), .int (nI 0), .ref q_11, .ref q_16, .ref q_21, .int (nI 0), .int (nI 0), .int (nI 0), .int (nI 4), .ref q_28, .int (nI 0), .ref q_33, .ref q_38, .ref q_43, .int (nI 0), .int (nI 0), .int (nI 0), .ref q_48, .ref q_53, .ref q_58, .ref q_63, .ref q_68, .int (nI 0), .ref q_73, .int (nI 16), .int (nI 4), .int (nI 1), .int (nI 2), .ref q_86])) → ws1[34]? = some (q_1, .inl (cB, 800, .inl (fun _ => 0))) → ws1[35]? = some (q_6, .inl (cB, 801, .inl (fun _ => 0))) → ws1[36]? = some (q_11, .inl (cB, 50800, .inl (fun _ => 0))) → ws1[37]? = some (q_16, .inl (cI, 6800, .inl (fun jj => nI ((fun _ => 0) jj)))) → ws1[38]? = some (q_21, .inl (cI, 6800, .inl (fun jj => nI ((fun _ => 0) jj)))) → ws1[39]? = some (q_28, .inl (cI, 801, .inl (fun jj => nI ((fun _ => 0) jj)))) → ws1[40]? = some (q_33, .inl (cI, 48, .inl (fun jj => nI ((fun _ => 0) jj)))) → ws1[41]? = some (q_38, .inl (cI, 48, .inl (fun jj => nI ((fun _ => 0) jj)))) → ws1[42]? = some (q_43, .inl (cI, 38400, .inl (fun jj => nI ((fun _ => 0) jj)))) → ws1[43]? = some (q_48, .inl (cI, 64, .inl (fun jj => nI (ta1 jj)))) → ws1[44]? = some (q_53, .inl (cI, 64, .inl (fun jj => nI ((fun _ => 0) jj)))) → ws1[45]? = some (q_58, .inl (cI, 300, .inl (fun jj => nI ((fun _ => 0) jj)))) → ws1[46]? = some (q_63, .inl (cI, 300, .inl (fun jj => nI ((fun _ => 0) jj)))) → ws1[47]? = some (q_68, .inl (cI, 300, .inl (fun jj => nI ((fun _ => 0) jj)))) → ws1[48]? = some (q_73, .inl (cI, 3072, .inl (fun jj => nI ((fun _ => 0) jj)))) → ws1[49]? = some (q_86, .inl (cI, 48, .inl (fun jj => nI ((fun _ => 0) jj)))) → ws1.length = 50 → va_P D vwCl ws1 H → va_D A ws1 → va_S A s.heap H locs → lv_has ls 2 [(0, .ref m0), (1, .int (nI i))] → W p l e ({ frames := 1, cells := 16, slots := 109446, locals := 12 }) s m ([.ref m0] : List Value).toArray below meth c H locs 16 109446 (ZV D (TY cB cI cJ cO) (fun ws' => ∃ b1 : Nat, ∃ b2 : Nat, ∃ b5 : Nat, ∃ b6 : Nat, ∃ b7 : Nat, ∃ b12 : Nat, ∃ b14 : Nat, ∃ b15 : Nat, ∃ b16 : Nat, ∃ b20 : Nat, ∃ b21 : Nat, ∃ b22 : Nat, ∃ b23 : Nat, ∃ b24 : Nat, ∃ b26 : Nat, ∃ b31 : Nat, ∃ ta : Nat → Nat, (∀ k, k < 64 → ta k = 1) ∧ (ws'.length = 50) ∧ Sm (fun k => k = 33) ws ws' ∧ ws'[33]? = some (m0, .inr (10, [.int (nI 0), .ref b1, .ref b2, .int (nI 0), .int (nI 0), .ref b5, .ref b6, .ref b7, .int (nI 0), .int (nI 0), .int (nI 0), .int (nI 4), .ref b12, .int (nI 0), .ref b14, .ref b15, .ref b16, .int (nI 0), .int (nI 0), .int (nI 0), .ref b20, .ref b21, .ref b22, .ref b23, .ref b24, .int (nI 0), .ref b26, .int (nI 16), .int (nI 4), .int (nI 1), .int (nI 2), .ref b31])) ∧ ws'[34]? = some (b1, .inl (cB, 800, .inl (fun _ => 0))) ∧ ws'[35]? = some (b2, .inl (cB, 801, .inl (fun _ => 0))) ∧ ws'[36]? = some (b5, .inl (cB, 50800, .inl (fun _ => 0))) ∧ ws'[37]? = some (b6, .inl (cI, 6800, .inl (fun jj => nI ((fun _ => 0) jj)))) ∧ ws'[38]? = some (b7, .inl (cI, 6800, .inl (fun jj => nI ((fun _ => 0) jj)))) ∧ ws'[39]? = some (b12, .inl (cI, 801, .inl (fun jj => nI ((fun _ => 0) jj)))) ∧ ws'[40]? = some (b14, .inl (cI, 48, .inl (fun jj => nI ((fun _ => 0) jj)))) ∧ ws'[41]? = some (b15, .inl (cI, 48, .inl (fun jj => nI ((fun _ => 0) jj)))) ∧ ws'[42]? = some (b16, .inl (cI, 38400, .inl (fun jj => nI ((fun _ => 0) jj)))) ∧ ws'[43]? = some (b20, .inl (cI, 64, .inl (fun jj => nI (ta jj)))) ∧ ws'[44]? = some (b21, .inl (cI, 64, .inl (fun jj => nI ((fun _ => 0) jj)))) ∧ ws'[45]? = some (b22, .inl (cI, 300, .inl (fun jj => nI ((fun _ => 0) jj)))) ∧ ws'[46]? = some (b23, .inl (cI, 300, .inl (fun jj => nI ((fun _ => 0) jj)))) ∧ ws'[47]? = some (b24, .inl (cI, 300, .inl (fun jj => nI ((fun _ => 0) jj)))) ∧ ws'[48]? = some (b26, .inl (cI, 3072, .inl (fun jj => nI ((fun _ => 0) jj)))) ∧ ws'[49]? = some (b31, .inl (cI, 48, .inl (fun jj => nI ((fun _ => 0) jj))))) below [.ref m0] s 16 109446 A) (F0 m 169 ls []) := by
    intro fuel
    induction fuel with
    | zero => intro i ta1 hfu; exact absurd hfu (Nat.not_lt_zero _)
    | succ fuel ih_169 =>
      intro i ta1 hfu_169 hi hta1 ws1 H locs ls sm g33 g34 g35 g36 g37 g38 g39 g40 g41 g42 g43 g44 g45 g46 g47 g48 g49 hlen hP hD hS hl
      refine lv_iload_n hx hb dX9_init_169 rfl (lv_at hl 1 rfl) ?_
      refine lv_bipush (v := nI 64) hx hb dX9_init_170 (by decide) ?_
      refine nx_icmp_ge (tgt := 188) hx hb (by omega) (by omega) dX9_init_172 (by decide) (fun c_172 => ?_) (fun c_172 => ?_)
      · exact CV.ret C hK hP hD hS (⟨_, _, _, _, _, _, _, _, _, _, _, _, _, _, _, _, _, (fun k hk => hta1 k (by omega)), hlen, sm, g33, g34, g35, g36, g37, g38, g39, g40, g41, g42, g43, g44, g45, g46, g47, g48, g49⟩) (by decide) (by decide) dX9_init_188
      · refine lv_aload_n hx hb dX9_init_175 rfl (lv_at hl 0 rfl) ?_
        refine va_get (D := D) (ci := 10) (v := .ref q_48) (C := RX9) (T := TX9) (N := 32) hx hb hts hin_X9 hown hK hP 33 g33 rfl 20 (by decide) fl_103 (fun _ h9 => h9) rfl dX9_init_176 ?_
        refine lv_iload_n hx hb dX9_init_179 rfl (lv_at hl 1 rfl) ?_
        refine lv_iconst (v := nI 1) hx hb dX9_init_180 (by decide) ?_
        refine nx_iastN hx hb hK hP hD hS 43 1 g43 rfl (k := i) (by omega) (by decide) dX9_init_181 (fun ws_91 H locs gq up_92 hP hD hS => ?_)
        have g43 : ws_91[43]? = some (q_48, .inl (cI, 64, .inl (fun jj => nI ((va_up ta1 i 1) jj)))) := gq
        have g33 := up_92.get g33 (by decide)
        have g34 := up_92.get g34 (by decide)
        have g35 := up_92.get g35 (by decide)
        have g36 := up_92.get g36 (by decide)
        have g37 := up_92.get g37 (by decide)
        have g38 := up_92.get g38 (by decide)
        have g39 := up_92.get g39 (by decide)
        have g40 := up_92.get g40 (by decide)
        have g41 := up_92.get g41 (by decide)
        have g42 := up_92.get g42 (by decide)
        have g44 := up_92.get g44 (by decide)
        have g45 := up_92.get g45 (by decide)
        have g46 := up_92.get g46 (by decide)
        have g47 := up_92.get g47 (by decide)
        have g48 := up_92.get g48 (by decide)
        have g49 := up_92.get g49 (by decide)
        have hlen := up_92.1.trans hlen
        have sm := sm.upn up_92 (by omega)
        refine lv_iinc (v := (nI (i + 1))) (lv' := [(1, .int (nI (i + 1))), (0, .ref m0)]) hx hb dX9_init_182 hl (k := 1) rfl (nx_inc _ 1) (by decide) rfl (fun ls hl => ?_)
        refine lv_goto (tgt := 169) hx hb dX9_init_185 (by decide) ?_
        exact ih_169 (i + 1) _ (by omega) (by omega) (lt_s (fun k hk => by rw [va_up_ne _ _ (by omega)]; exact hta1 k hk) (va_up_self _ _ _)) _ _ _ _ sm g33 g34 g35 g36 g37 g38 g39 g40 g41 g42 g43 g44 g45 g46 g47 g48 g49 hlen hP hD hS (lv_sub hl [1, 0] rfl)
  exact lp_169 _ 0 _ (Nat.lt_succ_self _) (Nat.zero_le _) (fun k hk => absurd hk (Nat.not_lt_zero k)) _ _ _ _ sm g33 g34 g35 g36 g37 g38 g39 g40 g41 g42 g43 g44 g45 g46 g47 g48 g49 hlen hP hD hS (lv_sub hl [1, 0] rfl)
