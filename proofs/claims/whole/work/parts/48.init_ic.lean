set_option maxHeartbeats 4000000 in
set_option maxRecDepth 100000 in
theorem c_X1_init {D : va_G} {cB cI cJ cO : ClassId} {l : Launch} {k0 : Nat} {ws : va_W} (g21 : ws[21]? = some (k0, .inr (2, [.null, .null, .null, .null, .null, .null, .int (nI 0), .int (nI 0)]))) (hlen : ws.length = 22) : CVN D (TY cB cI cJ cO) l yX1_init wsX1_init ({ frames := 2, cells := 10, slots := 4710, locals := 32 }) [.ref k0] ws (fun ws' => ∃ k1 : Nat, ∃ k2 : Nat, ∃ k3 : Nat, ∃ k4 : Nat, ∃ k5 : Nat, ∃ k6 : Nat, ∃ k7 : Nat, ∃ k8 : Nat, ∃ k9 : Nat, ∃ k10 : Nat, (ws'.length = 32) ∧ Sm (fun k => k = 21) ws ws' ∧ ws'[21]? = some (k0, .inr (2, [.ref k1, .ref k4, .ref k7, .ref k8, .ref k9, .ref k10, .int (nI 0), .int (nI 0)])) ∧ ws'[22]? = some (k1, .inr (4, [.ref k2, .ref k3, .int (nI 0)])) ∧ ws'[23]? = some (k2, .inl (cI, 1128, .inl (fun jj => nI ((fun _ => 0) jj)))) ∧ ws'[24]? = some (k3, .inl (cI, 1128, .inl (fun jj => nI ((fun _ => 0) jj)))) ∧ ws'[25]? = some (k4, .inr (4, [.ref k5, .ref k6, .int (nI 0)])) ∧ ws'[26]? = some (k5, .inl (cI, 1128, .inl (fun jj => nI ((fun _ => 0) jj)))) ∧ ws'[27]? = some (k6, .inl (cI, 1128, .inl (fun jj => nI ((fun _ => 0) jj)))) ∧ ws'[28]? = some (k7, .inl (cI, 48, .inl (fun jj => nI ((fun _ => 0) jj)))) ∧ ws'[29]? = some (k8, .inl (cI, 48, .inl (fun jj => nI ((fun _ => 0) jj)))) ∧ ws'[30]? = some (k9, .inl (cI, 48, .inl (fun jj => nI ((fun _ => 0) jj)))) ∧ ws'[31]? = some (k10, .inl (cI, 48, .inl (fun jj => nI ((fun _ => 0) jj))))) := by
  refine CVN.of (cc := cX1_init) (maxL := 1) (ret := none) (by decide) rfl (Nat.le_of_ble_eq_true rfl) ?_
  intro p e s m below meth c A C hK hP hD hA hS hN ls hl
  obtain ⟨hx, hb, hr, hml, hts, hown, hlocks, hnm⟩ := id C
  have fl_12 := hts (.fieldLink RX1 12 "TwinFinder$Kin" "candidates" "LTwinFinder$PairRow;") (by decide +kernel)
  have fl_18 := hts (.fieldLink RX1 18 "TwinFinder$Kin" "twins" "LTwinFinder$PairRow;") (by decide +kernel)
  have fl_21 := hts (.fieldLink RX1 21 "TwinFinder$Kin" "number" "[I") (by decide +kernel)
  have fl_25 := hts (.fieldLink RX1 25 "TwinFinder$Kin" "twinCount" "[I") (by decide +kernel)
  have fl_28 := hts (.fieldLink RX1 28 "TwinFinder$Kin" "leader" "[I") (by decide +kernel)
  have fl_31 := hts (.fieldLink RX1 31 "TwinFinder$Kin" "members" "[I") (by decide +kernel)
  have hin_X1 : ∀ w ∈ u_ws RX1 TX1 8, w ∈ wsX1_init := by decide +kernel
  have hin_X3 : ∀ w ∈ u_ws RX3 TX3 3, w ∈ wsX1_init := by decide +kernel
  have hl : lv_has ls 1 [(0, .ref k0)] := hl
  have sm : Sm (fun k => k = 21) ws ws := Sm.rf
  have hc0 : (0 : Nat) ≤ 10 := by decide
  have hs0 : (0 : Nat) ≤ 4710 := by decide
  refine lv_aload_n hx hb dX1_init_0 rfl (lv_at hl 0 rfl) ?_
  refine W.objInit hx hb hown (hts (.methodLink RX1 3 objectInit) (by decide +kernel)) (hts (.instanceMethod objectInit) (by decide +kernel)) (hts _ (List.mem_of_getElem? (l := wsX1_init) (i := 3) rfl)) rfl (by rw [hml]; exact hl.1) rfl dX1_init_1 (Nat.le_of_ble_eq_true rfl) (Nat.le_of_ble_eq_true rfl) ?_
  refine W.eq (g2 := F0 m 4 ls []) rfl ?_
  refine lv_aload_n hx hb dX1_init_4 rfl (lv_at hl 0 rfl) ?_
  refine nx_new (ci := 4) (fs := [.null, .null, .int (nI 0)]) (C := RX3) (T := TX3) (N := 3) hx hb hts hin_X3 tyX3 tyX3_ok hown (hts (.classLink RX1 9 RX3) (by decide +kernel)) (hts (.instantiable RX3 3) (by decide +kernel)) (hts (.initialized RX3) (by decide +kernel)) hK hP hD hS hA rfl (fun j hj => by rcases (show j = 0 ∨ j = 1 ∨ j = 2 by omega) with rfl | rfl | rfl <;> rfl) (Nat.le_of_ble_eq_true rfl) (Nat.le_of_ble_eq_true rfl) dX1_init_5 (fun q_1 ws_2 H gq ps_3 hP hD hS => ?_)
  rw [hlen] at gq
  have g21 := ps_3.get g21
  have g22 : ws_2[22]? = some (q_1, .inr (4, [.null, .null, .int (nI 0)])) := gq
  have hlen : ws_2.length = 23 := by have h9 := ps_3.1; omega
  have sm := sm.ps ps_3
  refine W.widen (k := 1) (n := 3) (by decide) (by decide) ?_
  refine lv_dup hx hb dX1_init_8 rfl ?_
  refine CV.go (va_runIN (As := []) (rest := [.ref q_1, .ref k0]) ⟨hx, hb, hml, hown, hts⟩ (c_X3_init (pq := 22) g22 hlen _) ⟨(va_cnB 0 hts gX1_init_X3_init_n11 rfl rfl rfl hN.1 (hts (.initialized RX3) (by decide +kernel)) (by decide +kernel) ⟨Nat.le_of_ble_eq_true rfl, Nat.le_of_ble_eq_true rfl⟩), rfl, hts (.instanceMethod yX3_init) (by decide +kernel)⟩ ⟨pw_blind, fun U hU hW => pw_pre hK hP hD hU hW⟩ rfl rfl hl.1 rfl (lv_room (Nat.le_of_ble_eq_true rfl)) dX1_init_9 ⟨Nat.le_of_ble_eq_true rfl, Nat.le_of_ble_eq_true rfl⟩) hD hS hA (fun ws_5 H locs hp hP hD hS => ?_)
  obtain ⟨f1_6, f2_7, f_8, sm_9, g22, g23, g24⟩ := hp
  have g21 := sm_9.get g21 (by simp)
  have sm := sm.calln sm_9 (by intro k hk; (try simp only at hk ⊢); omega)
  have g22 : ws_5[22]? = some (q_1, .inr (4, [.ref f1_6, .ref f2_7, .int (nI 0)])) := g22
  have g23 : ws_5[23]? = some (f1_6, .inl (cI, 1128, .inl (fun jj => nI ((fun _ => 0) jj)))) := g23
  have g24 : ws_5[24]? = some (f2_7, .inl (cI, 1128, .inl (fun jj => nI ((fun _ => 0) jj)))) := g24
  have hlen : ws_5.length = 25 := f_8
  refine W.widen (k := 3) (n := 2259) (Nat.le_of_ble_eq_true rfl) (Nat.le_of_ble_eq_true rfl) ?_
  refine nx_putF (D := D) (ci := 2) (v := .ref q_1) (ty := .object "TwinFinder$PairRow") (C := RX1) (T := TX1) (N := 8) hx hb hts hin_X1 tyX1 tyX1_ok nmX1 hown hK hP hD hS 21 g21 rfl 0 (by decide) fl_12 (fun _ h9 => h9) rfl hnm rfl (by decide +kernel) rfl rfl (Nat.le_of_ble_eq_true rfl) dX1_init_12 (fun ws_10 H locs gq up_11 hP hD hS => ?_)
  have g21 : ws_10[21]? = some (k0, .inr (2, [.ref q_1, .null, .null, .null, .null, .null, .int (nI 0), .int (nI 0)])) := gq
  have g22 := up_11.get g22 (by decide)
  have g23 := up_11.get g23 (by decide)
  have g24 := up_11.get g24 (by decide)
  have hlen := up_11.1.trans hlen
  have sm := sm.up up_11 (by simp)
  refine lv_aload_n hx hb dX1_init_15 rfl (lv_at hl 0 rfl) ?_
  refine nx_new (ci := 4) (fs := [.null, .null, .int (nI 0)]) (C := RX3) (T := TX3) (N := 3) hx hb hts hin_X3 tyX3 tyX3_ok hown (hts (.classLink RX1 9 RX3) (by decide +kernel)) (hts (.instantiable RX3 3) (by decide +kernel)) (hts (.initialized RX3) (by decide +kernel)) hK hP hD hS hA rfl (fun j hj => by rcases (show j = 0 ∨ j = 1 ∨ j = 2 by omega) with rfl | rfl | rfl <;> rfl) (Nat.le_of_ble_eq_true rfl) (Nat.le_of_ble_eq_true rfl) dX1_init_16 (fun q_12 ws_13 H gq ps_14 hP hD hS => ?_)
  rw [hlen] at gq
  have g21 := ps_14.get g21
  have g22 := ps_14.get g22
  have g23 := ps_14.get g23
  have g24 := ps_14.get g24
  have g25 : ws_13[25]? = some (q_12, .inr (4, [.null, .null, .int (nI 0)])) := gq
  have hlen : ws_13.length = 26 := by have h9 := ps_14.1; omega
  have sm := sm.ps ps_14
  refine W.widen (k := 4) (n := 2262) (by decide) (by decide) ?_
  refine lv_dup hx hb dX1_init_19 rfl ?_
  refine CV.go (va_runIN (As := []) (rest := [.ref q_12, .ref k0]) ⟨hx, hb, hml, hown, hts⟩ (c_X3_init (pq := 25) g25 hlen _) ⟨(va_cnB 0 hts gX1_init_X3_init_n11 rfl rfl rfl hN.1 (hts (.initialized RX3) (by decide +kernel)) (by decide +kernel) ⟨Nat.le_of_ble_eq_true rfl, Nat.le_of_ble_eq_true rfl⟩), rfl, hts (.instanceMethod yX3_init) (by decide +kernel)⟩ ⟨pw_blind, fun U hU hW => pw_pre hK hP hD hU hW⟩ rfl rfl hl.1 rfl (lv_room (Nat.le_of_ble_eq_true rfl)) dX1_init_20 ⟨Nat.le_of_ble_eq_true rfl, Nat.le_of_ble_eq_true rfl⟩) hD hS hA (fun ws_16 H locs hp hP hD hS => ?_)
  obtain ⟨f1_17, f2_18, f_19, sm_20, g25, g26, g27⟩ := hp
  have g21 := sm_20.get g21 (by simp)
  have g22 := sm_20.get g22 (by simp)
  have g23 := sm_20.get g23 (by simp)
  have g24 := sm_20.get g24 (by simp)
  have sm := sm.calln sm_20 (by intro k hk; (try simp only at hk ⊢); omega)
  have g25 : ws_16[25]? = some (q_12, .inr (4, [.ref f1_17, .ref f2_18, .int (nI 0)])) := g25
  have g26 : ws_16[26]? = some (f1_17, .inl (cI, 1128, .inl (fun jj => nI ((fun _ => 0) jj)))) := g26
  have g27 : ws_16[27]? = some (f2_18, .inl (cI, 1128, .inl (fun jj => nI ((fun _ => 0) jj)))) := g27
  have hlen : ws_16.length = 28 := f_19
  refine W.widen (k := 6) (n := 4518) (Nat.le_of_ble_eq_true rfl) (Nat.le_of_ble_eq_true rfl) ?_
  refine nx_putF (D := D) (ci := 2) (v := .ref q_12) (ty := .object "TwinFinder$PairRow") (C := RX1) (T := TX1) (N := 8) hx hb hts hin_X1 tyX1 tyX1_ok nmX1 hown hK hP hD hS 21 g21 rfl 1 (by decide) fl_18 (fun _ h9 => h9) rfl hnm rfl (by decide +kernel) rfl rfl (Nat.le_of_ble_eq_true rfl) dX1_init_23 (fun ws_21 H locs gq up_22 hP hD hS => ?_)
  have g21 : ws_21[21]? = some (k0, .inr (2, [.ref q_1, .ref q_12, .null, .null, .null, .null, .int (nI 0), .int (nI 0)])) := gq
  have g22 := up_22.get g22 (by decide)
  have g23 := up_22.get g23 (by decide)
  have g24 := up_22.get g24 (by decide)
  have g25 := up_22.get g25 (by decide)
  have g26 := up_22.get g26 (by decide)
  have g27 := up_22.get g27 (by decide)
  have hlen := up_22.1.trans hlen
  have sm := sm.up up_22 (by simp)
  refine lv_aload_n hx hb dX1_init_26 rfl (lv_at hl 0 rfl) ?_
  refine lv_bipush (v := nI 48) hx hb dX1_init_27 (by decide) ?_
  refine nx_newI hx hb (hts (.arrayClass .int) (by decide +kernel)) hK hP hD hS hA (N' := 48) (by decide) (Nat.le_of_ble_eq_true rfl) (Nat.le_of_ble_eq_true rfl) dX1_init_29 (fun q_23 ws_24 H gq ps_25 hP hD hS => ?_)
  rw [hlen] at gq
  have g21 := ps_25.get g21
  have g22 := ps_25.get g22
  have g23 := ps_25.get g23
  have g24 := ps_25.get g24
  have g25 := ps_25.get g25
  have g26 := ps_25.get g26
  have g27 := ps_25.get g27
  have g28 : ws_24[28]? = some (q_23, .inl (cI, 48, .inl (fun jj => nI ((fun _ => 0) jj)))) := gq
  have hlen : ws_24.length = 29 := by have h9 := ps_25.1; omega
  have sm := sm.ps ps_25
  refine W.widen (k := 7) (n := 4566) (by decide) (by decide) ?_
  refine nx_putF (D := D) (ci := 2) (v := .ref q_23) (ty := .array .int) (C := RX1) (T := TX1) (N := 8) hx hb hts hin_X1 tyX1 tyX1_ok nmX1 hown hK hP hD hS 21 g21 rfl 2 (by decide) fl_21 (fun _ h9 => h9) rfl hnm rfl (by decide +kernel) rfl rfl (Nat.le_of_ble_eq_true rfl) dX1_init_31 (fun ws_26 H locs gq up_27 hP hD hS => ?_)
  have g21 : ws_26[21]? = some (k0, .inr (2, [.ref q_1, .ref q_12, .ref q_23, .null, .null, .null, .int (nI 0), .int (nI 0)])) := gq
  have g22 := up_27.get g22 (by decide)
  have g23 := up_27.get g23 (by decide)
  have g24 := up_27.get g24 (by decide)
  have g25 := up_27.get g25 (by decide)
  have g26 := up_27.get g26 (by decide)
  have g27 := up_27.get g27 (by decide)
  have g28 := up_27.get g28 (by decide)
  have hlen := up_27.1.trans hlen
  have sm := sm.up up_27 (by simp)
  refine lv_aload_n hx hb dX1_init_34 rfl (lv_at hl 0 rfl) ?_
  refine lv_bipush (v := nI 48) hx hb dX1_init_35 (by decide) ?_
  refine nx_newI hx hb (hts (.arrayClass .int) (by decide +kernel)) hK hP hD hS hA (N' := 48) (by decide) (Nat.le_of_ble_eq_true rfl) (Nat.le_of_ble_eq_true rfl) dX1_init_37 (fun q_28 ws_29 H gq ps_30 hP hD hS => ?_)
  rw [hlen] at gq
  have g21 := ps_30.get g21
  have g22 := ps_30.get g22
  have g23 := ps_30.get g23
  have g24 := ps_30.get g24
  have g25 := ps_30.get g25
  have g26 := ps_30.get g26
  have g27 := ps_30.get g27
  have g28 := ps_30.get g28
  have g29 : ws_29[29]? = some (q_28, .inl (cI, 48, .inl (fun jj => nI ((fun _ => 0) jj)))) := gq
  have hlen : ws_29.length = 30 := by have h9 := ps_30.1; omega
  have sm := sm.ps ps_30
  refine W.widen (k := 8) (n := 4614) (by decide) (by decide) ?_
  refine nx_putF (D := D) (ci := 2) (v := .ref q_28) (ty := .array .int) (C := RX1) (T := TX1) (N := 8) hx hb hts hin_X1 tyX1 tyX1_ok nmX1 hown hK hP hD hS 21 g21 rfl 3 (by decide) fl_25 (fun _ h9 => h9) rfl hnm rfl (by decide +kernel) rfl rfl (Nat.le_of_ble_eq_true rfl) dX1_init_39 (fun ws_31 H locs gq up_32 hP hD hS => ?_)
  have g21 : ws_31[21]? = some (k0, .inr (2, [.ref q_1, .ref q_12, .ref q_23, .ref q_28, .null, .null, .int (nI 0), .int (nI 0)])) := gq
  have g22 := up_32.get g22 (by decide)
  have g23 := up_32.get g23 (by decide)
  have g24 := up_32.get g24 (by decide)
  have g25 := up_32.get g25 (by decide)
  have g26 := up_32.get g26 (by decide)
  have g27 := up_32.get g27 (by decide)
  have g28 := up_32.get g28 (by decide)
  have g29 := up_32.get g29 (by decide)
  have hlen := up_32.1.trans hlen
  have sm := sm.up up_32 (by simp)
  refine lv_aload_n hx hb dX1_init_42 rfl (lv_at hl 0 rfl) ?_
  refine lv_bipush (v := nI 48) hx hb dX1_init_43 (by decide) ?_
  refine nx_newI hx hb (hts (.arrayClass .int) (by decide +kernel)) hK hP hD hS hA (N' := 48) (by decide) (Nat.le_of_ble_eq_true rfl) (Nat.le_of_ble_eq_true rfl) dX1_init_45 (fun q_33 ws_34 H gq ps_35 hP hD hS => ?_)
  rw [hlen] at gq
  have g21 := ps_35.get g21
  have g22 := ps_35.get g22
  have g23 := ps_35.get g23
  have g24 := ps_35.get g24
  have g25 := ps_35.get g25
  have g26 := ps_35.get g26
  have g27 := ps_35.get g27
  have g28 := ps_35.get g28
  have g29 := ps_35.get g29
  have g30 : ws_34[30]? = some (q_33, .inl (cI, 48, .inl (fun jj => nI ((fun _ => 0) jj)))) := gq
  have hlen : ws_34.length = 31 := by have h9 := ps_35.1; omega
  have sm := sm.ps ps_35
  refine W.widen (k := 9) (n := 4662) (by decide) (by decide) ?_
  refine nx_putF (D := D) (ci := 2) (v := .ref q_33) (ty := .array .int) (C := RX1) (T := TX1) (N := 8) hx hb hts hin_X1 tyX1 tyX1_ok nmX1 hown hK hP hD hS 21 g21 rfl 4 (by decide) fl_28 (fun _ h9 => h9) rfl hnm rfl (by decide +kernel) rfl rfl (Nat.le_of_ble_eq_true rfl) dX1_init_47 (fun ws_36 H locs gq up_37 hP hD hS => ?_)
  have g21 : ws_36[21]? = some (k0, .inr (2, [.ref q_1, .ref q_12, .ref q_23, .ref q_28, .ref q_33, .null, .int (nI 0), .int (nI 0)])) := gq
  have g22 := up_37.get g22 (by decide)
  have g23 := up_37.get g23 (by decide)
  have g24 := up_37.get g24 (by decide)
  have g25 := up_37.get g25 (by decide)
  have g26 := up_37.get g26 (by decide)
  have g27 := up_37.get g27 (by decide)
  have g28 := up_37.get g28 (by decide)
  have g29 := up_37.get g29 (by decide)
  have g30 := up_37.get g30 (by decide)
  have hlen := up_37.1.trans hlen
  have sm := sm.up up_37 (by simp)
  refine lv_aload_n hx hb dX1_init_50 rfl (lv_at hl 0 rfl) ?_
  refine lv_bipush (v := nI 48) hx hb dX1_init_51 (by decide) ?_
  refine nx_newI hx hb (hts (.arrayClass .int) (by decide +kernel)) hK hP hD hS hA (N' := 48) (by decide) (Nat.le_of_ble_eq_true rfl) (Nat.le_of_ble_eq_true rfl) dX1_init_53 (fun q_38 ws_39 H gq ps_40 hP hD hS => ?_)
  rw [hlen] at gq
  have g21 := ps_40.get g21
  have g22 := ps_40.get g22
  have g23 := ps_40.get g23
  have g24 := ps_40.get g24
  have g25 := ps_40.get g25
  have g26 := ps_40.get g26
  have g27 := ps_40.get g27
  have g28 := ps_40.get g28
  have g29 := ps_40.get g29
  have g30 := ps_40.get g30
  have g31 : ws_39[31]? = some (q_38, .inl (cI, 48, .inl (fun jj => nI ((fun _ => 0) jj)))) := gq
  have hlen : ws_39.length = 32 := by have h9 := ps_40.1; omega
  have sm := sm.ps ps_40
  refine W.widen (k := 10) (n := 4710) (by decide) (by decide) ?_
  refine nx_putF (D := D) (ci := 2) (v := .ref q_38) (ty := .array .int) (C := RX1) (T := TX1) (N := 8) hx hb hts hin_X1 tyX1 tyX1_ok nmX1 hown hK hP hD hS 21 g21 rfl 5 (by decide) fl_31 (fun _ h9 => h9) rfl hnm rfl (by decide +kernel) rfl rfl (Nat.le_of_ble_eq_true rfl) dX1_init_55 (fun ws_41 H locs gq up_42 hP hD hS => ?_)
  have g21 : ws_41[21]? = some (k0, .inr (2, [.ref q_1, .ref q_12, .ref q_23, .ref q_28, .ref q_33, .ref q_38, .int (nI 0), .int (nI 0)])) := gq
  have g22 := up_42.get g22 (by decide)
  have g23 := up_42.get g23 (by decide)
  have g24 := up_42.get g24 (by decide)
  have g25 := up_42.get g25 (by decide)
  have g26 := up_42.get g26 (by decide)
  have g27 := up_42.get g27 (by decide)
  have g28 := up_42.get g28 (by decide)
  have g29 := up_42.get g29 (by decide)
  have g30 := up_42.get g30 (by decide)
  have g31 := up_42.get g31 (by decide)
  have hlen := up_42.1.trans hlen
  have sm := sm.up up_42 (by simp)
  exact CV.ret C hK hP hD hS (⟨_, _, _, _, _, _, _, _, _, _, hlen, sm, g21, g22, g23, g24, g25, g26, g27, g28, g29, g30, g31⟩) (by decide) (by decide) dX1_init_58
