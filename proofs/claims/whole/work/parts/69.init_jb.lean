set_option maxHeartbeats 4000000 in
set_option maxRecDepth 100000 in
theorem c_X8_init {D : va_G} {cB cI cJ cO : ClassId} {l : Launch} {ad mi : Nat} {z0 : Nat} {ws : va_W} (g0 : ws[0]? = some (z0, .inr (9, [.null, .null, .null, .null, .null, .null, .null, .int (nI 0), .int (nI 0)]))) (hlen : ws.length = 1) : CVX D (TY cB cI cJ cO) l yX8_init wsX8_init ({ frames := 5, cells := 32, slots := 87732, locals := 92 }) ad mi [.ref z0] ws (fun ws' => ∃ a1 : Nat, ∃ a2 : Nat, ∃ a3 : Nat, ∃ a4 : Nat, ∃ t0 : Nat, ∃ t1 : Nat, ∃ t2 : Nat, ∃ t3 : Nat, ∃ t4 : Nat, ∃ d0 : Nat, ∃ d1 : Nat, ∃ d2 : Nat, ∃ d3 : Nat, ∃ d4 : Nat, ∃ d5 : Nat, ∃ s0 : Nat, ∃ s1 : Nat, ∃ s2 : Nat, ∃ s3 : Nat, ∃ e0 : Nat, ∃ k0 : Nat, ∃ k1 : Nat, ∃ k2 : Nat, ∃ k3 : Nat, ∃ k4 : Nat, ∃ k5 : Nat, ∃ k6 : Nat, ∃ k7 : Nat, ∃ k8 : Nat, ∃ k9 : Nat, ∃ k10 : Nat, ∃ al : Nat, ∃ ta : Nat → Nat, (∀ k, k < 64 → ta k = 1) ∧ (ws'.length = 33) ∧ Sm (fun k => k = 0) ws ws' ∧ ws'[0]? = some (z0, .inr (9, [.ref a1, .ref t0, .ref d0, .ref s0, .ref e0, .ref k0, .ref al, .int (nI 0), .int (nI 4)])) ∧ ws'[1]? = some (a1, .inr (8, [.ref a2, .ref a3, .ref a4, .int (nI 0), .int (nI 0), .int (nI 0), .int (nI 0)])) ∧ ws'[2]? = some (a2, .inl (cB, 800, .inl (fun _ => 0))) ∧ ws'[3]? = some (a3, .inl (cB, 800, .inl (fun _ => 0))) ∧ ws'[4]? = some (a4, .inl (cI, 801, .inl (fun jj => nI ((fun _ => 0) jj)))) ∧ ws'[5]? = some (t0, .inr (7, [.ref t1, .ref t2, .ref t3, .ref t4, .int (nI 0)])) ∧ ws'[6]? = some (t1, .inl (cB, 50000, .inl (fun _ => 0))) ∧ ws'[7]? = some (t2, .inl (cI, 6001, .inl (fun jj => nI ((fun _ => 0) jj)))) ∧ ws'[8]? = some (t3, .inl (cI, 6000, .inl (fun jj => nI ((fun _ => 0) jj)))) ∧ ws'[9]? = some (t4, .inl (cI, 16384, .inl (fun jj => nI ((fun _ => 0) jj)))) ∧ ws'[10]? = some (d0, .inr (5, [.ref d1, .ref d2, .ref d3, .ref d4, .ref d5, .int (nI 0), .int (nI 0)])) ∧ ws'[11]? = some (d1, .inl (cI, 64, .inl (fun jj => nI (ta jj)))) ∧ ws'[12]? = some (d2, .inl (cI, 64, .inl (fun jj => nI ((fun _ => 0) jj)))) ∧ ws'[13]? = some (d3, .inl (cI, 64, .inl (fun jj => nI ((fun _ => 0) jj)))) ∧ ws'[14]? = some (d4, .inl (cI, 600, .inl (fun jj => nI ((fun _ => 0) jj)))) ∧ ws'[15]? = some (d5, .inl (cI, 600, .inl (fun jj => nI ((fun _ => 0) jj)))) ∧ ws'[16]? = some (s0, .inr (6, [.ref s1, .ref s2, .ref s3, .int (nI 0)])) ∧ ws'[17]? = some (s1, .inr (0, [.int (nI 0), .ref ad, .int (nI 0)])) ∧ ws'[18]? = some (s2, .inr (0, [.int (nI 0), .ref ad, .int (nI 0)])) ∧ ws'[19]? = some (s3, .inr (0, [.int (nI 0), .ref ad, .int (nI 0)])) ∧ ws'[20]? = some (e0, .inr (3, [.int (nI 16), .int (nI 4), .int (nI 1), .int (nI 2)])) ∧ ws'[21]? = some (k0, .inr (2, [.ref k1, .ref k4, .ref k7, .ref k8, .ref k9, .ref k10, .int (nI 0), .int (nI 0)])) ∧ ws'[22]? = some (k1, .inr (4, [.ref k2, .ref k3, .int (nI 0)])) ∧ ws'[23]? = some (k2, .inl (cI, 1128, .inl (fun jj => nI ((fun _ => 0) jj)))) ∧ ws'[24]? = some (k3, .inl (cI, 1128, .inl (fun jj => nI ((fun _ => 0) jj)))) ∧ ws'[25]? = some (k4, .inr (4, [.ref k5, .ref k6, .int (nI 0)])) ∧ ws'[26]? = some (k5, .inl (cI, 1128, .inl (fun jj => nI ((fun _ => 0) jj)))) ∧ ws'[27]? = some (k6, .inl (cI, 1128, .inl (fun jj => nI ((fun _ => 0) jj)))) ∧ ws'[28]? = some (k7, .inl (cI, 48, .inl (fun jj => nI ((fun _ => 0) jj)))) ∧ ws'[29]? = some (k8, .inl (cI, 48, .inl (fun jj => nI ((fun _ => 0) jj)))) ∧ ws'[30]? = some (k9, .inl (cI, 48, .inl (fun jj => nI ((fun _ => 0) jj)))) ∧ ws'[31]? = some (k10, .inl (cI, 48, .inl (fun jj => nI ((fun _ => 0) jj)))) ∧ ws'[32]? = some (al, .inl (cI, 800, .inl (fun jj => nI ((fun _ => 0) jj))))) := by
  refine CVX.of (cc := cX8_init) (maxL := 1) (ret := none) (by decide) rfl (Nat.le_of_ble_eq_true rfl) ?_
  intro p e s m below meth c A C hK hP hD hA hS hX ls hl
  have hN := hX.1
  obtain ⟨hx, hb, hr, hml, hts, hown, hlocks, hnm⟩ := id C
  have fl_12 := hts (.fieldLink RX8 12 "TwinFinder" "tape" "LTwinFinder$Tape;") (by decide +kernel)
  have fl_19 := hts (.fieldLink RX8 19 "TwinFinder" "store" "LTwinFinder$Store;") (by decide +kernel)
  have fl_26 := hts (.fieldLink RX8 26 "TwinFinder" "permutations" "LTwinFinder$Permutations;") (by decide +kernel)
  have fl_33 := hts (.fieldLink RX8 33 "TwinFinder" "shelf" "LTwinFinder$Shelf;") (by decide +kernel)
  have fl_40 := hts (.fieldLink RX8 40 "TwinFinder" "measure" "LTwinFinder$Measure;") (by decide +kernel)
  have fl_47 := hts (.fieldLink RX8 47 "TwinFinder" "kin" "LTwinFinder$Kin;") (by decide +kernel)
  have fl_51 := hts (.fieldLink RX8 51 "TwinFinder" "along" "[I") (by decide +kernel)
  have fl_55 := hts (.fieldLink RX8 55 "TwinFinder" "sortAtHand" "I") (by decide +kernel)
  have fl_59 := hts (.fieldLink RX8 59 "TwinFinder" "rowAtHand" "I") (by decide +kernel)
  have hin_X1 : ∀ w ∈ u_ws RX1 TX1 8, w ∈ wsX8_init := by decide +kernel
  have hin_X2 : ∀ w ∈ u_ws RX2 TX2 4, w ∈ wsX8_init := by decide +kernel
  have hin_X4 : ∀ w ∈ u_ws RX4 TX4 7, w ∈ wsX8_init := by decide +kernel
  have hin_X5 : ∀ w ∈ u_ws RX5 TX5 4, w ∈ wsX8_init := by decide +kernel
  have hin_X6 : ∀ w ∈ u_ws RX6 TX6 5, w ∈ wsX8_init := by decide +kernel
  have hin_X7 : ∀ w ∈ u_ws RX7 TX7 7, w ∈ wsX8_init := by decide +kernel
  have hin_X8 : ∀ w ∈ u_ws RX8 TX8 9, w ∈ wsX8_init := by decide +kernel
  have hl : lv_has ls 1 [(0, .ref z0)] := hl
  have sm : Sm (fun k => k = 0) ws ws := Sm.rf
  have hc0 : (0 : Nat) ≤ 32 := by decide
  have hs0 : (0 : Nat) ≤ 87732 := by decide
  refine lv_aload_n hx hb dX8_init_0 rfl (lv_at hl 0 rfl) ?_
  refine W.objInit hx hb hown (hts (.methodLink RX8 3 objectInit) (by decide +kernel)) (hts (.instanceMethod objectInit) (by decide +kernel)) (hts _ (List.mem_of_getElem? (l := wsX8_init) (i := 3) rfl)) rfl (by rw [hml]; exact hl.1) rfl dX8_init_1 (Nat.le_of_ble_eq_true rfl) (Nat.le_of_ble_eq_true rfl) ?_
  refine W.eq (g2 := F0 m 4 ls []) rfl ?_
  refine lv_aload_n hx hb dX8_init_4 rfl (lv_at hl 0 rfl) ?_
  refine nx_new (ci := 8) (fs := [.null, .null, .null, .int (nI 0), .int (nI 0), .int (nI 0), .int (nI 0)]) (C := RX7) (T := TX7) (N := 7) hx hb hts hin_X7 tyX7 tyX7_ok hown (hts (.classLink RX8 9 RX7) (by decide +kernel)) (hts (.instantiable RX7 7) (by decide +kernel)) (hts (.initialized RX7) (by decide +kernel)) hK hP hD hS hA rfl (fun j hj => by rcases (show j = 0 ∨ j = 1 ∨ j = 2 ∨ j = 3 ∨ j = 4 ∨ j = 5 ∨ j = 6 by omega) with rfl | rfl | rfl | rfl | rfl | rfl | rfl <;> rfl) (Nat.le_of_ble_eq_true rfl) (Nat.le_of_ble_eq_true rfl) dX8_init_5 (fun q_1 ws_2 H gq ps_3 hP hD hS => ?_)
  rw [hlen] at gq
  have g0 := ps_3.get g0
  have g1 : ws_2[1]? = some (q_1, .inr (8, [.null, .null, .null, .int (nI 0), .int (nI 0), .int (nI 0), .int (nI 0)])) := gq
  have hlen : ws_2.length = 2 := by have h9 := ps_3.1; omega
  have sm := sm.ps ps_3
  refine W.widen (k := 1) (n := 7) (by first | decide | omega) (by first | decide | omega) ?_
  refine lv_dup hx hb dX8_init_8 rfl ?_
  refine CV.go (va_runIN (As := []) (rest := [.ref q_1, .ref z0]) ⟨hx, hb, hml, hown, hts⟩ (c_X7_init  g1 hlen _) ⟨(va_cnB 0 hts gX8_init_X7_init_n11 rfl rfl rfl hN.2.1 (hts (.initialized RX7) (by decide +kernel)) (by decide +kernel) ⟨Nat.le_of_ble_eq_true rfl, Nat.le_of_ble_eq_true rfl⟩), rfl, hts (.instanceMethod yX7_init) (by decide +kernel)⟩ ⟨pw_blind, fun U hU hW => pw_pre hK hP hD hU hW⟩ rfl rfl hl.1 rfl (lv_room (Nat.le_of_ble_eq_true rfl)) dX8_init_9 ⟨Nat.le_of_ble_eq_true rfl, Nat.le_of_ble_eq_true rfl⟩) hD hS hA (fun ws_5 H locs hp hP hD hS => ?_)
  obtain ⟨a2, a3, a4, f_6, sm_7, g1, g2, g3, g4⟩ := hp
  have g0 := sm_7.get g0 (by intro h9; first | (simp at h9; done) | ((try simp only at h9); omega))
  have sm := sm.calln sm_7 (by intro k hk; first | exact False.elim hk | ((try simp only at hk ⊢); omega))
  have g1 : ws_5[1]? = some (q_1, .inr (8, [.ref a2, .ref a3, .ref a4, .int (nI 0), .int (nI 0), .int (nI 0), .int (nI 0)])) := g1
  have g2 : ws_5[2]? = some (a2, .inl (cB, 800, .inl (fun _ => 0))) := g2
  have g3 : ws_5[3]? = some (a3, .inl (cB, 800, .inl (fun _ => 0))) := g3
  have g4 : ws_5[4]? = some (a4, .inl (cI, 801, .inl (fun jj => nI ((fun _ => 0) jj)))) := g4
  have hlen : ws_5.length = 5 := f_6
  refine W.widen (k := 4) (n := 2408) (Nat.le_of_ble_eq_true rfl) (Nat.le_of_ble_eq_true rfl) ?_
  refine nx_putF (D := D) (ci := 9) (v := .ref q_1) (ty := .object "TwinFinder$Tape") (C := RX8) (T := TX8) (N := 9) hx hb hts hin_X8 tyX8 tyX8_ok nmX8 hown hK hP hD hS 0 g0 rfl 0 (by decide) fl_12 (fun _ h9 => h9) rfl hnm rfl (by decide +kernel) rfl rfl (Nat.le_of_ble_eq_true rfl) dX8_init_12 (fun ws_8 H locs gq up_9 hP hD hS => ?_)
  have g0 : ws_8[0]? = some (z0, .inr (9, [.ref q_1, .null, .null, .null, .null, .null, .null, .int (nI 0), .int (nI 0)])) := gq
  have g1 := up_9.get g1 (by decide)
  have g2 := up_9.get g2 (by decide)
  have g3 := up_9.get g3 (by decide)
  have g4 := up_9.get g4 (by decide)
  have hlen := up_9.1.trans hlen
  have sm := sm.up up_9 (by simp)
  refine lv_aload_n hx hb dX8_init_15 rfl (lv_at hl 0 rfl) ?_
  refine nx_new (ci := 7) (fs := [.null, .null, .null, .null, .int (nI 0)]) (C := RX6) (T := TX6) (N := 5) hx hb hts hin_X6 tyX6 tyX6_ok hown (hts (.classLink RX8 16 RX6) (by decide +kernel)) (hts (.instantiable RX6 5) (by decide +kernel)) (hts (.initialized RX6) (by decide +kernel)) hK hP hD hS hA rfl (fun j hj => by rcases (show j = 0 ∨ j = 1 ∨ j = 2 ∨ j = 3 ∨ j = 4 by omega) with rfl | rfl | rfl | rfl | rfl <;> rfl) (Nat.le_of_ble_eq_true rfl) (Nat.le_of_ble_eq_true rfl) dX8_init_16 (fun q_10 ws_11 H gq ps_12 hP hD hS => ?_)
  rw [hlen] at gq
  have g0 := ps_12.get g0
  have g1 := ps_12.get g1
  have g2 := ps_12.get g2
  have g3 := ps_12.get g3
  have g4 := ps_12.get g4
  have g5 : ws_11[5]? = some (q_10, .inr (7, [.null, .null, .null, .null, .int (nI 0)])) := gq
  have hlen : ws_11.length = 6 := by have h9 := ps_12.1; omega
  have sm := sm.ps ps_12
  refine W.widen (k := 5) (n := 2413) (by first | decide | omega) (by first | decide | omega) ?_
  refine lv_dup hx hb dX8_init_19 rfl ?_
  refine CV.go (va_runIN (As := []) (rest := [.ref q_10, .ref z0]) ⟨hx, hb, hml, hown, hts⟩ (c_X6_init  g5 hlen _) ⟨(va_cnB 0 hts gX8_init_X6_init_n18 rfl rfl rfl hN.2.2.1 (hts (.initialized RX6) (by decide +kernel)) (by decide +kernel) ⟨Nat.le_of_ble_eq_true rfl, Nat.le_of_ble_eq_true rfl⟩), rfl, hts (.instanceMethod yX6_init) (by decide +kernel)⟩ ⟨pw_blind, fun U hU hW => pw_pre hK hP hD hU hW⟩ rfl rfl hl.1 rfl (lv_room (Nat.le_of_ble_eq_true rfl)) dX8_init_20 ⟨Nat.le_of_ble_eq_true rfl, Nat.le_of_ble_eq_true rfl⟩) hD hS hA (fun ws_14 H locs hp hP hD hS => ?_)
  obtain ⟨t1, t2, t3, t4, f_15, sm_16, g5, g6, g7, g8, g9⟩ := hp
  have g0 := sm_16.get g0 (by intro h9; first | (simp at h9; done) | ((try simp only at h9); omega))
  have g1 := sm_16.get g1 (by intro h9; first | (simp at h9; done) | ((try simp only at h9); omega))
  have g2 := sm_16.get g2 (by intro h9; first | (simp at h9; done) | ((try simp only at h9); omega))
  have g3 := sm_16.get g3 (by intro h9; first | (simp at h9; done) | ((try simp only at h9); omega))
  have g4 := sm_16.get g4 (by intro h9; first | (simp at h9; done) | ((try simp only at h9); omega))
  have sm := sm.calln sm_16 (by intro k hk; first | exact False.elim hk | ((try simp only at hk ⊢); omega))
  have g5 : ws_14[5]? = some (q_10, .inr (7, [.ref t1, .ref t2, .ref t3, .ref t4, .int (nI 0)])) := g5
  have g6 : ws_14[6]? = some (t1, .inl (cB, 50000, .inl (fun _ => 0))) := g6
  have g7 : ws_14[7]? = some (t2, .inl (cI, 6001, .inl (fun jj => nI ((fun _ => 0) jj)))) := g7
  have g8 : ws_14[8]? = some (t3, .inl (cI, 6000, .inl (fun jj => nI ((fun _ => 0) jj)))) := g8
  have g9 : ws_14[9]? = some (t4, .inl (cI, 16384, .inl (fun jj => nI ((fun _ => 0) jj)))) := g9
  have hlen : ws_14.length = 10 := f_15
  refine W.widen (k := 9) (n := 80798) (Nat.le_of_ble_eq_true rfl) (Nat.le_of_ble_eq_true rfl) ?_
  refine nx_putF (D := D) (ci := 9) (v := .ref q_10) (ty := .object "TwinFinder$Store") (C := RX8) (T := TX8) (N := 9) hx hb hts hin_X8 tyX8 tyX8_ok nmX8 hown hK hP hD hS 0 g0 rfl 1 (by decide) fl_19 (fun _ h9 => h9) rfl hnm rfl (by decide +kernel) rfl rfl (Nat.le_of_ble_eq_true rfl) dX8_init_23 (fun ws_17 H locs gq up_18 hP hD hS => ?_)
  have g0 : ws_17[0]? = some (z0, .inr (9, [.ref q_1, .ref q_10, .null, .null, .null, .null, .null, .int (nI 0), .int (nI 0)])) := gq
  have g1 := up_18.get g1 (by decide)
  have g2 := up_18.get g2 (by decide)
  have g3 := up_18.get g3 (by decide)
  have g4 := up_18.get g4 (by decide)
  have g5 := up_18.get g5 (by decide)
  have g6 := up_18.get g6 (by decide)
  have g7 := up_18.get g7 (by decide)
  have g8 := up_18.get g8 (by decide)
  have g9 := up_18.get g9 (by decide)
  have hlen := up_18.1.trans hlen
  have sm := sm.up up_18 (by simp)
  refine lv_aload_n hx hb dX8_init_26 rfl (lv_at hl 0 rfl) ?_
  refine nx_new (ci := 5) (fs := [.null, .null, .null, .null, .null, .int (nI 0), .int (nI 0)]) (C := RX4) (T := TX4) (N := 7) hx hb hts hin_X4 tyX4 tyX4_ok hown (hts (.classLink RX8 23 RX4) (by decide +kernel)) (hts (.instantiable RX4 7) (by decide +kernel)) (hts (.initialized RX4) (by decide +kernel)) hK hP hD hS hA rfl (fun j hj => by rcases (show j = 0 ∨ j = 1 ∨ j = 2 ∨ j = 3 ∨ j = 4 ∨ j = 5 ∨ j = 6 by omega) with rfl | rfl | rfl | rfl | rfl | rfl | rfl <;> rfl) (Nat.le_of_ble_eq_true rfl) (Nat.le_of_ble_eq_true rfl) dX8_init_27 (fun q_19 ws_20 H gq ps_21 hP hD hS => ?_)
  rw [hlen] at gq
  have g0 := ps_21.get g0
  have g1 := ps_21.get g1
  have g2 := ps_21.get g2
  have g3 := ps_21.get g3
  have g4 := ps_21.get g4
  have g5 := ps_21.get g5
  have g6 := ps_21.get g6
  have g7 := ps_21.get g7
  have g8 := ps_21.get g8
  have g9 := ps_21.get g9
  have g10 : ws_20[10]? = some (q_19, .inr (5, [.null, .null, .null, .null, .null, .int (nI 0), .int (nI 0)])) := gq
  have hlen : ws_20.length = 11 := by have h9 := ps_21.1; omega
  have sm := sm.ps ps_21
  refine W.widen (k := 10) (n := 80805) (by first | decide | omega) (by first | decide | omega) ?_
  refine lv_dup hx hb dX8_init_30 rfl ?_
  refine CV.go (va_runI (As := []) (rest := [.ref q_19, .ref z0]) ⟨hx, hb, hml, hown, hts⟩ (c_X4_init  g10 hlen _) (cwI 0 hts gX8_init_X4_init rfl rfl rfl (hts (.initialized RX4) (by decide +kernel)) (hts (.methodLink RX8 25 yX4_init) (by decide +kernel)) (hts (.instanceMethod yX4_init) (by decide +kernel)) rfl (by decide +kernel) ⟨Nat.le_of_ble_eq_true rfl, Nat.le_of_ble_eq_true rfl⟩) ⟨pw_blind, fun U hU hW => pw_pre hK hP hD hU hW⟩ rfl rfl hl.1 rfl (lv_room (Nat.le_of_ble_eq_true rfl)) dX8_init_31 ⟨Nat.le_of_ble_eq_true rfl, Nat.le_of_ble_eq_true rfl⟩) hD hS hA (fun ws_23 H locs hp hP hD hS => ?_)
  obtain ⟨d1, d2, d3, d4, d5, ta, hta, hl7, sm_24, g10, g11, g12, g13, g14, g15⟩ := hp
  have g0 := sm_24.get g0 (by intro h9; first | (simp at h9; done) | ((try simp only at h9); omega))
  have g1 := sm_24.get g1 (by intro h9; first | (simp at h9; done) | ((try simp only at h9); omega))
  have g2 := sm_24.get g2 (by intro h9; first | (simp at h9; done) | ((try simp only at h9); omega))
  have g3 := sm_24.get g3 (by intro h9; first | (simp at h9; done) | ((try simp only at h9); omega))
  have g4 := sm_24.get g4 (by intro h9; first | (simp at h9; done) | ((try simp only at h9); omega))
  have g5 := sm_24.get g5 (by intro h9; first | (simp at h9; done) | ((try simp only at h9); omega))
  have g6 := sm_24.get g6 (by intro h9; first | (simp at h9; done) | ((try simp only at h9); omega))
  have g7 := sm_24.get g7 (by intro h9; first | (simp at h9; done) | ((try simp only at h9); omega))
  have g8 := sm_24.get g8 (by intro h9; first | (simp at h9; done) | ((try simp only at h9); omega))
  have g9 := sm_24.get g9 (by intro h9; first | (simp at h9; done) | ((try simp only at h9); omega))
  have sm := sm.calln sm_24 (by intro k hk; first | exact False.elim hk | ((try simp only at hk ⊢); omega))
  have g10 : ws_23[10]? = some (q_19, .inr (5, [.ref d1, .ref d2, .ref d3, .ref d4, .ref d5, .int (nI 0), .int (nI 0)])) := g10
  have g11 : ws_23[11]? = some (d1, .inl (cI, 64, .inl (fun jj => nI (ta jj)))) := g11
  have g12 : ws_23[12]? = some (d2, .inl (cI, 64, .inl (fun jj => nI ((fun _ => 0) jj)))) := g12
  have g13 : ws_23[13]? = some (d3, .inl (cI, 64, .inl (fun jj => nI ((fun _ => 0) jj)))) := g13
  have g14 : ws_23[14]? = some (d4, .inl (cI, 600, .inl (fun jj => nI ((fun _ => 0) jj)))) := g14
  have g15 : ws_23[15]? = some (d5, .inl (cI, 600, .inl (fun jj => nI ((fun _ => 0) jj)))) := g15
  have hlen : ws_23.length = 16 := hl7
  refine W.widen (k := 15) (n := 82197) (Nat.le_of_ble_eq_true rfl) (Nat.le_of_ble_eq_true rfl) ?_
  refine nx_putF (D := D) (ci := 9) (v := .ref q_19) (ty := .object "TwinFinder$Permutations") (C := RX8) (T := TX8) (N := 9) hx hb hts hin_X8 tyX8 tyX8_ok nmX8 hown hK hP hD hS 0 g0 rfl 2 (by decide) fl_26 (fun _ h9 => h9) rfl hnm rfl (by decide +kernel) rfl rfl (Nat.le_of_ble_eq_true rfl) dX8_init_34 (fun ws_25 H locs gq up_26 hP hD hS => ?_)
  have g0 : ws_25[0]? = some (z0, .inr (9, [.ref q_1, .ref q_10, .ref q_19, .null, .null, .null, .null, .int (nI 0), .int (nI 0)])) := gq
  have g1 := up_26.get g1 (by decide)
  have g2 := up_26.get g2 (by decide)
  have g3 := up_26.get g3 (by decide)
  have g4 := up_26.get g4 (by decide)
  have g5 := up_26.get g5 (by decide)
  have g6 := up_26.get g6 (by decide)
  have g7 := up_26.get g7 (by decide)
  have g8 := up_26.get g8 (by decide)
  have g9 := up_26.get g9 (by decide)
  have g10 := up_26.get g10 (by decide)
  have g11 := up_26.get g11 (by decide)
  have g12 := up_26.get g12 (by decide)
  have g13 := up_26.get g13 (by decide)
  have g14 := up_26.get g14 (by decide)
  have g15 := up_26.get g15 (by decide)
  have hlen := up_26.1.trans hlen
  have sm := sm.up up_26 (by simp)
  refine lv_aload_n hx hb dX8_init_37 rfl (lv_at hl 0 rfl) ?_
  refine nx_new (ci := 6) (fs := [.null, .null, .null, .int (nI 0)]) (C := RX5) (T := TX5) (N := 4) hx hb hts hin_X5 tyX5 tyX5_ok hown (hts (.classLink RX8 30 RX5) (by decide +kernel)) (hts (.instantiable RX5 4) (by decide +kernel)) (hts (.initialized RX5) (by decide +kernel)) hK hP hD hS hA rfl (fun j hj => by rcases (show j = 0 ∨ j = 1 ∨ j = 2 ∨ j = 3 by omega) with rfl | rfl | rfl | rfl <;> rfl) (Nat.le_of_ble_eq_true rfl) (Nat.le_of_ble_eq_true rfl) dX8_init_38 (fun q_27 ws_28 H gq ps_29 hP hD hS => ?_)
  rw [hlen] at gq
  have g0 := ps_29.get g0
  have g1 := ps_29.get g1
  have g2 := ps_29.get g2
  have g3 := ps_29.get g3
  have g4 := ps_29.get g4
  have g5 := ps_29.get g5
  have g6 := ps_29.get g6
  have g7 := ps_29.get g7
  have g8 := ps_29.get g8
  have g9 := ps_29.get g9
  have g10 := ps_29.get g10
  have g11 := ps_29.get g11
  have g12 := ps_29.get g12
  have g13 := ps_29.get g13
  have g14 := ps_29.get g14
  have g15 := ps_29.get g15
  have g16 : ws_28[16]? = some (q_27, .inr (6, [.null, .null, .null, .int (nI 0)])) := gq
  have hlen : ws_28.length = 17 := by have h9 := ps_29.1; omega
  have sm := sm.ps ps_29
  refine W.widen (k := 16) (n := 82201) (by first | decide | omega) (by first | decide | omega) ?_
  refine lv_dup hx hb dX8_init_41 rfl ?_
  refine CV.go (va_runIN (As := []) (rest := [.ref q_27, .ref z0]) ⟨hx, hb, hml, hown, hts⟩ (c_X5_init  g16 hlen _) ⟨(va_cnB 0 hts gX8_init_X5_init_n32 rfl rfl rfl hN.2.2.2.1 (hts (.initialized RX5) (by decide +kernel)) (by decide +kernel) ⟨Nat.le_of_ble_eq_true rfl, Nat.le_of_ble_eq_true rfl⟩), rfl, hts (.instanceMethod yX5_init) (by decide +kernel)⟩ ⟨pwx_blind, fun U hU hW => pwx_pre hX hA hS hK hP hD hU hW⟩ rfl rfl hl.1 rfl (lv_room (Nat.le_of_ble_eq_true rfl)) dX8_init_42 ⟨Nat.le_of_ble_eq_true rfl, Nat.le_of_ble_eq_true rfl⟩) hD hS hA (fun ws_31 H locs hp hP hD hS => ?_)
  obtain ⟨s1, s2, s3, f_32, sm_33, g16, g17, g18, g19⟩ := hp
  have g0 := sm_33.get g0 (by intro h9; first | (simp at h9; done) | ((try simp only at h9); omega))
  have g1 := sm_33.get g1 (by intro h9; first | (simp at h9; done) | ((try simp only at h9); omega))
  have g2 := sm_33.get g2 (by intro h9; first | (simp at h9; done) | ((try simp only at h9); omega))
  have g3 := sm_33.get g3 (by intro h9; first | (simp at h9; done) | ((try simp only at h9); omega))
  have g4 := sm_33.get g4 (by intro h9; first | (simp at h9; done) | ((try simp only at h9); omega))
  have g5 := sm_33.get g5 (by intro h9; first | (simp at h9; done) | ((try simp only at h9); omega))
  have g6 := sm_33.get g6 (by intro h9; first | (simp at h9; done) | ((try simp only at h9); omega))
  have g7 := sm_33.get g7 (by intro h9; first | (simp at h9; done) | ((try simp only at h9); omega))
  have g8 := sm_33.get g8 (by intro h9; first | (simp at h9; done) | ((try simp only at h9); omega))
  have g9 := sm_33.get g9 (by intro h9; first | (simp at h9; done) | ((try simp only at h9); omega))
  have g10 := sm_33.get g10 (by intro h9; first | (simp at h9; done) | ((try simp only at h9); omega))
  have g11 := sm_33.get g11 (by intro h9; first | (simp at h9; done) | ((try simp only at h9); omega))
  have g12 := sm_33.get g12 (by intro h9; first | (simp at h9; done) | ((try simp only at h9); omega))
  have g13 := sm_33.get g13 (by intro h9; first | (simp at h9; done) | ((try simp only at h9); omega))
  have g14 := sm_33.get g14 (by intro h9; first | (simp at h9; done) | ((try simp only at h9); omega))
  have g15 := sm_33.get g15 (by intro h9; first | (simp at h9; done) | ((try simp only at h9); omega))
  have sm := sm.calln sm_33 (by intro k hk; first | exact False.elim hk | ((try simp only at hk ⊢); omega))
  have g16 : ws_31[16]? = some (q_27, .inr (6, [.ref s1, .ref s2, .ref s3, .int (nI 0)])) := g16
  have g17 : ws_31[17]? = some (s1, .inr (0, [.int (nI 0), .ref ad, .int (nI 0)])) := g17
  have g18 : ws_31[18]? = some (s2, .inr (0, [.int (nI 0), .ref ad, .int (nI 0)])) := g18
  have g19 : ws_31[19]? = some (s3, .inr (0, [.int (nI 0), .ref ad, .int (nI 0)])) := g19
  have hlen : ws_31.length = 20 := f_32
  refine W.widen (k := 19) (n := 82210) (Nat.le_of_ble_eq_true rfl) (Nat.le_of_ble_eq_true rfl) ?_
  refine nx_putF (D := D) (ci := 9) (v := .ref q_27) (ty := .object "TwinFinder$Shelf") (C := RX8) (T := TX8) (N := 9) hx hb hts hin_X8 tyX8 tyX8_ok nmX8 hown hK hP hD hS 0 g0 rfl 3 (by decide) fl_33 (fun _ h9 => h9) rfl hnm rfl (by decide +kernel) rfl rfl (Nat.le_of_ble_eq_true rfl) dX8_init_45 (fun ws_34 H locs gq up_35 hP hD hS => ?_)
  have g0 : ws_34[0]? = some (z0, .inr (9, [.ref q_1, .ref q_10, .ref q_19, .ref q_27, .null, .null, .null, .int (nI 0), .int (nI 0)])) := gq
  have g1 := up_35.get g1 (by decide)
  have g2 := up_35.get g2 (by decide)
  have g3 := up_35.get g3 (by decide)
  have g4 := up_35.get g4 (by decide)
  have g5 := up_35.get g5 (by decide)
  have g6 := up_35.get g6 (by decide)
  have g7 := up_35.get g7 (by decide)
  have g8 := up_35.get g8 (by decide)
  have g9 := up_35.get g9 (by decide)
  have g10 := up_35.get g10 (by decide)
  have g11 := up_35.get g11 (by decide)
  have g12 := up_35.get g12 (by decide)
  have g13 := up_35.get g13 (by decide)
  have g14 := up_35.get g14 (by decide)
  have g15 := up_35.get g15 (by decide)
  have g16 := up_35.get g16 (by decide)
  have g17 := up_35.get g17 (by decide)
  have g18 := up_35.get g18 (by decide)
  have g19 := up_35.get g19 (by decide)
  have hlen := up_35.1.trans hlen
  have sm := sm.up up_35 (by simp)
  refine lv_aload_n hx hb dX8_init_48 rfl (lv_at hl 0 rfl) ?_
  refine nx_new (ci := 3) (fs := [.int (nI 0), .int (nI 0), .int (nI 0), .int (nI 0)]) (C := RX2) (T := TX2) (N := 4) hx hb hts hin_X2 tyX2 tyX2_ok hown (hts (.classLink RX8 37 RX2) (by decide +kernel)) (hts (.instantiable RX2 4) (by decide +kernel)) (hts (.initialized RX2) (by decide +kernel)) hK hP hD hS hA rfl (fun j hj => by rcases (show j = 0 ∨ j = 1 ∨ j = 2 ∨ j = 3 by omega) with rfl | rfl | rfl | rfl <;> rfl) (Nat.le_of_ble_eq_true rfl) (Nat.le_of_ble_eq_true rfl) dX8_init_49 (fun q_36 ws_37 H gq ps_38 hP hD hS => ?_)
  rw [hlen] at gq
  have g0 := ps_38.get g0
  have g1 := ps_38.get g1
  have g2 := ps_38.get g2
  have g3 := ps_38.get g3
  have g4 := ps_38.get g4
  have g5 := ps_38.get g5
  have g6 := ps_38.get g6
  have g7 := ps_38.get g7
  have g8 := ps_38.get g8
  have g9 := ps_38.get g9
  have g10 := ps_38.get g10
  have g11 := ps_38.get g11
  have g12 := ps_38.get g12
  have g13 := ps_38.get g13
  have g14 := ps_38.get g14
  have g15 := ps_38.get g15
  have g16 := ps_38.get g16
  have g17 := ps_38.get g17
  have g18 := ps_38.get g18
  have g19 := ps_38.get g19
  have g20 : ws_37[20]? = some (q_36, .inr (3, [.int (nI 0), .int (nI 0), .int (nI 0), .int (nI 0)])) := gq
  have hlen : ws_37.length = 21 := by have h9 := ps_38.1; omega
  have sm := sm.ps ps_38
  refine W.widen (k := 20) (n := 82214) (by first | decide | omega) (by first | decide | omega) ?_
  refine lv_dup hx hb dX8_init_52 rfl ?_
  refine CV.go (va_runIN (As := []) (rest := [.ref q_36, .ref z0]) ⟨hx, hb, hml, hown, hts⟩ (c_X2_init  g20 hlen _) ⟨(va_cnB 0 hts gX8_init_X2_init_n39 rfl rfl rfl hN.2.2.2.2.1 (hts (.initialized RX2) (by decide +kernel)) (by decide +kernel) ⟨Nat.le_of_ble_eq_true rfl, Nat.le_of_ble_eq_true rfl⟩), rfl, hts (.instanceMethod yX2_init) (by decide +kernel)⟩ ⟨pw_blind, fun U hU hW => pw_pre hK hP hD hU hW⟩ rfl rfl hl.1 rfl (lv_room (Nat.le_of_ble_eq_true rfl)) dX8_init_53 ⟨Nat.le_of_ble_eq_true rfl, Nat.le_of_ble_eq_true rfl⟩) hD hS hA (fun ws_40 H locs hp hP hD hS => ?_)
  obtain ⟨f_41, sm_42, g20⟩ := hp
  have g0 := sm_42.get g0 (by intro h9; first | (simp at h9; done) | ((try simp only at h9); omega))
  have g1 := sm_42.get g1 (by intro h9; first | (simp at h9; done) | ((try simp only at h9); omega))
  have g2 := sm_42.get g2 (by intro h9; first | (simp at h9; done) | ((try simp only at h9); omega))
  have g3 := sm_42.get g3 (by intro h9; first | (simp at h9; done) | ((try simp only at h9); omega))
  have g4 := sm_42.get g4 (by intro h9; first | (simp at h9; done) | ((try simp only at h9); omega))
  have g5 := sm_42.get g5 (by intro h9; first | (simp at h9; done) | ((try simp only at h9); omega))
  have g6 := sm_42.get g6 (by intro h9; first | (simp at h9; done) | ((try simp only at h9); omega))
  have g7 := sm_42.get g7 (by intro h9; first | (simp at h9; done) | ((try simp only at h9); omega))
  have g8 := sm_42.get g8 (by intro h9; first | (simp at h9; done) | ((try simp only at h9); omega))
  have g9 := sm_42.get g9 (by intro h9; first | (simp at h9; done) | ((try simp only at h9); omega))
  have g10 := sm_42.get g10 (by intro h9; first | (simp at h9; done) | ((try simp only at h9); omega))
  have g11 := sm_42.get g11 (by intro h9; first | (simp at h9; done) | ((try simp only at h9); omega))
  have g12 := sm_42.get g12 (by intro h9; first | (simp at h9; done) | ((try simp only at h9); omega))
  have g13 := sm_42.get g13 (by intro h9; first | (simp at h9; done) | ((try simp only at h9); omega))
  have g14 := sm_42.get g14 (by intro h9; first | (simp at h9; done) | ((try simp only at h9); omega))
  have g15 := sm_42.get g15 (by intro h9; first | (simp at h9; done) | ((try simp only at h9); omega))
  have g16 := sm_42.get g16 (by intro h9; first | (simp at h9; done) | ((try simp only at h9); omega))
  have g17 := sm_42.get g17 (by intro h9; first | (simp at h9; done) | ((try simp only at h9); omega))
  have g18 := sm_42.get g18 (by intro h9; first | (simp at h9; done) | ((try simp only at h9); omega))
  have g19 := sm_42.get g19 (by intro h9; first | (simp at h9; done) | ((try simp only at h9); omega))
  have sm := sm.calln sm_42 (by intro k hk; first | exact False.elim hk | ((try simp only at hk ⊢); omega))
  have g20 : ws_40[20]? = some (q_36, .inr (3, [.int (nI 16), .int (nI 4), .int (nI 1), .int (nI 2)])) := g20
  have hlen : ws_40.length = 21 := f_41
  refine nx_putF (D := D) (ci := 9) (v := .ref q_36) (ty := .object "TwinFinder$Measure") (C := RX8) (T := TX8) (N := 9) hx hb hts hin_X8 tyX8 tyX8_ok nmX8 hown hK hP hD hS 0 g0 rfl 4 (by decide) fl_40 (fun _ h9 => h9) rfl hnm rfl (by decide +kernel) rfl rfl (Nat.le_of_ble_eq_true rfl) dX8_init_56 (fun ws_43 H locs gq up_44 hP hD hS => ?_)
  have g0 : ws_43[0]? = some (z0, .inr (9, [.ref q_1, .ref q_10, .ref q_19, .ref q_27, .ref q_36, .null, .null, .int (nI 0), .int (nI 0)])) := gq
  have g1 := up_44.get g1 (by decide)
  have g2 := up_44.get g2 (by decide)
  have g3 := up_44.get g3 (by decide)
  have g4 := up_44.get g4 (by decide)
  have g5 := up_44.get g5 (by decide)
  have g6 := up_44.get g6 (by decide)
  have g7 := up_44.get g7 (by decide)
  have g8 := up_44.get g8 (by decide)
  have g9 := up_44.get g9 (by decide)
  have g10 := up_44.get g10 (by decide)
  have g11 := up_44.get g11 (by decide)
  have g12 := up_44.get g12 (by decide)
  have g13 := up_44.get g13 (by decide)
  have g14 := up_44.get g14 (by decide)
  have g15 := up_44.get g15 (by decide)
  have g16 := up_44.get g16 (by decide)
  have g17 := up_44.get g17 (by decide)
  have g18 := up_44.get g18 (by decide)
  have g19 := up_44.get g19 (by decide)
  have g20 := up_44.get g20 (by decide)
  have hlen := up_44.1.trans hlen
  have sm := sm.up up_44 (by simp)
  refine lv_aload_n hx hb dX8_init_59 rfl (lv_at hl 0 rfl) ?_
  refine nx_new (ci := 2) (fs := [.null, .null, .null, .null, .null, .null, .int (nI 0), .int (nI 0)]) (C := RX1) (T := TX1) (N := 8) hx hb hts hin_X1 tyX1 tyX1_ok hown (hts (.classLink RX8 44 RX1) (by decide +kernel)) (hts (.instantiable RX1 8) (by decide +kernel)) (hts (.initialized RX1) (by decide +kernel)) hK hP hD hS hA rfl (fun j hj => by rcases (show j = 0 ∨ j = 1 ∨ j = 2 ∨ j = 3 ∨ j = 4 ∨ j = 5 ∨ j = 6 ∨ j = 7 by omega) with rfl | rfl | rfl | rfl | rfl | rfl | rfl | rfl <;> rfl) (Nat.le_of_ble_eq_true rfl) (Nat.le_of_ble_eq_true rfl) dX8_init_60 (fun q_45 ws_46 H gq ps_47 hP hD hS => ?_)
  rw [hlen] at gq
  have g0 := ps_47.get g0
  have g1 := ps_47.get g1
  have g2 := ps_47.get g2
  have g3 := ps_47.get g3
  have g4 := ps_47.get g4
  have g5 := ps_47.get g5
  have g6 := ps_47.get g6
  have g7 := ps_47.get g7
  have g8 := ps_47.get g8
  have g9 := ps_47.get g9
  have g10 := ps_47.get g10
  have g11 := ps_47.get g11
  have g12 := ps_47.get g12
  have g13 := ps_47.get g13
  have g14 := ps_47.get g14
  have g15 := ps_47.get g15
  have g16 := ps_47.get g16
  have g17 := ps_47.get g17
  have g18 := ps_47.get g18
  have g19 := ps_47.get g19
  have g20 := ps_47.get g20
  have g21 : ws_46[21]? = some (q_45, .inr (2, [.null, .null, .null, .null, .null, .null, .int (nI 0), .int (nI 0)])) := gq
  have hlen : ws_46.length = 22 := by have h9 := ps_47.1; omega
  have sm := sm.ps ps_47
  refine W.widen (k := 21) (n := 82222) (by first | decide | omega) (by first | decide | omega) ?_
  refine lv_dup hx hb dX8_init_63 rfl ?_
  refine CV.go (va_runIN (As := []) (rest := [.ref q_45, .ref z0]) ⟨hx, hb, hml, hown, hts⟩ (c_X1_init  g21 hlen _) ⟨(va_cnB 0 hts gX8_init_X1_init_n46 rfl rfl rfl hN.2.2.2.2.2 (hts (.initialized RX1) (by decide +kernel)) (by decide +kernel) ⟨Nat.le_of_ble_eq_true rfl, Nat.le_of_ble_eq_true rfl⟩), rfl, hts (.instanceMethod yX1_init) (by decide +kernel)⟩ ⟨pwn_blind, fun U hU hW => ⟨(pw_pre hK hP hD hU hW).1, (pw_pre (av := []) hK hP hD hU hW).2, hN.warm hW⟩⟩ rfl rfl hl.1 rfl (lv_room (Nat.le_of_ble_eq_true rfl)) dX8_init_64 ⟨Nat.le_of_ble_eq_true rfl, Nat.le_of_ble_eq_true rfl⟩) hD hS hA (fun ws_49 H locs hp hP hD hS => ?_)
  obtain ⟨k1, k2, k3, k4, k5, k6, k7, k8, k9, k10, f_50, sm_51, g21, g22, g23, g24, g25, g26, g27, g28, g29, g30, g31⟩ := hp
  have g0 := sm_51.get g0 (by intro h9; first | (simp at h9; done) | ((try simp only at h9); omega))
  have g1 := sm_51.get g1 (by intro h9; first | (simp at h9; done) | ((try simp only at h9); omega))
  have g2 := sm_51.get g2 (by intro h9; first | (simp at h9; done) | ((try simp only at h9); omega))
  have g3 := sm_51.get g3 (by intro h9; first | (simp at h9; done) | ((try simp only at h9); omega))
  have g4 := sm_51.get g4 (by intro h9; first | (simp at h9; done) | ((try simp only at h9); omega))
  have g5 := sm_51.get g5 (by intro h9; first | (simp at h9; done) | ((try simp only at h9); omega))
  have g6 := sm_51.get g6 (by intro h9; first | (simp at h9; done) | ((try simp only at h9); omega))
  have g7 := sm_51.get g7 (by intro h9; first | (simp at h9; done) | ((try simp only at h9); omega))
  have g8 := sm_51.get g8 (by intro h9; first | (simp at h9; done) | ((try simp only at h9); omega))
  have g9 := sm_51.get g9 (by intro h9; first | (simp at h9; done) | ((try simp only at h9); omega))
  have g10 := sm_51.get g10 (by intro h9; first | (simp at h9; done) | ((try simp only at h9); omega))
  have g11 := sm_51.get g11 (by intro h9; first | (simp at h9; done) | ((try simp only at h9); omega))
  have g12 := sm_51.get g12 (by intro h9; first | (simp at h9; done) | ((try simp only at h9); omega))
  have g13 := sm_51.get g13 (by intro h9; first | (simp at h9; done) | ((try simp only at h9); omega))
  have g14 := sm_51.get g14 (by intro h9; first | (simp at h9; done) | ((try simp only at h9); omega))
  have g15 := sm_51.get g15 (by intro h9; first | (simp at h9; done) | ((try simp only at h9); omega))
  have g16 := sm_51.get g16 (by intro h9; first | (simp at h9; done) | ((try simp only at h9); omega))
  have g17 := sm_51.get g17 (by intro h9; first | (simp at h9; done) | ((try simp only at h9); omega))
  have g18 := sm_51.get g18 (by intro h9; first | (simp at h9; done) | ((try simp only at h9); omega))
  have g19 := sm_51.get g19 (by intro h9; first | (simp at h9; done) | ((try simp only at h9); omega))
  have g20 := sm_51.get g20 (by intro h9; first | (simp at h9; done) | ((try simp only at h9); omega))
  have sm := sm.calln sm_51 (by intro k hk; first | exact False.elim hk | ((try simp only at hk ⊢); omega))
  have g21 : ws_49[21]? = some (q_45, .inr (2, [.ref k1, .ref k4, .ref k7, .ref k8, .ref k9, .ref k10, .int (nI 0), .int (nI 0)])) := g21
  have g22 : ws_49[22]? = some (k1, .inr (4, [.ref k2, .ref k3, .int (nI 0)])) := g22
  have g23 : ws_49[23]? = some (k2, .inl (cI, 1128, .inl (fun jj => nI ((fun _ => 0) jj)))) := g23
  have g24 : ws_49[24]? = some (k3, .inl (cI, 1128, .inl (fun jj => nI ((fun _ => 0) jj)))) := g24
  have g25 : ws_49[25]? = some (k4, .inr (4, [.ref k5, .ref k6, .int (nI 0)])) := g25
  have g26 : ws_49[26]? = some (k5, .inl (cI, 1128, .inl (fun jj => nI ((fun _ => 0) jj)))) := g26
  have g27 : ws_49[27]? = some (k6, .inl (cI, 1128, .inl (fun jj => nI ((fun _ => 0) jj)))) := g27
  have g28 : ws_49[28]? = some (k7, .inl (cI, 48, .inl (fun jj => nI ((fun _ => 0) jj)))) := g28
  have g29 : ws_49[29]? = some (k8, .inl (cI, 48, .inl (fun jj => nI ((fun _ => 0) jj)))) := g29
  have g30 : ws_49[30]? = some (k9, .inl (cI, 48, .inl (fun jj => nI ((fun _ => 0) jj)))) := g30
  have g31 : ws_49[31]? = some (k10, .inl (cI, 48, .inl (fun jj => nI ((fun _ => 0) jj)))) := g31
  have hlen : ws_49.length = 32 := f_50
  refine W.widen (k := 31) (n := 86932) (Nat.le_of_ble_eq_true rfl) (Nat.le_of_ble_eq_true rfl) ?_
  refine nx_putF (D := D) (ci := 9) (v := .ref q_45) (ty := .object "TwinFinder$Kin") (C := RX8) (T := TX8) (N := 9) hx hb hts hin_X8 tyX8 tyX8_ok nmX8 hown hK hP hD hS 0 g0 rfl 5 (by decide) fl_47 (fun _ h9 => h9) rfl hnm rfl (by decide +kernel) rfl rfl (Nat.le_of_ble_eq_true rfl) dX8_init_67 (fun ws_52 H locs gq up_53 hP hD hS => ?_)
  have g0 : ws_52[0]? = some (z0, .inr (9, [.ref q_1, .ref q_10, .ref q_19, .ref q_27, .ref q_36, .ref q_45, .null, .int (nI 0), .int (nI 0)])) := gq
  have g1 := up_53.get g1 (by decide)
  have g2 := up_53.get g2 (by decide)
  have g3 := up_53.get g3 (by decide)
  have g4 := up_53.get g4 (by decide)
  have g5 := up_53.get g5 (by decide)
  have g6 := up_53.get g6 (by decide)
  have g7 := up_53.get g7 (by decide)
  have g8 := up_53.get g8 (by decide)
  have g9 := up_53.get g9 (by decide)
  have g10 := up_53.get g10 (by decide)
  have g11 := up_53.get g11 (by decide)
  have g12 := up_53.get g12 (by decide)
  have g13 := up_53.get g13 (by decide)
  have g14 := up_53.get g14 (by decide)
  have g15 := up_53.get g15 (by decide)
  have g16 := up_53.get g16 (by decide)
  have g17 := up_53.get g17 (by decide)
  have g18 := up_53.get g18 (by decide)
  have g19 := up_53.get g19 (by decide)
  have g20 := up_53.get g20 (by decide)
  have g21 := up_53.get g21 (by decide)
  have g22 := up_53.get g22 (by decide)
  have g23 := up_53.get g23 (by decide)
  have g24 := up_53.get g24 (by decide)
  have g25 := up_53.get g25 (by decide)
  have g26 := up_53.get g26 (by decide)
  have g27 := up_53.get g27 (by decide)
  have g28 := up_53.get g28 (by decide)
  have g29 := up_53.get g29 (by decide)
  have g30 := up_53.get g30 (by decide)
  have g31 := up_53.get g31 (by decide)
  have hlen := up_53.1.trans hlen
  have sm := sm.up up_53 (by simp)
  refine lv_aload_n hx hb dX8_init_70 rfl (lv_at hl 0 rfl) ?_
  refine lv_sipush (v := nI 800) hx hb dX8_init_71 (by decide) ?_
  refine nx_newI hx hb (hts (.arrayClass .int) (by decide +kernel)) hK hP hD hS hA (N' := 800) (by decide) (Nat.le_of_ble_eq_true rfl) (Nat.le_of_ble_eq_true rfl) dX8_init_74 (fun q_54 ws_55 H gq ps_56 hP hD hS => ?_)
  rw [hlen] at gq
  have g0 := ps_56.get g0
  have g1 := ps_56.get g1
  have g2 := ps_56.get g2
  have g3 := ps_56.get g3
  have g4 := ps_56.get g4
  have g5 := ps_56.get g5
  have g6 := ps_56.get g6
  have g7 := ps_56.get g7
  have g8 := ps_56.get g8
  have g9 := ps_56.get g9
  have g10 := ps_56.get g10
  have g11 := ps_56.get g11
  have g12 := ps_56.get g12
  have g13 := ps_56.get g13
  have g14 := ps_56.get g14
  have g15 := ps_56.get g15
  have g16 := ps_56.get g16
  have g17 := ps_56.get g17
  have g18 := ps_56.get g18
  have g19 := ps_56.get g19
  have g20 := ps_56.get g20
  have g21 := ps_56.get g21
  have g22 := ps_56.get g22
  have g23 := ps_56.get g23
  have g24 := ps_56.get g24
  have g25 := ps_56.get g25
  have g26 := ps_56.get g26
  have g27 := ps_56.get g27
  have g28 := ps_56.get g28
  have g29 := ps_56.get g29
  have g30 := ps_56.get g30
  have g31 := ps_56.get g31
  have g32 : ws_55[32]? = some (q_54, .inl (cI, 800, .inl (fun jj => nI ((fun _ => 0) jj)))) := gq
  have hlen : ws_55.length = 33 := by have h9 := ps_56.1; omega
  have sm := sm.ps ps_56
  refine W.widen (k := 32) (n := 87732) (by first | decide | omega) (by first | decide | omega) ?_
  refine nx_putF (D := D) (ci := 9) (v := .ref q_54) (ty := .array .int) (C := RX8) (T := TX8) (N := 9) hx hb hts hin_X8 tyX8 tyX8_ok nmX8 hown hK hP hD hS 0 g0 rfl 6 (by decide) fl_51 (fun _ h9 => h9) rfl hnm rfl (by decide +kernel) rfl rfl (Nat.le_of_ble_eq_true rfl) dX8_init_76 (fun ws_57 H locs gq up_58 hP hD hS => ?_)
  have g0 : ws_57[0]? = some (z0, .inr (9, [.ref q_1, .ref q_10, .ref q_19, .ref q_27, .ref q_36, .ref q_45, .ref q_54, .int (nI 0), .int (nI 0)])) := gq
  have g1 := up_58.get g1 (by decide)
  have g2 := up_58.get g2 (by decide)
  have g3 := up_58.get g3 (by decide)
  have g4 := up_58.get g4 (by decide)
  have g5 := up_58.get g5 (by decide)
  have g6 := up_58.get g6 (by decide)
  have g7 := up_58.get g7 (by decide)
  have g8 := up_58.get g8 (by decide)
  have g9 := up_58.get g9 (by decide)
  have g10 := up_58.get g10 (by decide)
  have g11 := up_58.get g11 (by decide)
  have g12 := up_58.get g12 (by decide)
  have g13 := up_58.get g13 (by decide)
  have g14 := up_58.get g14 (by decide)
  have g15 := up_58.get g15 (by decide)
  have g16 := up_58.get g16 (by decide)
  have g17 := up_58.get g17 (by decide)
  have g18 := up_58.get g18 (by decide)
  have g19 := up_58.get g19 (by decide)
  have g20 := up_58.get g20 (by decide)
  have g21 := up_58.get g21 (by decide)
  have g22 := up_58.get g22 (by decide)
  have g23 := up_58.get g23 (by decide)
  have g24 := up_58.get g24 (by decide)
  have g25 := up_58.get g25 (by decide)
  have g26 := up_58.get g26 (by decide)
  have g27 := up_58.get g27 (by decide)
  have g28 := up_58.get g28 (by decide)
  have g29 := up_58.get g29 (by decide)
  have g30 := up_58.get g30 (by decide)
  have g31 := up_58.get g31 (by decide)
  have g32 := up_58.get g32 (by decide)
  have hlen := up_58.1.trans hlen
  have sm := sm.up up_58 (by simp)
  refine lv_aload_n hx hb dX8_init_79 rfl (lv_at hl 0 rfl) ?_
  refine lv_iconst (v := nI 0) hx hb dX8_init_80 (by decide) ?_
  refine nx_put (D := D) (ci := 9) (v := .int (nI 0)) (ty := .int) (C := RX8) (T := TX8) (N := 9) hx hb hts hin_X8 tyX8 tyX8_ok nmX8 hown hK hP hD hS 0 g0 rfl 7 (by decide) fl_55 (fun _ h9 => h9) rfl (by decide +kernel) rfl rfl (Nat.le_of_ble_eq_true rfl) dX8_init_81 (fun ws_59 H locs gq up_60 hP hD hS => ?_)
  have g0 : ws_59[0]? = some (z0, .inr (9, [.ref q_1, .ref q_10, .ref q_19, .ref q_27, .ref q_36, .ref q_45, .ref q_54, .int (nI 0), .int (nI 0)])) := gq
  have g1 := up_60.get g1 (by decide)
  have g2 := up_60.get g2 (by decide)
  have g3 := up_60.get g3 (by decide)
  have g4 := up_60.get g4 (by decide)
  have g5 := up_60.get g5 (by decide)
  have g6 := up_60.get g6 (by decide)
  have g7 := up_60.get g7 (by decide)
  have g8 := up_60.get g8 (by decide)
  have g9 := up_60.get g9 (by decide)
  have g10 := up_60.get g10 (by decide)
  have g11 := up_60.get g11 (by decide)
  have g12 := up_60.get g12 (by decide)
  have g13 := up_60.get g13 (by decide)
  have g14 := up_60.get g14 (by decide)
  have g15 := up_60.get g15 (by decide)
  have g16 := up_60.get g16 (by decide)
  have g17 := up_60.get g17 (by decide)
  have g18 := up_60.get g18 (by decide)
  have g19 := up_60.get g19 (by decide)
  have g20 := up_60.get g20 (by decide)
  have g21 := up_60.get g21 (by decide)
  have g22 := up_60.get g22 (by decide)
  have g23 := up_60.get g23 (by decide)
  have g24 := up_60.get g24 (by decide)
  have g25 := up_60.get g25 (by decide)
  have g26 := up_60.get g26 (by decide)
  have g27 := up_60.get g27 (by decide)
  have g28 := up_60.get g28 (by decide)
  have g29 := up_60.get g29 (by decide)
  have g30 := up_60.get g30 (by decide)
  have g31 := up_60.get g31 (by decide)
  have g32 := up_60.get g32 (by decide)
  have hlen := up_60.1.trans hlen
  have sm := sm.up up_60 (by simp)
  refine lv_aload_n hx hb dX8_init_84 rfl (lv_at hl 0 rfl) ?_
  refine lv_iconst (v := nI 4) hx hb dX8_init_85 (by decide) ?_
  refine nx_put (D := D) (ci := 9) (v := .int (nI 4)) (ty := .int) (C := RX8) (T := TX8) (N := 9) hx hb hts hin_X8 tyX8 tyX8_ok nmX8 hown hK hP hD hS 0 g0 rfl 8 (by decide) fl_59 (fun _ h9 => h9) rfl (by decide +kernel) rfl rfl (Nat.le_of_ble_eq_true rfl) dX8_init_86 (fun ws_61 H locs gq up_62 hP hD hS => ?_)
  have g0 : ws_61[0]? = some (z0, .inr (9, [.ref q_1, .ref q_10, .ref q_19, .ref q_27, .ref q_36, .ref q_45, .ref q_54, .int (nI 0), .int (nI 4)])) := gq
  have g1 := up_62.get g1 (by decide)
  have g2 := up_62.get g2 (by decide)
  have g3 := up_62.get g3 (by decide)
  have g4 := up_62.get g4 (by decide)
  have g5 := up_62.get g5 (by decide)
  have g6 := up_62.get g6 (by decide)
  have g7 := up_62.get g7 (by decide)
  have g8 := up_62.get g8 (by decide)
  have g9 := up_62.get g9 (by decide)
  have g10 := up_62.get g10 (by decide)
  have g11 := up_62.get g11 (by decide)
  have g12 := up_62.get g12 (by decide)
  have g13 := up_62.get g13 (by decide)
  have g14 := up_62.get g14 (by decide)
  have g15 := up_62.get g15 (by decide)
  have g16 := up_62.get g16 (by decide)
  have g17 := up_62.get g17 (by decide)
  have g18 := up_62.get g18 (by decide)
  have g19 := up_62.get g19 (by decide)
  have g20 := up_62.get g20 (by decide)
  have g21 := up_62.get g21 (by decide)
  have g22 := up_62.get g22 (by decide)
  have g23 := up_62.get g23 (by decide)
  have g24 := up_62.get g24 (by decide)
  have g25 := up_62.get g25 (by decide)
  have g26 := up_62.get g26 (by decide)
  have g27 := up_62.get g27 (by decide)
  have g28 := up_62.get g28 (by decide)
  have g29 := up_62.get g29 (by decide)
  have g30 := up_62.get g30 (by decide)
  have g31 := up_62.get g31 (by decide)
  have g32 := up_62.get g32 (by decide)
  have hlen := up_62.1.trans hlen
  have sm := sm.up up_62 (by simp)
  exact CV.ret C hK hP hD hS (⟨_, _, _, _, _, _, _, _, _, _, _, _, _, _, _, _, _, _, _, _, _, _, _, _, _, _, _, _, _, _, _, _, _, hta, hlen, sm, g0, g1, g2, g3, g4, g5, g6, g7, g8, g9, g10, g11, g12, g13, g14, g15, g16, g17, g18, g19, g20, g21, g22, g23, g24, g25, g26, g27, g28, g29, g30, g31, g32⟩) (by decide) (by decide) dX8_init_89
