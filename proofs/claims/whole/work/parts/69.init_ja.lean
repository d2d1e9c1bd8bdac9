set_option maxHeartbeats 4000000 in
set_option maxRecDepth 100000 in
theorem c_X5_init {D : va_G} {cB cI cJ cO : ClassId} {l : Launch} {ad mi : Nat} {s0 : Nat} {ws : va_W} (g16 : ws[16]? = some (s0, .inr (6, [.null, .null, .null, .int (nI 0)]))) (hlen : ws.length = 17) : CVX D (TY cB cI cJ cO) l yX5_init wsX5_init ({ frames := 4, cells := 3, slots := 9, locals := 72 }) ad mi [.ref s0] ws (fun ws' => ∃ s1 : Nat, ∃ s2 : Nat, ∃ s3 : Nat, (ws'.length = 20) ∧ Sm (fun k => k = 16) ws ws' ∧ ws'[16]? = some (s0, .inr (6, [.ref s1, .ref s2, .ref s3, .int (nI 0)])) ∧ ws'[17]? = some (s1, .inr (0, [.int (nI 0), .ref ad, .int (nI 0)])) ∧ ws'[18]? = some (s2, .inr (0, [.int (nI 0), .ref ad, .int (nI 0)])) ∧ ws'[19]? = some (s3, .inr (0, [.int (nI 0), .ref ad, .int (nI 0)]))) := by
  refine CVX.of (cc := cX5_init) (maxL := 1) (ret := none) (by decide) rfl (Nat.le_of_ble_eq_true rfl) ?_
  intro p e s m below meth c A C hK hP hD hA hS hX ls hl
  have hN := hX.1
  obtain ⟨hx, hb, hr, hml, hts, hown, hlocks, hnm⟩ := id C
  have fl_12 := hts (.fieldLink RX5 12 "TwinFinder$Shelf" "here" "Ljava/util/ArrayList;") (by decide +kernel)
  have fl_18 := hts (.fieldLink RX5 18 "TwinFinder$Shelf" "spare" "Ljava/util/ArrayList;") (by decide +kernel)
  have fl_21 := hts (.fieldLink RX5 21 "TwinFinder$Shelf" "ranked" "Ljava/util/ArrayList;") (by decide +kernel)
  have hin_Jx4a65c : ∀ w ∈ u_ws RJx4a65c TJx4a65c 3, w ∈ wsX5_init := by decide +kernel
  have hin_X5 : ∀ w ∈ u_ws RX5 TX5 4, w ∈ wsX5_init := by decide +kernel
  have hl : lv_has ls 1 [(0, .ref s0)] := hl
  have sm : Sm (fun k => k = 16) ws ws := Sm.rf
  have hc0 : (0 : Nat) ≤ 3 := by decide
  have hs0 : (0 : Nat) ≤ 9 := by decide
  refine lv_aload_n hx hb dX5_init_0 rfl (lv_at hl 0 rfl) ?_
  refine W.objInit hx hb hown (hts (.methodLink RX5 3 objectInit) (by decide +kernel)) (hts (.instanceMethod objectInit) (by decide +kernel)) (hts _ (List.mem_of_getElem? (l := wsX5_init) (i := 3) rfl)) rfl (by rw [hml]; exact hl.1) rfl dX5_init_1 (Nat.le_of_ble_eq_true rfl) (Nat.le_of_ble_eq_true rfl) ?_
  refine W.eq (g2 := F0 m 4 ls []) rfl ?_
  refine lv_aload_n hx hb dX5_init_4 rfl (lv_at hl 0 rfl) ?_
  refine nx_new (ci := 0) (fs := [.int (nI 0), .null, .int (nI 0)]) (C := RJx4a65c) (T := TJx4a65c) (N := 3) hx hb hts hin_Jx4a65c tyJx4a65c tyJx4a65c_ok hown (hts (.classLink RX5 9 RJx4a65c) (by decide +kernel)) (hts (.instantiable RJx4a65c 3) (by decide +kernel)) (hts (.initialized RJx4a65c) (by decide +kernel)) hK hP hD hS hA rfl (fun j hj => by rcases (show j = 0 ∨ j = 1 ∨ j = 2 by omega) with rfl | rfl | rfl <;> rfl) (Nat.le_of_ble_eq_true rfl) (Nat.le_of_ble_eq_true rfl) dX5_init_5 (fun q_1 ws_2 H gq ps_3 hP hD hS => ?_)
  rw [hlen] at gq
  have g16 := ps_3.get g16
  have g17 : ws_2[17]? = some (q_1, .inr (0, [.int (nI 0), .null, .int (nI 0)])) := gq
  have hlen : ws_2.length = 18 := by have h9 := ps_3.1; omega
  have sm := sm.ps ps_3
  refine W.widen (k := 1) (n := 3) (by first | decide | omega) (by first | decide | omega) ?_
  refine lv_dup hx hb dX5_init_8 rfl ?_
  refine CV.go (va_runI (As := []) (rest := [.ref q_1, .ref s0]) ⟨hx, hb, hml, hown, hts⟩ (c_Jx4a65c_init_da8c8 (p_ := 17) g17 hlen _) (cwI 0 hts gX5_init_Jx4a65c_init_da8c8 rfl rfl rfl (hts (.initialized RJx4a65c) (by decide +kernel)) (hts (.methodLink RX5 11 yJx4a65c_init_da8c8) (by decide +kernel)) (hts (.instanceMethod yJx4a65c_init_da8c8) (by decide +kernel)) rfl (by decide +kernel) ⟨Nat.le_of_ble_eq_true rfl, Nat.le_of_ble_eq_true rfl⟩) ⟨pwx_blind, fun U hU hW => pwx_pre hX hA hS hK hP hD hU hW⟩ rfl rfl hl.1 rfl (lv_room (Nat.le_of_ble_eq_true rfl)) dX5_init_9 ⟨Nat.le_of_ble_eq_true rfl, Nat.le_of_ble_eq_true rfl⟩) hD hS hA (fun ws_5 H locs hp hP hD hS => ?_)
  obtain ⟨f_6, sm_7, g17⟩ := hp
  have g16 := sm_7.get g16 (by intro h9; first | (simp at h9; done) | ((try simp only at h9); omega))
  have sm := sm.calln sm_7 (by intro k hk; first | exact False.elim hk | ((try simp only at hk ⊢); omega))
  have g17 : ws_5[17]? = some (q_1, .inr (0, [.int (nI 0), .ref ad, .int (nI 0)])) := g17
  have hlen : ws_5.length = 18 := f_6
  refine nx_putF (D := D) (ci := 6) (v := .ref q_1) (ty := .object "java/util/ArrayList") (C := RX5) (T := TX5) (N := 4) hx hb hts hin_X5 tyX5 tyX5_ok nmX5 hown hK hP hD hS 16 g16 rfl 0 (by decide) fl_12 (fun _ h9 => h9) rfl hnm rfl (by decide +kernel) rfl rfl (Nat.le_of_ble_eq_true rfl) dX5_init_12 (fun ws_8 H locs gq up_9 hP hD hS => ?_)
  have g16 : ws_8[16]? = some (s0, .inr (6, [.ref q_1, .null, .null, .int (nI 0)])) := gq
  have g17 := up_9.get g17 (by decide)
  have hlen := up_9.1.trans hlen
  have sm := sm.up up_9 (by simp)
  refine lv_aload_n hx hb dX5_init_15 rfl (lv_at hl 0 rfl) ?_
  refine nx_new (ci := 0) (fs := [.int (nI 0), .null, .int (nI 0)]) (C := RJx4a65c) (T := TJx4a65c) (N := 3) hx hb hts hin_Jx4a65c tyJx4a65c tyJx4a65c_ok hown (hts (.classLink RX5 9 RJx4a65c) (by decide +kernel)) (hts (.instantiable RJx4a65c 3) (by decide +kernel)) (hts (.initialized RJx4a65c) (by decide +kernel)) hK hP hD hS hA rfl (fun j hj => by rcases (show j = 0 ∨ j = 1 ∨ j = 2 by omega) with rfl | rfl | rfl <;> rfl) (Nat.le_of_ble_eq_true rfl) (Nat.le_of_ble_eq_true rfl) dX5_init_16 (fun q_10 ws_11 H gq ps_12 hP hD hS => ?_)
  rw [hlen] at gq
  have g16 := ps_12.get g16
  have g17 := ps_12.get g17
  have g18 : ws_11[18]? = some (q_10, .inr (0, [.int (nI 0), .null, .int (nI 0)])) := gq
  have hlen : ws_11.length = 19 := by have h9 := ps_12.1; omega
  have sm := sm.ps ps_12
  refine W.widen (k := 2) (n := 6) (by first | decide | omega) (by first | decide | omega) ?_
  refine lv_dup hx hb dX5_init_19 rfl ?_
  refine CV.go (va_runI (As := []) (rest := [.ref q_10, .ref s0]) ⟨hx, hb, hml, hown, hts⟩ (c_Jx4a65c_init_da8c8 (p_ := 18) g18 hlen _) (cwI 0 hts gX5_init_Jx4a65c_init_da8c8 rfl rfl rfl (hts (.initialized RJx4a65c) (by decide +kernel)) (hts (.methodLink RX5 11 yJx4a65c_init_da8c8) (by decide +kernel)) (hts (.instanceMethod yJx4a65c_init_da8c8) (by decide +kernel)) rfl (by decide +kernel) ⟨Nat.le_of_ble_eq_true rfl, Nat.le_of_ble_eq_true rfl⟩) ⟨pwx_blind, fun U hU hW => pwx_pre hX hA hS hK hP hD hU hW⟩ rfl rfl hl.1 rfl (lv_room (Nat.le_of_ble_eq_true rfl)) dX5_init_20 ⟨Nat.le_of_ble_eq_true rfl, Nat.le_of_ble_eq_true rfl⟩) hD hS hA (fun ws_14 H locs hp hP hD hS => ?_)
  obtain ⟨f_15, sm_16, g18⟩ := hp
  have g16 := sm_16.get g16 (by intro h9; first | (simp at h9; done) | ((try simp only at h9); omega))
  have g17 := sm_16.get g17 (by intro h9; first | (simp at h9; done) | ((try simp only at h9); omega))
  have sm := sm.calln sm_16 (by intro k hk; first | exact False.elim hk | ((try simp only at hk ⊢); omega))
  have g18 : ws_14[18]? = some (q_10, .inr (0, [.int (nI 0), .ref ad, .int (nI 0)])) := g18
  have hlen : ws_14.length = 19 := f_15
  refine nx_putF (D := D) (ci := 6) (v := .ref q_10) (ty := .object "java/util/ArrayList") (C := RX5) (T := TX5) (N := 4) hx hb hts hin_X5 tyX5 tyX5_ok nmX5 hown hK hP hD hS 16 g16 rfl 1 (by decide) fl_18 (fun _ h9 => h9) rfl hnm rfl (by decide +kernel) rfl rfl (Nat.le_of_ble_eq_true rfl) dX5_init_23 (fun ws_17 H locs gq up_18 hP hD hS => ?_)
  have g16 : ws_17[16]? = some (s0, .inr (6, [.ref q_1, .ref q_10, .null, .int (nI 0)])) := gq
  have g17 := up_18.get g17 (by decide)
  have g18 := up_18.get g18 (by decide)
  have hlen := up_18.1.trans hlen
  have sm := sm.up up_18 (by simp)
  refine lv_aload_n hx hb dX5_init_26 rfl (lv_at hl 0 rfl) ?_
  refine nx_new (ci := 0) (fs := [.int (nI 0), .null, .int (nI 0)]) (C := RJx4a65c) (T := TJx4a65c) (N := 3) hx hb hts hin_Jx4a65c tyJx4a65c tyJx4a65c_ok hown (hts (.classLink RX5 9 RJx4a65c) (by decide +kernel)) (hts (.instantiable RJx4a65c 3) (by decide +kernel)) (hts (.initialized RJx4a65c) (by decide +kernel)) hK hP hD hS hA rfl (fun j hj => by rcases (show j = 0 ∨ j = 1 ∨ j = 2 by omega) with rfl | rfl | rfl <;> rfl) (Nat.le_of_ble_eq_true rfl) (Nat.le_of_ble_eq_true rfl) dX5_init_27 (fun q_19 ws_20 H gq ps_21 hP hD hS => ?_)
  rw [hlen] at gq
  have g16 := ps_21.get g16
  have g17 := ps_21.get g17
  have g18 := ps_21.get g18
  have g19 : ws_20[19]? = some (q_19, .inr (0, [.int (nI 0), .null, .int (nI 0)])) := gq
  have hlen : ws_20.length = 20 := by have h9 := ps_21.1; omega
  have sm := sm.ps ps_21
  refine W.widen (k := 3) (n := 9) (by first | decide | omega) (by first | decide | omega) ?_
  refine lv_dup hx hb dX5_init_30 rfl ?_
  refine CV.go (va_runI (As := []) (rest := [.ref q_19, .ref s0]) ⟨hx, hb, hml, hown, hts⟩ (c_Jx4a65c_init_da8c8 (p_ := 19) g19 hlen _) (cwI 0 hts gX5_init_Jx4a65c_init_da8c8 rfl rfl rfl (hts (.initialized RJx4a65c) (by decide +kernel)) (hts (.methodLink RX5 11 yJx4a65c_init_da8c8) (by decide +kernel)) (hts (.instanceMethod yJx4a65c_init_da8c8) (by decide +kernel)) rfl (by decide +kernel) ⟨Nat.le_of_ble_eq_true rfl, Nat.le_of_ble_eq_true rfl⟩) ⟨pwx_blind, fun U hU hW => pwx_pre hX hA hS hK hP hD hU hW⟩ rfl rfl hl.1 rfl (lv_room (Nat.le_of_ble_eq_true rfl)) dX5_init_31 ⟨Nat.le_of_ble_eq_true rfl, Nat.le_of_ble_eq_true rfl⟩) hD hS hA (fun ws_23 H locs hp hP hD hS => ?_)
  obtain ⟨f_24, sm_25, g19⟩ := hp
  have g16 := sm_25.get g16 (by intro h9; first | (simp at h9; done) | ((try simp only at h9); omega))
  have g17 := sm_25.get g17 (by intro h9; first | (simp at h9; done) | ((try simp only at h9); omega))
  have g18 := sm_25.get g18 (by intro h9; first | (simp at h9; done) | ((try simp only at h9); omega))
  have sm := sm.calln sm_25 (by intro k hk; first | exact False.elim hk | ((try simp only at hk ⊢); omega))
  have g19 : ws_23[19]? = some (q_19, .inr (0, [.int (nI 0), .ref ad, .int (nI 0)])) := g19
  have hlen : ws_23.length = 20 := f_24
  refine nx_putF (D := D) (ci := 6) (v := .ref q_19) (ty := .object "java/util/ArrayList") (C := RX5) (T := TX5) (N := 4) hx hb hts hin_X5 tyX5 tyX5_ok nmX5 hown hK hP hD hS 16 g16 rfl 2 (by decide) fl_21 (fun _ h9 => h9) rfl hnm rfl (by decide +kernel) rfl rfl (Nat.le_of_ble_eq_true rfl) dX5_init_34 (fun ws_26 H locs gq up_27 hP hD hS => ?_)
  have g16 : ws_26[16]? = some (s0, .inr (6, [.ref q_1, .ref q_10, .ref q_19, .int (nI 0)])) := gq
  have g17 := up_27.get g17 (by decide)
  have g18 := up_27.get g18 (by decide)
  have g19 := up_27.get g19 (by decide)
  have hlen := up_27.1.trans hlen
  have sm := sm.up up_27 (by simp)
  exact CV.ret C hK hP hD hS (⟨_, _, _, hlen, sm, g16, g17, g18, g19⟩) (by decide) (by decide) dX5_init_37
