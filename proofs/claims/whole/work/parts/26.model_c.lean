def cntR (L : List Nat) (x : Int32) : Int32 := if 0 ≤ x.toInt ∧ x.toInt < L.length then nI (L.getD x.toNatClampNeg 0) else -1
theorem cntR_at {L : List Nat} {j v : Nat} (h1 : j < 2 ^ 31) (h2 : j < L.length) (h3 : L.getD j 0 = v) : nI v = cntR L (nI j) := by
  rw [cntR, if_pos ⟨by rw [nI_toInt h1]; omega, by rw [nI_toInt h1]; omega⟩, nI_clamp h1, h3]
theorem cntR_out {a b c d e f g h i j k l m : Nat} {x : Int32} (hx : x.toInt < 0 ∨ ((12 : Nat) : Int) < x.toInt) : -1 = cntR [a, b, c, d, e, f, g, h, i, j, k, l, m] x := by
  rw [cntR, if_neg (by simp; omega)]

set_option maxHeartbeats 4000000 in
set_option maxRecDepth 100000 in
theorem c_X9_mode {D : va_G} {cB cI cJ cO : ClassId} {l : Launch} {m0 b1 b2 b5 b6 b7 b12 b14 b15 b16 b20 b21 b22 b23 b24 b26 b31 th len ps nm bt_ so wi fm dn ca sta xn bb rr pp qq : Nat} {x k : Int32} {ws : va_W} (g33 : ws[33]? = some (m0, .inr (10, [.int (nI th), .ref b1, .ref b2, .int (nI len), .int (nI ps), .ref b5, .ref b6, .ref b7, .int (nI nm), .int (nI bt_), .int (nI so), .int (nI wi), .ref b12, .int (nI fm), .ref b14, .ref b15, .ref b16, .int (nI dn), .int (nI ca), .int (nI sta), .ref b20, .ref b21, .ref b22, .ref b23, .ref b24, .int (nI xn), .ref b26, .int (nI bb), .int (nI rr), .int (nI pp), .int (nI qq), .ref b31])))  : CI D (TY cB cI cJ cO) l yX9_mode wsX9_mode ({ frames := 1, cells := 0, slots := 0, locals := 21 }) [.ref m0, .int x, .int k] ws (fun r ws' => r = (bif modeOk x k then nI dn else 0) ∧ Sm (fun k => k = 33) ws ws' ∧ ws'[33]? = some (m0, .inr (10, [.int (nI ((!modeOk x k).toNat)), .ref b1, .ref b2, .int (nI len), .int (nI ps), .ref b5, .ref b6, .ref b7, .int (nI (bif modeOk x k then 0 else nm)), .int (nI (bif modeOk x k then 0 else bt_)), .int (nI (bif modeOk x k then x.toNatClampNeg else so)), .int (nI (bif modeOk x k then k.toNatClampNeg else wi)), .ref b12, .int (nI fm), .ref b14, .ref b15, .ref b16, .int (nI (bif modeOk x k then 0 else dn)), .int (nI (bif modeOk x k then 0 else ca)), .int (nI (bif modeOk x k then 1 else sta)), .ref b20, .ref b21, .ref b22, .ref b23, .ref b24, .int (nI xn), .ref b26, .int (nI bb), .int (nI rr), .int (nI pp), .int (nI qq), .ref b31]))) := by
  refine CI.of (cc := cX9_mode) (maxL := 4) (ret := (some .int)) (by decide) rfl (Nat.le_of_ble_eq_true rfl) ?_
  intro p e s m below meth c A C hK hP hD hA hS ls hl
  obtain ⟨hx, hb, hr, hml, hts, hown, hlocks, hnm⟩ := id C
  have fl_24 := hts (.fieldLink RX9 24 "TwinFinderModel" "numbers" "I") (by decide +kernel)
  have fl_41 := hts (.fieldLink RX9 41 "TwinFinderModel" "bytes" "I") (by decide +kernel)
  have fl_51 := hts (.fieldLink RX9 51 "TwinFinderModel" "sort" "I") (by decide +kernel)
  have fl_54 := hts (.fieldLink RX9 54 "TwinFinderModel" "wide" "I") (by decide +kernel)
  have fl_65 := hts (.fieldLink RX9 65 "TwinFinderModel" "documents" "I") (by decide +kernel)
  have fl_68 := hts (.fieldLink RX9 68 "TwinFinderModel" "came" "I") (by decide +kernel)
  have fl_84 := hts (.fieldLink RX9 84 "TwinFinderModel" "stale" "Z") (by decide +kernel)
  have hin_X9 : ∀ w ∈ u_ws RX9 TX9 32, w ∈ wsX9_mode := by decide +kernel
  have hl : lv_has ls 4 [(0, .ref m0), (1, .int x), (2, .int k)] := hl
  have sm : Sm (fun k => k = 33) ws ws := Sm.rf
  have hc0 : (0 : Nat) ≤ 0 := by decide
  have hs0 : (0 : Nat) ≤ 0 := by decide
  refine lv_aload_n hx hb dX9_mode_0 rfl (lv_at hl 0 rfl) ?_
  refine lv_iload_n hx hb dX9_mode_1 rfl (lv_at hl 1 rfl) ?_
  refine lv_if_lt (tgt := 21) hx hb dX9_mode_2 (by decide) (fun c_2 => ?_) (fun c_2 => ?_)
  · refine lv_iconst (v := nI 1) hx hb dX9_mode_21 (by decide) ?_
    refine lv_goto (tgt := 26) hx hb dX9_mode_22 (by decide) ?_
    refine CI.go (va_runV (As := [.int (nI 1)]) (rest := []) ⟨hx, hb, hml, hown, hts⟩ (c_X9_throwsIf (b := true) g33  _) (cwV 1 hts gX9_mode_X9_throwsIf rfl rfl rfl (by decide +kernel) ⟨Nat.le_of_ble_eq_true rfl, Nat.le_of_ble_eq_true rfl⟩) ⟨pw_blind, va_recv hK hP (ci := 10) (q0 := 33) rfl g33, fun U hU hW => pw_pre hK hP hD hU hW⟩ rfl rfl hl.1 rfl (lv_room (Nat.le_of_ble_eq_true rfl)) dX9_mode_26 ⟨by decide, by decide⟩) hD hS hA (fun r_1 ws_2 H locs hp hP hD hS => ?_)
    obtain ⟨rfl, sm_3, g33⟩ := hp
    have sm := sm.call sm_3 (by intro k hk; (try simp only at hk ⊢); omega)
    have g33 : ws_2[33]? = some (m0, .inr (10, [.int (nI 1), .ref b1, .ref b2, .int (nI len), .int (nI ps), .ref b5, .ref b6, .ref b7, .int (nI nm), .int (nI bt_), .int (nI so), .int (nI wi), .ref b12, .int (nI fm), .ref b14, .ref b15, .ref b16, .int (nI dn), .int (nI ca), .int (nI sta), .ref b20, .ref b21, .ref b22, .ref b23, .ref b24, .int (nI xn), .ref b26, .int (nI bb), .int (nI rr), .int (nI pp), .int (nI qq), .ref b31])) := g33
    refine lv_if_eq (tgt := 34) hx hb dX9_mode_29 (by decide) (fun c_29 => absurd c_29 (by decide)) (fun c_29 => ?_)
    refine lv_iconst (v := nI 0) hx hb dX9_mode_32 (by decide) ?_
    have hno : modeOk x k = false := by simp [modeOk, c_2]
    have g33 : ws_2[33]? = some (m0, .inr (10, [.int (nI ((!modeOk x k).toNat)), .ref b1, .ref b2, .int (nI len), .int (nI ps), .ref b5, .ref b6, .ref b7, .int (nI (bif modeOk x k then 0 else nm)), .int (nI (bif modeOk x k then 0 else bt_)), .int (nI (bif modeOk x k then x.toNatClampNeg else so)), .int (nI (bif modeOk x k then k.toNatClampNeg else wi)), .ref b12, .int (nI fm), .ref b14, .ref b15, .ref b16, .int (nI (bif modeOk x k then 0 else dn)), .int (nI (bif modeOk x k then 0 else ca)), .int (nI (bif modeOk x k then 1 else sta)), .ref b20, .ref b21, .ref b22, .ref b23, .ref b24, .int (nI xn), .ref b26, .int (nI bb), .int (nI rr), .int (nI pp), .int (nI qq), .ref b31])) := by rw [hno]; exact g33
    exact CI.ret (v := (nI 0)) C hK hP hD hS rfl (⟨(by rw [hno]; rfl), sm, g33⟩) hc0 hs0 dX9_mode_33
  · refine lv_iload_n hx hb dX9_mode_5 rfl (lv_at hl 1 rfl) ?_
    refine lv_iconst (v := nI 1) hx hb dX9_mode_6 (by decide) ?_
    refine lv_icmp_gt (tgt := 21) hx hb dX9_mode_7 (by decide) (fun c_7 => ?_) (fun c_7 => ?_)
    · refine lv_iconst (v := nI 1) hx hb dX9_mode_21 (by decide) ?_
      refine lv_goto (tgt := 26) hx hb dX9_mode_22 (by decide) ?_
      refine CI.go (va_runV (As := [.int (nI 1)]) (rest := []) ⟨hx, hb, hml, hown, hts⟩ (c_X9_throwsIf (b := true) g33  _) (cwV 1 hts gX9_mode_X9_throwsIf rfl rfl rfl (by decide +kernel) ⟨Nat.le_of_ble_eq_true rfl, Nat.le_of_ble_eq_true rfl⟩) ⟨pw_blind, va_recv hK hP (ci := 10) (q0 := 33) rfl g33, fun U hU hW => pw_pre hK hP hD hU hW⟩ rfl rfl hl.1 rfl (lv_room (Nat.le_of_ble_eq_true rfl)) dX9_mode_26 ⟨by decide, by decide⟩) hD hS hA (fun r_4 ws_5 H locs hp hP hD hS => ?_)
      obtain ⟨rfl, sm_6, g33⟩ := hp
      have sm := sm.call sm_6 (by intro k hk; (try simp only at hk ⊢); omega)
      have g33 : ws_5[33]? = some (m0, .inr (10, [.int (nI 1), .ref b1, .ref b2, .int (nI len), .int (nI ps), .ref b5, .ref b6, .ref b7, .int (nI nm), .int (nI bt_), .int (nI so), .int (nI wi), .ref b12, .int (nI fm), .ref b14, .ref b15, .ref b16, .int (nI dn), .int (nI ca), .int (nI sta), .ref b20, .ref b21, .ref b22, .ref b23, .ref b24, .int (nI xn), .ref b26, .int (nI bb), .int (nI rr), .int (nI pp), .int (nI qq), .ref b31])) := g33
      refine lv_if_eq (tgt := 34) hx hb dX9_mode_29 (by decide) (fun c_29 => absurd c_29 (by decide)) (fun c_29 => ?_)
      refine lv_iconst (v := nI 0) hx hb dX9_mode_32 (by decide) ?_
      have hno : modeOk x k = false := by simp [modeOk, c_2, c_7]
      have g33 : ws_5[33]? = some (m0, .inr (10, [.int (nI ((!modeOk x k).toNat)), .ref b1, .ref b2, .int (nI len), .int (nI ps), .ref b5, .ref b6, .ref b7, .int (nI (bif modeOk x k then 0 else nm)), .int (nI (bif modeOk x k then 0 else bt_)), .int (nI (bif modeOk x k then x.toNatClampNeg else so)), .int (nI (bif modeOk x k then k.toNatClampNeg else wi)), .ref b12, .int (nI fm), .ref b14, .ref b15, .ref b16, .int (nI (bif modeOk x k then 0 else dn)), .int (nI (bif modeOk x k then 0 else ca)), .int (nI (bif modeOk x k then 1 else sta)), .ref b20, .ref b21, .ref b22, .ref b23, .ref b24, .int (nI xn), .ref b26, .int (nI bb), .int (nI rr), .int (nI pp), .int (nI qq), .ref b31])) := by rw [hno]; exact g33
      exact CI.ret (v := (nI 0)) C hK hP hD hS rfl (⟨(by rw [hno]; rfl), sm, g33⟩) hc0 hs0 dX9_mode_33
    · refine lv_iload_n hx hb dX9_mode_10 rfl (lv_at hl 2 rfl) ?_
      refine lv_iconst (v := nI 1) hx hb dX9_mode_11 (by decide) ?_
      refine lv_icmp_lt (tgt := 21) hx hb dX9_mode_12 (by decide) (fun c_12 => ?_) (fun c_12 => ?_)
      · refine lv_iconst (v := nI 1) hx hb dX9_mode_21 (by decide) ?_
        refine lv_goto (tgt := 26) hx hb dX9_mode_22 (by decide) ?_
        refine CI.go (va_runV (As := [.int (nI 1)]) (rest := []) ⟨hx, hb, hml, hown, hts⟩ (c_X9_throwsIf (b := true) g33  _) (cwV 1 hts gX9_mode_X9_throwsIf rfl rfl rfl (by decide +kernel) ⟨Nat.le_of_ble_eq_true rfl, Nat.le_of_ble_eq_true rfl⟩) ⟨pw_blind, va_recv hK hP (ci := 10) (q0 := 33) rfl g33, fun U hU hW => pw_pre hK hP hD hU hW⟩ rfl rfl hl.1 rfl (lv_room (Nat.le_of_ble_eq_true rfl)) dX9_mode_26 ⟨by decide, by decide⟩) hD hS hA (fun r_7 ws_8 H locs hp hP hD hS => ?_)
        obtain ⟨rfl, sm_9, g33⟩ := hp
        have sm := sm.call sm_9 (by intro k hk; (try simp only at hk ⊢); omega)
        have g33 : ws_8[33]? = some (m0, .inr (10, [.int (nI 1), .ref b1, .ref b2, .int (nI len), .int (nI ps), .ref b5, .ref b6, .ref b7, .int (nI nm), .int (nI bt_), .int (nI so), .int (nI wi), .ref b12, .int (nI fm), .ref b14, .ref b15, .ref b16, .int (nI dn), .int (nI ca), .int (nI sta), .ref b20, .ref b21, .ref b22, .ref b23, .ref b24, .int (nI xn), .ref b26, .int (nI bb), .int (nI rr), .int (nI pp), .int (nI qq), .ref b31])) := g33
        refine lv_if_eq (tgt := 34) hx hb dX9_mode_29 (by decide) (fun c_29 => absurd c_29 (by decide)) (fun c_29 => ?_)
        refine lv_iconst (v := nI 0) hx hb dX9_mode_32 (by decide) ?_
        have hno : modeOk x k = false := by simp [modeOk, c_2, c_7, c_12]
        have g33 : ws_8[33]? = some (m0, .inr (10, [.int (nI ((!modeOk x k).toNat)), .ref b1, .ref b2, .int (nI len), .int (nI ps), .ref b5, .ref b6, .ref b7, .int (nI (bif modeOk x k then 0 else nm)), .int (nI (bif modeOk x k then 0 else bt_)), .int (nI (bif modeOk x k then x.toNatClampNeg else so)), .int (nI (bif modeOk x k then k.toNatClampNeg else wi)), .ref b12, .int (nI fm), .ref b14, .ref b15, .ref b16, .int (nI (bif modeOk x k then 0 else dn)), .int (nI (bif modeOk x k then 0 else ca)), .int (nI (bif modeOk x k then 1 else sta)), .ref b20, .ref b21, .ref b22, .ref b23, .ref b24, .int (nI xn), .ref b26, .int (nI bb), .int (nI rr), .int (nI pp), .int (nI qq), .ref b31])) := by rw [hno]; exact g33
        exact CI.ret (v := (nI 0)) C hK hP hD hS rfl (⟨(by rw [hno]; rfl), sm, g33⟩) hc0 hs0 dX9_mode_33
      · refine lv_iload_n hx hb dX9_mode_15 rfl (lv_at hl 2 rfl) ?_
        refine lv_bipush (v := nI 9) hx hb dX9_mode_16 (by decide) ?_
        refine lv_icmp_le (tgt := 25) hx hb dX9_mode_18 (by decide) (fun c_18 => ?_) (fun c_18 => ?_)
        · refine lv_iconst (v := nI 0) hx hb dX9_mode_25 (by decide) ?_
          refine CI.go (va_runV (As := [.int (nI 0)]) (rest := []) ⟨hx, hb, hml, hown, hts⟩ (c_X9_throwsIf (b := false) g33  _) (cwV 1 hts gX9_mode_X9_throwsIf rfl rfl rfl (by decide +kernel) ⟨Nat.le_of_ble_eq_true rfl, Nat.le_of_ble_eq_true rfl⟩) ⟨pw_blind, va_recv hK hP (ci := 10) (q0 := 33) rfl g33, fun U hU hW => pw_pre hK hP hD hU hW⟩ rfl rfl hl.1 rfl (lv_room (Nat.le_of_ble_eq_true rfl)) dX9_mode_26 ⟨by decide, by decide⟩) hD hS hA (fun r_10 ws_11 H locs hp hP hD hS => ?_)
          obtain ⟨rfl, sm_12, g33⟩ := hp
          have sm := sm.call sm_12 (by intro k hk; (try simp only at hk ⊢); omega)
          have g33 : ws_11[33]? = some (m0, .inr (10, [.int (nI 0), .ref b1, .ref b2, .int (nI len), .int (nI ps), .ref b5, .ref b6, .ref b7, .int (nI nm), .int (nI bt_), .int (nI so), .int (nI wi), .ref b12, .int (nI fm), .ref b14, .ref b15, .ref b16, .int (nI dn), .int (nI ca), .int (nI sta), .ref b20, .ref b21, .ref b22, .ref b23, .ref b24, .int (nI xn), .ref b26, .int (nI bb), .int (nI rr), .int (nI pp), .int (nI qq), .ref b31])) := g33
          refine lv_if_eq (tgt := 34) hx hb dX9_mode_29 (by decide) (fun c_29 => ?_) (fun c_29 => absurd (by decide) c_29)
          refine lv_aload_n hx hb dX9_mode_34 rfl (lv_at hl 0 rfl) ?_
          refine va_get (D := D) (ci := 10) (v := .int (nI dn)) (C := RX9) (T := TX9) (N := 32) hx hb hts hin_X9 hown hK hP 33 g33 rfl 17 (by decide) fl_65 (fun _ h9 => h9) rfl dX9_mode_35 ?_
          refine lv_istore_n (lv' := [(3, .int (nI dn)), (0, .ref m0), (1, .int x), (2, .int k)]) hx hb dX9_mode_38 rfl hl (by decide) rfl (fun ls hl => ?_)
          refine lv_aload_n hx hb dX9_mode_39 rfl (lv_at hl 1 rfl) ?_
          refine lv_iload_n hx hb dX9_mode_40 rfl (lv_at hl 2 rfl) ?_
          refine nx_put (D := D) (ci := 10) (v := .int x) (ty := .int) (C := RX9) (T := TX9) (N := 32) hx hb hts hin_X9 tyX9 tyX9_ok nmX9 hown hK hP hD hS 33 g33 rfl 10 (by decide) fl_51 (fun _ h9 => h9) rfl (by decide +kernel) rfl rfl (Nat.le_of_ble_eq_true rfl) dX9_mode_41 (fun ws_13 H locs gq up_14 hP hD hS => ?_)
          have g33 : ws_13[33]? = some (m0, .inr (10, [.int (nI 0), .ref b1, .ref b2, .int (nI len), .int (nI ps), .ref b5, .ref b6, .ref b7, .int (nI nm), .int (nI bt_), .int x, .int (nI wi), .ref b12, .int (nI fm), .ref b14, .ref b15, .ref b16, .int (nI dn), .int (nI ca), .int (nI sta), .ref b20, .ref b21, .ref b22, .ref b23, .ref b24, .int (nI xn), .ref b26, .int (nI bb), .int (nI rr), .int (nI pp), .int (nI qq), .ref b31])) := gq
          have sm := sm.up up_14 (by simp)
          refine lv_aload_n hx hb dX9_mode_44 rfl (lv_at hl 1 rfl) ?_
          refine lv_iload_n hx hb dX9_mode_45 rfl (lv_at hl 3 rfl) ?_
          refine nx_put (D := D) (ci := 10) (v := .int k) (ty := .int) (C := RX9) (T := TX9) (N := 32) hx hb hts hin_X9 tyX9 tyX9_ok nmX9 hown hK hP hD hS 33 g33 rfl 11 (by decide) fl_54 (fun _ h9 => h9) rfl (by decide +kernel) rfl rfl (Nat.le_of_ble_eq_true rfl) dX9_mode_46 (fun ws_15 H locs gq up_16 hP hD hS => ?_)
          have g33 : ws_15[33]? = some (m0, .inr (10, [.int (nI 0), .ref b1, .ref b2, .int (nI len), .int (nI ps), .ref b5, .ref b6, .ref b7, .int (nI nm), .int (nI bt_), .int x, .int k, .ref b12, .int (nI fm), .ref b14, .ref b15, .ref b16, .int (nI dn), .int (nI ca), .int (nI sta), .ref b20, .ref b21, .ref b22, .ref b23, .ref b24, .int (nI xn), .ref b26, .int (nI bb), .int (nI rr), .int (nI pp), .int (nI qq), .ref b31])) := gq
          have sm := sm.up up_16 (by simp)
          refine lv_aload_n hx hb dX9_mode_49 rfl (lv_at hl 1 rfl) ?_
          refine lv_iconst (v := nI 0) hx hb dX9_mode_50 (by decide) ?_
          refine nx_put (D := D) (ci := 10) (v := .int (nI 0)) (ty := .int) (C := RX9) (T := TX9) (N := 32) hx hb hts hin_X9 tyX9 tyX9_ok nmX9 hown hK hP hD hS 33 g33 rfl 17 (by decide) fl_65 (fun _ h9 => h9) rfl (by decide +kernel) rfl rfl (Nat.le_of_ble_eq_true rfl) dX9_mode_51 (fun ws_17 H locs gq up_18 hP hD hS => ?_)
          have g33 : ws_17[33]? = some (m0, .inr (10, [.int (nI 0), .ref b1, .ref b2, .int (nI len), .int (nI ps), .ref b5, .ref b6, .ref b7, .int (nI nm), .int (nI bt_), .int x, .int k, .ref b12, .int (nI fm), .ref b14, .ref b15, .ref b16, .int (nI 0), .int (nI ca), .int (nI sta), .ref b20, .ref b21, .ref b22, .ref b23, .ref b24, .int (nI xn), .ref b26, .int (nI bb), .int (nI rr), .int (nI pp), .int (nI qq), .ref b31])) := gq
          have sm := sm.up up_18 (by simp)
          refine lv_aload_n hx hb dX9_mode_54 rfl (lv_at hl 1 rfl) ?_
          refine lv_iconst (v := nI 0) hx hb dX9_mode_55 (by decide) ?_
          refine nx_put (D := D) (ci := 10) (v := .int (nI 0)) (ty := .int) (C := RX9) (T := TX9) (N := 32) hx hb hts hin_X9 tyX9 tyX9_ok nmX9 hown hK hP hD hS 33 g33 rfl 18 (by decide) fl_68 (fun _ h9 => h9) rfl (by decide +kernel) rfl rfl (Nat.le_of_ble_eq_true rfl) dX9_mode_56 (fun ws_19 H locs gq up_20 hP hD hS => ?_)
          have g33 : ws_19[33]? = some (m0, .inr (10, [.int (nI 0), .ref b1, .ref b2, .int (nI len), .int (nI ps), .ref b5, .ref b6, .ref b7, .int (nI nm), .int (nI bt_), .int x, .int k, .ref b12, .int (nI fm), .ref b14, .ref b15, .ref b16, .int (nI 0), .int (nI 0), .int (nI sta), .ref b20, .ref b21, .ref b22, .ref b23, .ref b24, .int (nI xn), .ref b26, .int (nI bb), .int (nI rr), .int (nI pp), .int (nI qq), .ref b31])) := gq
          have sm := sm.up up_20 (by simp)
          refine lv_aload_n hx hb dX9_mode_59 rfl (lv_at hl 1 rfl) ?_
          refine lv_iconst (v := nI 0) hx hb dX9_mode_60 (by decide) ?_
          refine nx_put (D := D) (ci := 10) (v := .int (nI 0)) (ty := .int) (C := RX9) (T := TX9) (N := 32) hx hb hts hin_X9 tyX9 tyX9_ok nmX9 hown hK hP hD hS 33 g33 rfl 8 (by decide) fl_24 (fun _ h9 => h9) rfl (by decide +kernel) rfl rfl (Nat.le_of_ble_eq_true rfl) dX9_mode_61 (fun ws_21 H locs gq up_22 hP hD hS => ?_)
          have g33 : ws_21[33]? = some (m0, .inr (10, [.int (nI 0), .ref b1, .ref b2, .int (nI len), .int (nI ps), .ref b5, .ref b6, .ref b7, .int (nI 0), .int (nI bt_), .int x, .int k, .ref b12, .int (nI fm), .ref b14, .ref b15, .ref b16, .int (nI 0), .int (nI 0), .int (nI sta), .ref b20, .ref b21, .ref b22, .ref b23, .ref b24, .int (nI xn), .ref b26, .int (nI bb), .int (nI rr), .int (nI pp), .int (nI qq), .ref b31])) := gq
          have sm := sm.up up_22 (by simp)
          refine lv_aload_n hx hb dX9_mode_64 rfl (lv_at hl 1 rfl) ?_
          refine lv_iconst (v := nI 0) hx hb dX9_mode_65 (by decide) ?_
          refine nx_put (D := D) (ci := 10) (v := .int (nI 0)) (ty := .int) (C := RX9) (T := TX9) (N := 32) hx hb hts hin_X9 tyX9 tyX9_ok nmX9 hown hK hP hD hS 33 g33 rfl 9 (by decide) fl_41 (fun _ h9 => h9) rfl (by decide +kernel) rfl rfl (Nat.le_of_ble_eq_true rfl) dX9_mode_66 (fun ws_23 H locs gq up_24 hP hD hS => ?_)
          have g33 : ws_23[33]? = some (m0, .inr (10, [.int (nI 0), .ref b1, .ref b2, .int (nI len), .int (nI ps), .ref b5, .ref b6, .ref b7, .int (nI 0), .int (nI 0), .int x, .int k, .ref b12, .int (nI fm), .ref b14, .ref b15, .ref b16, .int (nI 0), .int (nI 0), .int (nI sta), .ref b20, .ref b21, .ref b22, .ref b23, .ref b24, .int (nI xn), .ref b26, .int (nI bb), .int (nI rr), .int (nI pp), .int (nI qq), .ref b31])) := gq
          have sm := sm.up up_24 (by simp)
          refine lv_aload_n hx hb dX9_mode_69 rfl (lv_at hl 1 rfl) ?_
          refine lv_iconst (v := nI 1) hx hb dX9_mode_70 (by decide) ?_
          refine nx_put (D := D) (ci := 10) (v := .int (nI 1)) (ty := .boolean) (C := RX9) (T := TX9) (N := 32) hx hb hts hin_X9 tyX9 tyX9_ok nmX9 hown hK hP hD hS 33 g33 rfl 19 (by decide) fl_84 (fun _ h9 => h9) rfl (by decide +kernel) (by decide) (by decide) (Nat.le_of_ble_eq_true rfl) dX9_mode_71 (fun ws_25 H locs gq up_26 hP hD hS => ?_)
          have g33 : ws_25[33]? = some (m0, .inr (10, [.int (nI 0), .ref b1, .ref b2, .int (nI len), .int (nI ps), .ref b5, .ref b6, .ref b7, .int (nI 0), .int (nI 0), .int x, .int k, .ref b12, .int (nI fm), .ref b14, .ref b15, .ref b16, .int (nI 0), .int (nI 0), .int (nI 1), .ref b20, .ref b21, .ref b22, .ref b23, .ref b24, .int (nI xn), .ref b26, .int (nI bb), .int (nI rr), .int (nI pp), .int (nI qq), .ref b31])) := gq
          have sm := sm.up up_26 (by simp)
          refine lv_iload_n hx hb dX9_mode_74 rfl (lv_at hl 0 rfl) ?_
          have hok : modeOk x k = true := by simp [modeOk, c_2, c_7, c_12, c_18]
          have g33 : ws_25[33]? = some (m0, .inr (10, [.int (nI ((!modeOk x k).toNat)), .ref b1, .ref b2, .int (nI len), .int (nI ps), .ref b5, .ref b6, .ref b7, .int (nI (bif modeOk x k then 0 else nm)), .int (nI (bif modeOk x k then 0 else bt_)), .int (nI (bif modeOk x k then x.toNatClampNeg else so)), .int (nI (bif modeOk x k then k.toNatClampNeg else wi)), .ref b12, .int (nI fm), .ref b14, .ref b15, .ref b16, .int (nI (bif modeOk x k then 0 else dn)), .int (nI (bif modeOk x k then 0 else ca)), .int (nI (bif modeOk x k then 1 else sta)), .ref b20, .ref b21, .ref b22, .ref b23, .ref b24, .int (nI xn), .ref b26, .int (nI bb), .int (nI rr), .int (nI pp), .int (nI qq), .ref b31])) := by rw [hok]; simp only [cond_true]; rw [nI_back c_2, nI_back1 c_12]; exact g33
          exact CI.ret (v := (nI dn)) C hK hP hD hS rfl (⟨(by rw [hok]; rfl), sm, g33⟩) hc0 hs0 dX9_mode_75
        · refine lv_iconst (v := nI 1) hx hb dX9_mode_21 (by decide) ?_
          refine lv_goto (tgt := 26) hx hb dX9_mode_22 (by decide) ?_
          refine CI.go (va_runV (As := [.int (nI 1)]) (rest := []) ⟨hx, hb, hml, hown, hts⟩ (c_X9_throwsIf (b := true) g33  _) (cwV 1 hts gX9_mode_X9_throwsIf rfl rfl rfl (by decide +kernel) ⟨Nat.le_of_ble_eq_true rfl, Nat.le_of_ble_eq_true rfl⟩) ⟨pw_blind, va_recv hK hP (ci := 10) (q0 := 33) rfl g33, fun U hU hW => pw_pre hK hP hD hU hW⟩ rfl rfl hl.1 rfl (lv_room (Nat.le_of_ble_eq_true rfl)) dX9_mode_26 ⟨by decide, by decide⟩) hD hS hA (fun r_27 ws_28 H locs hp hP hD hS => ?_)
          obtain ⟨rfl, sm_29, g33⟩ := hp
          have sm := sm.call sm_29 (by intro k hk; (try simp only at hk ⊢); omega)
          have g33 : ws_28[33]? = some (m0, .inr (10, [.int (nI 1), .ref b1, .ref b2, .int (nI len), .int (nI ps), .ref b5, .ref b6, .ref b7, .int (nI nm), .int (nI bt_), .int (nI so), .int (nI wi), .ref b12, .int (nI fm), .ref b14, .ref b15, .ref b16, .int (nI dn), .int (nI ca), .int (nI sta), .ref b20, .ref b21, .ref b22, .ref b23, .ref b24, .int (nI xn), .ref b26, .int (nI bb), .int (nI rr), .int (nI pp), .int (nI qq), .ref b31])) := g33
          refine lv_if_eq (tgt := 34) hx hb dX9_mode_29 (by decide) (fun c_29 => absurd c_29 (by decide)) (fun c_29 => ?_)
          refine lv_iconst (v := nI 0) hx hb dX9_mode_32 (by decide) ?_
          have hno : modeOk x k = false := by simp [modeOk, c_2, c_7, c_12, c_18]
          have g33 : ws_28[33]? = some (m0, .inr (10, [.int (nI ((!modeOk x k).toNat)), .ref b1, .ref b2, .int (nI len), .int (nI ps), .ref b5, .ref b6, .ref b7, .int (nI (bif modeOk x k then 0 else nm)), .int (nI (bif modeOk x k then 0 else bt_)), .int (nI (bif modeOk x k then x.toNatClampNeg else so)), .int (nI (bif modeOk x k then k.toNatClampNeg else wi)), .ref b12, .int (nI fm), .ref b14, .ref b15, .ref b16, .int (nI (bif modeOk x k then 0 else dn)), .int (nI (bif modeOk x k then 0 else ca)), .int (nI (bif modeOk x k then 1 else sta)), .ref b20, .ref b21, .ref b22, .ref b23, .ref b24, .int (nI xn), .ref b26, .int (nI bb), .int (nI rr), .int (nI pp), .int (nI qq), .ref b31])) := by rw [hno]; exact g33
          exact CI.ret (v := (nI 0)) C hK hP hD hS rfl (⟨(by rw [hno]; rfl), sm, g33⟩) hc0 hs0 dX9_mode_33
set_option maxHeartbeats 4000000 in
set_option maxRecDepth 100000 in
theorem c_X9_letter {D : va_G} {cB cI cJ cO : ClassId} {l : Launch} {m0 b1 b2 b5 b6 b7 b12 b14 b15 b16 b20 b21 b22 b23 b24 b26 b31 th len ps nm bt_ so wi fm dn ca sta xn bb rr pp qq : Nat} {x k : Int32} {lf : Nat → Int32} {ff zf : Nat → Nat} {sh : List (List Int32)} {ws : va_W} (g33 : ws[33]? = some (m0, .inr (10, [.int (nI th), .ref b1, .ref b2, .int (nI len), .int (nI ps), .ref b5, .ref b6, .ref b7, .int (nI nm), .int (nI bt_), .int (nI so), .int (nI wi), .ref b12, .int (nI fm), .ref b14, .ref b15, .ref b16, .int (nI dn), .int (nI ca), .int (nI sta), .ref b20, .ref b21, .ref b22, .ref b23, .ref b24, .int (nI xn), .ref b26, .int (nI bb), .int (nI rr), .int (nI pp), .int (nI qq), .ref b31]))) (g36 : ws[36]? = some (b5, .inl (cB, 50800, .inl lf))) (g37 : ws[37]? = some (b6, .inl (cI, 6800, .inl (fun jj => nI (ff jj))))) (g38 : ws[38]? = some (b7, .inl (cI, 6800, .inl (fun jj => nI (zf jj))))) (hst : StM sh lf ff zf) (hsn : sh.length = nm) (hn6 : nm ≤ 6000) (hby : sh.flatten.length ≤ 50000) : CI D (TY cB cI cJ cO) l yX9_letter wsX9_letter ({ frames := 0, cells := 0, slots := 0, locals := 0 }) [.ref m0, .int x, .int k] ws (fun r ws' => r = letR sh x k ∧ Sm (fun k => k = 33) ws ws' ∧ ws'[33]? = some (m0, .inr (10, [.int (nI 0), .ref b1, .ref b2, .int (nI len), .int (nI ps), .ref b5, .ref b6, .ref b7, .int (nI nm), .int (nI bt_), .int (nI so), .int (nI wi), .ref b12, .int (nI fm), .ref b14, .ref b15, .ref b16, .int (nI dn), .int (nI ca), .int (nI sta), .ref b20, .ref b21, .ref b22, .ref b23, .ref b24, .int (nI xn), .ref b26, .int (nI bb), .int (nI rr), .int (nI pp), .int (nI qq), .ref b31]))) := by
  refine CI.of (cc := cX9_letter) (maxL := 3) (ret := (some .int)) (by decide) rfl (Nat.le_of_ble_eq_true rfl) ?_
  intro p e s m below meth c A C hK hP hD hA hS ls hl
  obtain ⟨hx, hb, hr, hml, hts, hown, hlocks, hnm⟩ := id C
  have fl_1 := hts (.fieldLink RX9 1 "TwinFinderModel" "thrown" "I") (by decide +kernel)
  have fl_24 := hts (.fieldLink RX9 24 "TwinFinderModel" "numbers" "I") (by decide +kernel)
  have fl_27 := hts (.fieldLink RX9 27 "TwinFinderModel" "size" "[I") (by decide +kernel)
  have fl_31 := hts (.fieldLink RX9 31 "TwinFinderModel" "letters" "[B") (by decide +kernel)
  have fl_34 := hts (.fieldLink RX9 34 "TwinFinderModel" "from" "[I") (by decide +kernel)
  have hin_X9 : ∀ w ∈ u_ws RX9 TX9 32, w ∈ wsX9_letter := by decide +kernel
  have hl : lv_has ls 3 [(0, .ref m0), (1, .int x), (2, .int k)] := hl
  have sm : Sm (fun k => k = 33) ws ws := Sm.rf
  have hc0 : (0 : Nat) ≤ 0 := by decide
  have hs0 : (0 : Nat) ≤ 0 := by decide
  refine lv_aload_n hx hb dX9_letter_0 rfl (lv_at hl 0 rfl) ?_
  refine lv_iconst (v := nI 0) hx hb dX9_letter_1 (by decide) ?_
  refine nx_put (D := D) (ci := 10) (v := .int (nI 0)) (ty := .int) (C := RX9) (T := TX9) (N := 32) hx hb hts hin_X9 tyX9 tyX9_ok nmX9 hown hK hP hD hS 33 g33 rfl 0 (by decide) fl_1 (fun _ h9 => h9) rfl (by decide +kernel) rfl rfl (Nat.le_of_ble_eq_true rfl) dX9_letter_2 (fun ws_1 H locs gq up_2 hP hD hS => ?_)
  have g33 : ws_1[33]? = some (m0, .inr (10, [.int (nI 0), .ref b1, .ref b2, .int (nI len), .int (nI ps), .ref b5, .ref b6, .ref b7, .int (nI nm), .int (nI bt_), .int (nI so), .int (nI wi), .ref b12, .int (nI fm), .ref b14, .ref b15, .ref b16, .int (nI dn), .int (nI ca), .int (nI sta), .ref b20, .ref b21, .ref b22, .ref b23, .ref b24, .int (nI xn), .ref b26, .int (nI bb), .int (nI rr), .int (nI pp), .int (nI qq), .ref b31])) := gq
  have g36 := up_2.get g36 (by decide)
  have g37 := up_2.get g37 (by decide)
  have g38 := up_2.get g38 (by decide)
  have sm := sm.up up_2 (by simp)
  refine lv_iload_n hx hb dX9_letter_5 rfl (lv_at hl 1 rfl) ?_
  refine lv_if_lt (tgt := 31) hx hb dX9_letter_6 (by decide) (fun c_6 => ?_) (fun c_6 => ?_)
  · refine lv_iconst (v := -1) hx hb dX9_letter_31 (by decide) ?_
    refine lv_goto (tgt := 48) hx hb dX9_letter_32 (by decide) ?_
    exact CI.ret (v := (-1)) C hK hP hD hS rfl (⟨(by first | (rw [letR, if_neg (fun h => h.1 c_6)]; done) | (rw [letR, if_neg (fun h => absurd h.2.1 (Int32.not_lt.mpr (by rw [hsn]; exact c_14)))]; done) | (rw [letR, if_neg (fun h => h.2.2.1 c_18)]; done) | (rw [letR, if_neg (fun h => c_28 (by have h4 := h.2.2.2; rw [nI_clamp (by omega), List.getD_eq_getElem?_getD, List.getElem?_eq_getElem (show x1 < sh.length by omega), Option.getD_some, ← hz1.2] at h4; exact h4))]; done)), sm, g33⟩) hc0 hs0 dX9_letter_48
  · refine lv_iload_n hx hb dX9_letter_9 rfl (lv_at hl 1 rfl) ?_
    refine lv_aload_n hx hb dX9_letter_10 rfl (lv_at hl 0 rfl) ?_
    refine va_get (D := D) (ci := 10) (v := .int (nI nm)) (C := RX9) (T := TX9) (N := 32) hx hb hts hin_X9 hown hK hP 33 g33 rfl 8 (by decide) fl_24 (fun _ h9 => h9) rfl dX9_letter_11 ?_
    refine lv_icmp_ge (tgt := 31) hx hb dX9_letter_14 (by decide) (fun c_14 => ?_) (fun c_14 => ?_)
    · refine lv_iconst (v := -1) hx hb dX9_letter_31 (by decide) ?_
      refine lv_goto (tgt := 48) hx hb dX9_letter_32 (by decide) ?_
      exact CI.ret (v := (-1)) C hK hP hD hS rfl (⟨(by first | (rw [letR, if_neg (fun h => h.1 c_6)]; done) | (rw [letR, if_neg (fun h => absurd h.2.1 (Int32.not_lt.mpr (by rw [hsn]; exact c_14)))]; done) | (rw [letR, if_neg (fun h => h.2.2.1 c_18)]; done) | (rw [letR, if_neg (fun h => c_28 (by have h4 := h.2.2.2; rw [nI_clamp (by omega), List.getD_eq_getElem?_getD, List.getElem?_eq_getElem (show x1 < sh.length by omega), Option.getD_some, ← hz1.2] at h4; exact h4))]; done)), sm, g33⟩) hc0 hs0 dX9_letter_48
    · obtain ⟨x1, hx1, rfl⟩ := nI_of c_6
      have hx1n : x1 < nm := Nat.lt_of_not_le (fun q => c_14 ((nI_leI (by omega) hx1).mpr q))
      have hz1 := hst.2 x1 (by omega)
      have hzl : sh[x1].length ≤ 50000 := by have := ofs_s (sh := sh) (i := x1) (by omega); have := ofs_le (sh := sh) (i := x1 + 1); omega
      refine lv_iload_n hx hb dX9_letter_17 rfl (lv_at hl 2 rfl) ?_
      refine lv_if_lt (tgt := 31) hx hb dX9_letter_18 (by decide) (fun c_18 => ?_) (fun c_18 => ?_)
      · refine lv_iconst (v := -1) hx hb dX9_letter_31 (by decide) ?_
        refine lv_goto (tgt := 48) hx hb dX9_letter_32 (by decide) ?_
        exact CI.ret (v := (-1)) C hK hP hD hS rfl (⟨(by first | (rw [letR, if_neg (fun h => h.1 c_6)]; done) | (rw [letR, if_neg (fun h => absurd h.2.1 (Int32.not_lt.mpr (by rw [hsn]; exact c_14)))]; done) | (rw [letR, if_neg (fun h => h.2.2.1 c_18)]; done) | (rw [letR, if_neg (fun h => c_28 (by have h4 := h.2.2.2; rw [nI_clamp (by omega), List.getD_eq_getElem?_getD, List.getElem?_eq_getElem (show x1 < sh.length by omega), Option.getD_some, ← hz1.2] at h4; exact h4))]; done)), sm, g33⟩) hc0 hs0 dX9_letter_48
      · refine lv_iload_n hx hb dX9_letter_21 rfl (lv_at hl 2 rfl) ?_
        refine lv_aload_n hx hb dX9_letter_22 rfl (lv_at hl 0 rfl) ?_
        refine va_get (D := D) (ci := 10) (v := .ref b7) (C := RX9) (T := TX9) (N := 32) hx hb hts hin_X9 hown hK hP 33 g33 rfl 7 (by decide) fl_27 (fun _ h9 => h9) rfl dX9_letter_23 ?_
        refine lv_iload_n hx hb dX9_letter_26 rfl (lv_at hl 1 rfl) ?_
        refine nx_iald hx hb hK hP 38 1 g38 rfl (k := x1) (by omega) (by decide) dX9_letter_27 ?_
        refine lv_icmp_lt (tgt := 35) hx hb dX9_letter_28 (by decide) (fun c_28 => ?_) (fun c_28 => ?_)
        · obtain ⟨k1, hk1, rfl⟩ := nI_of c_18
          have hk1z : k1 < zf x1 := (nI_ltI hk1 (by omega)).mp c_28
          have hlet := ofs_get (sh := sh) (i := x1) (t := k1) (by omega) (by omega)
          refine lv_aload_n hx hb dX9_letter_35 rfl (lv_at hl 0 rfl) ?_
          refine va_get (D := D) (ci := 10) (v := .ref b5) (C := RX9) (T := TX9) (N := 32) hx hb hts hin_X9 hown hK hP 33 g33 rfl 5 (by decide) fl_31 (fun _ h9 => h9) rfl dX9_letter_36 ?_
          refine lv_aload_n hx hb dX9_letter_39 rfl (lv_at hl 0 rfl) ?_
          refine va_get (D := D) (ci := 10) (v := .ref b6) (C := RX9) (T := TX9) (N := 32) hx hb hts hin_X9 hown hK hP 33 g33 rfl 6 (by decide) fl_34 (fun _ h9 => h9) rfl dX9_letter_40 ?_
          refine lv_iload_n hx hb dX9_letter_43 rfl (lv_at hl 1 rfl) ?_
          refine nx_iald hx hb hK hP 37 1 g37 rfl (k := x1) (by omega) (by decide) dX9_letter_44 ?_
          refine lv_iload_n hx hb dX9_letter_45 rfl (lv_at hl 2 rfl) ?_
          refine nx_iadd hx hb dX9_letter_46 ?_
          refine nx_bald hx hb hK hP 36 0 g36 rfl (k := ((ff x1) + k1)) (by omega) (by decide) dX9_letter_47 ?_
          exact CI.ret (v := (lf ((ff x1) + k1))) C hK hP hD hS rfl (⟨(by rw [letR, if_pos ⟨c_6, (nI_ltI (by omega) (by omega)).mpr (by omega), c_18, by rw [nI_clamp (by omega), List.getD_eq_getElem?_getD, List.getElem?_eq_getElem (by omega), Option.getD_some, ← hz1.2]; exact c_28⟩, nI_clamp (by omega), nI_clamp (by omega), List.getD_eq_getElem?_getD (l := sh), List.getElem?_eq_getElem (show x1 < sh.length by omega), Option.getD_some, List.getD_eq_getElem?_getD, List.getElem?_eq_getElem (show k1 < sh[x1].length by omega), Option.getD_some]; exact hst.letter (by omega) (by omega)), sm, g33⟩) hc0 hs0 dX9_letter_48
        · refine lv_iconst (v := -1) hx hb dX9_letter_31 (by decide) ?_
          refine lv_goto (tgt := 48) hx hb dX9_letter_32 (by decide) ?_
          exact CI.ret (v := (-1)) C hK hP hD hS rfl (⟨(by first | (rw [letR, if_neg (fun h => h.1 c_6)]; done) | (rw [letR, if_neg (fun h => absurd h.2.1 (Int32.not_lt.mpr (by rw [hsn]; exact c_14)))]; done) | (rw [letR, if_neg (fun h => h.2.2.1 c_18)]; done) | (rw [letR, if_neg (fun h => c_28 (by have h4 := h.2.2.2; rw [nI_clamp (by omega), List.getD_eq_getElem?_getD, List.getElem?_eq_getElem (show x1 < sh.length by omega), Option.getD_some, ← hz1.2] at h4; exact h4))]; done)), sm, g33⟩) hc0 hs0 dX9_letter_48
set_option maxHeartbeats 4000000 in
set_option maxRecDepth 100000 in
theorem c_X9_count {D : va_G} {cB cI cJ cO : ClassId} {l : Launch} {m0 b1 b2 b5 b6 b7 b12 b14 b15 b16 b20 b21 b22 b23 b24 b26 b31 th len ps nm bt_ so wi fm dn ca sta xn bb rr pp qq : Nat} {x : Int32} {f fp : Nat → Int32} {T : List Int32} {ws : va_W} (g33 : ws[33]? = some (m0, .inr (10, [.int (nI th), .ref b1, .ref b2, .int (nI len), .int (nI ps), .ref b5, .ref b6, .ref b7, .int (nI nm), .int (nI bt_), .int (nI so), .int (nI wi), .ref b12, .int (nI fm), .ref b14, .ref b15, .ref b16, .int (nI dn), .int (nI ca), .int (nI sta), .ref b20, .ref b21, .ref b22, .ref b23, .ref b24, .int (nI xn), .ref b26, .int (nI bb), .int (nI rr), .int (nI pp), .int (nI qq), .ref b31]))) (g34 : ws[34]? = some (b1, .inl (cB, 800, .inl f))) (g35 : ws[35]? = some (b2, .inl (cB, 801, .inl fp))) (hT : Hd f T) (hlen : T.length = len) (h800 : len ≤ 800) : CI D (TY cB cI cJ cO) l yX9_count wsX9_count ({ frames := 1, cells := 0, slots := 0, locals := 24 }) [.ref m0, .int x] ws (fun r ws' => ∃ ps2 : Nat, ∃ fq : Nat → Int32, r = cntR [len, (plainOf T).length, dn, ca, nm, bt_, xn, bb, rr, pp, qq, so, wi] x ∧ Sm (fun k => k = 33 ∨ k = 35) ws ws' ∧ ws'[33]? = some (m0, .inr (10, [.int (nI 0), .ref b1, .ref b2, .int (nI len), .int (nI ps2), .ref b5, .ref b6, .ref b7, .int (nI nm), .int (nI bt_), .int (nI so), .int (nI wi), .ref b12, .int (nI fm), .ref b14, .ref b15, .ref b16, .int (nI dn), .int (nI ca), .int (nI sta), .ref b20, .ref b21, .ref b22, .ref b23, .ref b24, .int (nI xn), .ref b26, .int (nI bb), .int (nI rr), .int (nI pp), .int (nI qq), .ref b31])) ∧ ws'[35]? = some (b2, .inl (cB, 801, .inl fq))) := by
  refine CI.of (cc := cX9_count) (maxL := 2) (ret := (some .int)) (by decide) rfl (Nat.le_of_ble_eq_true rfl) ?_
  intro p e s m below meth c A C hK hP hD hA hS ls hl
  obtain ⟨hx, hb, hr, hml, hts, hown, hlocks, hnm⟩ := id C
  have fl_1 := hts (.fieldLink RX9 1 "TwinFinderModel" "thrown" "I") (by decide +kernel)
  have fl_7 := hts (.fieldLink RX9 7 "TwinFinderModel" "length" "I") (by decide +kernel)
  have fl_18 := hts (.fieldLink RX9 18 "TwinFinderModel" "plainSize" "I") (by decide +kernel)
  have fl_24 := hts (.fieldLink RX9 24 "TwinFinderModel" "numbers" "I") (by decide +kernel)
  have fl_41 := hts (.fieldLink RX9 41 "TwinFinderModel" "bytes" "I") (by decide +kernel)
  have fl_51 := hts (.fieldLink RX9 51 "TwinFinderModel" "sort" "I") (by decide +kernel)
  have fl_54 := hts (.fieldLink RX9 54 "TwinFinderModel" "wide" "I") (by decide +kernel)
  have fl_65 := hts (.fieldLink RX9 65 "TwinFinderModel" "documents" "I") (by decide +kernel)
  have fl_68 := hts (.fieldLink RX9 68 "TwinFinderModel" "came" "I") (by decide +kernel)
  have fl_121 := hts (.fieldLink RX9 121 "TwinFinderModel" "bands" "I") (by decide +kernel)
  have fl_124 := hts (.fieldLink RX9 124 "TwinFinderModel" "rows" "I") (by decide +kernel)
  have fl_127 := hts (.fieldLink RX9 127 "TwinFinderModel" "p" "I") (by decide +kernel)
  have fl_130 := hts (.fieldLink RX9 130 "TwinFinderModel" "q" "I") (by decide +kernel)
  have fl_141 := hts (.fieldLink RX9 141 "TwinFinderModel" "exchanges" "I") (by decide +kernel)
  have hin_X9 : ∀ w ∈ u_ws RX9 TX9 32, w ∈ wsX9_count := by decide +kernel
  have hl : lv_has ls 2 [(0, .ref m0), (1, .int x)] := hl
  have sm : Sm (fun k => k = 33 ∨ k = 35) ws ws := Sm.rf
  have hc0 : (0 : Nat) ≤ 0 := by decide
  have hs0 : (0 : Nat) ≤ 0 := by decide
  refine lv_aload_n hx hb dX9_count_0 rfl (lv_at hl 0 rfl) ?_
  refine lv_iconst (v := nI 0) hx hb dX9_count_1 (by decide) ?_
  refine nx_put (D := D) (ci := 10) (v := .int (nI 0)) (ty := .int) (C := RX9) (T := TX9) (N := 32) hx hb hts hin_X9 tyX9 tyX9_ok nmX9 hown hK hP hD hS 33 g33 rfl 0 (by decide) fl_1 (fun _ h9 => h9) rfl (by decide +kernel) rfl rfl (Nat.le_of_ble_eq_true rfl) dX9_count_2 (fun ws_1 H locs gq up_2 hP hD hS => ?_)
  have g33 : ws_1[33]? = some (m0, .inr (10, [.int (nI 0), .ref b1, .ref b2, .int (nI len), .int (nI ps), .ref b5, .ref b6, .ref b7, .int (nI nm), .int (nI bt_), .int (nI so), .int (nI wi), .ref b12, .int (nI fm), .ref b14, .ref b15, .ref b16, .int (nI dn), .int (nI ca), .int (nI sta), .ref b20, .ref b21, .ref b22, .ref b23, .ref b24, .int (nI xn), .ref b26, .int (nI bb), .int (nI rr), .int (nI pp), .int (nI qq), .ref b31])) := gq
  have g34 := up_2.get g34 (by decide)
  have g35 := up_2.get g35 (by decide)
  have sm := sm.up up_2 (by simp)
  refine lv_iload_n hx hb dX9_count_5 rfl (lv_at hl 1 rfl) ?_
  rcases tab_cases x 12 (by decide) with c_6 | ⟨j_6, hj_6, rfl⟩
  · refine lv_tableOut (tgt := 141) hx hb dX9_count_6 c_6 (by decide) ?_
    refine lv_iconst (v := -1) hx hb dX9_count_141 (by decide) ?_
    exact CI.ret (v := (-1)) C hK hP hD hS rfl (⟨_, _, (cntR_out c_6), sm, g33, g35⟩) hc0 hs0 dX9_count_142
  · have hj2_6 : j_6 = 0 ∨ j_6 = 1 ∨ j_6 = 2 ∨ j_6 = 3 ∨ j_6 = 4 ∨ j_6 = 5 ∨ j_6 = 6 ∨ j_6 = 7 ∨ j_6 = 8 ∨ j_6 = 9 ∨ j_6 = 10 ∨ j_6 = 11 ∨ j_6 = 12 := by omega
    rcases hj2_6 with rfl | rfl | rfl | rfl | rfl | rfl | rfl | rfl | rfl | rfl | rfl | rfl | rfl
    · refine lv_tableIn (off := 66) (tgt := 72) hx hb dX9_count_6 (by decide) (by decide) (by decide) (by decide) ?_
      refine lv_aload_n hx hb dX9_count_72 rfl (lv_at hl 0 rfl) ?_
      refine va_get (D := D) (ci := 10) (v := .int (nI len)) (C := RX9) (T := TX9) (N := 32) hx hb hts hin_X9 hown hK hP 33 g33 rfl 3 (by decide) fl_7 (fun _ h9 => h9) rfl dX9_count_73 ?_
      exact CI.ret (v := (nI len)) C hK hP hD hS rfl (⟨_, _, (cntR_at (by decide) (Nat.le_of_ble_eq_true rfl) rfl), sm, g33, g35⟩) hc0 hs0 dX9_count_76
    · refine lv_tableIn (off := 71) (tgt := 77) hx hb dX9_count_6 (by decide) (by decide) (by decide) (by decide) ?_
      refine lv_aload_n hx hb dX9_count_77 rfl (lv_at hl 0 rfl) ?_
      refine CV.go (va_runV (As := []) (rest := []) ⟨hx, hb, hml, hown, hts⟩ (c_X9_makePlain  g33 g34 g35 hT hlen h800 _) (cwV 0 hts gX9_count_X9_makePlain rfl rfl rfl (by decide +kernel) ⟨Nat.le_of_ble_eq_true rfl, Nat.le_of_ble_eq_true rfl⟩) ⟨pw_blind, va_recv hK hP (ci := 10) (q0 := 33) rfl g33, fun U hU hW => pw_pre hK hP hD hU hW⟩ rfl rfl hl.1 rfl (lv_room (Nat.le_of_ble_eq_true rfl)) dX9_count_78 ⟨by decide, by decide⟩) hD hS hA (fun ws_4 H locs hp hP hD hS => ?_)
      obtain ⟨fq_5, f_6, sm_7, g33, g35⟩ := hp
      have g34 := sm_7.get g34 (by simp)
      have sm := sm.call sm_7 (by intro k hk; (try simp only at hk ⊢); omega)
      have g33 : ws_4[33]? = some (m0, .inr (10, [.int (nI 0), .ref b1, .ref b2, .int (nI len), .int (nI ((plainOf T).length)), .ref b5, .ref b6, .ref b7, .int (nI nm), .int (nI bt_), .int (nI so), .int (nI wi), .ref b12, .int (nI fm), .ref b14, .ref b15, .ref b16, .int (nI dn), .int (nI ca), .int (nI sta), .ref b20, .ref b21, .ref b22, .ref b23, .ref b24, .int (nI xn), .ref b26, .int (nI bb), .int (nI rr), .int (nI pp), .int (nI qq), .ref b31])) := g33
      have g35 : ws_4[35]? = some (b2, .inl (cB, 801, .inl fq_5)) := g35
      refine lv_aload_n hx hb dX9_count_81 rfl (lv_at hl 0 rfl) ?_
      refine va_get (D := D) (ci := 10) (v := .int (nI ((plainOf T).length))) (C := RX9) (T := TX9) (N := 32) hx hb hts hin_X9 hown hK hP 33 g33 rfl 4 (by decide) fl_18 (fun _ h9 => h9) rfl dX9_count_82 ?_
      exact CI.ret (v := (nI ((plainOf T).length))) C hK hP hD hS rfl (⟨_, _, (cntR_at (by decide) (Nat.le_of_ble_eq_true rfl) rfl), sm, g33, g35⟩) hc0 hs0 dX9_count_85
    · refine lv_tableIn (off := 80) (tgt := 86) hx hb dX9_count_6 (by decide) (by decide) (by decide) (by decide) ?_
      refine lv_aload_n hx hb dX9_count_86 rfl (lv_at hl 0 rfl) ?_
      refine va_get (D := D) (ci := 10) (v := .int (nI dn)) (C := RX9) (T := TX9) (N := 32) hx hb hts hin_X9 hown hK hP 33 g33 rfl 17 (by decide) fl_65 (fun _ h9 => h9) rfl dX9_count_87 ?_
      exact CI.ret (v := (nI dn)) C hK hP hD hS rfl (⟨_, _, (cntR_at (by decide) (Nat.le_of_ble_eq_true rfl) rfl), sm, g33, g35⟩) hc0 hs0 dX9_count_90
    · refine lv_tableIn (off := 85) (tgt := 91) hx hb dX9_count_6 (by decide) (by decide) (by decide) (by decide) ?_
      refine lv_aload_n hx hb dX9_count_91 rfl (lv_at hl 0 rfl) ?_
      refine va_get (D := D) (ci := 10) (v := .int (nI ca)) (C := RX9) (T := TX9) (N := 32) hx hb hts hin_X9 hown hK hP 33 g33 rfl 18 (by decide) fl_68 (fun _ h9 => h9) rfl dX9_count_92 ?_
      exact CI.ret (v := (nI ca)) C hK hP hD hS rfl (⟨_, _, (cntR_at (by decide) (Nat.le_of_ble_eq_true rfl) rfl), sm, g33, g35⟩) hc0 hs0 dX9_count_95
    · refine lv_tableIn (off := 90) (tgt := 96) hx hb dX9_count_6 (by decide) (by decide) (by decide) (by decide) ?_
      refine lv_aload_n hx hb dX9_count_96 rfl (lv_at hl 0 rfl) ?_
      refine va_get (D := D) (ci := 10) (v := .int (nI nm)) (C := RX9) (T := TX9) (N := 32) hx hb hts hin_X9 hown hK hP 33 g33 rfl 8 (by decide) fl_24 (fun _ h9 => h9) rfl dX9_count_97 ?_
      exact CI.ret (v := (nI nm)) C hK hP hD hS rfl (⟨_, _, (cntR_at (by decide) (Nat.le_of_ble_eq_true rfl) rfl), sm, g33, g35⟩) hc0 hs0 dX9_count_100
    · refine lv_tableIn (off := 95) (tgt := 101) hx hb dX9_count_6 (by decide) (by decide) (by decide) (by decide) ?_
      refine lv_aload_n hx hb dX9_count_101 rfl (lv_at hl 0 rfl) ?_
      refine va_get (D := D) (ci := 10) (v := .int (nI bt_)) (C := RX9) (T := TX9) (N := 32) hx hb hts hin_X9 hown hK hP 33 g33 rfl 9 (by decide) fl_41 (fun _ h9 => h9) rfl dX9_count_102 ?_
      exact CI.ret (v := (nI bt_)) C hK hP hD hS rfl (⟨_, _, (cntR_at (by decide) (Nat.le_of_ble_eq_true rfl) rfl), sm, g33, g35⟩) hc0 hs0 dX9_count_105
    · refine lv_tableIn (off := 100) (tgt := 106) hx hb dX9_count_6 (by decide) (by decide) (by decide) (by decide) ?_
      refine lv_aload_n hx hb dX9_count_106 rfl (lv_at hl 0 rfl) ?_
      refine va_get (D := D) (ci := 10) (v := .int (nI xn)) (C := RX9) (T := TX9) (N := 32) hx hb hts hin_X9 hown hK hP 33 g33 rfl 25 (by decide) fl_141 (fun _ h9 => h9) rfl dX9_count_107 ?_
      exact CI.ret (v := (nI xn)) C hK hP hD hS rfl (⟨_, _, (cntR_at (by decide) (Nat.le_of_ble_eq_true rfl) rfl), sm, g33, g35⟩) hc0 hs0 dX9_count_110
    · refine lv_tableIn (off := 105) (tgt := 111) hx hb dX9_count_6 (by decide) (by decide) (by decide) (by decide) ?_
      refine lv_aload_n hx hb dX9_count_111 rfl (lv_at hl 0 rfl) ?_
      refine va_get (D := D) (ci := 10) (v := .int (nI bb)) (C := RX9) (T := TX9) (N := 32) hx hb hts hin_X9 hown hK hP 33 g33 rfl 27 (by decide) fl_121 (fun _ h9 => h9) rfl dX9_count_112 ?_
      exact CI.ret (v := (nI bb)) C hK hP hD hS rfl (⟨_, _, (cntR_at (by decide) (Nat.le_of_ble_eq_true rfl) rfl), sm, g33, g35⟩) hc0 hs0 dX9_count_115
    · refine lv_tableIn (off := 110) (tgt := 116) hx hb dX9_count_6 (by decide) (by decide) (by decide) (by decide) ?_
      refine lv_aload_n hx hb dX9_count_116 rfl (lv_at hl 0 rfl) ?_
      refine va_get (D := D) (ci := 10) (v := .int (nI rr)) (C := RX9) (T := TX9) (N := 32) hx hb hts hin_X9 hown hK hP 33 g33 rfl 28 (by decide) fl_124 (fun _ h9 => h9) rfl dX9_count_117 ?_
      exact CI.ret (v := (nI rr)) C hK hP hD hS rfl (⟨_, _, (cntR_at (by decide) (Nat.le_of_ble_eq_true rfl) rfl), sm, g33, g35⟩) hc0 hs0 dX9_count_120
    · refine lv_tableIn (off := 115) (tgt := 121) hx hb dX9_count_6 (by decide) (by decide) (by decide) (by decide) ?_
      refine lv_aload_n hx hb dX9_count_121 rfl (lv_at hl 0 rfl) ?_
      refine va_get (D := D) (ci := 10) (v := .int (nI pp)) (C := RX9) (T := TX9) (N := 32) hx hb hts hin_X9 hown hK hP 33 g33 rfl 29 (by decide) fl_127 (fun _ h9 => h9) rfl dX9_count_122 ?_
      exact CI.ret (v := (nI pp)) C hK hP hD hS rfl (⟨_, _, (cntR_at (by decide) (Nat.le_of_ble_eq_true rfl) rfl), sm, g33, g35⟩) hc0 hs0 dX9_count_125
    · refine lv_tableIn (off := 120) (tgt := 126) hx hb dX9_count_6 (by decide) (by decide) (by decide) (by decide) ?_
      refine lv_aload_n hx hb dX9_count_126 rfl (lv_at hl 0 rfl) ?_
      refine va_get (D := D) (ci := 10) (v := .int (nI qq)) (C := RX9) (T := TX9) (N := 32) hx hb hts hin_X9 hown hK hP 33 g33 rfl 30 (by decide) fl_130 (fun _ h9 => h9) rfl dX9_count_127 ?_
      exact CI.ret (v := (nI qq)) C hK hP hD hS rfl (⟨_, _, (cntR_at (by decide) (Nat.le_of_ble_eq_true rfl) rfl), sm, g33, g35⟩) hc0 hs0 dX9_count_130
    · refine lv_tableIn (off := 125) (tgt := 131) hx hb dX9_count_6 (by decide) (by decide) (by decide) (by decide) ?_
      refine lv_aload_n hx hb dX9_count_131 rfl (lv_at hl 0 rfl) ?_
      refine va_get (D := D) (ci := 10) (v := .int (nI so)) (C := RX9) (T := TX9) (N := 32) hx hb hts hin_X9 hown hK hP 33 g33 rfl 10 (by decide) fl_51 (fun _ h9 => h9) rfl dX9_count_132 ?_
      exact CI.ret (v := (nI so)) C hK hP hD hS rfl (⟨_, _, (cntR_at (by decide) (Nat.le_of_ble_eq_true rfl) rfl), sm, g33, g35⟩) hc0 hs0 dX9_count_135
    · refine lv_tableIn (off := 130) (tgt := 136) hx hb dX9_count_6 (by decide) (by decide) (by decide) (by decide) ?_
      refine lv_aload_n hx hb dX9_count_136 rfl (lv_at hl 0 rfl) ?_
      refine va_get (D := D) (ci := 10) (v := .int (nI wi)) (C := RX9) (T := TX9) (N := 32) hx hb hts hin_X9 hown hK hP 33 g33 rfl 11 (by decide) fl_54 (fun _ h9 => h9) rfl dX9_count_137 ?_
      exact CI.ret (v := (nI wi)) C hK hP hD hS rfl (⟨_, _, (cntR_at (by decide) (Nat.le_of_ble_eq_true rfl) rfl), sm, g33, g35⟩) hc0 hs0 dX9_count_140
set_option maxHeartbeats 4000000 in
set_option maxRecDepth 100000 in
theorem c_X9_tell {D : va_G} {cB cI cJ cO : ClassId} {l : Launch} {m0 b1 b2 b5 b6 b7 b12 b14 b15 b16 b20 b21 b22 b23 b24 b26 b31 th len ps nm bt_ so wi fm dn ca sta xn bb rr pp qq : Nat} {ta tb gw go gt : Nat → Nat} {E : List (Nat × Nat × Nat)} {j a b : Int32} {ws : va_W} (g33 : ws[33]? = some (m0, .inr (10, [.int (nI th), .ref b1, .ref b2, .int (nI len), .int (nI ps), .ref b5, .ref b6, .ref b7, .int (nI nm), .int (nI bt_), .int (nI so), .int (nI wi), .ref b12, .int (nI fm), .ref b14, .ref b15, .ref b16, .int (nI dn), .int (nI ca), .int (nI sta), .ref b20, .ref b21, .ref b22, .ref b23, .ref b24, .int (nI xn), .ref b26, .int (nI bb), .int (nI rr), .int (nI pp), .int (nI qq), .ref b31]))) (g43 : ws[43]? = some (b20, .inl (cI, 64, .inl (fun jj => nI (ta jj))))) (g44 : ws[44]? = some (b21, .inl (cI, 64, .inl (fun jj => nI (tb jj))))) (g45 : ws[45]? = some (b22, .inl (cI, 300, .inl (fun jj => nI (gw jj))))) (g46 : ws[46]? = some (b23, .inl (cI, 300, .inl (fun jj => nI (go jj))))) (g47 : ws[47]? = some (b24, .inl (cI, 300, .inl (fun jj => nI (gt jj))))) (hE : HdE gw go gt E) (hx9 : E.length = xn) (h300 : xn ≤ 300) (hsmE : Esm E) : CI D (TY cB cI cJ cO) l yX9_tell wsX9_tell ({ frames := 1, cells := 0, slots := 0, locals := 24 }) [.ref m0, .int j, .int a, .int b] ws (fun r ws' => ∃ gw2 : Nat → Nat, ∃ go2 : Nat → Nat, ∃ gt2 : Nat → Nat, r = nI ((tellOk j a b).toNat) ∧ HdE gw2 go2 gt2 (teL E j a b) ∧ Sm (fun k => k = 33 ∨ k = 43 ∨ k = 44 ∨ k = 45 ∨ k = 46 ∨ k = 47) ws ws' ∧ ws'[33]? = some (m0, .inr (10, [.int (nI 0), .ref b1, .ref b2, .int (nI len), .int (nI ps), .ref b5, .ref b6, .ref b7, .int (nI nm), .int (nI bt_), .int (nI so), .int (nI wi), .ref b12, .int (nI fm), .ref b14, .ref b15, .ref b16, .int (nI dn), .int (nI ca), .int (nI (bif tellOk j a b then 1 else sta)), .ref b20, .ref b21, .ref b22, .ref b23, .ref b24, .int (nI ((teL E j a b).length)), .ref b26, .int (nI bb), .int (nI rr), .int (nI pp), .int (nI qq), .ref b31])) ∧ ws'[43]? = some (b20, .inl (cI, 64, .inl (fun jj => nI ((teA ta j a b) jj)))) ∧ ws'[44]? = some (b21, .inl (cI, 64, .inl (fun jj => nI ((teB tb j a b) jj)))) ∧ ws'[45]? = some (b22, .inl (cI, 300, .inl (fun jj => nI (gw2 jj)))) ∧ ws'[46]? = some (b23, .inl (cI, 300, .inl (fun jj => nI (go2 jj)))) ∧ ws'[47]? = some (b24, .inl (cI, 300, .inl (fun jj => nI (gt2 jj))))) := by
  refine CI.of (cc := cX9_tell) (maxL := 6) (ret := (some .boolean)) (by decide) rfl (Nat.le_of_ble_eq_true rfl) ?_
  intro p e s m below meth c A C hK hP hD hA hS ls hl
  obtain ⟨hx, hb, hr, hml, hts, hown, hlocks, hnm⟩ := id C
  have fl_1 := hts (.fieldLink RX9 1 "TwinFinderModel" "thrown" "I") (by decide +kernel)
  have fl_84 := hts (.fieldLink RX9 84 "TwinFinderModel" "stale" "Z") (by decide +kernel)
  have fl_103 := hts (.fieldLink RX9 103 "TwinFinderModel" "times" "[I") (by decide +kernel)
  have fl_106 := hts (.fieldLink RX9 106 "TwinFinderModel" "more" "[I") (by decide +kernel)
  have fl_109 := hts (.fieldLink RX9 109 "TwinFinderModel" "whose" "[I") (by decide +kernel)
  have fl_112 := hts (.fieldLink RX9 112 "TwinFinderModel" "one" "[I") (by decide +kernel)
  have fl_115 := hts (.fieldLink RX9 115 "TwinFinderModel" "other" "[I") (by decide +kernel)
  have fl_141 := hts (.fieldLink RX9 141 "TwinFinderModel" "exchanges" "I") (by decide +kernel)
  have hin_X9 : ∀ w ∈ u_ws RX9 TX9 32, w ∈ wsX9_tell := by decide +kernel
  have hl : lv_has ls 6 [(0, .ref m0), (1, .int j), (2, .int a), (3, .int b)] := hl
  have sm : Sm (fun k => k = 33 ∨ k = 43 ∨ k = 44 ∨ k = 45 ∨ k = 46 ∨ k = 47) ws ws := Sm.rf
  have hc0 : (0 : Nat) ≤ 0 := by decide
  have hs0 : (0 : Nat) ≤ 0 := by decide
  refine lv_aload_n hx hb dX9_tell_0 rfl (lv_at hl 0 rfl) ?_
  refine lv_iconst (v := nI 0) hx hb dX9_tell_1 (by decide) ?_
  refine nx_put (D := D) (ci := 10) (v := .int (nI 0)) (ty := .int) (C := RX9) (T := TX9) (N := 32) hx hb hts hin_X9 tyX9 tyX9_ok nmX9 hown hK hP hD hS 33 g33 rfl 0 (by decide) fl_1 (fun _ h9 => h9) rfl (by decide +kernel) rfl rfl (Nat.le_of_ble_eq_true rfl) dX9_tell_2 (fun ws_1 H locs gq up_2 hP hD hS => ?_)
  have g33 : ws_1[33]? = some (m0, .inr (10, [.int (nI 0), .ref b1, .ref b2, .int (nI len), .int (nI ps), .ref b5, .ref b6, .ref b7, .int (nI nm), .int (nI bt_), .int (nI so), .int (nI wi), .ref b12, .int (nI fm), .ref b14, .ref b15, .ref b16, .int (nI dn), .int (nI ca), .int (nI sta), .ref b20, .ref b21, .ref b22, .ref b23, .ref b24, .int (nI xn), .ref b26, .int (nI bb), .int (nI rr), .int (nI pp), .int (nI qq), .ref b31])) := gq
  have g43 := up_2.get g43 (by decide)
  have g44 := up_2.get g44 (by decide)
  have g45 := up_2.get g45 (by decide)
  have g46 := up_2.get g46 (by decide)
  have g47 := up_2.get g47 (by decide)
  have sm := sm.up up_2 (by simp)
  refine lv_iload_n hx hb dX9_tell_5 rfl (lv_at hl 1 rfl) ?_
  refine lv_iconst (v := nI 0) hx hb dX9_tell_6 (by decide) ?_
  refine lv_bipush (v := nI 63) hx hb dX9_tell_7 (by decide) ?_
  refine CI.go (va_runS (As := [.int j, .int (nI 0), .int (nI 63)]) (rest := []) ⟨hx, hb, hml, hown, hts⟩ (c_X9_isNone    _) (va_cwS 3 hts gX9_tell_X9_isNone rfl rfl rfl (by decide +kernel) ⟨Nat.le_of_ble_eq_true rfl, Nat.le_of_ble_eq_true rfl⟩) ⟨pw_blind, fun U hU hW => pw_pre hK hP hD hU hW⟩ rfl rfl hl.1 rfl (lv_room (Nat.le_of_ble_eq_true rfl)) dX9_tell_9 ⟨by decide, by decide⟩) hD hS hA (fun r_3 ws_4 H locs hp hP hD hS => ?_)
  obtain ⟨rfl, rfl⟩ := hp
  refine nx_if_ne (tgt := 35) hx hb (by cases isOut j (nI 0) (nI 63) <;> decide) dX9_tell_12 (by decide) (fun c_12 => ?_) (fun c_12 => ?_)
  · refine lv_iconst (v := nI 0) hx hb dX9_tell_35 (by decide) ?_
    have hno : tellOk j a b = false := by first | (rw [tellOk, isOut_yes c_12]; rfl) | (rw [tellOk, isOut_yes c_22]; simp; done) | (rw [tellOk, isOut_yes c_32]; simp; done)
    have g33 : ws_1[33]? = some (m0, .inr (10, [.int (nI 0), .ref b1, .ref b2, .int (nI len), .int (nI ps), .ref b5, .ref b6, .ref b7, .int (nI nm), .int (nI bt_), .int (nI so), .int (nI wi), .ref b12, .int (nI fm), .ref b14, .ref b15, .ref b16, .int (nI dn), .int (nI ca), .int (nI (bif tellOk j a b then 1 else sta)), .ref b20, .ref b21, .ref b22, .ref b23, .ref b24, .int (nI ((teL E j a b).length)), .ref b26, .int (nI bb), .int (nI rr), .int (nI pp), .int (nI qq), .ref b31])) := by rw [teL, hno, if_neg (by decide), hx9]; exact g33
    have g43 : ws_1[43]? = some (b20, .inl (cI, 64, .inl (fun jj => nI ((teA ta j a b) jj)))) := by rw [teA, hno]; exact g43
    have g44 : ws_1[44]? = some (b21, .inl (cI, 64, .inl (fun jj => nI ((teB tb j a b) jj)))) := by rw [teB, hno]; exact g44
    exact CI.ret (v := (nI 0)) C hK hP hD hS (by decide) (⟨gw, go, gt, (by rw [hno]; rfl), (by rw [teL, hno]; exact hE), sm, g33, g43, g44, g45, g46, g47⟩) hc0 hs0 dX9_tell_36
  · refine lv_iload_n hx hb dX9_tell_15 rfl (lv_at hl 2 rfl) ?_
    refine lv_iconst (v := nI 1) hx hb dX9_tell_16 (by decide) ?_
    refine lv_ldc (v := nI 65520) hx hb hown (hts (.constant RX9 140 65520) (by decide +kernel)) dX9_tell_17 ?_
    refine CI.go (va_runS (As := [.int a, .int (nI 1), .int (nI 65520)]) (rest := []) ⟨hx, hb, hml, hown, hts⟩ (c_X9_isNone    _) (va_cwS 3 hts gX9_tell_X9_isNone rfl rfl rfl (by decide +kernel) ⟨Nat.le_of_ble_eq_true rfl, Nat.le_of_ble_eq_true rfl⟩) ⟨pw_blind, fun U hU hW => pw_pre hK hP hD hU hW⟩ rfl rfl hl.1 rfl (lv_room (Nat.le_of_ble_eq_true rfl)) dX9_tell_19 ⟨by decide, by decide⟩) hD hS hA (fun r_5 ws_6 H locs hp hP hD hS => ?_)
    obtain ⟨rfl, rfl⟩ := hp
    refine nx_if_ne (tgt := 35) hx hb (by cases isOut a (nI 1) (nI 65520) <;> decide) dX9_tell_22 (by decide) (fun c_22 => ?_) (fun c_22 => ?_)
    · refine lv_iconst (v := nI 0) hx hb dX9_tell_35 (by decide) ?_
      have hno : tellOk j a b = false := by first | (rw [tellOk, isOut_yes c_12]; rfl) | (rw [tellOk, isOut_yes c_22]; simp; done) | (rw [tellOk, isOut_yes c_32]; simp; done)
      have g33 : ws_1[33]? = some (m0, .inr (10, [.int (nI 0), .ref b1, .ref b2, .int (nI len), .int (nI ps), .ref b5, .ref b6, .ref b7, .int (nI nm), .int (nI bt_), .int (nI so), .int (nI wi), .ref b12, .int (nI fm), .ref b14, .ref b15, .ref b16, .int (nI dn), .int (nI ca), .int (nI (bif tellOk j a b then 1 else sta)), .ref b20, .ref b21, .ref b22, .ref b23, .ref b24, .int (nI ((teL E j a b).length)), .ref b26, .int (nI bb), .int (nI rr), .int (nI pp), .int (nI qq), .ref b31])) := by rw [teL, hno, if_neg (by decide), hx9]; exact g33
      have g43 : ws_1[43]? = some (b20, .inl (cI, 64, .inl (fun jj => nI ((teA ta j a b) jj)))) := by rw [teA, hno]; exact g43
      have g44 : ws_1[44]? = some (b21, .inl (cI, 64, .inl (fun jj => nI ((teB tb j a b) jj)))) := by rw [teB, hno]; exact g44
      exact CI.ret (v := (nI 0)) C hK hP hD hS (by decide) (⟨gw, go, gt, (by rw [hno]; rfl), (by rw [teL, hno]; exact hE), sm, g33, g43, g44, g45, g46, g47⟩) hc0 hs0 dX9_tell_36
    · refine lv_iload_n hx hb dX9_tell_25 rfl (lv_at hl 3 rfl) ?_
      refine lv_iconst (v := nI 0) hx hb dX9_tell_26 (by decide) ?_
      refine lv_ldc (v := nI 65520) hx hb hown (hts (.constant RX9 140 65520) (by decide +kernel)) dX9_tell_27 ?_
      refine CI.go (va_runS (As := [.int b, .int (nI 0), .int (nI 65520)]) (rest := []) ⟨hx, hb, hml, hown, hts⟩ (c_X9_isNone    _) (va_cwS 3 hts gX9_tell_X9_isNone rfl rfl rfl (by decide +kernel) ⟨Nat.le_of_ble_eq_true rfl, Nat.le_of_ble_eq_true rfl⟩) ⟨pw_blind, fun U hU hW => pw_pre hK hP hD hU hW⟩ rfl rfl hl.1 rfl (lv_room (Nat.le_of_ble_eq_true rfl)) dX9_tell_29 ⟨by decide, by decide⟩) hD hS hA (fun r_7 ws_8 H locs hp hP hD hS => ?_)
      obtain ⟨rfl, rfl⟩ := hp
      refine nx_if_eq (tgt := 37) hx hb (by cases isOut b (nI 0) (nI 65520) <;> decide) dX9_tell_32 (by decide) (fun c_32 => ?_) (fun c_32 => ?_)
      · obtain ⟨j1, -, hj1, rfl⟩ := isOut_no c_12 (by decide) (by decide)
        obtain ⟨a1, ha0, ha1, rfl⟩ := isOut_no c_22 (by decide) (by decide)
        obtain ⟨b1_, -, hb1, rfl⟩ := isOut_no c_32 (by decide) (by decide)
        have hok : tellOk (nI j1) (nI a1) (nI b1_) = true := by rw [tellOk, isOut_in (Nat.zero_le _) hj1 (by decide), isOut_in ha0 ha1 (by decide), isOut_in (Nat.zero_le _) hb1 (by decide)]; rfl
        refine lv_aload_n hx hb dX9_tell_37 rfl (lv_at hl 0 rfl) ?_
        refine va_get (D := D) (ci := 10) (v := .ref b20) (C := RX9) (T := TX9) (N := 32) hx hb hts hin_X9 hown hK hP 33 g33 rfl 20 (by decide) fl_103 (fun _ h9 => h9) rfl dX9_tell_38 ?_
        refine lv_iload_n hx hb dX9_tell_41 rfl (lv_at hl 1 rfl) ?_
        refine lv_iload_n hx hb dX9_tell_42 rfl (lv_at hl 2 rfl) ?_
        refine nx_iastN hx hb hK hP hD hS 43 1 g43 rfl (k := j1) (by omega) (by decide) dX9_tell_43 (fun ws_9 H locs gq up_10 hP hD hS => ?_)
        have g43 : ws_9[43]? = some (b20, .inl (cI, 64, .inl (fun jj => nI ((va_up ta j1 a1) jj)))) := gq
        have g33 := up_10.get g33 (by decide)
        have g44 := up_10.get g44 (by decide)
        have g45 := up_10.get g45 (by decide)
        have g46 := up_10.get g46 (by decide)
        have g47 := up_10.get g47 (by decide)
        have sm := sm.up up_10 (by simp)
        refine lv_aload_n hx hb dX9_tell_44 rfl (lv_at hl 0 rfl) ?_
        refine va_get (D := D) (ci := 10) (v := .ref b21) (C := RX9) (T := TX9) (N := 32) hx hb hts hin_X9 hown hK hP 33 g33 rfl 21 (by decide) fl_106 (fun _ h9 => h9) rfl dX9_tell_45 ?_
        refine lv_iload_n hx hb dX9_tell_48 rfl (lv_at hl 1 rfl) ?_
        refine lv_iload_n hx hb dX9_tell_49 rfl (lv_at hl 3 rfl) ?_
        refine nx_iastN hx hb hK hP hD hS 44 1 g44 rfl (k := j1) (by omega) (by decide) dX9_tell_50 (fun ws_11 H locs gq up_12 hP hD hS => ?_)
        have g44 : ws_11[44]? = some (b21, .inl (cI, 64, .inl (fun jj => nI ((va_up tb j1 b1_) jj)))) := gq
        have g33 := up_12.get g33 (by decide)
        have g43 := up_12.get g43 (by decide)
        have g45 := up_12.get g45 (by decide)
        have g46 := up_12.get g46 (by decide)
        have g47 := up_12.get g47 (by decide)
        have sm := sm.up up_12 (by simp)
        refine lv_iconst (v := nI 0) hx hb dX9_tell_51 (by decide) ?_
        refine lv_istore (lv' := [(4, .int (nI 0)), (0, .ref m0), (1, .int (nI j1)), (2, .int (nI a1)), (3, .int (nI b1_))]) hx hb dX9_tell_52 hl (by decide) rfl (fun ls hl => ?_)
        refine lv_iconst (v := nI 0) hx hb dX9_tell_54 (by decide) ?_
        refine lv_istore (lv' := [(5, .int (nI 0)), (4, .int (nI 0)), (0, .ref m0), (1, .int (nI j1)), (2, .int (nI a1)), (3, .int (nI b1_))]) hx hb dX9_tell_55 hl (by decide) rfl (fun ls hl => ?_)
        have lp_57 : ∀ (fuel : Nat) (i : Nat) (F : List (Nat × Nat × Nat)) (gw2 go2 gt2 : Nat → Nat), xn - i < fuel → (i ≤ xn) → (F = (E.take i).filter (fun e => e.1 != j1)) → (HdE gw2 go2 gt2 F) → (F.length ≤ i) → (∀ q, i ≤ q → q < xn → gw2 q = gw q ∧ go2 q = go q ∧ gt2 q = gt q) → ∀ (ws1 : va_W) (H : Heap) (locs : List Loc) (ls : Array Slot), Sm (fun k => k = 33 ∨ k = 43 ∨ k = 44 ∨ k = 45 ∨ k = 46 ∨ k = 47) ws ws1 → ws1[33]? = some (m0, .inr (10, [.int (nI 0), .ref b1, .ref b2, .int (nI len), .int (nI ps), .ref b5, .ref b6, .ref b7, .int (nI nm), .int (nI bt_), .int (nI so), .int (nI wi), .ref b12, .int (nI fm), .ref b14, .ref b15, .ref b16, .int (nI dn), .int (nI ca), .int (nI sta), .ref b20, .ref b21, .ref b22, .ref b23, .ref b24, .int (nI xn), .ref b26, .int (nI bb), .int (nI rr), .int (nI pp), .int (nI qq), .ref b31])) → ws1[43]? = some (b20, .inl (cI, 64, .inl (fun jj => nI ((va_up ta j1 a1) jj)))) → ws1[44]? = some (b21, .inl (cI, 64, .inl (fun jj => nI ((va_up tb j1 b1_) jj)))) → ws1[45]? = some (b22, .inl (cI, 300, .inl (fun jj => nI (gw2 jj)))) → ws1[46]? = some (b23, .inl (cI, 300, .inl (fun jj => nI (go2 jj)))) → ws1[47]? = some (b24, .inl (cI, 300, .inl (fun jj => nI (gt2 jj)))) → va_P D vwCl ws1 H → va_D A ws1 → va_S A s.heap H locs → lv_has ls 6 [(0, .ref m0), (1, .int (nI j1)), (2, .int (nI a1)), (3, .int (nI b1_)), (4, .int (nI (F.length))), (5, .int (nI i))] → W p l e ({ frames := 1, cells := 0, slots := 0, locals := 24 }) s m ([.ref m0, .int (nI j1), .int (nI a1), .int (nI b1_)] : List Value).toArray below meth c H locs 0 0 (ZI D (TY cB cI cJ cO) (fun r ws' => ∃ gw2 : Nat → Nat, ∃ go2 : Nat → Nat, ∃ gt2 : Nat → Nat, r = nI ((tellOk (nI j1) (nI a1) (nI b1_)).toNat) ∧ HdE gw2 go2 gt2 (teL E (nI j1) (nI a1) (nI b1_)) ∧ Sm (fun k => k = 33 ∨ k = 43 ∨ k = 44 ∨ k = 45 ∨ k = 46 ∨ k = 47) ws ws' ∧ ws'[33]? = some (m0, .inr (10, [.int (nI 0), .ref b1, .ref b2, .int (nI len), .int (nI ps), .ref b5, .ref b6, .ref b7, .int (nI nm), .int (nI bt_), .int (nI so), .int (nI wi), .ref b12, .int (nI fm), .ref b14, .ref b15, .ref b16, .int (nI dn), .int (nI ca), .int (nI (bif tellOk (nI j1) (nI a1) (nI b1_) then 1 else sta)), .ref b20, .ref b21, .ref b22, .ref b23, .ref b24, .int (nI ((teL E (nI j1) (nI a1) (nI b1_)).length)), .ref b26, .int (nI bb), .int (nI rr), .int (nI pp), .int (nI qq), .ref b31])) ∧ ws'[43]? = some (b20, .inl (cI, 64, .inl (fun jj => nI ((teA ta (nI j1) (nI a1) (nI b1_)) jj)))) ∧ ws'[44]? = some (b21, .inl (cI, 64, .inl (fun jj => nI ((teB tb (nI j1) (nI a1) (nI b1_)) jj)))) ∧ ws'[45]? = some (b22, .inl (cI, 300, .inl (fun jj => nI (gw2 jj)))) ∧ ws'[46]? = some (b23, .inl (cI, 300, .inl (fun jj => nI (go2 jj)))) ∧ ws'[47]? = some (b24, .inl (cI, 300, .inl (fun jj => nI (gt2 jj))))) below [.ref m0, .int (nI j1), .int (nI a1), .int (nI b1_)] s 0 0 A) (F0 m 57 ls []) := by
          intro fuel
          induction fuel with
          | zero => intro i F gw2 go2 gt2 hfu; exact absurd hfu (Nat.not_lt_zero _)
          | succ fuel ih_57 =>
            intro i F gw2 go2 gt2 hfu_57 hi hF hF2 hFl hrest ws1 H locs ls sm g33 g43 g44 g45 g46 g47 hP hD hS hl
            refine lv_iload hx hb dX9_tell_57 (lv_at hl 5 rfl) ?_
            refine lv_aload_n hx hb dX9_tell_59 rfl (lv_at hl 0 rfl) ?_
            refine va_get (D := D) (ci := 10) (v := .int (nI xn)) (C := RX9) (T := TX9) (N := 32) hx hb hts hin_X9 hown hK hP 33 g33 rfl 25 (by decide) fl_141 (fun _ h9 => h9) rfl dX9_tell_60 ?_
            refine nx_icmp_ge (tgt := 131) hx hb (by omega) (by omega) dX9_tell_63 (by decide) (fun c_63 => ?_) (fun c_63 => ?_)
            · refine lv_aload_n hx hb dX9_tell_131 rfl (lv_at hl 0 rfl) ?_
              refine lv_iload hx hb dX9_tell_132 (lv_at hl 4 rfl) ?_
              refine nx_put (D := D) (ci := 10) (v := .int (nI (F.length))) (ty := .int) (C := RX9) (T := TX9) (N := 32) hx hb hts hin_X9 tyX9 tyX9_ok nmX9 hown hK hP hD hS 33 g33 rfl 25 (by decide) fl_141 (fun _ h9 => h9) rfl (by decide +kernel) rfl rfl (Nat.le_of_ble_eq_true rfl) dX9_tell_134 (fun ws_13 H locs gq up_14 hP hD hS => ?_)
              have g33 : ws_13[33]? = some (m0, .inr (10, [.int (nI 0), .ref b1, .ref b2, .int (nI len), .int (nI ps), .ref b5, .ref b6, .ref b7, .int (nI nm), .int (nI bt_), .int (nI so), .int (nI wi), .ref b12, .int (nI fm), .ref b14, .ref b15, .ref b16, .int (nI dn), .int (nI ca), .int (nI sta), .ref b20, .ref b21, .ref b22, .ref b23, .ref b24, .int (nI (F.length)), .ref b26, .int (nI bb), .int (nI rr), .int (nI pp), .int (nI qq), .ref b31])) := gq
              have g43 := up_14.get g43 (by decide)
              have g44 := up_14.get g44 (by decide)
              have g45 := up_14.get g45 (by decide)
              have g46 := up_14.get g46 (by decide)
              have g47 := up_14.get g47 (by decide)
              have sm := sm.up up_14 (by simp)
              refine lv_aload_n hx hb dX9_tell_137 rfl (lv_at hl 0 rfl) ?_
              refine lv_iconst (v := nI 1) hx hb dX9_tell_138 (by decide) ?_
              refine nx_put (D := D) (ci := 10) (v := .int (nI 1)) (ty := .boolean) (C := RX9) (T := TX9) (N := 32) hx hb hts hin_X9 tyX9 tyX9_ok nmX9 hown hK hP hD hS 33 g33 rfl 19 (by decide) fl_84 (fun _ h9 => h9) rfl (by decide +kernel) (by decide) (by decide) (Nat.le_of_ble_eq_true rfl) dX9_tell_139 (fun ws_15 H locs gq up_16 hP hD hS => ?_)
              have g33 : ws_15[33]? = some (m0, .inr (10, [.int (nI 0), .ref b1, .ref b2, .int (nI len), .int (nI ps), .ref b5, .ref b6, .ref b7, .int (nI nm), .int (nI bt_), .int (nI so), .int (nI wi), .ref b12, .int (nI fm), .ref b14, .ref b15, .ref b16, .int (nI dn), .int (nI ca), .int (nI 1), .ref b20, .ref b21, .ref b22, .ref b23, .ref b24, .int (nI (F.length)), .ref b26, .int (nI bb), .int (nI rr), .int (nI pp), .int (nI qq), .ref b31])) := gq
              have g43 := up_16.get g43 (by decide)
              have g44 := up_16.get g44 (by decide)
              have g45 := up_16.get g45 (by decide)
              have g46 := up_16.get g46 (by decide)
              have g47 := up_16.get g47 (by decide)
              have sm := sm.up up_16 (by simp)
              refine lv_iconst (v := nI 1) hx hb dX9_tell_142 (by decide) ?_
              have hL : teL E (nI j1) (nI a1) (nI b1_) = F := by rw [teL, if_pos hok, nI_clamp (by omega), hF, List.take_of_length_le (by omega)]
              have g33 : ws_15[33]? = some (m0, .inr (10, [.int (nI 0), .ref b1, .ref b2, .int (nI len), .int (nI ps), .ref b5, .ref b6, .ref b7, .int (nI nm), .int (nI bt_), .int (nI so), .int (nI wi), .ref b12, .int (nI fm), .ref b14, .ref b15, .ref b16, .int (nI dn), .int (nI ca), .int (nI (bif tellOk (nI j1) (nI a1) (nI b1_) then 1 else sta)), .ref b20, .ref b21, .ref b22, .ref b23, .ref b24, .int (nI ((teL E (nI j1) (nI a1) (nI b1_)).length)), .ref b26, .int (nI bb), .int (nI rr), .int (nI pp), .int (nI qq), .ref b31])) := by rw [hL, hok]; exact g33
              have g43 : ws_15[43]? = some (b20, .inl (cI, 64, .inl (fun jj => nI ((teA ta (nI j1) (nI a1) (nI b1_)) jj)))) := by rw [teA, if_pos hok, nI_clamp (by omega), nI_clamp (by omega)]; exact g43
              have g44 : ws_15[44]? = some (b21, .inl (cI, 64, .inl (fun jj => nI ((teB tb (nI j1) (nI a1) (nI b1_)) jj)))) := by rw [teB, if_pos hok, nI_clamp (by omega), nI_clamp (by omega)]; exact g44
              exact CI.ret (v := (nI 1)) C hK hP hD hS (by decide) (⟨_, _, _, (by rw [hok]; rfl), (by rw [hL]; exact hF2), sm, g33, g43, g44, g45, g46, g47⟩) hc0 hs0 dX9_tell_143
            · refine lv_aload_n hx hb dX9_tell_66 rfl (lv_at hl 0 rfl) ?_
              refine va_get (D := D) (ci := 10) (v := .ref b22) (C := RX9) (T := TX9) (N := 32) hx hb hts hin_X9 hown hK hP 33 g33 rfl 22 (by decide) fl_109 (fun _ h9 => h9) rfl dX9_tell_67 ?_
              refine lv_iload hx hb dX9_tell_70 (lv_at hl 5 rfl) ?_
              refine nx_iald hx hb hK hP 45 1 g45 rfl (k := i) (by omega) (by decide) dX9_tell_72 ?_
              refine lv_iload_n hx hb dX9_tell_73 rfl (lv_at hl 1 rfl) ?_
              refine nx_icmp_ne (tgt := 80) hx hb (by have := hE i (by omega); have h3 := hrest i (by omega) (by omega); have := hsmE E[i] (List.getElem_mem _); omega) (by omega) dX9_tell_74 (by decide) (fun c_74 => ?_) (fun c_74 => ?_)
              · refine lv_aload_n hx hb dX9_tell_80 rfl (lv_at hl 0 rfl) ?_
                refine va_get (D := D) (ci := 10) (v := .ref b22) (C := RX9) (T := TX9) (N := 32) hx hb hts hin_X9 hown hK hP 33 g33 rfl 22 (by decide) fl_109 (fun _ h9 => h9) rfl dX9_tell_81 ?_
                refine lv_iload hx hb dX9_tell_84 (lv_at hl 4 rfl) ?_
                refine lv_aload_n hx hb dX9_tell_86 rfl (lv_at hl 0 rfl) ?_
                refine va_get (D := D) (ci := 10) (v := .ref b22) (C := RX9) (T := TX9) (N := 32) hx hb hts hin_X9 hown hK hP 33 g33 rfl 22 (by decide) fl_109 (fun _ h9 => h9) rfl dX9_tell_87 ?_
                refine lv_iload hx hb dX9_tell_90 (lv_at hl 5 rfl) ?_
                refine nx_iald hx hb hK hP 45 1 g45 rfl (k := i) (by omega) (by decide) dX9_tell_92 ?_
                refine nx_iastN hx hb hK hP hD hS 45 1 g45 rfl (k := (F.length)) (by omega) (by decide) dX9_tell_93 (fun ws_17 H locs gq up_18 hP hD hS => ?_)
                have g45 : ws_17[45]? = some (b22, .inl (cI, 300, .inl (fun jj => nI ((va_up gw2 F.length (gw2 i)) jj)))) := gq
                have g33 := up_18.get g33 (by decide)
                have g43 := up_18.get g43 (by decide)
                have g44 := up_18.get g44 (by decide)
                have g46 := up_18.get g46 (by decide)
                have g47 := up_18.get g47 (by decide)
                have sm := sm.up up_18 (by simp)
                refine lv_aload_n hx hb dX9_tell_94 rfl (lv_at hl 0 rfl) ?_
                refine va_get (D := D) (ci := 10) (v := .ref b23) (C := RX9) (T := TX9) (N := 32) hx hb hts hin_X9 hown hK hP 33 g33 rfl 23 (by decide) fl_112 (fun _ h9 => h9) rfl dX9_tell_95 ?_
                refine lv_iload hx hb dX9_tell_98 (lv_at hl 4 rfl) ?_
                refine lv_aload_n hx hb dX9_tell_100 rfl (lv_at hl 0 rfl) ?_
                refine va_get (D := D) (ci := 10) (v := .ref b23) (C := RX9) (T := TX9) (N := 32) hx hb hts hin_X9 hown hK hP 33 g33 rfl 23 (by decide) fl_112 (fun _ h9 => h9) rfl dX9_tell_101 ?_
                refine lv_iload hx hb dX9_tell_104 (lv_at hl 5 rfl) ?_
                refine nx_iald hx hb hK hP 46 1 g46 rfl (k := i) (by omega) (by decide) dX9_tell_106 ?_
                refine nx_iastN hx hb hK hP hD hS 46 1 g46 rfl (k := (F.length)) (by omega) (by decide) dX9_tell_107 (fun ws_19 H locs gq up_20 hP hD hS => ?_)
                have g46 : ws_19[46]? = some (b23, .inl (cI, 300, .inl (fun jj => nI ((va_up go2 F.length (go2 i)) jj)))) := gq
                have g33 := up_20.get g33 (by decide)
                have g43 := up_20.get g43 (by decide)
                have g44 := up_20.get g44 (by decide)
                have g45 := up_20.get g45 (by decide)
                have g47 := up_20.get g47 (by decide)
                have sm := sm.up up_20 (by simp)
                refine lv_aload_n hx hb dX9_tell_108 rfl (lv_at hl 0 rfl) ?_
                refine va_get (D := D) (ci := 10) (v := .ref b24) (C := RX9) (T := TX9) (N := 32) hx hb hts hin_X9 hown hK hP 33 g33 rfl 24 (by decide) fl_115 (fun _ h9 => h9) rfl dX9_tell_109 ?_
                refine lv_iload hx hb dX9_tell_112 (lv_at hl 4 rfl) ?_
                refine lv_aload_n hx hb dX9_tell_114 rfl (lv_at hl 0 rfl) ?_
                refine va_get (D := D) (ci := 10) (v := .ref b24) (C := RX9) (T := TX9) (N := 32) hx hb hts hin_X9 hown hK hP 33 g33 rfl 24 (by decide) fl_115 (fun _ h9 => h9) rfl dX9_tell_115 ?_
                refine lv_iload hx hb dX9_tell_118 (lv_at hl 5 rfl) ?_
                refine nx_iald hx hb hK hP 47 1 g47 rfl (k := i) (by omega) (by decide) dX9_tell_120 ?_
                refine nx_iastN hx hb hK hP hD hS 47 1 g47 rfl (k := (F.length)) (by omega) (by decide) dX9_tell_121 (fun ws_21 H locs gq up_22 hP hD hS => ?_)
                have g47 : ws_21[47]? = some (b24, .inl (cI, 300, .inl (fun jj => nI ((va_up gt2 F.length (gt2 i)) jj)))) := gq
                have g33 := up_22.get g33 (by decide)
                have g43 := up_22.get g43 (by decide)
                have g44 := up_22.get g44 (by decide)
                have g45 := up_22.get g45 (by decide)
                have g46 := up_22.get g46 (by decide)
                have sm := sm.up up_22 (by simp)
                refine lv_iinc (v := (nI (F.length + 1))) (lv' := [(4, .int (nI (F.length + 1))), (0, .ref m0), (1, .int (nI j1)), (2, .int (nI a1)), (3, .int (nI b1_)), (5, .int (nI i))]) hx hb dX9_tell_122 hl (k := 4) rfl (nx_inc _ 1) (by decide) rfl (fun ls hl => ?_)
                refine lv_iinc (v := (nI (i + 1))) (lv' := [(5, .int (nI (i + 1))), (4, .int (nI (F.length + 1))), (0, .ref m0), (1, .int (nI j1)), (2, .int (nI a1)), (3, .int (nI b1_))]) hx hb dX9_tell_125 hl (k := 5) rfl (nx_inc _ 1) (by decide) rfl (fun ls hl => ?_)
                refine lv_goto (tgt := 57) hx hb dX9_tell_128 (by decide) ?_
                have h3 := hE i (by omega)
                have h4 := hrest i (by omega) (by omega)
                have h5 := filt_take (E := E) (k := i) (by omega) (fun e => e.1 != j1)
                rw [if_pos (by simp; omega), ← hF] at h5
                have hF3 := hF2.app (e := E[i])
                rw [← h3.1, ← h3.2.1, ← h3.2.2, ← h4.1, ← h4.2.1, ← h4.2.2] at hF3
                have hl : lv_has ls 6 [(5, .int (nI (i + 1))), (4, .int (nI ((F ++ [E[i]]).length))), (0, .ref m0), (1, .int (nI j1)), (2, .int (nI a1)), (3, .int (nI b1_))] := by rw [← show F.length + 1 = (F ++ [E[i]]).length from (by rw [List.length_append]; rfl)]; exact hl
                exact ih_57 (i + 1) (F ++ [E[i]]) _ _ _ (by omega) (by omega) h5.symm hF3 (by rw [List.length_append]; simp; omega) (fun q h6 h7 => by rw [va_up_ne _ _ (by omega), va_up_ne _ _ (by omega), va_up_ne _ _ (by omega)]; exact hrest q (by omega) h7) _ _ _ _ sm g33 g43 g44 g45 g46 g47 hP hD hS (lv_sub hl [2, 3, 4, 5, 1, 0] rfl)
              · refine lv_goto (tgt := 125) hx hb dX9_tell_77 (by decide) ?_
                refine lv_iinc (v := (nI (i + 1))) (lv' := [(5, .int (nI (i + 1))), (0, .ref m0), (1, .int (nI j1)), (2, .int (nI a1)), (3, .int (nI b1_)), (4, .int (nI (F.length)))]) hx hb dX9_tell_125 hl (k := 5) rfl (nx_inc _ 1) (by decide) rfl (fun ls hl => ?_)
                refine lv_goto (tgt := 57) hx hb dX9_tell_128 (by decide) ?_
                have h3 := hE i (by omega)
                have h4 := hrest i (by omega) (by omega)
                have h5 := filt_take (E := E) (k := i) (by omega) (fun e => e.1 != j1)
                rw [if_neg (by simp; omega), List.append_nil, ← hF] at h5
                exact ih_57 (i + 1) F gw2 go2 gt2 (by omega) (by omega) h5.symm hF2 (by omega) (fun q h6 h7 => hrest q (by omega) h7) _ _ _ _ sm g33 g43 g44 g45 g46 g47 hP hD hS (lv_sub hl [1, 2, 3, 4, 5, 0] rfl)
        exact lp_57 _ 0 [] gw go gt (Nat.lt_succ_self _) (Nat.zero_le _) rfl (fun q hq => absurd hq (Nat.not_lt_zero q)) (Nat.le_refl _) (fun q _ _ => ⟨rfl, rfl, rfl⟩) _ _ _ _ sm g33 g43 g44 g45 g46 g47 hP hD hS (lv_sub hl [2, 3, 4, 5, 1, 0] rfl)
      · refine lv_iconst (v := nI 0) hx hb dX9_tell_35 (by decide) ?_
        have hno : tellOk j a b = false := by first | (rw [tellOk, isOut_yes c_12]; rfl) | (rw [tellOk, isOut_yes c_22]; simp; done) | (rw [tellOk, isOut_yes c_32]; simp; done)
        have g33 : ws_1[33]? = some (m0, .inr (10, [.int (nI 0), .ref b1, .ref b2, .int (nI len), .int (nI ps), .ref b5, .ref b6, .ref b7, .int (nI nm), .int (nI bt_), .int (nI so), .int (nI wi), .ref b12, .int (nI fm), .ref b14, .ref b15, .ref b16, .int (nI dn), .int (nI ca), .int (nI (bif tellOk j a b then 1 else sta)), .ref b20, .ref b21, .ref b22, .ref b23, .ref b24, .int (nI ((teL E j a b).length)), .ref b26, .int (nI bb), .int (nI rr), .int (nI pp), .int (nI qq), .ref b31])) := by rw [teL, hno, if_neg (by decide), hx9]; exact g33
        have g43 : ws_1[43]? = some (b20, .inl (cI, 64, .inl (fun jj => nI ((teA ta j a b) jj)))) := by rw [teA, hno]; exact g43
        have g44 : ws_1[44]? = some (b21, .inl (cI, 64, .inl (fun jj => nI ((teB tb j a b) jj)))) := by rw [teB, hno]; exact g44
        exact CI.ret (v := (nI 0)) C hK hP hD hS (by decide) (⟨gw, go, gt, (by rw [hno]; rfl), (by rw [teL, hno]; exact hE), sm, g33, g43, g44, g45, g46, g47⟩) hc0 hs0 dX9_tell_36
