set_option maxHeartbeats 4000000 in
set_option maxRecDepth 100000 in
theorem c_X8_feed {D : va_G} {cB cI cJ cO : ClassId} {l : Launch} {z0 a1 t0 d0 s0 e0 k0 al so wi : Nat} {a2 a3 a4 len pl pcs gp : Nat} {va vb vc vd ve : Int32} {f : Nat → Int32} {T : List Int32} {ws : va_W} (g0 : ws[0]? = some (z0, .inr (9, [.ref a1, .ref t0, .ref d0, .ref s0, .ref e0, .ref k0, .ref al, .int (nI so), .int (nI wi)]))) (g1 : ws[1]? = some (a1, .inr (8, [.ref a2, .ref a3, .ref a4, .int (nI len), .int (nI pl), .int (nI pcs), .int (nI gp)]))) (g2 : ws[2]? = some (a2, .inl (cB, 800, .inl f))) (hT : Hd f T) (hlen : T.length = len) (h8 : len ≤ 800) : CI D (TY cB cI cJ cO) l yX8_feed wsX8_feed ({ frames := 1, cells := 0, slots := 0, locals := 22 }) [.ref z0, .int va, .int vb, .int vc, .int vd, .int ve] ws (fun r ws' => ∃ fq : Nat → Int32, r = fedR T ∧ (Hd fq (fedT T va vb vc vd ve)) ∧ Sm (fun k => k = 1 ∨ k = 2) ws ws' ∧ ws'[1]? = some (a1, .inr (8, [.ref a2, .ref a3, .ref a4, .int (nI ((fedT T va vb vc vd ve).length)), .int (nI pl), .int (nI pcs), .int (nI gp)])) ∧ ws'[2]? = some (a2, .inl (cB, 800, .inl fq))) := by
  refine CI.of (cc := cX8_feed) (maxL := 6) (ret := (some .int)) (by decide) rfl (Nat.le_of_ble_eq_true rfl) ?_
  intro p e s m below meth c A C hK hP hD hA hS ls hl
  obtain ⟨hx, hb, hr, hml, hts, hown, hlocks, hnm⟩ := id C
  have fl_12 := hts (.fieldLink RX8 12 "TwinFinder" "tape" "LTwinFinder$Tape;") (by decide +kernel)
  have fl_62 := hts (.fieldLink RX8 62 "TwinFinder$Tape" "length" "I") (by decide +kernel)
  have hin_X7 : ∀ w ∈ u_ws RX7 TX7 7, w ∈ wsX8_feed := by decide +kernel
  have hin_X8 : ∀ w ∈ u_ws RX8 TX8 9, w ∈ wsX8_feed := by decide +kernel
  have hl : lv_has ls 6 [(0, .ref z0), (1, .int va), (2, .int vb), (3, .int vc), (4, .int vd), (5, .int ve)] := hl
  have sm : Sm (fun k => k = 1 ∨ k = 2) ws ws := Sm.rf
  have hc0 : (0 : Nat) ≤ 0 := by decide
  have hs0 : (0 : Nat) ≤ 0 := by decide
  refine lv_aload_n hx hb dX8_feed_0 rfl (lv_at hl 0 rfl) ?_
  refine va_get (D := D) (ci := 9) (v := .ref a1) (C := RX8) (T := TX8) (N := 9) hx hb hts hin_X8 hown hK hP 0 g0 rfl 0 (by decide) fl_12 (fun _ h9 => h9) rfl dX8_feed_1 ?_
  refine va_get (D := D) (ci := 8) (v := .int (nI len)) (C := RX7) (T := TX7) (N := 7) hx hb hts hin_X7 hown hK hP 1 g1 rfl 3 (by decide) fl_62 (fun _ h9 => h9) rfl dX8_feed_4 ?_
  refine lv_bipush (v := nI 20) hx hb dX8_feed_7 (by decide) ?_
  refine nx_iadd hx hb dX8_feed_9 ?_
  refine lv_sipush (v := nI 800) hx hb dX8_feed_10 (by decide) ?_
  refine nx_icmp_le (tgt := 18) hx hb (by omega) (by omega) dX8_feed_13 (by decide) (fun c_13 => ?_) (fun c_13 => ?_)
  · refine lv_aload_n hx hb dX8_feed_18 rfl (lv_at hl 0 rfl) ?_
    refine va_get (D := D) (ci := 9) (v := .ref a1) (C := RX8) (T := TX8) (N := 9) hx hb hts hin_X8 hown hK hP 0 g0 rfl 0 (by decide) fl_12 (fun _ h9 => h9) rfl dX8_feed_19 ?_
    refine lv_iload_n hx hb dX8_feed_22 rfl (lv_at hl 1 rfl) ?_
    refine CV.go (va_runV (As := [.int va]) (rest := []) ⟨hx, hb, hml, hown, hts⟩ (c_X7_putFour  g1 g2 (by omega) _) (cwV 1 hts gX8_feed_X7_putFour rfl rfl rfl (by decide +kernel) ⟨Nat.le_of_ble_eq_true rfl, Nat.le_of_ble_eq_true rfl⟩) ⟨pw_blind, va_recv hK hP (ci := 8) (q0 := 1) rfl g1, fun U hU hW => pw_pre hK hP hD hU hW⟩ rfl rfl hl.1 rfl (lv_room (Nat.le_of_ble_eq_true rfl)) dX8_feed_23 ⟨Nat.le_of_ble_eq_true rfl, Nat.le_of_ble_eq_true rfl⟩) hD hS hA (fun ws_2 H locs hp hP hD hS => ?_)
    obtain ⟨sm_3, g1, g2⟩ := hp
    have g0 := sm_3.get g0 (by simp)
    have sm := sm.call sm_3 (by intro k hk; (try simp only at hk ⊢); omega)
    have g1 : ws_2[1]? = some (a1, .inr (8, [.ref a2, .ref a3, .ref a4, .int (nI (len + 4)), .int (nI pl), .int (nI pcs), .int (nI gp)])) := g1
    have g2 : ws_2[2]? = some (a2, .inl (cB, 800, .inl (put4 f len va))) := g2
    refine lv_aload_n hx hb dX8_feed_26 rfl (lv_at hl 0 rfl) ?_
    refine va_get (D := D) (ci := 9) (v := .ref a1) (C := RX8) (T := TX8) (N := 9) hx hb hts hin_X8 hown hK hP 0 g0 rfl 0 (by decide) fl_12 (fun _ h9 => h9) rfl dX8_feed_27 ?_
    refine lv_iload_n hx hb dX8_feed_30 rfl (lv_at hl 2 rfl) ?_
    refine CV.go (va_runV (As := [.int vb]) (rest := []) ⟨hx, hb, hml, hown, hts⟩ (c_X7_putFour  g1 g2 (by omega) _) (cwV 1 hts gX8_feed_X7_putFour rfl rfl rfl (by decide +kernel) ⟨Nat.le_of_ble_eq_true rfl, Nat.le_of_ble_eq_true rfl⟩) ⟨pw_blind, va_recv hK hP (ci := 8) (q0 := 1) rfl g1, fun U hU hW => pw_pre hK hP hD hU hW⟩ rfl rfl hl.1 rfl (lv_room (Nat.le_of_ble_eq_true rfl)) dX8_feed_31 ⟨Nat.le_of_ble_eq_true rfl, Nat.le_of_ble_eq_true rfl⟩) hD hS hA (fun ws_5 H locs hp hP hD hS => ?_)
    obtain ⟨sm_6, g1, g2⟩ := hp
    have g0 := sm_6.get g0 (by simp)
    have sm := sm.call sm_6 (by intro k hk; (try simp only at hk ⊢); omega)
    have g1 : ws_5[1]? = some (a1, .inr (8, [.ref a2, .ref a3, .ref a4, .int (nI ((len + 4) + 4)), .int (nI pl), .int (nI pcs), .int (nI gp)])) := g1
    have g2 : ws_5[2]? = some (a2, .inl (cB, 800, .inl (put4 (put4 f len va) (len + 4) vb))) := g2
    refine lv_aload_n hx hb dX8_feed_34 rfl (lv_at hl 0 rfl) ?_
    refine va_get (D := D) (ci := 9) (v := .ref a1) (C := RX8) (T := TX8) (N := 9) hx hb hts hin_X8 hown hK hP 0 g0 rfl 0 (by decide) fl_12 (fun _ h9 => h9) rfl dX8_feed_35 ?_
    refine lv_iload_n hx hb dX8_feed_38 rfl (lv_at hl 3 rfl) ?_
    refine CV.go (va_runV (As := [.int vc]) (rest := []) ⟨hx, hb, hml, hown, hts⟩ (c_X7_putFour  g1 g2 (by omega) _) (cwV 1 hts gX8_feed_X7_putFour rfl rfl rfl (by decide +kernel) ⟨Nat.le_of_ble_eq_true rfl, Nat.le_of_ble_eq_true rfl⟩) ⟨pw_blind, va_recv hK hP (ci := 8) (q0 := 1) rfl g1, fun U hU hW => pw_pre hK hP hD hU hW⟩ rfl rfl hl.1 rfl (lv_room (Nat.le_of_ble_eq_true rfl)) dX8_feed_39 ⟨Nat.le_of_ble_eq_true rfl, Nat.le_of_ble_eq_true rfl⟩) hD hS hA (fun ws_8 H locs hp hP hD hS => ?_)
    obtain ⟨sm_9, g1, g2⟩ := hp
    have g0 := sm_9.get g0 (by simp)
    have sm := sm.call sm_9 (by intro k hk; (try simp only at hk ⊢); omega)
    have g1 : ws_8[1]? = some (a1, .inr (8, [.ref a2, .ref a3, .ref a4, .int (nI (((len + 4) + 4) + 4)), .int (nI pl), .int (nI pcs), .int (nI gp)])) := g1
    have g2 : ws_8[2]? = some (a2, .inl (cB, 800, .inl (put4 (put4 (put4 f len va) (len + 4) vb) ((len + 4) + 4) vc))) := g2
    refine lv_aload_n hx hb dX8_feed_42 rfl (lv_at hl 0 rfl) ?_
    refine va_get (D := D) (ci := 9) (v := .ref a1) (C := RX8) (T := TX8) (N := 9) hx hb hts hin_X8 hown hK hP 0 g0 rfl 0 (by decide) fl_12 (fun _ h9 => h9) rfl dX8_feed_43 ?_
    refine lv_iload hx hb dX8_feed_46 (lv_at hl 4 rfl) ?_
    refine CV.go (va_runV (As := [.int vd]) (rest := []) ⟨hx, hb, hml, hown, hts⟩ (c_X7_putFour  g1 g2 (by omega) _) (cwV 1 hts gX8_feed_X7_putFour rfl rfl rfl (by decide +kernel) ⟨Nat.le_of_ble_eq_true rfl, Nat.le_of_ble_eq_true rfl⟩) ⟨pw_blind, va_recv hK hP (ci := 8) (q0 := 1) rfl g1, fun U hU hW => pw_pre hK hP hD hU hW⟩ rfl rfl hl.1 rfl (lv_room (Nat.le_of_ble_eq_true rfl)) dX8_feed_48 ⟨Nat.le_of_ble_eq_true rfl, Nat.le_of_ble_eq_true rfl⟩) hD hS hA (fun ws_11 H locs hp hP hD hS => ?_)
    obtain ⟨sm_12, g1, g2⟩ := hp
    have g0 := sm_12.get g0 (by simp)
    have sm := sm.call sm_12 (by intro k hk; (try simp only at hk ⊢); omega)
    have g1 : ws_11[1]? = some (a1, .inr (8, [.ref a2, .ref a3, .ref a4, .int (nI ((((len + 4) + 4) + 4) + 4)), .int (nI pl), .int (nI pcs), .int (nI gp)])) := g1
    have g2 : ws_11[2]? = some (a2, .inl (cB, 800, .inl (put4 (put4 (put4 (put4 f len va) (len + 4) vb) ((len + 4) + 4) vc) (((len + 4) + 4) + 4) vd))) := g2
    refine lv_aload_n hx hb dX8_feed_51 rfl (lv_at hl 0 rfl) ?_
    refine va_get (D := D) (ci := 9) (v := .ref a1) (C := RX8) (T := TX8) (N := 9) hx hb hts hin_X8 hown hK hP 0 g0 rfl 0 (by decide) fl_12 (fun _ h9 => h9) rfl dX8_feed_52 ?_
    refine lv_iload hx hb dX8_feed_55 (lv_at hl 5 rfl) ?_
    refine CV.go (va_runV (As := [.int ve]) (rest := []) ⟨hx, hb, hml, hown, hts⟩ (c_X7_putFour  g1 g2 (by omega) _) (cwV 1 hts gX8_feed_X7_putFour rfl rfl rfl (by decide +kernel) ⟨Nat.le_of_ble_eq_true rfl, Nat.le_of_ble_eq_true rfl⟩) ⟨pw_blind, va_recv hK hP (ci := 8) (q0 := 1) rfl g1, fun U hU hW => pw_pre hK hP hD hU hW⟩ rfl rfl hl.1 rfl (lv_room (Nat.le_of_ble_eq_true rfl)) dX8_feed_57 ⟨Nat.le_of_ble_eq_true rfl, Nat.le_of_ble_eq_true rfl⟩) hD hS hA (fun ws_14 H locs hp hP hD hS => ?_)
    obtain ⟨sm_15, g1, g2⟩ := hp
    have g0 := sm_15.get g0 (by simp)
    have sm := sm.call sm_15 (by intro k hk; (try simp only at hk ⊢); omega)
    have g1 : ws_14[1]? = some (a1, .inr (8, [.ref a2, .ref a3, .ref a4, .int (nI (((((len + 4) + 4) + 4) + 4) + 4)), .int (nI pl), .int (nI pcs), .int (nI gp)])) := g1
    have g2 : ws_14[2]? = some (a2, .inl (cB, 800, .inl (put4 (put4 (put4 (put4 (put4 f len va) (len + 4) vb) ((len + 4) + 4) vc) (((len + 4) + 4) + 4) vd) ((((len + 4) + 4) + 4) + 4) ve))) := g2
    refine lv_aload_n hx hb dX8_feed_60 rfl (lv_at hl 0 rfl) ?_
    refine va_get (D := D) (ci := 9) (v := .ref a1) (C := RX8) (T := TX8) (N := 9) hx hb hts hin_X8 hown hK hP 0 g0 rfl 0 (by decide) fl_12 (fun _ h9 => h9) rfl dX8_feed_61 ?_
    refine va_get (D := D) (ci := 8) (v := .int (nI (((((len + 4) + 4) + 4) + 4) + 4))) (C := RX7) (T := TX7) (N := 7) hx hb hts hin_X7 hown hK hP 1 g1 rfl 3 (by decide) fl_62 (fun _ h9 => h9) rfl dX8_feed_64 ?_
    have hyes : T.length + 20 ≤ 800 := by omega
    have h5 := put4_hd (v := ve) (put4_hd (v := vd) (put4_hd (v := vc) (put4_hd (v := vb) (put4_hd (v := va) hT))))
    simp only [List.length_append, bytes4, List.length_cons, List.length_nil, hlen, Nat.zero_add] at h5
    have hl5 : (fedT T va vb vc vd ve).length = len + 20 := by rw [fedT, if_pos hyes, ← hlen]; simp [bytes4]
    have g1 : ws_14[1]? = some (a1, .inr (8, [.ref a2, .ref a3, .ref a4, .int (nI ((fedT T va vb vc vd ve).length)), .int (nI pl), .int (nI pcs), .int (nI gp)])) := by rw [hl5]; exact g1
    exact CI.ret (v := (nI (((((len + 4) + 4) + 4) + 4) + 4))) C hK hP hD hS rfl (⟨_, (by rw [fedR, if_pos hyes, ← hlen]), (by rw [fedT, if_pos hyes]; exact h5), sm, g1, g2⟩) hc0 hs0 dX8_feed_67
  · refine lv_iconst (v := -1) hx hb dX8_feed_16 (by decide) ?_
    have hno : ¬ T.length + 20 ≤ 800 := by omega
    have g1 : ws[1]? = some (a1, .inr (8, [.ref a2, .ref a3, .ref a4, .int (nI ((fedT T va vb vc vd ve).length)), .int (nI pl), .int (nI pcs), .int (nI gp)])) := by rw [fedT, if_neg hno, hlen]; exact g1
    exact CI.ret (v := (-1)) C hK hP hD hS rfl (⟨f, (by rw [fedR, if_neg hno]), (by rw [fedT, if_neg hno]; exact hT), sm, g1, g2⟩) hc0 hs0 dX8_feed_17
set_option maxHeartbeats 4000000 in
set_option maxRecDepth 100000 in
theorem c_X8_end {D : va_G} {cB cI cJ cO : ClassId} {l : Launch} {z0 a1 t0 d0 s0 e0 k0 al so wi : Nat} {a2 a3 a4 len pl pcs gp : Nat} {x : Int32} {ws : va_W} (g0 : ws[0]? = some (z0, .inr (9, [.ref a1, .ref t0, .ref d0, .ref s0, .ref e0, .ref k0, .ref al, .int (nI so), .int (nI wi)]))) (g1 : ws[1]? = some (a1, .inr (8, [.ref a2, .ref a3, .ref a4, .int (nI len), .int (nI pl), .int (nI pcs), .int (nI gp)]))) (hlen : len < 2 ^ 31) : CI D (TY cB cI cJ cO) l yX8_end wsX8_end ({ frames := 1, cells := 0, slots := 0, locals := 21 }) [.ref z0, .int x] ws (fun r ws' => r = nI ((tp_ok x len).toNat) ∧ Sm (fun k => k = 1) ws ws' ∧ ws'[1]? = some (a1, .inr (8, [.ref a2, .ref a3, .ref a4, .int (nI (tp_cut x len)), .int (nI pl), .int (nI pcs), .int (nI gp)]))) := by
  refine CI.of (cc := cX8_end) (maxL := 2) (ret := (some .boolean)) (by decide) rfl (Nat.le_of_ble_eq_true rfl) ?_
  intro p e s m below meth c A C hK hP hD hA hS ls hl
  obtain ⟨hx, hb, hr, hml, hts, hown, hlocks, hnm⟩ := id C
  have fl_12 := hts (.fieldLink RX8 12 "TwinFinder" "tape" "LTwinFinder$Tape;") (by decide +kernel)
  have hin_X8 : ∀ w ∈ u_ws RX8 TX8 9, w ∈ wsX8_end := by decide +kernel
  have hl : lv_has ls 2 [(0, .ref z0), (1, .int x)] := hl
  have sm : Sm (fun k => k = 1) ws ws := Sm.rf
  have hc0 : (0 : Nat) ≤ 0 := by decide
  have hs0 : (0 : Nat) ≤ 0 := by decide
  refine lv_aload_n hx hb dX8_end_0 rfl (lv_at hl 0 rfl) ?_
  refine va_get (D := D) (ci := 9) (v := .ref a1) (C := RX8) (T := TX8) (N := 9) hx hb hts hin_X8 hown hK hP 0 g0 rfl 0 (by decide) fl_12 (fun _ h9 => h9) rfl dX8_end_1 ?_
  refine lv_iload_n hx hb dX8_end_4 rfl (lv_at hl 1 rfl) ?_
  refine CI.go (va_runV (As := [.int x]) (rest := []) ⟨hx, hb, hml, hown, hts⟩ (c_X7_cutTo  g1 hlen _) (cwV 1 hts gX8_end_X7_cutTo rfl rfl rfl (by decide +kernel) ⟨Nat.le_of_ble_eq_true rfl, Nat.le_of_ble_eq_true rfl⟩) ⟨pw_blind, va_recv hK hP (ci := 8) (q0 := 1) rfl g1, fun U hU hW => pw_pre hK hP hD hU hW⟩ rfl rfl hl.1 rfl (lv_room (Nat.le_of_ble_eq_true rfl)) dX8_end_5 ⟨Nat.le_of_ble_eq_true rfl, Nat.le_of_ble_eq_true rfl⟩) hD hS hA (fun r_1 ws_2 H locs hp hP hD hS => ?_)
  obtain ⟨rfl, sm_3, g1⟩ := hp
  have g0 := sm_3.get g0 (by simp)
  have sm := sm.call sm_3 (by intro k hk; (try simp only at hk ⊢); omega)
  have g1 : ws_2[1]? = some (a1, .inr (8, [.ref a2, .ref a3, .ref a4, .int (nI (tp_cut x len)), .int (nI pl), .int (nI pcs), .int (nI gp)])) := g1
  exact CI.ret (v := (nI ((tp_ok x len).toNat))) C hK hP hD hS (by cases tp_ok x len <;> decide) (⟨rfl, sm, g1⟩) hc0 hs0 dX8_end_8
set_option maxHeartbeats 4000000 in
set_option maxRecDepth 100000 in
theorem c_X8_bands {D : va_G} {cB cI cJ cO : ClassId} {l : Launch} {z0 a1 t0 d0 s0 e0 k0 al so wi : Nat} {bb rr pp qq : Nat} {k1 k4 k7 k8 k9 k10 plc kn : Nat} {b r_ : Int32} {ws : va_W} (g0 : ws[0]? = some (z0, .inr (9, [.ref a1, .ref t0, .ref d0, .ref s0, .ref e0, .ref k0, .ref al, .int (nI so), .int (nI wi)]))) (g20 : ws[20]? = some (e0, .inr (3, [.int (nI bb), .int (nI rr), .int (nI pp), .int (nI qq)]))) (g21 : ws[21]? = some (k0, .inr (2, [.ref k1, .ref k4, .ref k7, .ref k8, .ref k9, .ref k10, .int (nI plc), .int (nI kn)])))  : CI D (TY cB cI cJ cO) l yX8_bands wsX8_bands ({ frames := 1, cells := 0, slots := 0, locals := 22 }) [.ref z0, .int b, .int r_] ws (fun r ws' => r = nI ((bandOk b r_).toNat) ∧ Sm (fun k => k = 20 ∨ k = 21) ws ws' ∧ ws'[20]? = some (e0, .inr (3, [.int (nI (bandN b r_ bb)), .int (nI (bandN2 b r_ rr)), .int (nI pp), .int (nI qq)])) ∧ ws'[21]? = some (k0, .inr (2, [.ref k1, .ref k4, .ref k7, .ref k8, .ref k9, .ref k10, .int (nI plc), .int (nI (bif bandOk b r_ then 0 else kn))]))) := by
  refine CI.of (cc := cX8_bands) (maxL := 4) (ret := (some .boolean)) (by decide) rfl (Nat.le_of_ble_eq_true rfl) ?_
  intro p e s m below meth c A C hK hP hD hA hS ls hl
  obtain ⟨hx, hb, hr, hml, hts, hown, hlocks, hnm⟩ := id C
  have fl_40 := hts (.fieldLink RX8 40 "TwinFinder" "measure" "LTwinFinder$Measure;") (by decide +kernel)
  have fl_47 := hts (.fieldLink RX8 47 "TwinFinder" "kin" "LTwinFinder$Kin;") (by decide +kernel)
  have fl_115 := hts (.fieldLink RX8 115 "TwinFinder$Kin" "known" "Z") (by decide +kernel)
  have hin_X1 : ∀ w ∈ u_ws RX1 TX1 8, w ∈ wsX8_bands := by decide +kernel
  have hin_X8 : ∀ w ∈ u_ws RX8 TX8 9, w ∈ wsX8_bands := by decide +kernel
  have hl : lv_has ls 4 [(0, .ref z0), (1, .int b), (2, .int r_)] := hl
  have sm : Sm (fun k => k = 20 ∨ k = 21) ws ws := Sm.rf
  have hc0 : (0 : Nat) ≤ 0 := by decide
  have hs0 : (0 : Nat) ≤ 0 := by decide
  refine lv_aload_n hx hb dX8_bands_0 rfl (lv_at hl 0 rfl) ?_
  refine va_get (D := D) (ci := 9) (v := .ref e0) (C := RX8) (T := TX8) (N := 9) hx hb hts hin_X8 hown hK hP 0 g0 rfl 4 (by decide) fl_40 (fun _ h9 => h9) rfl dX8_bands_1 ?_
  refine lv_iload_n hx hb dX8_bands_4 rfl (lv_at hl 1 rfl) ?_
  refine lv_iload_n hx hb dX8_bands_5 rfl (lv_at hl 2 rfl) ?_
  refine CI.go (va_runV (As := [.int b, .int r_]) (rest := []) ⟨hx, hb, hml, hown, hts⟩ (c_X2_takeBands  g20  _) (cwV 2 hts gX8_bands_X2_takeBands rfl rfl rfl (by decide +kernel) ⟨Nat.le_of_ble_eq_true rfl, Nat.le_of_ble_eq_true rfl⟩) ⟨pw_blind, va_recv hK hP (ci := 3) (q0 := 20) rfl g20, fun U hU hW => pw_pre hK hP hD hU hW⟩ rfl rfl hl.1 rfl (lv_room (Nat.le_of_ble_eq_true rfl)) dX8_bands_6 ⟨Nat.le_of_ble_eq_true rfl, Nat.le_of_ble_eq_true rfl⟩) hD hS hA (fun r_1 ws_2 H locs hp hP hD hS => ?_)
  obtain ⟨rfl, sm_3, g20⟩ := hp
  have g0 := sm_3.get g0 (by simp)
  have g21 := sm_3.get g21 (by simp)
  have sm := sm.call sm_3 (by intro k hk; (try simp only at hk ⊢); omega)
  have g20 : ws_2[20]? = some (e0, .inr (3, [.int (nI (bandN b r_ bb)), .int (nI (bandN2 b r_ rr)), .int (nI pp), .int (nI qq)])) := g20
  refine lv_istore_n (lv' := [(3, .int (nI ((bandOk b r_).toNat))), (0, .ref z0), (1, .int b), (2, .int r_)]) hx hb dX8_bands_9 rfl hl (by decide) rfl (fun ls hl => ?_)
  refine lv_iload_n hx hb dX8_bands_10 rfl (lv_at hl 0 rfl) ?_
  refine nx_if_eq (tgt := 22) hx hb (by exact bn2 _) dX8_bands_11 (by decide) (fun c_11 => ?_) (fun c_11 => ?_)
  · refine lv_iload_n hx hb dX8_bands_22 rfl (lv_at hl 0 rfl) ?_
    have hok : bandOk b r_ = false := bool0 c_11
    have g21 : ws_2[21]? = some (k0, .inr (2, [.ref k1, .ref k4, .ref k7, .ref k8, .ref k9, .ref k10, .int (nI plc), .int (nI (bif bandOk b r_ then 0 else kn))])) := by rw [hok]; exact g21
    exact CI.ret (v := (nI ((bandOk b r_).toNat))) C hK hP hD hS (by cases bandOk b r_ <;> decide) (⟨rfl, sm, g20, g21⟩) hc0 hs0 dX8_bands_23
  · refine lv_aload_n hx hb dX8_bands_14 rfl (lv_at hl 1 rfl) ?_
    refine va_get (D := D) (ci := 9) (v := .ref k0) (C := RX8) (T := TX8) (N := 9) hx hb hts hin_X8 hown hK hP 0 g0 rfl 5 (by decide) fl_47 (fun _ h9 => h9) rfl dX8_bands_15 ?_
    refine lv_iconst (v := nI 0) hx hb dX8_bands_18 (by decide) ?_
    refine nx_put (D := D) (ci := 2) (v := .int (nI 0)) (ty := .boolean) (C := RX1) (T := TX1) (N := 8) hx hb hts hin_X1 tyX1 tyX1_ok nmX1 hown hK hP hD hS 21 g21 rfl 7 (by decide) fl_115 (fun _ h9 => h9) rfl (by decide +kernel) (by decide) (by decide) (Nat.le_of_ble_eq_true rfl) dX8_bands_19 (fun ws_4 H locs gq up_5 hP hD hS => ?_)
    have g21 : ws_4[21]? = some (k0, .inr (2, [.ref k1, .ref k4, .ref k7, .ref k8, .ref k9, .ref k10, .int (nI plc), .int (nI 0)])) := gq
    have g0 := up_5.get g0 (by decide)
    have g20 := up_5.get g20 (by decide)
    have sm := sm.up up_5 (by simp)
    refine lv_iload_n hx hb dX8_bands_22 rfl (lv_at hl 0 rfl) ?_
    have hok : bandOk b r_ = true := bool1 c_11
    have g21 : ws_4[21]? = some (k0, .inr (2, [.ref k1, .ref k4, .ref k7, .ref k8, .ref k9, .ref k10, .int (nI plc), .int (nI (bif bandOk b r_ then 0 else kn))])) := by rw [hok]; exact g21
    exact CI.ret (v := (nI ((bandOk b r_).toNat))) C hK hP hD hS (by cases bandOk b r_ <;> decide) (⟨rfl, sm, g20, g21⟩) hc0 hs0 dX8_bands_23
set_option maxHeartbeats 4000000 in
set_option maxRecDepth 100000 in
theorem c_X8_threshold {D : va_G} {cB cI cJ cO : ClassId} {l : Launch} {z0 a1 t0 d0 s0 e0 k0 al so wi : Nat} {bb rr pp qq : Nat} {k1 k4 k7 k8 k9 k10 plc kn : Nat} {p1 q1 : Int32} {ws : va_W} (g0 : ws[0]? = some (z0, .inr (9, [.ref a1, .ref t0, .ref d0, .ref s0, .ref e0, .ref k0, .ref al, .int (nI so), .int (nI wi)]))) (g20 : ws[20]? = some (e0, .inr (3, [.int (nI bb), .int (nI rr), .int (nI pp), .int (nI qq)]))) (g21 : ws[21]? = some (k0, .inr (2, [.ref k1, .ref k4, .ref k7, .ref k8, .ref k9, .ref k10, .int (nI plc), .int (nI kn)])))  : CI D (TY cB cI cJ cO) l yX8_threshold wsX8_threshold ({ frames := 1, cells := 0, slots := 0, locals := 22 }) [.ref z0, .int p1, .int q1] ws (fun r ws' => r = nI ((thrOk p1 q1).toNat) ∧ Sm (fun k => k = 20 ∨ k = 21) ws ws' ∧ ws'[20]? = some (e0, .inr (3, [.int (nI bb), .int (nI rr), .int (nI (thrN p1 q1 pp)), .int (nI (thrN2 p1 q1 qq))])) ∧ ws'[21]? = some (k0, .inr (2, [.ref k1, .ref k4, .ref k7, .ref k8, .ref k9, .ref k10, .int (nI plc), .int (nI (bif thrOk p1 q1 then 0 else kn))]))) := by
  refine CI.of (cc := cX8_threshold) (maxL := 4) (ret := (some .boolean)) (by decide) rfl (Nat.le_of_ble_eq_true rfl) ?_
  intro p e s m below meth c A C hK hP hD hA hS ls hl
  obtain ⟨hx, hb, hr, hml, hts, hown, hlocks, hnm⟩ := id C
  have fl_40 := hts (.fieldLink RX8 40 "TwinFinder" "measure" "LTwinFinder$Measure;") (by decide +kernel)
  have fl_47 := hts (.fieldLink RX8 47 "TwinFinder" "kin" "LTwinFinder$Kin;") (by decide +kernel)
  have fl_115 := hts (.fieldLink RX8 115 "TwinFinder$Kin" "known" "Z") (by decide +kernel)
  have hin_X1 : ∀ w ∈ u_ws RX1 TX1 8, w ∈ wsX8_threshold := by decide +kernel
  have hin_X8 : ∀ w ∈ u_ws RX8 TX8 9, w ∈ wsX8_threshold := by decide +kernel
  have hl : lv_has ls 4 [(0, .ref z0), (1, .int p1), (2, .int q1)] := hl
  have sm : Sm (fun k => k = 20 ∨ k = 21) ws ws := Sm.rf
  have hc0 : (0 : Nat) ≤ 0 := by decide
  have hs0 : (0 : Nat) ≤ 0 := by decide
  refine lv_aload_n hx hb dX8_threshold_0 rfl (lv_at hl 0 rfl) ?_
  refine va_get (D := D) (ci := 9) (v := .ref e0) (C := RX8) (T := TX8) (N := 9) hx hb hts hin_X8 hown hK hP 0 g0 rfl 4 (by decide) fl_40 (fun _ h9 => h9) rfl dX8_threshold_1 ?_
  refine lv_iload_n hx hb dX8_threshold_4 rfl (lv_at hl 1 rfl) ?_
  refine lv_iload_n hx hb dX8_threshold_5 rfl (lv_at hl 2 rfl) ?_
  refine CI.go (va_runV (As := [.int p1, .int q1]) (rest := []) ⟨hx, hb, hml, hown, hts⟩ (c_X2_takeThreshold  g20  _) (cwV 2 hts gX8_threshold_X2_takeThreshold rfl rfl rfl (by decide +kernel) ⟨Nat.le_of_ble_eq_true rfl, Nat.le_of_ble_eq_true rfl⟩) ⟨pw_blind, va_recv hK hP (ci := 3) (q0 := 20) rfl g20, fun U hU hW => pw_pre hK hP hD hU hW⟩ rfl rfl hl.1 rfl (lv_room (Nat.le_of_ble_eq_true rfl)) dX8_threshold_6 ⟨Nat.le_of_ble_eq_true rfl, Nat.le_of_ble_eq_true rfl⟩) hD hS hA (fun r_1 ws_2 H locs hp hP hD hS => ?_)
  obtain ⟨rfl, sm_3, g20⟩ := hp
  have g0 := sm_3.get g0 (by simp)
  have g21 := sm_3.get g21 (by simp)
  have sm := sm.call sm_3 (by intro k hk; (try simp only at hk ⊢); omega)
  have g20 : ws_2[20]? = some (e0, .inr (3, [.int (nI bb), .int (nI rr), .int (nI (thrN p1 q1 pp)), .int (nI (thrN2 p1 q1 qq))])) := g20
  refine lv_istore_n (lv' := [(3, .int (nI ((thrOk p1 q1).toNat))), (0, .ref z0), (1, .int p1), (2, .int q1)]) hx hb dX8_threshold_9 rfl hl (by decide) rfl (fun ls hl => ?_)
  refine lv_iload_n hx hb dX8_threshold_10 rfl (lv_at hl 0 rfl) ?_
  refine nx_if_eq (tgt := 22) hx hb (by exact bn2 _) dX8_threshold_11 (by decide) (fun c_11 => ?_) (fun c_11 => ?_)
  · refine lv_iload_n hx hb dX8_threshold_22 rfl (lv_at hl 0 rfl) ?_
    have hok : thrOk p1 q1 = false := bool0 c_11
    have g21 : ws_2[21]? = some (k0, .inr (2, [.ref k1, .ref k4, .ref k7, .ref k8, .ref k9, .ref k10, .int (nI plc), .int (nI (bif thrOk p1 q1 then 0 else kn))])) := by rw [hok]; exact g21
    exact CI.ret (v := (nI ((thrOk p1 q1).toNat))) C hK hP hD hS (by cases thrOk p1 q1 <;> decide) (⟨rfl, sm, g20, g21⟩) hc0 hs0 dX8_threshold_23
  · refine lv_aload_n hx hb dX8_threshold_14 rfl (lv_at hl 1 rfl) ?_
    refine va_get (D := D) (ci := 9) (v := .ref k0) (C := RX8) (T := TX8) (N := 9) hx hb hts hin_X8 hown hK hP 0 g0 rfl 5 (by decide) fl_47 (fun _ h9 => h9) rfl dX8_threshold_15 ?_
    refine lv_iconst (v := nI 0) hx hb dX8_threshold_18 (by decide) ?_
    refine nx_put (D := D) (ci := 2) (v := .int (nI 0)) (ty := .boolean) (C := RX1) (T := TX1) (N := 8) hx hb hts hin_X1 tyX1 tyX1_ok nmX1 hown hK hP hD hS 21 g21 rfl 7 (by decide) fl_115 (fun _ h9 => h9) rfl (by decide +kernel) (by decide) (by decide) (Nat.le_of_ble_eq_true rfl) dX8_threshold_19 (fun ws_4 H locs gq up_5 hP hD hS => ?_)
    have g21 : ws_4[21]? = some (k0, .inr (2, [.ref k1, .ref k4, .ref k7, .ref k8, .ref k9, .ref k10, .int (nI plc), .int (nI 0)])) := gq
    have g0 := up_5.get g0 (by decide)
    have g20 := up_5.get g20 (by decide)
    have sm := sm.up up_5 (by simp)
    refine lv_iload_n hx hb dX8_threshold_22 rfl (lv_at hl 0 rfl) ?_
    have hok : thrOk p1 q1 = true := bool1 c_11
    have g21 : ws_4[21]? = some (k0, .inr (2, [.ref k1, .ref k4, .ref k7, .ref k8, .ref k9, .ref k10, .int (nI plc), .int (nI (bif thrOk p1 q1 then 0 else kn))])) := by rw [hok]; exact g21
    exact CI.ret (v := (nI ((thrOk p1 q1).toNat))) C hK hP hD hS (by cases thrOk p1 q1 <;> decide) (⟨rfl, sm, g20, g21⟩) hc0 hs0 dX8_threshold_23
