set_option maxHeartbeats 4000000 in
set_option maxRecDepth 100000 in
theorem c_X7_cutTo {D : va_G} {cB cI cJ cO : ClassId} {l : Launch} {a1 a2 a3 a4 len pl pcs gp : Nat} {x : Int32} {ws : va_W} (g1 : ws[1]? = some (a1, .inr (8, [.ref a2, .ref a3, .ref a4, .int (nI len), .int (nI pl), .int (nI pcs), .int (nI gp)]))) (hlen : len < 2 ^ 31) : CI D (TY cB cI cJ cO) l yX7_cutTo wsX7_cutTo ({ frames := 0, cells := 0, slots := 0, locals := 0 }) [.ref a1, .int x] ws (fun r ws' => r = nI ((tp_ok x len).toNat) ∧ Sm (fun k => k = 1) ws ws' ∧ ws'[1]? = some (a1, .inr (8, [.ref a2, .ref a3, .ref a4, .int (nI (tp_cut x len)), .int (nI pl), .int (nI pcs), .int (nI gp)]))) := by
  refine CI.of (cc := cX7_cutTo) (maxL := 2) (ret := (some .boolean)) (by decide) rfl (Nat.le_of_ble_eq_true rfl) ?_
  intro p e s m below meth c A C hK hP hD hA hS ls hl
  obtain ⟨hx, hb, hr, hml, hts, hown, hlocks, hnm⟩ := id C
  have fl_22 := hts (.fieldLink RX7 22 "TwinFinder$Tape" "length" "I") (by decide +kernel)
  have hin_X7 : ∀ w ∈ u_ws RX7 TX7 7, w ∈ wsX7_cutTo := by decide +kernel
  have hl : lv_has ls 2 [(0, .ref a1), (1, .int x)] := hl
  have sm : Sm (fun k => k = 1) ws ws := Sm.rf
  have hc0 : (0 : Nat) ≤ 0 := by decide
  have hs0 : (0 : Nat) ≤ 0 := by decide
  refine lv_iload_n hx hb dX7_cutTo_0 rfl (lv_at hl 1 rfl) ?_
  refine lv_if_lt (tgt := 12) hx hb dX7_cutTo_1 (by decide) (fun c_1 => ?_) (fun c_1 => ?_)
  · refine lv_iconst (v := nI 0) hx hb dX7_cutTo_12 (by decide) ?_
    have hno : tp_ok x len = false := by first | (rw [tp_ok, decide_eq_false c_9, Bool.and_false]) | (rw [tp_ok, decide_eq_false (fun h => h c_1)]; rfl)
    have g1 : ws[1]? = some (a1, .inr (8, [.ref a2, .ref a3, .ref a4, .int (nI (tp_cut x len)), .int (nI pl), .int (nI pcs), .int (nI gp)])) := by rw [tp_no hno]; exact g1
    exact CI.ret (v := (nI 0)) C hK hP hD hS (by decide) (⟨(by rw [hno]; rfl), sm, g1⟩) hc0 hs0 dX7_cutTo_13
  · refine lv_iload_n hx hb dX7_cutTo_4 rfl (lv_at hl 1 rfl) ?_
    refine lv_aload_n hx hb dX7_cutTo_5 rfl (lv_at hl 0 rfl) ?_
    refine va_get (D := D) (ci := 8) (v := .int (nI len)) (C := RX7) (T := TX7) (N := 7) hx hb hts hin_X7 hown hK hP 1 g1 rfl 3 (by decide) fl_22 (fun _ h9 => h9) rfl dX7_cutTo_6 ?_
    refine lv_icmp_le (tgt := 14) hx hb dX7_cutTo_9 (by decide) (fun c_9 => ?_) (fun c_9 => ?_)
    · obtain ⟨j, hj, rfl⟩ : ∃ j : Nat, j ≤ len ∧ x = nI j := nI_of2 (nI_toInt hlen) c_1 c_9
      refine lv_aload_n hx hb dX7_cutTo_14 rfl (lv_at hl 0 rfl) ?_
      refine lv_iload_n hx hb dX7_cutTo_15 rfl (lv_at hl 1 rfl) ?_
      refine nx_put (D := D) (ci := 8) (v := .int (nI j)) (ty := .int) (C := RX7) (T := TX7) (N := 7) hx hb hts hin_X7 tyX7 tyX7_ok nmX7 hown hK hP hD hS 1 g1 rfl 3 (by decide) fl_22 (fun _ h9 => h9) rfl (by decide +kernel) rfl rfl (Nat.le_of_ble_eq_true rfl) dX7_cutTo_16 (fun ws_1 H locs gq up_2 hP hD hS => ?_)
      have g1 : ws_1[1]? = some (a1, .inr (8, [.ref a2, .ref a3, .ref a4, .int (nI j), .int (nI pl), .int (nI pcs), .int (nI gp)])) := gq
      have sm := sm.up up_2 (by simp)
      refine lv_iconst (v := nI 1) hx hb dX7_cutTo_19 (by decide) ?_
      have g1 : ws_1[1]? = some (a1, .inr (8, [.ref a2, .ref a3, .ref a4, .int (nI (tp_cut (nI j) len)), .int (nI pl), .int (nI pcs), .int (nI gp)])) := by rw [(tp_yes hj hlen).2]; exact g1
      exact CI.ret (v := (nI 1)) C hK hP hD hS (by decide) (⟨(by rw [(tp_yes hj hlen).1]; rfl), sm, g1⟩) hc0 hs0 dX7_cutTo_20
    · refine lv_iconst (v := nI 0) hx hb dX7_cutTo_12 (by decide) ?_
      have hno : tp_ok x len = false := by first | (rw [tp_ok, decide_eq_false c_9, Bool.and_false]) | (rw [tp_ok, decide_eq_false (fun h => h c_1)]; rfl)
      have g1 : ws[1]? = some (a1, .inr (8, [.ref a2, .ref a3, .ref a4, .int (nI (tp_cut x len)), .int (nI pl), .int (nI pcs), .int (nI gp)])) := by rw [tp_no hno]; exact g1
      exact CI.ret (v := (nI 0)) C hK hP hD hS (by decide) (⟨(by rw [hno]; rfl), sm, g1⟩) hc0 hs0 dX7_cutTo_13
set_option maxHeartbeats 4000000 in
set_option maxRecDepth 100000 in
theorem c_X7_putFour {D : va_G} {cB cI cJ cO : ClassId} {l : Launch} {a1 a2 a3 a4 len pl pcs gp : Nat} {v : Int32} {f : Nat → Int32} {ws : va_W} (g1 : ws[1]? = some (a1, .inr (8, [.ref a2, .ref a3, .ref a4, .int (nI len), .int (nI pl), .int (nI pcs), .int (nI gp)]))) (g2 : ws[2]? = some (a2, .inl (cB, 800, .inl f))) (hlen : len + 4 ≤ 800) : CV D (TY cB cI cJ cO) l yX7_putFour wsX7_putFour ({ frames := 0, cells := 0, slots := 0, locals := 0 }) [.ref a1, .int v] ws (fun ws' => Sm (fun k => k = 1 ∨ k = 2) ws ws' ∧ ws'[1]? = some (a1, .inr (8, [.ref a2, .ref a3, .ref a4, .int (nI (len + 4)), .int (nI pl), .int (nI pcs), .int (nI gp)])) ∧ ws'[2]? = some (a2, .inl (cB, 800, .inl (put4 f len v)))) := by
  refine CV.of (cc := cX7_putFour) (maxL := 3) (ret := none) (by decide) rfl (Nat.le_of_ble_eq_true rfl) ?_
  intro p e s m below meth c A C hK hP hD hA hS ls hl
  obtain ⟨hx, hb, hr, hml, hts, hown, hlocks, hnm⟩ := id C
  have fl_9 := hts (.fieldLink RX7 9 "TwinFinder$Tape" "bytes" "[B") (by decide +kernel)
  have fl_22 := hts (.fieldLink RX7 22 "TwinFinder$Tape" "length" "I") (by decide +kernel)
  have hin_X7 : ∀ w ∈ u_ws RX7 TX7 7, w ∈ wsX7_putFour := by decide +kernel
  have hl : lv_has ls 3 [(0, .ref a1), (1, .int v)] := hl
  have sm : Sm (fun k => k = 1 ∨ k = 2) ws ws := Sm.rf
  have hc0 : (0 : Nat) ≤ 0 := by decide
  have hs0 : (0 : Nat) ≤ 0 := by decide
  refine lv_bipush (v := nI 24) hx hb dX7_putFour_0 (by decide) ?_
  refine lv_istore_n (lv' := [(2, .int (nI 24)), (0, .ref a1), (1, .int v)]) hx hb dX7_putFour_2 rfl hl (by decide) rfl (fun ls hl => ?_)
  refine lv_iload_n hx hb dX7_putFour_3 rfl (lv_at hl 0 rfl) ?_
  refine lv_if_lt (tgt := 46) hx hb dX7_putFour_4 (by decide) (fun c_4 => absurd c_4 (by decide)) (fun c_4 => ?_)
  refine lv_aload_n hx hb dX7_putFour_7 rfl (lv_at hl 1 rfl) ?_
  refine va_get (D := D) (ci := 8) (v := .int (nI len)) (C := RX7) (T := TX7) (N := 7) hx hb hts hin_X7 hown hK hP 1 g1 rfl 3 (by decide) fl_22 (fun _ h9 => h9) rfl dX7_putFour_8 ?_
  refine lv_sipush (v := nI 800) hx hb dX7_putFour_11 (by decide) ?_
  refine nx_icmp_ge (tgt := 40) hx hb (by omega) (by omega) dX7_putFour_14 (by decide) (fun c_14 => ?_) (fun c_14 => ?_)
  · omega
  · refine lv_aload_n hx hb dX7_putFour_17 rfl (lv_at hl 1 rfl) ?_
    refine va_get (D := D) (ci := 8) (v := .ref a2) (C := RX7) (T := TX7) (N := 7) hx hb hts hin_X7 hown hK hP 1 g1 rfl 0 (by decide) fl_9 (fun _ h9 => h9) rfl dX7_putFour_18 ?_
    refine lv_aload_n hx hb dX7_putFour_21 rfl (lv_at hl 1 rfl) ?_
    refine va_get (D := D) (ci := 8) (v := .int (nI len)) (C := RX7) (T := TX7) (N := 7) hx hb hts hin_X7 hown hK hP 1 g1 rfl 3 (by decide) fl_22 (fun _ h9 => h9) rfl dX7_putFour_22 ?_
    refine lv_iload_n hx hb dX7_putFour_25 rfl (lv_at hl 2 rfl) ?_
    refine lv_iload_n hx hb dX7_putFour_26 rfl (lv_at hl 0 rfl) ?_
    refine lv_iushr hx hb dX7_putFour_27 rfl ?_
    refine lv_i2b hx hb dX7_putFour_28 rfl ?_
    refine nx_bast hx hb hK hP hD hS 2 0 g2 rfl (k := len) (by omega) (by decide) dX7_putFour_29 (fun ws_1 H locs gq up_2 hP hD hS => ?_)
    have g2 : ws_1[2]? = some (a2, .inl (cB, 800, .inl (upd f len ((((v.toUInt32 >>> ((nI 24).toUInt32 &&& Int32.toUInt32 31)).toInt32).toInt8.toInt32).toInt8.toInt32)))) := gq
    have g1 := up_2.get g1 (by decide)
    have sm := sm.up up_2 (by simp)
    refine lv_aload_n hx hb dX7_putFour_30 rfl (lv_at hl 1 rfl) ?_
    refine lv_dup hx hb dX7_putFour_31 rfl ?_
    refine va_get (D := D) (ci := 8) (v := .int (nI len)) (C := RX7) (T := TX7) (N := 7) hx hb hts hin_X7 hown hK hP 1 g1 rfl 3 (by decide) fl_22 (fun _ h9 => h9) rfl dX7_putFour_32 ?_
    refine lv_iconst (v := nI 1) hx hb dX7_putFour_35 (by decide) ?_
    refine nx_iadd hx hb dX7_putFour_36 ?_
    refine nx_put (D := D) (ci := 8) (v := .int (nI (len + 1))) (ty := .int) (C := RX7) (T := TX7) (N := 7) hx hb hts hin_X7 tyX7 tyX7_ok nmX7 hown hK hP hD hS 1 g1 rfl 3 (by decide) fl_22 (fun _ h9 => h9) rfl (by decide +kernel) rfl rfl (Nat.le_of_ble_eq_true rfl) dX7_putFour_37 (fun ws_3 H locs gq up_4 hP hD hS => ?_)
    have g1 : ws_3[1]? = some (a1, .inr (8, [.ref a2, .ref a3, .ref a4, .int (nI (len + 1)), .int (nI pl), .int (nI pcs), .int (nI gp)])) := gq
    have g2 := up_4.get g2 (by decide)
    have sm := sm.up up_4 (by simp)
    refine lv_iinc (v := (nI 16)) (lv' := [(2, .int (nI 16)), (0, .ref a1), (1, .int v)]) hx hb dX7_putFour_40 hl (k := 0) rfl (by decide) (by decide) rfl (fun ls hl => ?_)
    refine lv_goto (tgt := 3) hx hb dX7_putFour_43 (by decide) ?_
    refine lv_iload_n hx hb dX7_putFour_3 rfl (lv_at hl 0 rfl) ?_
    refine lv_if_lt (tgt := 46) hx hb dX7_putFour_4 (by decide) (fun c_4 => absurd c_4 (by decide)) (fun c_4 => ?_)
    refine lv_aload_n hx hb dX7_putFour_7 rfl (lv_at hl 1 rfl) ?_
    refine va_get (D := D) (ci := 8) (v := .int (nI (len + 1))) (C := RX7) (T := TX7) (N := 7) hx hb hts hin_X7 hown hK hP 1 g1 rfl 3 (by decide) fl_22 (fun _ h9 => h9) rfl dX7_putFour_8 ?_
    refine lv_sipush (v := nI 800) hx hb dX7_putFour_11 (by decide) ?_
    refine nx_icmp_ge (tgt := 40) hx hb (by omega) (by omega) dX7_putFour_14 (by decide) (fun c_14 => ?_) (fun c_14 => ?_)
    · omega
    · refine lv_aload_n hx hb dX7_putFour_17 rfl (lv_at hl 1 rfl) ?_
      refine va_get (D := D) (ci := 8) (v := .ref a2) (C := RX7) (T := TX7) (N := 7) hx hb hts hin_X7 hown hK hP 1 g1 rfl 0 (by decide) fl_9 (fun _ h9 => h9) rfl dX7_putFour_18 ?_
      refine lv_aload_n hx hb dX7_putFour_21 rfl (lv_at hl 1 rfl) ?_
      refine va_get (D := D) (ci := 8) (v := .int (nI (len + 1))) (C := RX7) (T := TX7) (N := 7) hx hb hts hin_X7 hown hK hP 1 g1 rfl 3 (by decide) fl_22 (fun _ h9 => h9) rfl dX7_putFour_22 ?_
      refine lv_iload_n hx hb dX7_putFour_25 rfl (lv_at hl 2 rfl) ?_
      refine lv_iload_n hx hb dX7_putFour_26 rfl (lv_at hl 0 rfl) ?_
      refine lv_iushr hx hb dX7_putFour_27 rfl ?_
      refine lv_i2b hx hb dX7_putFour_28 rfl ?_
      refine nx_bast hx hb hK hP hD hS 2 0 g2 rfl (k := (len + 1)) (by omega) (by decide) dX7_putFour_29 (fun ws_5 H locs gq up_6 hP hD hS => ?_)
      have g2 : ws_5[2]? = some (a2, .inl (cB, 800, .inl (upd (upd f len ((((v.toUInt32 >>> ((nI 24).toUInt32 &&& Int32.toUInt32 31)).toInt32).toInt8.toInt32).toInt8.toInt32)) (len + 1) ((((v.toUInt32 >>> ((nI 16).toUInt32 &&& Int32.toUInt32 31)).toInt32).toInt8.toInt32).toInt8.toInt32)))) := gq
      have g1 := up_6.get g1 (by decide)
      have sm := sm.up up_6 (by simp)
      refine lv_aload_n hx hb dX7_putFour_30 rfl (lv_at hl 1 rfl) ?_
      refine lv_dup hx hb dX7_putFour_31 rfl ?_
      refine va_get (D := D) (ci := 8) (v := .int (nI (len + 1))) (C := RX7) (T := TX7) (N := 7) hx hb hts hin_X7 hown hK hP 1 g1 rfl 3 (by decide) fl_22 (fun _ h9 => h9) rfl dX7_putFour_32 ?_
      refine lv_iconst (v := nI 1) hx hb dX7_putFour_35 (by decide) ?_
      refine nx_iadd hx hb dX7_putFour_36 ?_
      refine nx_put (D := D) (ci := 8) (v := .int (nI ((len + 1) + 1))) (ty := .int) (C := RX7) (T := TX7) (N := 7) hx hb hts hin_X7 tyX7 tyX7_ok nmX7 hown hK hP hD hS 1 g1 rfl 3 (by decide) fl_22 (fun _ h9 => h9) rfl (by decide +kernel) rfl rfl (Nat.le_of_ble_eq_true rfl) dX7_putFour_37 (fun ws_7 H locs gq up_8 hP hD hS => ?_)
      have g1 : ws_7[1]? = some (a1, .inr (8, [.ref a2, .ref a3, .ref a4, .int (nI ((len + 1) + 1)), .int (nI pl), .int (nI pcs), .int (nI gp)])) := gq
      have g2 := up_8.get g2 (by decide)
      have sm := sm.up up_8 (by simp)
      refine lv_iinc (v := (nI 8)) (lv' := [(2, .int (nI 8)), (0, .ref a1), (1, .int v)]) hx hb dX7_putFour_40 hl (k := 0) rfl (by decide) (by decide) rfl (fun ls hl => ?_)
      refine lv_goto (tgt := 3) hx hb dX7_putFour_43 (by decide) ?_
      refine lv_iload_n hx hb dX7_putFour_3 rfl (lv_at hl 0 rfl) ?_
      refine lv_if_lt (tgt := 46) hx hb dX7_putFour_4 (by decide) (fun c_4 => absurd c_4 (by decide)) (fun c_4 => ?_)
      refine lv_aload_n hx hb dX7_putFour_7 rfl (lv_at hl 1 rfl) ?_
      refine va_get (D := D) (ci := 8) (v := .int (nI ((len + 1) + 1))) (C := RX7) (T := TX7) (N := 7) hx hb hts hin_X7 hown hK hP 1 g1 rfl 3 (by decide) fl_22 (fun _ h9 => h9) rfl dX7_putFour_8 ?_
      refine lv_sipush (v := nI 800) hx hb dX7_putFour_11 (by decide) ?_
      refine nx_icmp_ge (tgt := 40) hx hb (by omega) (by omega) dX7_putFour_14 (by decide) (fun c_14 => ?_) (fun c_14 => ?_)
      · omega
      · refine lv_aload_n hx hb dX7_putFour_17 rfl (lv_at hl 1 rfl) ?_
        refine va_get (D := D) (ci := 8) (v := .ref a2) (C := RX7) (T := TX7) (N := 7) hx hb hts hin_X7 hown hK hP 1 g1 rfl 0 (by decide) fl_9 (fun _ h9 => h9) rfl dX7_putFour_18 ?_
        refine lv_aload_n hx hb dX7_putFour_21 rfl (lv_at hl 1 rfl) ?_
        refine va_get (D := D) (ci := 8) (v := .int (nI ((len + 1) + 1))) (C := RX7) (T := TX7) (N := 7) hx hb hts hin_X7 hown hK hP 1 g1 rfl 3 (by decide) fl_22 (fun _ h9 => h9) rfl dX7_putFour_22 ?_
        refine lv_iload_n hx hb dX7_putFour_25 rfl (lv_at hl 2 rfl) ?_
        refine lv_iload_n hx hb dX7_putFour_26 rfl (lv_at hl 0 rfl) ?_
        refine lv_iushr hx hb dX7_putFour_27 rfl ?_
        refine lv_i2b hx hb dX7_putFour_28 rfl ?_
        refine nx_bast hx hb hK hP hD hS 2 0 g2 rfl (k := ((len + 1) + 1)) (by omega) (by decide) dX7_putFour_29 (fun ws_9 H locs gq up_10 hP hD hS => ?_)
        have g2 : ws_9[2]? = some (a2, .inl (cB, 800, .inl (upd (upd (upd f len ((((v.toUInt32 >>> ((nI 24).toUInt32 &&& Int32.toUInt32 31)).toInt32).toInt8.toInt32).toInt8.toInt32)) (len + 1) ((((v.toUInt32 >>> ((nI 16).toUInt32 &&& Int32.toUInt32 31)).toInt32).toInt8.toInt32).toInt8.toInt32)) ((len + 1) + 1) ((((v.toUInt32 >>> ((nI 8).toUInt32 &&& Int32.toUInt32 31)).toInt32).toInt8.toInt32).toInt8.toInt32)))) := gq
        have g1 := up_10.get g1 (by decide)
        have sm := sm.up up_10 (by simp)
        refine lv_aload_n hx hb dX7_putFour_30 rfl (lv_at hl 1 rfl) ?_
        refine lv_dup hx hb dX7_putFour_31 rfl ?_
        refine va_get (D := D) (ci := 8) (v := .int (nI ((len + 1) + 1))) (C := RX7) (T := TX7) (N := 7) hx hb hts hin_X7 hown hK hP 1 g1 rfl 3 (by decide) fl_22 (fun _ h9 => h9) rfl dX7_putFour_32 ?_
        refine lv_iconst (v := nI 1) hx hb dX7_putFour_35 (by decide) ?_
        refine nx_iadd hx hb dX7_putFour_36 ?_
        refine nx_put (D := D) (ci := 8) (v := .int (nI (((len + 1) + 1) + 1))) (ty := .int) (C := RX7) (T := TX7) (N := 7) hx hb hts hin_X7 tyX7 tyX7_ok nmX7 hown hK hP hD hS 1 g1 rfl 3 (by decide) fl_22 (fun _ h9 => h9) rfl (by decide +kernel) rfl rfl (Nat.le_of_ble_eq_true rfl) dX7_putFour_37 (fun ws_11 H locs gq up_12 hP hD hS => ?_)
        have g1 : ws_11[1]? = some (a1, .inr (8, [.ref a2, .ref a3, .ref a4, .int (nI (((len + 1) + 1) + 1)), .int (nI pl), .int (nI pcs), .int (nI gp)])) := gq
        have g2 := up_12.get g2 (by decide)
        have sm := sm.up up_12 (by simp)
        refine lv_iinc (v := (nI 0)) (lv' := [(2, .int (nI 0)), (0, .ref a1), (1, .int v)]) hx hb dX7_putFour_40 hl (k := 0) rfl (by decide) (by decide) rfl (fun ls hl => ?_)
        refine lv_goto (tgt := 3) hx hb dX7_putFour_43 (by decide) ?_
        refine lv_iload_n hx hb dX7_putFour_3 rfl (lv_at hl 0 rfl) ?_
        refine lv_if_lt (tgt := 46) hx hb dX7_putFour_4 (by decide) (fun c_4 => absurd c_4 (by decide)) (fun c_4 => ?_)
        refine lv_aload_n hx hb dX7_putFour_7 rfl (lv_at hl 1 rfl) ?_
        refine va_get (D := D) (ci := 8) (v := .int (nI (((len + 1) + 1) + 1))) (C := RX7) (T := TX7) (N := 7) hx hb hts hin_X7 hown hK hP 1 g1 rfl 3 (by decide) fl_22 (fun _ h9 => h9) rfl dX7_putFour_8 ?_
        refine lv_sipush (v := nI 800) hx hb dX7_putFour_11 (by decide) ?_
        refine nx_icmp_ge (tgt := 40) hx hb (by omega) (by omega) dX7_putFour_14 (by decide) (fun c_14 => ?_) (fun c_14 => ?_)
        · omega
        · refine lv_aload_n hx hb dX7_putFour_17 rfl (lv_at hl 1 rfl) ?_
          refine va_get (D := D) (ci := 8) (v := .ref a2) (C := RX7) (T := TX7) (N := 7) hx hb hts hin_X7 hown hK hP 1 g1 rfl 0 (by decide) fl_9 (fun _ h9 => h9) rfl dX7_putFour_18 ?_
          refine lv_aload_n hx hb dX7_putFour_21 rfl (lv_at hl 1 rfl) ?_
          refine va_get (D := D) (ci := 8) (v := .int (nI (((len + 1) + 1) + 1))) (C := RX7) (T := TX7) (N := 7) hx hb hts hin_X7 hown hK hP 1 g1 rfl 3 (by decide) fl_22 (fun _ h9 => h9) rfl dX7_putFour_22 ?_
          refine lv_iload_n hx hb dX7_putFour_25 rfl (lv_at hl 2 rfl) ?_
          refine lv_iload_n hx hb dX7_putFour_26 rfl (lv_at hl 0 rfl) ?_
          refine lv_iushr hx hb dX7_putFour_27 rfl ?_
          refine lv_i2b hx hb dX7_putFour_28 rfl ?_
          refine nx_bast hx hb hK hP hD hS 2 0 g2 rfl (k := (((len + 1) + 1) + 1)) (by omega) (by decide) dX7_putFour_29 (fun ws_13 H locs gq up_14 hP hD hS => ?_)
          have g2 : ws_13[2]? = some (a2, .inl (cB, 800, .inl (upd (upd (upd (upd f len ((((v.toUInt32 >>> ((nI 24).toUInt32 &&& Int32.toUInt32 31)).toInt32).toInt8.toInt32).toInt8.toInt32)) (len + 1) ((((v.toUInt32 >>> ((nI 16).toUInt32 &&& Int32.toUInt32 31)).toInt32).toInt8.toInt32).toInt8.toInt32)) ((len + 1) + 1) ((((v.toUInt32 >>> ((nI 8).toUInt32 &&& Int32.toUInt32 31)).toInt32).toInt8.toInt32).toInt8.toInt32)) (((len + 1) + 1) + 1) ((((v.toUInt32 >>> ((nI 0).toUInt32 &&& Int32.toUInt32 31)).toInt32).toInt8.toInt32).toInt8.toInt32)))) := gq
          have g1 := up_14.get g1 (by decide)
          have sm := sm.up up_14 (by simp)
          refine lv_aload_n hx hb dX7_putFour_30 rfl (lv_at hl 1 rfl) ?_
          refine lv_dup hx hb dX7_putFour_31 rfl ?_
          refine va_get (D := D) (ci := 8) (v := .int (nI (((len + 1) + 1) + 1))) (C := RX7) (T := TX7) (N := 7) hx hb hts hin_X7 hown hK hP 1 g1 rfl 3 (by decide) fl_22 (fun _ h9 => h9) rfl dX7_putFour_32 ?_
          refine lv_iconst (v := nI 1) hx hb dX7_putFour_35 (by decide) ?_
          refine nx_iadd hx hb dX7_putFour_36 ?_
          refine nx_put (D := D) (ci := 8) (v := .int (nI ((((len + 1) + 1) + 1) + 1))) (ty := .int) (C := RX7) (T := TX7) (N := 7) hx hb hts hin_X7 tyX7 tyX7_ok nmX7 hown hK hP hD hS 1 g1 rfl 3 (by decide) fl_22 (fun _ h9 => h9) rfl (by decide +kernel) rfl rfl (Nat.le_of_ble_eq_true rfl) dX7_putFour_37 (fun ws_15 H locs gq up_16 hP hD hS => ?_)
          have g1 : ws_15[1]? = some (a1, .inr (8, [.ref a2, .ref a3, .ref a4, .int (nI ((((len + 1) + 1) + 1) + 1)), .int (nI pl), .int (nI pcs), .int (nI gp)])) := gq
          have g2 := up_16.get g2 (by decide)
          have sm := sm.up up_16 (by simp)
          refine lv_iinc (v := (-8)) (lv' := [(2, .int (-8)), (0, .ref a1), (1, .int v)]) hx hb dX7_putFour_40 hl (k := 0) rfl (by decide) (by decide) rfl (fun ls hl => ?_)
          refine lv_goto (tgt := 3) hx hb dX7_putFour_43 (by decide) ?_
          refine lv_iload_n hx hb dX7_putFour_3 rfl (lv_at hl 0 rfl) ?_
          refine lv_if_lt (tgt := 46) hx hb dX7_putFour_4 (by decide) (fun c_4 => ?_) (fun c_4 => absurd (by decide) c_4)
          have g1 : ws_15[1]? = some (a1, .inr (8, [.ref a2, .ref a3, .ref a4, .int (nI (len + 4)), .int (nI pl), .int (nI pcs), .int (nI gp)])) := g1
          have g2 : ws_15[2]? = some (a2, .inl (cB, 800, .inl (put4 f len v))) := by simp only [i8_twice] at g2; exact g2
          exact CV.ret C hK hP hD hS (⟨sm, g1, g2⟩) hc0 hs0 dX7_putFour_46
set_option maxHeartbeats 4000000 in
set_option maxRecDepth 100000 in
theorem c_X7_putPlain {D : va_G} {cB cI cJ cO : ClassId} {l : Launch} {a1 a2 a3 a4 len pl pcs gp : Nat} {x : Int32} {f : Nat → Int32} {ws : va_W} (g1 : ws[1]? = some (a1, .inr (8, [.ref a2, .ref a3, .ref a4, .int (nI len), .int (nI pl), .int (nI pcs), .int (nI gp)]))) (g3 : ws[3]? = some (a3, .inl (cB, 800, .inl f))) (hpl : pl < 800) : CV D (TY cB cI cJ cO) l yX7_putPlain wsX7_putPlain ({ frames := 0, cells := 0, slots := 0, locals := 0 }) [.ref a1, .int x] ws (fun ws' => Sm (fun k => k = 1 ∨ k = 3) ws ws' ∧ ws'[1]? = some (a1, .inr (8, [.ref a2, .ref a3, .ref a4, .int (nI len), .int (nI (pl + 1)), .int (nI pcs), .int (nI gp)])) ∧ ws'[3]? = some (a3, .inl (cB, 800, .inl (upd f pl (x.toInt8.toInt32))))) := by
  refine CV.of (cc := cX7_putPlain) (maxL := 2) (ret := none) (by decide) rfl (Nat.le_of_ble_eq_true rfl) ?_
  intro p e s m below meth c A C hK hP hD hA hS ls hl
  obtain ⟨hx, hb, hr, hml, hts, hown, hlocks, hnm⟩ := id C
  have fl_15 := hts (.fieldLink RX7 15 "TwinFinder$Tape" "plain" "[B") (by decide +kernel)
  have fl_26 := hts (.fieldLink RX7 26 "TwinFinder$Tape" "plainLength" "I") (by decide +kernel)
  have hin_X7 : ∀ w ∈ u_ws RX7 TX7 7, w ∈ wsX7_putPlain := by decide +kernel
  have hl : lv_has ls 2 [(0, .ref a1), (1, .int x)] := hl
  have sm : Sm (fun k => k = 1 ∨ k = 3) ws ws := Sm.rf
  have hc0 : (0 : Nat) ≤ 0 := by decide
  have hs0 : (0 : Nat) ≤ 0 := by decide
  refine lv_aload_n hx hb dX7_putPlain_0 rfl (lv_at hl 0 rfl) ?_
  refine va_get (D := D) (ci := 8) (v := .int (nI pl)) (C := RX7) (T := TX7) (N := 7) hx hb hts hin_X7 hown hK hP 1 g1 rfl 4 (by decide) fl_26 (fun _ h9 => h9) rfl dX7_putPlain_1 ?_
  refine lv_sipush (v := nI 800) hx hb dX7_putPlain_4 (by decide) ?_
  refine nx_icmp_ge (tgt := 31) hx hb (by omega) (by omega) dX7_putPlain_7 (by decide) (fun c_7 => ?_) (fun c_7 => ?_)
  · omega
  · refine lv_aload_n hx hb dX7_putPlain_10 rfl (lv_at hl 0 rfl) ?_
    refine va_get (D := D) (ci := 8) (v := .ref a3) (C := RX7) (T := TX7) (N := 7) hx hb hts hin_X7 hown hK hP 1 g1 rfl 1 (by decide) fl_15 (fun _ h9 => h9) rfl dX7_putPlain_11 ?_
    refine lv_aload_n hx hb dX7_putPlain_14 rfl (lv_at hl 0 rfl) ?_
    refine va_get (D := D) (ci := 8) (v := .int (nI pl)) (C := RX7) (T := TX7) (N := 7) hx hb hts hin_X7 hown hK hP 1 g1 rfl 4 (by decide) fl_26 (fun _ h9 => h9) rfl dX7_putPlain_15 ?_
    refine lv_iload_n hx hb dX7_putPlain_18 rfl (lv_at hl 1 rfl) ?_
    refine lv_i2b hx hb dX7_putPlain_19 rfl ?_
    refine nx_bast hx hb hK hP hD hS 3 0 g3 rfl (k := pl) (by omega) (by decide) dX7_putPlain_20 (fun ws_1 H locs gq up_2 hP hD hS => ?_)
    have g3 : ws_1[3]? = some (a3, .inl (cB, 800, .inl (upd f pl ((x.toInt8.toInt32).toInt8.toInt32)))) := gq
    have g1 := up_2.get g1 (by decide)
    have sm := sm.up up_2 (by simp)
    refine lv_aload_n hx hb dX7_putPlain_21 rfl (lv_at hl 0 rfl) ?_
    refine lv_dup hx hb dX7_putPlain_22 rfl ?_
    refine va_get (D := D) (ci := 8) (v := .int (nI pl)) (C := RX7) (T := TX7) (N := 7) hx hb hts hin_X7 hown hK hP 1 g1 rfl 4 (by decide) fl_26 (fun _ h9 => h9) rfl dX7_putPlain_23 ?_
    refine lv_iconst (v := nI 1) hx hb dX7_putPlain_26 (by decide) ?_
    refine nx_iadd hx hb dX7_putPlain_27 ?_
    refine nx_put (D := D) (ci := 8) (v := .int (nI (pl + 1))) (ty := .int) (C := RX7) (T := TX7) (N := 7) hx hb hts hin_X7 tyX7 tyX7_ok nmX7 hown hK hP hD hS 1 g1 rfl 4 (by decide) fl_26 (fun _ h9 => h9) rfl (by decide +kernel) rfl rfl (Nat.le_of_ble_eq_true rfl) dX7_putPlain_28 (fun ws_3 H locs gq up_4 hP hD hS => ?_)
    have g1 : ws_3[1]? = some (a1, .inr (8, [.ref a2, .ref a3, .ref a4, .int (nI len), .int (nI (pl + 1)), .int (nI pcs), .int (nI gp)])) := gq
    have g3 := up_4.get g3 (by decide)
    have sm := sm.up up_4 (by simp)
    have g3 : ws_3[3]? = some (a3, .inl (cB, 800, .inl (upd f pl (x.toInt8.toInt32)))) := by simp only [i8_twice] at g3; exact g3
    exact CV.ret C hK hP hD hS (⟨sm, g1, g3⟩) hc0 hs0 dX7_putPlain_31
set_option maxHeartbeats 4000000 in
set_option maxRecDepth 100000 in
theorem c_X7_plainSign {D : va_G} {cB cI cJ cO : ClassId} {l : Launch} {x : Int32} {ws : va_W}   : CI D (TY cB cI cJ cO) l yX7_plainSign wsX7_plainSign ({ frames := 0, cells := 0, slots := 0, locals := 0 }) [.int x] ws (fun r ws' => r = plSign x ∧ ws = ws') := by
  refine CI.of (cc := cX7_plainSign) (maxL := 2) (ret := (some .int)) (by decide) rfl (Nat.le_of_ble_eq_true rfl) ?_
  intro p e s m below meth c A C hK hP hD hA hS ls hl
  obtain ⟨hx, hb, hr, hml, hts, hown, hlocks, hnm⟩ := id C
  have hl : lv_has ls 2 [(0, .int x)] := hl
  have sm : Sm (fun _ => False) ws ws := Sm.rf
  have hc0 : (0 : Nat) ≤ 0 := by decide
  have hs0 : (0 : Nat) ≤ 0 := by decide
  refine lv_iload_n hx hb dX7_plainSign_0 rfl (lv_at hl 0 rfl) ?_
  refine lv_bipush (v := nI 65) hx hb dX7_plainSign_1 (by decide) ?_
  refine lv_icmp_lt (tgt := 20) hx hb dX7_plainSign_3 (by decide) (fun c_3 => ?_) (fun c_3 => ?_)
  · refine lv_iload_n hx hb dX7_plainSign_20 rfl (lv_at hl 0 rfl) ?_
    refine lv_bipush (v := nI 97) hx hb dX7_plainSign_21 (by decide) ?_
    refine lv_icmp_lt (tgt := 32) hx hb dX7_plainSign_23 (by decide) (fun c_23 => ?_) (fun c_23 => ?_)
    · refine lv_iload_n hx hb dX7_plainSign_32 rfl (lv_at hl 0 rfl) ?_
      refine lv_bipush (v := nI 48) hx hb dX7_plainSign_33 (by decide) ?_
      refine lv_icmp_lt (tgt := 48) hx hb dX7_plainSign_35 (by decide) (fun c_35 => ?_) (fun c_35 => ?_)
      · refine lv_iconst (v := nI 0) hx hb dX7_plainSign_48 (by decide) ?_
        refine lv_istore_n (lv' := [(1, .int (nI 0)), (0, .int x)]) hx hb dX7_plainSign_49 rfl hl (by decide) rfl (fun ls hl => ?_)
        refine lv_iload_n hx hb dX7_plainSign_50 rfl (lv_at hl 0 rfl) ?_
        refine lv_if_eq (tgt := 58) hx hb dX7_plainSign_51 (by decide) (fun c_51 => ?_) (fun c_51 => absurd (by decide) c_51)
        refine lv_bipush (v := nI 32) hx hb dX7_plainSign_58 (by decide) ?_
        exact CI.ret (v := (nI 32)) C hK hP hD hS rfl (⟨(by simp [nI, Int32.lt_iff_toInt_lt, Int32.le_iff_toInt_le] at c_3 c_23 c_35; simp only [plSign]; split <;> (try split) <;> (first | rfl | omega)), rfl⟩) hc0 hs0 dX7_plainSign_60
      · refine lv_iload_n hx hb dX7_plainSign_38 rfl (lv_at hl 0 rfl) ?_
        refine lv_bipush (v := nI 57) hx hb dX7_plainSign_39 (by decide) ?_
        refine lv_icmp_gt (tgt := 48) hx hb dX7_plainSign_41 (by decide) (fun c_41 => ?_) (fun c_41 => ?_)
        · refine lv_iconst (v := nI 0) hx hb dX7_plainSign_48 (by decide) ?_
          refine lv_istore_n (lv' := [(1, .int (nI 0)), (0, .int x)]) hx hb dX7_plainSign_49 rfl hl (by decide) rfl (fun ls hl => ?_)
          refine lv_iload_n hx hb dX7_plainSign_50 rfl (lv_at hl 0 rfl) ?_
          refine lv_if_eq (tgt := 58) hx hb dX7_plainSign_51 (by decide) (fun c_51 => ?_) (fun c_51 => absurd (by decide) c_51)
          refine lv_bipush (v := nI 32) hx hb dX7_plainSign_58 (by decide) ?_
          exact CI.ret (v := (nI 32)) C hK hP hD hS rfl (⟨(by simp [nI, Int32.lt_iff_toInt_lt, Int32.le_iff_toInt_le] at c_3 c_23 c_35 c_41; simp only [plSign]; split <;> (try split) <;> (first | rfl | omega)), rfl⟩) hc0 hs0 dX7_plainSign_60
        · refine lv_iconst (v := nI 1) hx hb dX7_plainSign_44 (by decide) ?_
          refine lv_goto (tgt := 49) hx hb dX7_plainSign_45 (by decide) ?_
          refine lv_istore_n (lv' := [(1, .int (nI 1)), (0, .int x)]) hx hb dX7_plainSign_49 rfl hl (by decide) rfl (fun ls hl => ?_)
          refine lv_iload_n hx hb dX7_plainSign_50 rfl (lv_at hl 0 rfl) ?_
          refine lv_if_eq (tgt := 58) hx hb dX7_plainSign_51 (by decide) (fun c_51 => absurd c_51 (by decide)) (fun c_51 => ?_)
          refine lv_iload_n hx hb dX7_plainSign_54 rfl (lv_at hl 1 rfl) ?_
          refine lv_goto (tgt := 60) hx hb dX7_plainSign_55 (by decide) ?_
          exact CI.ret (v := x) C hK hP hD hS rfl (⟨(by simp [nI, Int32.lt_iff_toInt_lt, Int32.le_iff_toInt_le] at c_3 c_23 c_35 c_41; simp only [plSign]; split <;> (try split) <;> (first | rfl | omega)), rfl⟩) hc0 hs0 dX7_plainSign_60
    · refine lv_iload_n hx hb dX7_plainSign_26 rfl (lv_at hl 0 rfl) ?_
      refine lv_bipush (v := nI 122) hx hb dX7_plainSign_27 (by decide) ?_
      refine lv_icmp_le (tgt := 44) hx hb dX7_plainSign_29 (by decide) (fun c_29 => ?_) (fun c_29 => ?_)
      · refine lv_iconst (v := nI 1) hx hb dX7_plainSign_44 (by decide) ?_
        refine lv_goto (tgt := 49) hx hb dX7_plainSign_45 (by decide) ?_
        refine lv_istore_n (lv' := [(1, .int (nI 1)), (0, .int x)]) hx hb dX7_plainSign_49 rfl hl (by decide) rfl (fun ls hl => ?_)
        refine lv_iload_n hx hb dX7_plainSign_50 rfl (lv_at hl 0 rfl) ?_
        refine lv_if_eq (tgt := 58) hx hb dX7_plainSign_51 (by decide) (fun c_51 => absurd c_51 (by decide)) (fun c_51 => ?_)
        refine lv_iload_n hx hb dX7_plainSign_54 rfl (lv_at hl 1 rfl) ?_
        refine lv_goto (tgt := 60) hx hb dX7_plainSign_55 (by decide) ?_
        exact CI.ret (v := x) C hK hP hD hS rfl (⟨(by simp [nI, Int32.lt_iff_toInt_lt, Int32.le_iff_toInt_le] at c_3 c_23 c_29; simp only [plSign]; split <;> (try split) <;> (first | rfl | omega)), rfl⟩) hc0 hs0 dX7_plainSign_60
      · refine lv_iload_n hx hb dX7_plainSign_32 rfl (lv_at hl 0 rfl) ?_
        refine lv_bipush (v := nI 48) hx hb dX7_plainSign_33 (by decide) ?_
        refine lv_icmp_lt (tgt := 48) hx hb dX7_plainSign_35 (by decide) (fun c_35 => ?_) (fun c_35 => ?_)
        · refine lv_iconst (v := nI 0) hx hb dX7_plainSign_48 (by decide) ?_
          refine lv_istore_n (lv' := [(1, .int (nI 0)), (0, .int x)]) hx hb dX7_plainSign_49 rfl hl (by decide) rfl (fun ls hl => ?_)
          refine lv_iload_n hx hb dX7_plainSign_50 rfl (lv_at hl 0 rfl) ?_
          refine lv_if_eq (tgt := 58) hx hb dX7_plainSign_51 (by decide) (fun c_51 => ?_) (fun c_51 => absurd (by decide) c_51)
          refine lv_bipush (v := nI 32) hx hb dX7_plainSign_58 (by decide) ?_
          exact CI.ret (v := (nI 32)) C hK hP hD hS rfl (⟨(by simp [nI, Int32.lt_iff_toInt_lt, Int32.le_iff_toInt_le] at c_3 c_23 c_29 c_35; simp only [plSign]; split <;> (try split) <;> (first | rfl | omega)), rfl⟩) hc0 hs0 dX7_plainSign_60
        · refine lv_iload_n hx hb dX7_plainSign_38 rfl (lv_at hl 0 rfl) ?_
          refine lv_bipush (v := nI 57) hx hb dX7_plainSign_39 (by decide) ?_
          refine lv_icmp_gt (tgt := 48) hx hb dX7_plainSign_41 (by decide) (fun c_41 => ?_) (fun c_41 => ?_)
          · refine lv_iconst (v := nI 0) hx hb dX7_plainSign_48 (by decide) ?_
            refine lv_istore_n (lv' := [(1, .int (nI 0)), (0, .int x)]) hx hb dX7_plainSign_49 rfl hl (by decide) rfl (fun ls hl => ?_)
            refine lv_iload_n hx hb dX7_plainSign_50 rfl (lv_at hl 0 rfl) ?_
            refine lv_if_eq (tgt := 58) hx hb dX7_plainSign_51 (by decide) (fun c_51 => ?_) (fun c_51 => absurd (by decide) c_51)
            refine lv_bipush (v := nI 32) hx hb dX7_plainSign_58 (by decide) ?_
            exact CI.ret (v := (nI 32)) C hK hP hD hS rfl (⟨(by simp [nI, Int32.lt_iff_toInt_lt, Int32.le_iff_toInt_le] at c_3 c_23 c_29 c_35 c_41; simp only [plSign]; split <;> (try split) <;> (first | rfl | omega)), rfl⟩) hc0 hs0 dX7_plainSign_60
          · refine lv_iconst (v := nI 1) hx hb dX7_plainSign_44 (by decide) ?_
            refine lv_goto (tgt := 49) hx hb dX7_plainSign_45 (by decide) ?_
            refine lv_istore_n (lv' := [(1, .int (nI 1)), (0, .int x)]) hx hb dX7_plainSign_49 rfl hl (by decide) rfl (fun ls hl => ?_)
            refine lv_iload_n hx hb dX7_plainSign_50 rfl (lv_at hl 0 rfl) ?_
            refine lv_if_eq (tgt := 58) hx hb dX7_plainSign_51 (by decide) (fun c_51 => absurd c_51 (by decide)) (fun c_51 => ?_)
            refine lv_iload_n hx hb dX7_plainSign_54 rfl (lv_at hl 1 rfl) ?_
            refine lv_goto (tgt := 60) hx hb dX7_plainSign_55 (by decide) ?_
            exact CI.ret (v := x) C hK hP hD hS rfl (⟨(by simp [nI, Int32.lt_iff_toInt_lt, Int32.le_iff_toInt_le] at c_3 c_23 c_29 c_35 c_41; simp only [plSign]; split <;> (try split) <;> (first | rfl | omega)), rfl⟩) hc0 hs0 dX7_plainSign_60
  · refine lv_iload_n hx hb dX7_plainSign_6 rfl (lv_at hl 0 rfl) ?_
    refine lv_bipush (v := nI 90) hx hb dX7_plainSign_7 (by decide) ?_
    refine lv_icmp_gt (tgt := 20) hx hb dX7_plainSign_9 (by decide) (fun c_9 => ?_) (fun c_9 => ?_)
    · refine lv_iload_n hx hb dX7_plainSign_20 rfl (lv_at hl 0 rfl) ?_
      refine lv_bipush (v := nI 97) hx hb dX7_plainSign_21 (by decide) ?_
      refine lv_icmp_lt (tgt := 32) hx hb dX7_plainSign_23 (by decide) (fun c_23 => ?_) (fun c_23 => ?_)
      · refine lv_iload_n hx hb dX7_plainSign_32 rfl (lv_at hl 0 rfl) ?_
        refine lv_bipush (v := nI 48) hx hb dX7_plainSign_33 (by decide) ?_
        refine lv_icmp_lt (tgt := 48) hx hb dX7_plainSign_35 (by decide) (fun c_35 => ?_) (fun c_35 => ?_)
        · refine lv_iconst (v := nI 0) hx hb dX7_plainSign_48 (by decide) ?_
          refine lv_istore_n (lv' := [(1, .int (nI 0)), (0, .int x)]) hx hb dX7_plainSign_49 rfl hl (by decide) rfl (fun ls hl => ?_)
          refine lv_iload_n hx hb dX7_plainSign_50 rfl (lv_at hl 0 rfl) ?_
          refine lv_if_eq (tgt := 58) hx hb dX7_plainSign_51 (by decide) (fun c_51 => ?_) (fun c_51 => absurd (by decide) c_51)
          refine lv_bipush (v := nI 32) hx hb dX7_plainSign_58 (by decide) ?_
          exact CI.ret (v := (nI 32)) C hK hP hD hS rfl (⟨(by simp [nI, Int32.lt_iff_toInt_lt, Int32.le_iff_toInt_le] at c_3 c_9 c_23 c_35; simp only [plSign]; split <;> (try split) <;> (first | rfl | omega)), rfl⟩) hc0 hs0 dX7_plainSign_60
        · refine lv_iload_n hx hb dX7_plainSign_38 rfl (lv_at hl 0 rfl) ?_
          refine lv_bipush (v := nI 57) hx hb dX7_plainSign_39 (by decide) ?_
          refine lv_icmp_gt (tgt := 48) hx hb dX7_plainSign_41 (by decide) (fun c_41 => ?_) (fun c_41 => ?_)
          · refine lv_iconst (v := nI 0) hx hb dX7_plainSign_48 (by decide) ?_
            refine lv_istore_n (lv' := [(1, .int (nI 0)), (0, .int x)]) hx hb dX7_plainSign_49 rfl hl (by decide) rfl (fun ls hl => ?_)
            refine lv_iload_n hx hb dX7_plainSign_50 rfl (lv_at hl 0 rfl) ?_
            refine lv_if_eq (tgt := 58) hx hb dX7_plainSign_51 (by decide) (fun c_51 => ?_) (fun c_51 => absurd (by decide) c_51)
            refine lv_bipush (v := nI 32) hx hb dX7_plainSign_58 (by decide) ?_
            exact CI.ret (v := (nI 32)) C hK hP hD hS rfl (⟨(by simp [nI, Int32.lt_iff_toInt_lt, Int32.le_iff_toInt_le] at c_3 c_9 c_23 c_35 c_41; simp only [plSign]; split <;> (try split) <;> (first | rfl | omega)), rfl⟩) hc0 hs0 dX7_plainSign_60
          · refine lv_iconst (v := nI 1) hx hb dX7_plainSign_44 (by decide) ?_
            refine lv_goto (tgt := 49) hx hb dX7_plainSign_45 (by decide) ?_
            refine lv_istore_n (lv' := [(1, .int (nI 1)), (0, .int x)]) hx hb dX7_plainSign_49 rfl hl (by decide) rfl (fun ls hl => ?_)
            refine lv_iload_n hx hb dX7_plainSign_50 rfl (lv_at hl 0 rfl) ?_
            refine lv_if_eq (tgt := 58) hx hb dX7_plainSign_51 (by decide) (fun c_51 => absurd c_51 (by decide)) (fun c_51 => ?_)
            refine lv_iload_n hx hb dX7_plainSign_54 rfl (lv_at hl 1 rfl) ?_
            refine lv_goto (tgt := 60) hx hb dX7_plainSign_55 (by decide) ?_
            exact CI.ret (v := x) C hK hP hD hS rfl (⟨(by simp [nI, Int32.lt_iff_toInt_lt, Int32.le_iff_toInt_le] at c_3 c_9 c_23 c_35 c_41; simp only [plSign]; split <;> (try split) <;> (first | rfl | omega)), rfl⟩) hc0 hs0 dX7_plainSign_60
      · refine lv_iload_n hx hb dX7_plainSign_26 rfl (lv_at hl 0 rfl) ?_
        refine lv_bipush (v := nI 122) hx hb dX7_plainSign_27 (by decide) ?_
        refine lv_icmp_le (tgt := 44) hx hb dX7_plainSign_29 (by decide) (fun c_29 => ?_) (fun c_29 => ?_)
        · refine lv_iconst (v := nI 1) hx hb dX7_plainSign_44 (by decide) ?_
          refine lv_goto (tgt := 49) hx hb dX7_plainSign_45 (by decide) ?_
          refine lv_istore_n (lv' := [(1, .int (nI 1)), (0, .int x)]) hx hb dX7_plainSign_49 rfl hl (by decide) rfl (fun ls hl => ?_)
          refine lv_iload_n hx hb dX7_plainSign_50 rfl (lv_at hl 0 rfl) ?_
          refine lv_if_eq (tgt := 58) hx hb dX7_plainSign_51 (by decide) (fun c_51 => absurd c_51 (by decide)) (fun c_51 => ?_)
          refine lv_iload_n hx hb dX7_plainSign_54 rfl (lv_at hl 1 rfl) ?_
          refine lv_goto (tgt := 60) hx hb dX7_plainSign_55 (by decide) ?_
          exact CI.ret (v := x) C hK hP hD hS rfl (⟨(by simp [nI, Int32.lt_iff_toInt_lt, Int32.le_iff_toInt_le] at c_3 c_9 c_23 c_29; simp only [plSign]; split <;> (try split) <;> (first | rfl | omega)), rfl⟩) hc0 hs0 dX7_plainSign_60
        · refine lv_iload_n hx hb dX7_plainSign_32 rfl (lv_at hl 0 rfl) ?_
          refine lv_bipush (v := nI 48) hx hb dX7_plainSign_33 (by decide) ?_
          refine lv_icmp_lt (tgt := 48) hx hb dX7_plainSign_35 (by decide) (fun c_35 => ?_) (fun c_35 => ?_)
          · refine lv_iconst (v := nI 0) hx hb dX7_plainSign_48 (by decide) ?_
            refine lv_istore_n (lv' := [(1, .int (nI 0)), (0, .int x)]) hx hb dX7_plainSign_49 rfl hl (by decide) rfl (fun ls hl => ?_)
            refine lv_iload_n hx hb dX7_plainSign_50 rfl (lv_at hl 0 rfl) ?_
            refine lv_if_eq (tgt := 58) hx hb dX7_plainSign_51 (by decide) (fun c_51 => ?_) (fun c_51 => absurd (by decide) c_51)
            refine lv_bipush (v := nI 32) hx hb dX7_plainSign_58 (by decide) ?_
            exact CI.ret (v := (nI 32)) C hK hP hD hS rfl (⟨(by simp [nI, Int32.lt_iff_toInt_lt, Int32.le_iff_toInt_le] at c_3 c_9 c_23 c_29 c_35; simp only [plSign]; split <;> (try split) <;> (first | rfl | omega)), rfl⟩) hc0 hs0 dX7_plainSign_60
          · refine lv_iload_n hx hb dX7_plainSign_38 rfl (lv_at hl 0 rfl) ?_
            refine lv_bipush (v := nI 57) hx hb dX7_plainSign_39 (by decide) ?_
            refine lv_icmp_gt (tgt := 48) hx hb dX7_plainSign_41 (by decide) (fun c_41 => ?_) (fun c_41 => ?_)
            · refine lv_iconst (v := nI 0) hx hb dX7_plainSign_48 (by decide) ?_
              refine lv_istore_n (lv' := [(1, .int (nI 0)), (0, .int x)]) hx hb dX7_plainSign_49 rfl hl (by decide) rfl (fun ls hl => ?_)
              refine lv_iload_n hx hb dX7_plainSign_50 rfl (lv_at hl 0 rfl) ?_
              refine lv_if_eq (tgt := 58) hx hb dX7_plainSign_51 (by decide) (fun c_51 => ?_) (fun c_51 => absurd (by decide) c_51)
              refine lv_bipush (v := nI 32) hx hb dX7_plainSign_58 (by decide) ?_
              exact CI.ret (v := (nI 32)) C hK hP hD hS rfl (⟨(by simp [nI, Int32.lt_iff_toInt_lt, Int32.le_iff_toInt_le] at c_3 c_9 c_23 c_29 c_35 c_41; simp only [plSign]; split <;> (try split) <;> (first | rfl | omega)), rfl⟩) hc0 hs0 dX7_plainSign_60
            · refine lv_iconst (v := nI 1) hx hb dX7_plainSign_44 (by decide) ?_
              refine lv_goto (tgt := 49) hx hb dX7_plainSign_45 (by decide) ?_
              refine lv_istore_n (lv' := [(1, .int (nI 1)), (0, .int x)]) hx hb dX7_plainSign_49 rfl hl (by decide) rfl (fun ls hl => ?_)
              refine lv_iload_n hx hb dX7_plainSign_50 rfl (lv_at hl 0 rfl) ?_
              refine lv_if_eq (tgt := 58) hx hb dX7_plainSign_51 (by decide) (fun c_51 => absurd c_51 (by decide)) (fun c_51 => ?_)
              refine lv_iload_n hx hb dX7_plainSign_54 rfl (lv_at hl 1 rfl) ?_
              refine lv_goto (tgt := 60) hx hb dX7_plainSign_55 (by decide) ?_
              exact CI.ret (v := x) C hK hP hD hS rfl (⟨(by simp [nI, Int32.lt_iff_toInt_lt, Int32.le_iff_toInt_le] at c_3 c_9 c_23 c_29 c_35 c_41; simp only [plSign]; split <;> (try split) <;> (first | rfl | omega)), rfl⟩) hc0 hs0 dX7_plainSign_60
    · refine lv_iload_n hx hb dX7_plainSign_12 rfl (lv_at hl 0 rfl) ?_
      refine lv_bipush (v := nI 65) hx hb dX7_plainSign_13 (by decide) ?_
      refine lv_isub hx hb dX7_plainSign_15 ?_
      refine lv_bipush (v := nI 97) hx hb dX7_plainSign_16 (by decide) ?_
      refine lv_iadd hx hb dX7_plainSign_18 ?_
      exact CI.ret (v := ((x - (nI 65)) + (nI 97))) C hK hP hD hS rfl (⟨(by simp [nI, Int32.lt_iff_toInt_lt, Int32.le_iff_toInt_le] at c_3 c_9; simp only [plSign]; split <;> (try split) <;> (first | rfl | omega)), rfl⟩) hc0 hs0 dX7_plainSign_19
set_option maxHeartbeats 4000000 in
set_option maxRecDepth 100000 in
theorem c_X7_makePlain {D : va_G} {cB cI cJ cO : ClassId} {l : Launch} {a1 a2 a3 a4 len pl pcs gp : Nat} {f fp : Nat → Int32} {T : List Int32} {ws : va_W} (g1 : ws[1]? = some (a1, .inr (8, [.ref a2, .ref a3, .ref a4, .int (nI len), .int (nI pl), .int (nI pcs), .int (nI gp)]))) (g2 : ws[2]? = some (a2, .inl (cB, 800, .inl f))) (g3 : ws[3]? = some (a3, .inl (cB, 800, .inl fp))) (hT : Hd f T) (hlen : T.length = len) (h800 : len ≤ 800) : CI D (TY cB cI cJ cO) l yX7_makePlain wsX7_makePlain ({ frames := 1, cells := 0, slots := 0, locals := 21 }) [.ref a1] ws (fun r ws' => ∃ fq : Nat → Int32, r = nI ((plainOf T).length) ∧ Hd fq (plainOf T) ∧ Sm (fun k => k = 1 ∨ k = 3) ws ws' ∧ ws'[1]? = some (a1, .inr (8, [.ref a2, .ref a3, .ref a4, .int (nI len), .int (nI ((plainOf T).length)), .int (nI pcs), .int (nI gp)])) ∧ ws'[3]? = some (a3, .inl (cB, 800, .inl fq))) := by
  refine CI.of (cc := cX7_makePlain) (maxL := 4) (ret := (some .int)) (by decide) rfl (Nat.le_of_ble_eq_true rfl) ?_
  intro p e s m below meth c A C hK hP hD hA hS ls hl
  obtain ⟨hx, hb, hr, hml, hts, hown, hlocks, hnm⟩ := id C
  have fl_9 := hts (.fieldLink RX7 9 "TwinFinder$Tape" "bytes" "[B") (by decide +kernel)
  have fl_22 := hts (.fieldLink RX7 22 "TwinFinder$Tape" "length" "I") (by decide +kernel)
  have fl_26 := hts (.fieldLink RX7 26 "TwinFinder$Tape" "plainLength" "I") (by decide +kernel)
  have hin_X7 : ∀ w ∈ u_ws RX7 TX7 7, w ∈ wsX7_makePlain := by decide +kernel
  have hl : lv_has ls 4 [(0, .ref a1)] := hl
  have sm : Sm (fun k => k = 1 ∨ k = 3) ws ws := Sm.rf
  have hc0 : (0 : Nat) ≤ 0 := by decide
  have hs0 : (0 : Nat) ≤ 0 := by decide
  refine lv_aload_n hx hb dX7_makePlain_0 rfl (lv_at hl 0 rfl) ?_
  refine lv_iconst (v := nI 0) hx hb dX7_makePlain_1 (by decide) ?_
  refine nx_put (D := D) (ci := 8) (v := .int (nI 0)) (ty := .int) (C := RX7) (T := TX7) (N := 7) hx hb hts hin_X7 tyX7 tyX7_ok nmX7 hown hK hP hD hS 1 g1 rfl 4 (by decide) fl_26 (fun _ h9 => h9) rfl (by decide +kernel) rfl rfl (Nat.le_of_ble_eq_true rfl) dX7_makePlain_2 (fun ws_1 H locs gq up_2 hP hD hS => ?_)
  have g1 : ws_1[1]? = some (a1, .inr (8, [.ref a2, .ref a3, .ref a4, .int (nI len), .int (nI 0), .int (nI pcs), .int (nI gp)])) := gq
  have g2 := up_2.get g2 (by decide)
  have g3 := up_2.get g3 (by decide)
  have sm := sm.up up_2 (by simp)
  refine lv_iconst (v := nI 0) hx hb dX7_makePlain_5 (by decide) ?_
  refine lv_istore_n (lv' := [(1, .int (nI 0)), (0, .ref a1)]) hx hb dX7_makePlain_6 rfl hl (by decide) rfl (fun ls hl => ?_)
  refine lv_iconst (v := nI 0) hx hb dX7_makePlain_7 (by decide) ?_
  refine lv_istore_n (lv' := [(2, .int (nI 0)), (1, .int (nI 0)), (0, .ref a1)]) hx hb dX7_makePlain_8 rfl hl (by decide) rfl (fun ls hl => ?_)
  have lp_9 : ∀ (fuel : Nat) (i : Nat) (o : List Int32) (d : Bool) (fo : Nat → Int32), len - i < fuel → (i ≤ len) → ((T.take i).foldl pst ([], false) = (o, d)) → (o.length + (d && !o.isEmpty).toNat ≤ i) → (Hd fo o) → ∀ (ws1 : va_W) (H : Heap) (locs : List Loc) (ls : Array Slot), Sm (fun k => k = 1 ∨ k = 3) ws ws1 → ws1[1]? = some (a1, .inr (8, [.ref a2, .ref a3, .ref a4, .int (nI len), .int (nI (o.length)), .int (nI pcs), .int (nI gp)])) → ws1[2]? = some (a2, .inl (cB, 800, .inl f)) → ws1[3]? = some (a3, .inl (cB, 800, .inl fo)) → va_P D vwCl ws1 H → va_D A ws1 → va_S A s.heap H locs → lv_has ls 4 [(0, .ref a1), (1, .int (nI ((d && !o.isEmpty).toNat))), (2, .int (nI i))] → W p l e ({ frames := 1, cells := 0, slots := 0, locals := 21 }) s m ([.ref a1] : List Value).toArray below meth c H locs 0 0 (ZI D (TY cB cI cJ cO) (fun r ws' => ∃ fq : Nat → Int32, r = nI ((plainOf T).length) ∧ Hd fq (plainOf T) ∧ Sm (fun k => k = 1 ∨ k = 3) ws ws' ∧ ws'[1]? = some (a1, .inr (8, [.ref a2, .ref a3, .ref a4, .int (nI len), .int (nI ((plainOf T).length)), .int (nI pcs), .int (nI gp)])) ∧ ws'[3]? = some (a3, .inl (cB, 800, .inl fq))) below [.ref a1] s 0 0 A) (F0 m 9 ls []) := by
    intro fuel
    induction fuel with
    | zero => intro i o d fo hfu; exact absurd hfu (Nat.not_lt_zero _)
    | succ fuel ih_9 =>
      intro i o d fo hfu_9 hi hod hol hfo ws1 H locs ls sm g1 g2 g3 hP hD hS hl
      refine lv_iload_n hx hb dX7_makePlain_9 rfl (lv_at hl 2 rfl) ?_
      refine lv_aload_n hx hb dX7_makePlain_10 rfl (lv_at hl 0 rfl) ?_
      refine va_get (D := D) (ci := 8) (v := .int (nI len)) (C := RX7) (T := TX7) (N := 7) hx hb hts hin_X7 hown hK hP 1 g1 rfl 3 (by decide) fl_22 (fun _ h9 => h9) rfl dX7_makePlain_11 ?_
      refine nx_icmp_ge (tgt := 72) hx hb (by omega) (by omega) dX7_makePlain_14 (by decide) (fun c_14 => ?_) (fun c_14 => ?_)
      · refine lv_aload_n hx hb dX7_makePlain_72 rfl (lv_at hl 0 rfl) ?_
        refine va_get (D := D) (ci := 8) (v := .int (nI (o.length))) (C := RX7) (T := TX7) (N := 7) hx hb hts hin_X7 hown hK hP 1 g1 rfl 4 (by decide) fl_26 (fun _ h9 => h9) rfl dX7_makePlain_73 ?_
        have g1 : ws1[1]? = some (a1, .inr (8, [.ref a2, .ref a3, .ref a4, .int (nI len), .int (nI ((plainOf T).length)), .int (nI pcs), .int (nI gp)])) := by rw [plainOf_of hod (by omega)]; exact g1
        exact CI.ret (v := (nI o.length)) C hK hP hD hS rfl (⟨fo, (by rw [plainOf_of hod (by omega)]), (by rw [plainOf_of hod (by omega)]; exact hfo), sm, g1, g3⟩) hc0 hs0 dX7_makePlain_76
      · refine lv_aload_n hx hb dX7_makePlain_17 rfl (lv_at hl 0 rfl) ?_
        refine va_get (D := D) (ci := 8) (v := .ref a2) (C := RX7) (T := TX7) (N := 7) hx hb hts hin_X7 hown hK hP 1 g1 rfl 0 (by decide) fl_9 (fun _ h9 => h9) rfl dX7_makePlain_18 ?_
        refine lv_iload_n hx hb dX7_makePlain_21 rfl (lv_at hl 2 rfl) ?_
        refine nx_bald hx hb hK hP 2 0 g2 rfl (k := i) (by omega) (by decide) dX7_makePlain_22 ?_
        refine CI.go (va_runS (As := [.int (f i)]) (rest := []) ⟨hx, hb, hml, hown, hts⟩ (c_X7_plainSign    _) (va_cwS 1 hts gX7_makePlain_X7_plainSign rfl rfl rfl (by decide +kernel) ⟨Nat.le_of_ble_eq_true rfl, Nat.le_of_ble_eq_true rfl⟩) ⟨pw_blind, fun U hU hW => pw_pre hK hP hD hU hW⟩ rfl rfl hl.1 rfl (lv_room (Nat.le_of_ble_eq_true rfl)) dX7_makePlain_23 ⟨by decide, by decide⟩) hD hS hA (fun r_3 ws_4 H locs hp hP hD hS => ?_)
        obtain ⟨rfl, rfl⟩ := hp
        refine lv_istore_n (lv' := [(3, .int (plSign (f i))), (0, .ref a1), (1, .int (nI ((d && !o.isEmpty).toNat))), (2, .int (nI i))]) hx hb dX7_makePlain_26 rfl hl (by decide) rfl (fun ls hl => ?_)
        refine lv_iload_n hx hb dX7_makePlain_27 rfl (lv_at hl 0 rfl) ?_
        refine lv_bipush (v := nI 32) hx hb dX7_makePlain_28 (by decide) ?_
        refine lv_icmp_ne (tgt := 49) hx hb dX7_makePlain_30 (by decide) (fun c_30 => ?_) (fun c_30 => ?_)
        · have c_30 : ¬ plSign (f i) = 32 := c_30
          refine lv_iload_n hx hb dX7_makePlain_49 rfl (lv_at hl 2 rfl) ?_
          refine nx_if_eq (tgt := 59) hx hb (by cases (d && !o.isEmpty) <;> decide) dX7_makePlain_50 (by decide) (fun c_50 => ?_) (fun c_50 => ?_)
          · refine lv_iconst (v := nI 0) hx hb dX7_makePlain_59 (by decide) ?_
            refine lv_istore_n (lv' := [(1, .int (nI 0)), (3, .int (plSign (f i))), (0, .ref a1), (2, .int (nI i))]) hx hb dX7_makePlain_60 rfl hl (by decide) rfl (fun ls hl => ?_)
            refine lv_aload_n hx hb dX7_makePlain_61 rfl (lv_at hl 2 rfl) ?_
            refine lv_iload_n hx hb dX7_makePlain_62 rfl (lv_at hl 1 rfl) ?_
            refine CV.go (va_runV (As := [.int (plSign (f i))]) (rest := []) ⟨hx, hb, hml, hown, hts⟩ (c_X7_putPlain  g1 g3 (by omega) _) (cwV 1 hts gX7_makePlain_X7_putPlain rfl rfl rfl (by decide +kernel) ⟨Nat.le_of_ble_eq_true rfl, Nat.le_of_ble_eq_true rfl⟩) ⟨pw_blind, va_recv hK hP (ci := 8) (q0 := 1) rfl g1, fun U hU hW => pw_pre hK hP hD hU hW⟩ rfl rfl hl.1 rfl (lv_room (Nat.le_of_ble_eq_true rfl)) dX7_makePlain_63 ⟨by decide, by decide⟩) hD hS hA (fun ws_6 H locs hp hP hD hS => ?_)
            obtain ⟨sm_7, g1, g3⟩ := hp
            have g2 := sm_7.get g2 (by simp)
            have sm := sm.call sm_7 (by intro k hk; (try simp only at hk ⊢); omega)
            have g1 : ws_6[1]? = some (a1, .inr (8, [.ref a2, .ref a3, .ref a4, .int (nI len), .int (nI ((o.length) + 1)), .int (nI pcs), .int (nI gp)])) := g1
            have g3 : ws_6[3]? = some (a3, .inl (cB, 800, .inl (upd fo (o.length) ((plSign (f i)).toInt8.toInt32)))) := g3
            refine lv_iinc (v := (nI (i + 1))) (lv' := [(2, .int (nI (i + 1))), (1, .int (nI 0)), (3, .int (plSign (f i))), (0, .ref a1)]) hx hb dX7_makePlain_66 hl (k := 3) rfl (nx_inc _ 1) (by decide) rfl (fun ls hl => ?_)
            refine lv_goto (tgt := 9) hx hb dX7_makePlain_69 (by decide) ?_
            have hod2 := pst_take (by omega) hod
            rw [← hT.at (by omega), show pst (o, d) (f i) = (o ++ [plSign (f i)], false) from by rw [pst, if_neg c_30, if_neg (by simp; intro h1; simp [h1] at c_50; exact c_50)]] at hod2
            have g1 : ws_6[1]? = some (a1, .inr (8, [.ref a2, .ref a3, .ref a4, .int (nI len), .int (nI ((o ++ [plSign (f i)]).length)), .int (nI pcs), .int (nI gp)])) := by rw [List.length_append]; exact g1
            have g3 : ws_6[3]? = some (a3, .inl (cB, 800, .inl (upd fo o.length (plSign (f i))))) := by rw [plS_byte] at g3; exact g3
            exact ih_9 (i + 1) (o ++ [plSign (f i)]) false _ (by omega) (by omega) hod2 (by simp; omega) hfo.upd _ _ _ _ sm g1 g2 g3 hP hD hS (lv_sub hl [3, 1, 0] rfl)
          · refine lv_aload_n hx hb dX7_makePlain_53 rfl (lv_at hl 1 rfl) ?_
            refine lv_bipush (v := nI 32) hx hb dX7_makePlain_54 (by decide) ?_
            refine CV.go (va_runV (As := [.int (nI 32)]) (rest := []) ⟨hx, hb, hml, hown, hts⟩ (c_X7_putPlain  g1 g3 (by omega) _) (cwV 1 hts gX7_makePlain_X7_putPlain rfl rfl rfl (by decide +kernel) ⟨Nat.le_of_ble_eq_true rfl, Nat.le_of_ble_eq_true rfl⟩) ⟨pw_blind, va_recv hK hP (ci := 8) (q0 := 1) rfl g1, fun U hU hW => pw_pre hK hP hD hU hW⟩ rfl rfl hl.1 rfl (lv_room (Nat.le_of_ble_eq_true rfl)) dX7_makePlain_56 ⟨by decide, by decide⟩) hD hS hA (fun ws_9 H locs hp hP hD hS => ?_)
            obtain ⟨sm_10, g1, g3⟩ := hp
            have g2 := sm_10.get g2 (by simp)
            have sm := sm.call sm_10 (by intro k hk; (try simp only at hk ⊢); omega)
            have g1 : ws_9[1]? = some (a1, .inr (8, [.ref a2, .ref a3, .ref a4, .int (nI len), .int (nI ((o.length) + 1)), .int (nI pcs), .int (nI gp)])) := g1
            have g3 : ws_9[3]? = some (a3, .inl (cB, 800, .inl (upd fo (o.length) ((nI 32).toInt8.toInt32)))) := g3
            refine lv_iconst (v := nI 0) hx hb dX7_makePlain_59 (by decide) ?_
            refine lv_istore_n (lv' := [(1, .int (nI 0)), (3, .int (plSign (f i))), (0, .ref a1), (2, .int (nI i))]) hx hb dX7_makePlain_60 rfl hl (by decide) rfl (fun ls hl => ?_)
            refine lv_aload_n hx hb dX7_makePlain_61 rfl (lv_at hl 2 rfl) ?_
            refine lv_iload_n hx hb dX7_makePlain_62 rfl (lv_at hl 1 rfl) ?_
            refine CV.go (va_runV (As := [.int (plSign (f i))]) (rest := []) ⟨hx, hb, hml, hown, hts⟩ (c_X7_putPlain  g1 g3 (by omega) _) (cwV 1 hts gX7_makePlain_X7_putPlain rfl rfl rfl (by decide +kernel) ⟨Nat.le_of_ble_eq_true rfl, Nat.le_of_ble_eq_true rfl⟩) ⟨pw_blind, va_recv hK hP (ci := 8) (q0 := 1) rfl g1, fun U hU hW => pw_pre hK hP hD hU hW⟩ rfl rfl hl.1 rfl (lv_room (Nat.le_of_ble_eq_true rfl)) dX7_makePlain_63 ⟨by decide, by decide⟩) hD hS hA (fun ws_12 H locs hp hP hD hS => ?_)
            obtain ⟨sm_13, g1, g3⟩ := hp
            have g2 := sm_13.get g2 (by simp)
            have sm := sm.call sm_13 (by intro k hk; (try simp only at hk ⊢); omega)
            have g1 : ws_12[1]? = some (a1, .inr (8, [.ref a2, .ref a3, .ref a4, .int (nI len), .int (nI (((o.length) + 1) + 1)), .int (nI pcs), .int (nI gp)])) := g1
            have g3 : ws_12[3]? = some (a3, .inl (cB, 800, .inl (upd (upd fo (o.length) ((nI 32).toInt8.toInt32)) ((o.length) + 1) ((plSign (f i)).toInt8.toInt32)))) := g3
            refine lv_iinc (v := (nI (i + 1))) (lv' := [(2, .int (nI (i + 1))), (1, .int (nI 0)), (3, .int (plSign (f i))), (0, .ref a1)]) hx hb dX7_makePlain_66 hl (k := 3) rfl (nx_inc _ 1) (by decide) rfl (fun ls hl => ?_)
            refine lv_goto (tgt := 9) hx hb dX7_makePlain_69 (by decide) ?_
            have hod2 := pst_take (by omega) hod
            have hd1 : (d && !o.isEmpty) = true := by cases h9 : (d && !o.isEmpty) with | true => rfl | false => rw [h9] at c_50; exact absurd c_50 (by decide)
            rw [hd1] at hol
            rw [← hT.at (by omega), show pst (o, d) (f i) = (o ++ [32] ++ [plSign (f i)], false) from by rw [pst, if_neg c_30, if_pos hd1]] at hod2
            have g1 : ws_12[1]? = some (a1, .inr (8, [.ref a2, .ref a3, .ref a4, .int (nI len), .int (nI ((o ++ [32] ++ [plSign (f i)]).length)), .int (nI pcs), .int (nI gp)])) := by rw [List.length_append, List.length_append]; exact g1
            have g3 : ws_12[3]? = some (a3, .inl (cB, 800, .inl (upd (upd fo o.length 32) (o ++ [32]).length (plSign (f i))))) := by rw [plS_byte, show (nI 32).toInt8.toInt32 = 32 from by decide] at g3; rw [List.length_append]; exact g3
            exact ih_9 (i + 1) (o ++ [32] ++ [plSign (f i)]) false _ (by omega) (by omega) hod2 (by simp at hol ⊢; omega) (hfo.upd).upd _ _ _ _ sm g1 g2 g3 hP hD hS (lv_sub hl [3, 1, 0] rfl)
        · have c_30 : plSign (f i) = 32 := c_30
          refine lv_aload_n hx hb dX7_makePlain_33 rfl (lv_at hl 1 rfl) ?_
          refine va_get (D := D) (ci := 8) (v := .int (nI (o.length))) (C := RX7) (T := TX7) (N := 7) hx hb hts hin_X7 hown hK hP 1 g1 rfl 4 (by decide) fl_26 (fun _ h9 => h9) rfl dX7_makePlain_34 ?_
          refine nx_if_le (tgt := 44) hx hb (by omega) dX7_makePlain_37 (by decide) (fun c_37 => ?_) (fun c_37 => ?_)
          · refine lv_iconst (v := nI 0) hx hb dX7_makePlain_44 (by decide) ?_
            refine lv_istore_n (lv' := [(1, .int (nI 0)), (3, .int (plSign (f i))), (0, .ref a1), (2, .int (nI i))]) hx hb dX7_makePlain_45 rfl hl (by decide) rfl (fun ls hl => ?_)
            refine lv_goto (tgt := 66) hx hb dX7_makePlain_46 (by decide) ?_
            refine lv_iinc (v := (nI (i + 1))) (lv' := [(2, .int (nI (i + 1))), (1, .int (nI 0)), (3, .int (plSign (f i))), (0, .ref a1)]) hx hb dX7_makePlain_66 hl (k := 3) rfl (nx_inc _ 1) (by decide) rfl (fun ls hl => ?_)
            refine lv_goto (tgt := 9) hx hb dX7_makePlain_69 (by decide) ?_
            have hod2 := pst_take (by omega) hod
            rw [← hT.at (by omega), show pst (o, d) (f i) = (o, true) from if_pos c_30] at hod2
            have ho : o = [] := List.length_eq_zero_iff.mp c_37
            have hl : lv_has ls 4 [(2, .int (nI (i + 1))), (1, .int (nI ((true && !o.isEmpty).toNat))), (3, .int (plSign (f i))), (0, .ref a1)] := by rw [← show 0 = (true && !o.isEmpty).toNat from (by rw [ho]; rfl)]; exact hl
            exact ih_9 (i + 1) o true fo (by omega) (by omega) hod2 (by rw [ho]; simp) hfo _ _ _ _ sm g1 g2 g3 hP hD hS (lv_sub hl [3, 1, 0] rfl)
          · refine lv_iconst (v := nI 1) hx hb dX7_makePlain_40 (by decide) ?_
            refine lv_goto (tgt := 45) hx hb dX7_makePlain_41 (by decide) ?_
            refine lv_istore_n (lv' := [(1, .int (nI 1)), (3, .int (plSign (f i))), (0, .ref a1), (2, .int (nI i))]) hx hb dX7_makePlain_45 rfl hl (by decide) rfl (fun ls hl => ?_)
            refine lv_goto (tgt := 66) hx hb dX7_makePlain_46 (by decide) ?_
            refine lv_iinc (v := (nI (i + 1))) (lv' := [(2, .int (nI (i + 1))), (1, .int (nI 1)), (3, .int (plSign (f i))), (0, .ref a1)]) hx hb dX7_makePlain_66 hl (k := 3) rfl (nx_inc _ 1) (by decide) rfl (fun ls hl => ?_)
            refine lv_goto (tgt := 9) hx hb dX7_makePlain_69 (by decide) ?_
            have hod2 := pst_take (by omega) hod
            rw [← hT.at (by omega), show pst (o, d) (f i) = (o, true) from if_pos c_30] at hod2
            have ho : (true && !o.isEmpty) = true := by cases o <;> simp_all
            have hl : lv_has ls 4 [(2, .int (nI (i + 1))), (1, .int (nI ((true && !o.isEmpty).toNat))), (3, .int (plSign (f i))), (0, .ref a1)] := by rw [← show 1 = (true && !o.isEmpty).toNat from (by rw [ho]; rfl)]; exact hl
            exact ih_9 (i + 1) o true fo (by omega) (by omega) hod2 (by rw [ho]; simp; omega) hfo _ _ _ _ sm g1 g2 g3 hP hD hS (lv_sub hl [3, 1, 0] rfl)
  exact lp_9 _ 0 [] false fp (Nat.lt_succ_self _) (Nat.zero_le _) rfl (by decide) Hd.nil _ _ _ _ sm g1 g2 g3 hP hD hS (lv_sub hl [2, 1, 0] rfl)
